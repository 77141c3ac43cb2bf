set_option maxRecDepth 10000 in
set_option maxHeartbeats 2000000 in
theorem e_digestOf {g : ZG} {h : ZH} {n : Nat} {b : Bool} (hd : h 26 = some zdkc) : zMt g mX2_digestOf (zR 0 0 0) [.ref (26), .int (nI (zbi b))] h n (fun v h' n' => v = some (.ref (zdid b)) ∧ h' = h ∧ n' = n) := by
  refine zMt.of [some (.ref (26)), some (.int (nI (zbi b)))] (by decide) rfl (Nat.le_of_ble_eq_true rfl) ?_
  have hb := zbi_lt b
  refine zp_iload_n dX2_digestOf_0 rfl ?_
  refine zp_pc (pc' := 1) rfl ?_
  refine zn_if_eq (tgt := 11) dX2_digestOf_1 (by decide) (by omega) (fun c1 => ?_) (fun c1 => ?_)
  · have eb : b = false := by cases b; rfl; exact absurd c1 (by decide)
    subst eb
    refine zp_aload_n dX2_digestOf_11 rfl ?_
    refine zp_get dX2_digestOf_12 gX2_39_2 hd rfl ?_
    refine zp_pc (pc' := 15) rfl ?_
    refine zp_ret (v := (some (.ref (47)))) dX2_digestOf_15 ⟨⟨_, rfl⟩, rfl⟩ (by decide) (by decide) ?_
    exact ⟨rfl, rfl, rfl⟩
  · have eb : b = true := by cases b; exact absurd rfl c1; rfl
    subst eb
    refine zp_aload_n dX2_digestOf_4 rfl ?_
    refine zp_get dX2_digestOf_5 gX2_43_2 hd rfl ?_
    refine zp_goto (tgt := 15) dX2_digestOf_8 (by decide) ?_
    refine zp_pc (pc' := 15) rfl ?_
    refine zp_ret (v := (some (.ref (55)))) dX2_digestOf_15 ⟨⟨_, rfl⟩, rfl⟩ (by decide) (by decide) ?_
    exact ⟨rfl, rfl, rfl⟩
set_option maxRecDepth 10000 in
set_option maxHeartbeats 2000000 in
theorem e_divide {g : ZG} {h : ZH} {n : Nat} {r N k : Nat} {xs ks ms : List Nat} (hd : h 26 = some zdkc) (hx : zrow h r N xs) (hk : zrow h 39 64 ks) (hm : zrow h 41 512 ms) (hr : r < 26) (hl : xs.length ≤ 512) (h1 : k ≤ 64) : zMt g mX2_divide (zR 3 0 0) [.ref (26), .ref (r), .int (nI (k))] h n (fun v h' n' => v = none ∧ n' = n ∧ zsm h h' (fun i => i = 39 ∨ i = 40 ∨ i = 41 ∨ i = 42) ∧ zrow h' 39 64 (xs.take k) ∧ zrow h' 41 512 (xs.drop k)) := by
  refine zMt.of [some (.ref (26)), some (.ref (r)), some (.int (nI (k)))] (by decide) rfl (Nat.le_of_ble_eq_true rfl) ?_
  have hxl := hx.len
  refine zp_aload_n dX2_divide_0 rfl ?_
  refine zp_get dX2_divide_1 gX2_23_2 hd rfl ?_
  refine zp_aload_n dX2_divide_4 rfl ?_
  refine zp_iconst (v := nI (0)) dX2_divide_5 (by decide) ?_
  refine zp_iload_n dX2_divide_6 rfl ?_
  refine zp_pc (pc' := 7) rfl ?_
  refine zp_callV (As := [.ref (r), .int (nI (0)), .int (nI (k))]) (k := 39) (st := []) (ci := 6) dX2_divide_7 cX2_46 rfl hk.2.1 rfl rfl (e_becomePart (N := 64) (K := N) (a := 0) (c := k) hk hx (by omega) (by omega) (by rw [zpart_len]; omega)) (by decide) (by decide) (Nat.le_of_ble_eq_true rfl) (fun v1 h1 n1 q1 => ?_)
  obtain ⟨rfl, N1, s1, r1⟩ := q1
  rw [N1]
  refine zp_nrm (cells' := 0) (slots' := 0) (st' := []) rfl rfl rfl ?_
  have y2_0 := hx.keep (s1 _ (by unfold zrs; omega)) (s1 _ (by unfold zrs; omega))
  have y2_1 := hm.keep (s1 _ (by unfold zrs; omega)) (s1 _ (by unfold zrs; omega))
  have y2_2 : h1 (26) = some zdkc := (s1 _ (by unfold zrs; omega)).trans hd
  refine zp_aload_n dX2_divide_10 rfl ?_
  refine zp_get dX2_divide_11 gX2_27_2 y2_2 rfl ?_
  refine zp_aload_n dX2_divide_14 rfl ?_
  refine zp_iload_n dX2_divide_15 rfl ?_
  refine zp_aload_n dX2_divide_16 rfl ?_
  refine zp_pc (pc' := 17) rfl ?_
  refine zp_callV (As := []) (k := r) (st := [.int (nI (k)), .ref (r), .ref (41)]) (ci := 6) dX2_divide_17 cX2_50 rfl y2_0.2.1 rfl rfl (e_length (N := N) y2_0) (by decide) (by decide) (Nat.le_of_ble_eq_true rfl) (fun v3 h3 n3 q3 => ?_)
  obtain ⟨rfl, H3, N3⟩ := q3
  rw [N3, H3]
  refine zp_nrm (cells' := 0) (slots' := 0) (st' := [.int (nI (xs.length)), .int (nI (k)), .ref (r), .ref (41)]) rfl rfl rfl ?_
  refine zp_pc (pc' := 20) rfl ?_
  refine zp_callV (As := [.ref (r), .int (nI (k)), .int (nI (xs.length))]) (k := 41) (st := []) (ci := 6) dX2_divide_20 cX2_46 rfl y2_1.2.1 rfl rfl (e_becomePart (N := 512) (K := N) (a := k) (c := xs.length) y2_1 y2_0 (by omega) (by omega) (by rw [zpart_len]; omega)) (by decide) (by decide) (Nat.le_of_ble_eq_true rfl) (fun v4 h4 n4 q4 => ?_)
  obtain ⟨rfl, N4, s4, r4⟩ := q4
  rw [N4]
  refine zp_nrm (cells' := 0) (slots' := 0) (st' := []) rfl rfl rfl ?_
  have y5_0 := y2_0.keep (s4 _ (by unfold zrs; omega)) (s4 _ (by unfold zrs; omega))
  have y5_1 := r1.keep (s4 _ (by unfold zrs; omega)) (s4 _ (by unfold zrs; omega))
  have y5_2 : h4 (26) = some zdkc := (s4 _ (by unfold zrs; omega)).trans y2_2
  have e2 : zpart xs k xs.length = xs.drop k := List.take_of_length_le (by rw [List.length_drop]; omega)
  rw [e2] at r4
  refine zp_ret (v := none) dX2_divide_23 ⟨rfl, rfl⟩ (by decide) (by decide) ?_
  exact ⟨rfl, rfl, (s1.mono (fun i hi => by unfold zrs at hi; omega)).trans (s4.mono (fun i hi => by unfold zrs at hi; omega)), y5_1, r4⟩
set_option maxRecDepth 10000 in
set_option maxHeartbeats 2000000 in
theorem e_join {g : ZG} {h : ZH} {n : Nat} {r q N K : Nat} {xs ys ms : List Nat} (hd : h 26 = some zdkc) (hx : zrow h r N xs) (hy : zrow h q K ys) (hm : zrow h 43 512 ms) (hr : r < 26) (hq : q < 26) (hl : xs.length + ys.length ≤ 512) : zMt g mX2_join (zR 3 0 0) [.ref (26), .ref (r), .ref (q)] h n (fun v h' n' => v = none ∧ n' = n ∧ zsm h h' (zrs 43) ∧ zrow h' 43 512 (xs ++ ys)) := by
  refine zMt.of [some (.ref (26)), some (.ref (r)), some (.ref (q))] (by decide) rfl (Nat.le_of_ble_eq_true rfl) ?_
  refine zp_aload_n dX2_join_0 rfl ?_
  refine zp_get dX2_join_1 gX2_30_2 hd rfl ?_
  refine zp_pc (pc' := 4) rfl ?_
  refine zp_callV (As := []) (k := 43) (st := []) (ci := 6) dX2_join_4 cX2_54 rfl hm.2.1 rfl rfl (e_clear (N := 512) hm) (by decide) (by decide) (Nat.le_of_ble_eq_true rfl) (fun v1 h1 n1 q1 => ?_)
  obtain ⟨rfl, N1, s1, r1⟩ := q1
  rw [N1]
  refine zp_nrm (cells' := 0) (slots' := 0) (st' := []) rfl rfl rfl ?_
  have y2_0 := hx.keep (s1 _ (by unfold zrs; omega)) (s1 _ (by unfold zrs; omega))
  have y2_1 := hy.keep (s1 _ (by unfold zrs; omega)) (s1 _ (by unfold zrs; omega))
  have y2_2 : h1 (26) = some zdkc := (s1 _ (by unfold zrs; omega)).trans hd
  refine zp_aload_n dX2_join_7 rfl ?_
  refine zp_get dX2_join_8 gX2_30_2 y2_2 rfl ?_
  refine zp_aload_n dX2_join_11 rfl ?_
  refine zp_pc (pc' := 12) rfl ?_
  refine zp_callV (As := [.ref (r)]) (k := 43) (st := []) (ci := 6) dX2_join_12 cX2_57 rfl r1.2.1 rfl rfl (e_appendRow (N := 512) (K := N) (xs := []) r1 y2_0 (by omega) (by simp; omega)) (by decide) (by decide) (Nat.le_of_ble_eq_true rfl) (fun v3 h3 n3 q3 => ?_)
  obtain ⟨rfl, N3, s3, r3⟩ := q3
  rw [N3]
  refine zp_nrm (cells' := 0) (slots' := 0) (st' := []) rfl rfl rfl ?_
  have y4_0 := y2_0.keep (s3 _ (by unfold zrs; omega)) (s3 _ (by unfold zrs; omega))
  have y4_1 := y2_1.keep (s3 _ (by unfold zrs; omega)) (s3 _ (by unfold zrs; omega))
  have y4_2 : h3 (26) = some zdkc := (s3 _ (by unfold zrs; omega)).trans y2_2
  rw [List.nil_append] at r3
  refine zp_aload_n dX2_join_15 rfl ?_
  refine zp_get dX2_join_16 gX2_30_2 y4_2 rfl ?_
  refine zp_aload_n dX2_join_19 rfl ?_
  refine zp_pc (pc' := 20) rfl ?_
  refine zp_callV (As := [.ref (q)]) (k := 43) (st := []) (ci := 6) dX2_join_20 cX2_57 rfl r3.2.1 rfl rfl (e_appendRow (N := 512) (K := K) r3 y4_1 (by omega) hl) (by decide) (by decide) (Nat.le_of_ble_eq_true rfl) (fun v5 h5 n5 q5 => ?_)
  obtain ⟨rfl, N5, s5, r5⟩ := q5
  rw [N5]
  refine zp_nrm (cells' := 0) (slots' := 0) (st' := []) rfl rfl rfl ?_
  have y6_0 := y4_0.keep (s5 _ (by unfold zrs; omega)) (s5 _ (by unfold zrs; omega))
  have y6_1 := y4_1.keep (s5 _ (by unfold zrs; omega)) (s5 _ (by unfold zrs; omega))
  have y6_2 : h5 (26) = some zdkc := (s5 _ (by unfold zrs; omega)).trans y4_2
  refine zp_ret (v := none) dX2_join_23 ⟨rfl, rfl⟩ (by decide) (by decide) ?_
  exact ⟨rfl, rfl, (s1.trans s3).trans s5, r5⟩
set_option maxRecDepth 10000 in
set_option maxHeartbeats 2000000 in
theorem e_beginMessage {g : ZG} {h : ZH} {n : Nat} {a st : Nat} {rs : Bool} {iv ct : Nat} {dr : Int32} {sd : Nat} {b : Bool} {k N : Nat} {V ms : List Nat} (o : h a = some (.inl (4, [.int (nI (st)), .int (nI (zbi rs)), .int (nI (zsl b)), .ref (a + 1), .ref (a + 3), .ref (26), .int (nI (zbi b)), .int (nI (iv)), .int (nI (ct)), .int (dr), .int (nI (sd)), .ref (zdid b)]))) (ha : 64 ≤ a) (hd : h 26 = some zdkc) (hv : zrow h (a + 1) N V) (hm : zrow h 41 512 ms) (hl : V.length ≤ 111) (hk : k < 256) : zMt g mX4_beginMessage (zR 3 0 0) [.ref (a), .int (nI (k))] h n (fun v h' n' => v = none ∧ n' = n ∧ zsm h h' (zrs 41) ∧ zrow h' 41 512 (k :: V)) := by
  refine zMt.of [some (.ref (a)), some (.int (nI (k)))] (by decide) rfl (Nat.le_of_ble_eq_true rfl) ?_
  refine zp_aload_n dX4_beginMessage_0 rfl ?_
  refine zp_get dX4_beginMessage_1 gX4_23_4 o rfl ?_
  refine zp_get dX4_beginMessage_4 gX4_27_2 hd rfl ?_
  refine zp_pc (pc' := 7) rfl ?_
  refine zp_callV (As := []) (k := 41) (st := []) (ci := 6) dX4_beginMessage_7 cX4_31 rfl hm.2.1 rfl rfl (e_clear (N := 512) hm) (by decide) (by decide) (Nat.le_of_ble_eq_true rfl) (fun v1 h1 n1 q1 => ?_)
  obtain ⟨rfl, N1, s1, r1⟩ := q1
  rw [N1]
  refine zp_nrm (cells' := 0) (slots' := 0) (st' := []) rfl rfl rfl ?_
  have y2_0 := hv.keep (s1 _ (by unfold zrs; omega)) (s1 _ (by unfold zrs; omega))
  have y2_1 : h1 (26) = some zdkc := (s1 _ (by unfold zrs; omega)).trans hd
  have y2_2 : h1 (a) = some (.inl (4, [.int (nI (st)), .int (nI (zbi rs)), .int (nI (zsl b)), .ref (a + 1), .ref (a + 3), .ref (26), .int (nI (zbi b)), .int (nI (iv)), .int (nI (ct)), .int (dr), .int (nI (sd)), .ref (zdid b)])) := (s1 _ (by unfold zrs; omega)).trans o
  refine zp_aload_n dX4_beginMessage_10 rfl ?_
  refine zp_get dX4_beginMessage_11 gX4_23_4 y2_2 rfl ?_
  refine zp_get dX4_beginMessage_14 gX4_27_2 y2_1 rfl ?_
  refine zp_iload_n dX4_beginMessage_17 rfl ?_
  refine zp_pc (pc' := 18) rfl ?_
  refine zp_callV (As := [.int (nI (k))]) (k := 41) (st := []) (ci := 6) dX4_beginMessage_18 cX4_104 rfl r1.2.1 rfl rfl (e_append (N := 512) (xs := []) (b := nI k) r1 (by decide)) (by decide) (by decide) (Nat.le_of_ble_eq_true rfl) (fun v3 h3 n3 q3 => ?_)
  obtain ⟨rfl, N3, s3, r3⟩ := q3
  rw [N3]
  refine zp_nrm (cells' := 0) (slots' := 0) (st' := []) rfl rfl rfl ?_
  have y4_0 := y2_0.keep (s3 _ (by unfold zrs; omega)) (s3 _ (by unfold zrs; omega))
  have y4_1 : h3 (26) = some zdkc := (s3 _ (by unfold zrs; omega)).trans y2_1
  have y4_2 : h3 (a) = some (.inl (4, [.int (nI (st)), .int (nI (zbi rs)), .int (nI (zsl b)), .ref (a + 1), .ref (a + 3), .ref (26), .int (nI (zbi b)), .int (nI (iv)), .int (nI (ct)), .int (dr), .int (nI (sd)), .ref (zdid b)])) := (s3 _ (by unfold zrs; omega)).trans y2_2
  rw [znI_nat (by omega), Nat.mod_eq_of_lt hk, List.nil_append] at r3
  refine zp_aload_n dX4_beginMessage_21 rfl ?_
  refine zp_get dX4_beginMessage_22 gX4_23_4 y4_2 rfl ?_
  refine zp_get dX4_beginMessage_25 gX4_27_2 y4_1 rfl ?_
  refine zp_aload_n dX4_beginMessage_28 rfl ?_
  refine zp_get dX4_beginMessage_29 gX4_53_4 y4_2 rfl ?_
  refine zp_pc (pc' := 32) rfl ?_
  refine zp_callV (As := [.ref (a + 1)]) (k := 41) (st := []) (ci := 6) dX4_beginMessage_32 cX4_45 rfl r3.2.1 rfl rfl (e_appendRow (N := 512) (K := N) r3 y4_0 (by omega) (by show 1 + V.length ≤ 512; omega)) (by decide) (by decide) (Nat.le_of_ble_eq_true rfl) (fun v5 h5 n5 q5 => ?_)
  obtain ⟨rfl, N5, s5, r5⟩ := q5
  rw [N5]
  refine zp_nrm (cells' := 0) (slots' := 0) (st' := []) rfl rfl rfl ?_
  have y6_0 := y4_0.keep (s5 _ (by unfold zrs; omega)) (s5 _ (by unfold zrs; omega))
  have y6_1 : h5 (26) = some zdkc := (s5 _ (by unfold zrs; omega)).trans y4_1
  have y6_2 : h5 (a) = some (.inl (4, [.int (nI (st)), .int (nI (zbi rs)), .int (nI (zsl b)), .ref (a + 1), .ref (a + 3), .ref (26), .int (nI (zbi b)), .int (nI (iv)), .int (nI (ct)), .int (dr), .int (nI (sd)), .ref (zdid b)])) := (s5 _ (by unfold zrs; omega)).trans y4_2
  refine zp_ret (v := none) dX4_beginMessage_35 ⟨rfl, rfl⟩ (by decide) (by decide) ?_
  exact ⟨rfl, rfl, (s1.trans s3).trans s5, r5⟩
set_option maxRecDepth 10000 in
set_option maxHeartbeats 2000000 in
theorem e_addDigest {g : ZG} {h : ZH} {n : Nat} {a st : Nat} {rs : Bool} {iv ct : Nat} {dr : Int32} {sd : Nat} {b : Bool} {N : Nat} {V ms bs : List Nat} (o : h a = some (.inl (4, [.int (nI (st)), .int (nI (zbi rs)), .int (nI (zsl b)), .ref (a + 1), .ref (a + 3), .ref (26), .int (nI (zbi b)), .int (nI (iv)), .int (nI (ct)), .int (dr), .int (nI (sd)), .ref (zdid b)]))) (ha : 64 ≤ a) (ht : ztab h) (hd : h 26 = some zdkc) (hg : zdg h b (zdid b)) (hv : zrow h (a + 1) N V) (hm : zrow h 41 512 ms) (hb : zrow h 45 64 bs) : zMt g mX4_addDigest (zR 3 0 0) [.ref (a)] h n (fun v h' n' => v = none ∧ n' = n ∧ zsm h h' (fun i => (zdid b ≤ i ∧ i ≤ zdid b + 7) ∨ i = 45 ∨ i = 46 ∨ i = a + 1 ∨ i = a + 2) ∧ zrow h' (a + 1) N (zplus V (zval (zhash b ms))) ∧ zdg h' b (zdid b) ∧ ∃ bs, zrow h' 45 64 bs) := by
  refine zMt.of [some (.ref (a))] (by decide) rfl (Nat.le_of_ble_eq_true rfl) ?_
  have hz := zdid_or b
  have hwb := zwb_or b
  have hml := hm.len
  refine zp_aload_n dX4_addDigest_0 rfl ?_
  refine zp_get dX4_addDigest_1 gX4_19_4 o rfl ?_
  refine zp_aload_n dX4_addDigest_4 rfl ?_
  refine zp_get dX4_addDigest_5 gX4_23_4 o rfl ?_
  refine zp_get dX4_addDigest_8 gX4_27_2 hd rfl ?_
  refine zp_aload_n dX4_addDigest_11 rfl ?_
  refine zp_get dX4_addDigest_12 gX4_23_4 o rfl ?_
  refine zp_get dX4_addDigest_15 gX4_82_2 hd rfl ?_
  refine zp_pc (pc' := 18) rfl ?_
  refine zp_callV (As := [.ref (41), .ref (45)]) (k := zdid b) (st := []) (ci := 3) dX4_addDigest_18 cX4_85 rfl hg.2.1 rfl rfl (e_hash (b := b) (d := zdid b) (N := 512) (K := 64) hg ht hm hb (by omega) (by omega)) (by decide) (by decide) (Nat.le_of_ble_eq_true rfl) (fun v1 h1 n1 q1 => ?_)
  obtain ⟨rfl, N1, s1, r1, g1⟩ := q1
  rw [N1]
  refine zp_nrm (cells' := 0) (slots' := 0) (st' := []) rfl rfl rfl ?_
  have y2_0 := hv.keep (s1 _ (by unfold zhs; omega)) (s1 _ (by unfold zhs; omega))
  have y2_1 : h1 (26) = some zdkc := (s1 _ (by unfold zhs; omega)).trans hd
  have y2_2 : h1 (a) = some (.inl (4, [.int (nI (st)), .int (nI (zbi rs)), .int (nI (zsl b)), .ref (a + 1), .ref (a + 3), .ref (26), .int (nI (zbi b)), .int (nI (iv)), .int (nI (ct)), .int (dr), .int (nI (sd)), .ref (zdid b)])) := (s1 _ (by unfold zhs; omega)).trans o
  refine zp_aload_n dX4_addDigest_21 rfl ?_
  refine zp_get dX4_addDigest_22 gX4_53_4 y2_2 rfl ?_
  refine zp_aload_n dX4_addDigest_25 rfl ?_
  refine zp_get dX4_addDigest_26 gX4_23_4 y2_2 rfl ?_
  refine zp_get dX4_addDigest_29 gX4_82_2 y2_1 rfl ?_
  refine zp_pc (pc' := 32) rfl ?_
  refine zp_callV (As := [.ref (45)]) (k := a + 1) (st := []) (ci := 6) dX4_addDigest_32 cX4_95 rfl y2_0.2.1 rfl rfl (e_plusRow (N := N) (K := 64) y2_0 r1 (by omega)) (by decide) (by decide) (Nat.le_of_ble_eq_true rfl) (fun v3 h3 n3 q3 => ?_)
  obtain ⟨rfl, N3, s3, r3⟩ := q3
  rw [N3]
  refine zp_nrm (cells' := 0) (slots' := 0) (st' := []) rfl rfl rfl ?_
  refine zp_ret (v := none) dX4_addDigest_35 ⟨rfl, rfl⟩ (by decide) (by decide) ?_
  exact ⟨rfl, rfl, (s1.mono (fun i hi => by unfold zhs at hi; omega)).trans (s3.mono (fun i hi => by unfold zrs at hi; omega)), r3, g1.off (fun i h1 h2 => s3 i (by unfold zrs; omega)), _, r1.keep (s3 _ (by unfold zrs; omega)) (s3 _ (by unfold zrs; omega))⟩
