set_option maxRecDepth 10000 in
set_option maxHeartbeats 2000000 in
theorem e_beginWithKey {g : ZG} {h : ZH} {n : Nat} {d r N c : Nat} {b : Bool} {xs : List Nat} (hd : zdg h b d) (hx : zrow h r N xs) (hr : r + 1 < d ∨ d + 7 < r) (hc : c < 256) : zMt g mX3_beginWithKey (zR 1 0 0) [.ref (d), .ref (r), .int (nI (c))] h n (fun v h' n' => v = none ∧ n' = n ∧ zsm h h' (zrs (d + 4)) ∧ zrow h' (d + 4) 512 (zkey b xs c)) := by
  refine zMt.of [some (.ref (d)), some (.ref (r)), some (.int (nI (c))), none, none] (by decide) rfl (Nat.le_of_ble_eq_true rfl) ?_
  obtain ⟨Qf, hQ⟩ : ∃ Qf : ZQ, Qf = (fun v h' n' => v = none ∧ n' = n ∧ zsm h h' (zrs (d + 4)) ∧ zrow h' (d + 4) 512 (zkey b xs c)) := ⟨_, rfl⟩
  rw [← hQ]
  have hwb := zwb_or b
  obtain ⟨⟨zs, hz⟩, -⟩ := hd.rows
  have d0 := hd.2.1
  have d16 := hd.1
  have hxl := hx.len
  refine zp_aload_n dX3_beginWithKey_0 rfl ?_
  refine zp_get dX3_beginWithKey_1 gX3_25_3 d0 rfl ?_
  refine zp_pc (pc' := 4) rfl ?_
  refine zp_callV (As := []) (k := d + 4) (st := []) (ci := 6) dX3_beginWithKey_4 cX3_80 rfl hz.2.1 rfl rfl (e_clear (N := 512) (xs := zs) hz) (by decide) (by decide) (Nat.le_of_ble_eq_true rfl) (fun v1 h1 n1 q1 => ?_)
  obtain ⟨rfl, N1, s1, r1⟩ := q1
  rw [N1]
  refine zp_nrm (cells' := 0) (slots' := 0) (st' := []) rfl rfl rfl ?_
  refine zp_iconst (v := nI (0)) dX3_beginWithKey_7 (by decide) ?_
  refine zp_istore_n (ls' := [some (.ref (d)), some (.ref (r)), some (.int (nI (c))), some (.int (nI (0))), none]) dX3_beginWithKey_8 (by decide) rfl ?_
  refine zp_pc (pc' := 9) rfl ?_
  have lp : ∀ (m : Nat) (k : Nat) (g1 : ZH), m = 16 * zwb b - k → k ≤ 16 * zwb b → zsm h g1 (zrs (d + 4)) → zrow g1 (d + 4) 512 ((List.range (k)).map (fun k => xs.getD k 0 ^^^ c)) → zP g mX3_beginWithKey (zR 1 0 0) Qf 0 0 9 [some (.ref (d)), some (.ref (r)), some (.int (nI (c))), some (.int (nI (k))), none] [] g1 n := by
    intro m
    induction m using Nat.strongRecOn with
    | _ m ih =>
      intro k g1 hm hk hs hy
      have bd : g1 d = some (zdo b d) := (hs d (by unfold zrs; omega)).trans d0
      have y1 : zrow g1 r N xs := hx.sm hs (by omega) (by omega) (by omega)
      have el : ((List.range (k)).map (fun k => xs.getD k 0 ^^^ c)).length = k := by simp
      refine zp_iload_n dX3_beginWithKey_9 rfl ?_
      refine zp_aload_n dX3_beginWithKey_10 rfl ?_
      refine zp_get dX3_beginWithKey_11 gX3_48_3 bd rfl ?_
      refine zp_pc (pc' := 14) rfl ?_
      refine zn_icmp_ge (tgt := 53) dX3_beginWithKey_14 (by decide) (by omega) (by omega) (fun c14 => ?_) (fun c14 => ?_)
      · have e : k = 16 * zwb b := by omega
        subst e
        refine zp_ret (v := none) dX3_beginWithKey_53 ⟨rfl, rfl⟩ (by decide) (by decide) ?_
        rw [hQ]
        exact ⟨rfl, rfl, hs, hy⟩
      · refine zp_iload_n dX3_beginWithKey_17 rfl ?_
        refine zp_aload_n dX3_beginWithKey_18 rfl ?_
        refine zp_pc (pc' := 19) rfl ?_
        refine zp_callV (As := []) (k := r) (st := [.int (nI (k))]) (ci := 6) dX3_beginWithKey_19 cX3_106 rfl y1.2.1 rfl rfl (e_length (N := N) (xs := xs) y1) (by decide) (by decide) (Nat.le_of_ble_eq_true rfl) (fun v2 h2 n2 q2 => ?_)
        obtain ⟨rfl, H2, N2⟩ := q2
        rw [N2, H2]
        refine zp_nrm (cells' := 0) (slots' := 0) (st' := [.int (nI (xs.length)), .int (nI (k))]) rfl rfl rfl ?_
        refine zn_icmp_ge (tgt := 33) dX3_beginWithKey_22 (by decide) (by omega) (by omega) (fun c22 => ?_) (fun c22 => ?_)
        · refine zp_iconst (v := nI (0)) dX3_beginWithKey_33 (by decide) ?_
          refine zp_pc (pc' := 34) rfl ?_
          refine zp_i (y := nI (xs.getD k 0)) (by rw [zget_ge (by omega)]) ?_
          refine zp_istore (ls' := [some (.ref (d)), some (.ref (r)), some (.int (nI (c))), some (.int (nI (k))), some (.int (nI (xs.getD k 0)))]) dX3_beginWithKey_34 (by decide) rfl ?_
          refine zp_aload_n dX3_beginWithKey_36 rfl ?_
          refine zp_get dX3_beginWithKey_37 gX3_25_3 bd rfl ?_
          refine zp_iload dX3_beginWithKey_40 rfl ?_
          refine zp_iload_n dX3_beginWithKey_42 rfl ?_
          refine zp_ixor dX3_beginWithKey_43 ?_
          refine zp_pc (pc' := 44) rfl ?_
          refine zp_callV (As := [.int ((nI (xs.getD k 0)) ^^^ (nI (c)))]) (k := d + 4) (st := []) (ci := 6) dX3_beginWithKey_44 cX3_112 rfl hy.2.1 rfl rfl (e_append (N := 512) (xs := ((List.range (k)).map (fun k => xs.getD k 0 ^^^ c))) hy (by omega)) (by decide) (by decide) (Nat.le_of_ble_eq_true rfl) (fun v3 h3 n3 q3 => ?_)
          obtain ⟨rfl, N3, s2, r2⟩ := q3
          rw [N3]
          refine zp_nrm (cells' := 0) (slots' := 0) (st' := []) rfl rfl rfl ?_
          refine zn_iinc 1 (ls' := [some (.ref (d)), some (.ref (r)), some (.int (nI (c))), some (.int (nI (k + 1))), some (.int (nI (xs.getD k 0)))]) dX3_beginWithKey_47 (by decide) (by decide) rfl rfl ?_
          refine zp_pc (pc' := 50) rfl ?_
          refine zp_goto (tgt := 9) dX3_beginWithKey_50 (by decide) ?_
          refine zp_pc (pc' := 9) rfl ?_
          refine zp_drop (ls' := [some (.ref (d)), some (.ref (r)), some (.int (nI (c))), some (.int (nI (k + 1))), none]) (fun i v hv => ?_) ?_
          · rcases i with _ | _ | _ | _ | _ | i <;> simp at hv ⊢ <;> exact hv
          refine ih (16 * zwb b - (k + 1)) (by omega) (k + 1) h3 rfl (by omega) (hs.trans s2) ?_
          rw [zxor_byte (zget_lt hx.bytes (by decide) _) hc] at r2
          rw [List.range_succ, List.map_append]
          exact r2
        · refine zp_aload_n dX3_beginWithKey_25 rfl ?_
          refine zp_iload_n dX3_beginWithKey_26 rfl ?_
          refine zp_pc (pc' := 27) rfl ?_
          refine zp_callV (As := [.int (nI (k))]) (k := r) (st := []) (ci := 6) dX3_beginWithKey_27 cX3_109 rfl y1.2.1 rfl rfl (e_at (N := N) (xs := xs) (k := nI k) y1) (by decide) (by decide) (Nat.le_of_ble_eq_true rfl) (fun v4 h4 n4 q4 => ?_)
          obtain ⟨rfl, H4, N4⟩ := q4
          rw [N4, H4]
          refine zp_nrm (cells' := 0) (slots' := 0) (st' := [.int (zat xs (nI k))]) rfl rfl rfl ?_
          refine zp_i (y := nI (xs.getD k 0)) (zat_nI (by omega) (by omega)) ?_
          refine zp_goto (tgt := 34) dX3_beginWithKey_30 (by decide) ?_
          refine zp_pc (pc' := 34) rfl ?_
          refine zp_istore (ls' := [some (.ref (d)), some (.ref (r)), some (.int (nI (c))), some (.int (nI (k))), some (.int (nI (xs.getD k 0)))]) dX3_beginWithKey_34 (by decide) rfl ?_
          refine zp_aload_n dX3_beginWithKey_36 rfl ?_
          refine zp_get dX3_beginWithKey_37 gX3_25_3 bd rfl ?_
          refine zp_iload dX3_beginWithKey_40 rfl ?_
          refine zp_iload_n dX3_beginWithKey_42 rfl ?_
          refine zp_ixor dX3_beginWithKey_43 ?_
          refine zp_pc (pc' := 44) rfl ?_
          refine zp_callV (As := [.int ((nI (xs.getD k 0)) ^^^ (nI (c)))]) (k := d + 4) (st := []) (ci := 6) dX3_beginWithKey_44 cX3_112 rfl hy.2.1 rfl rfl (e_append (N := 512) (xs := ((List.range (k)).map (fun k => xs.getD k 0 ^^^ c))) hy (by omega)) (by decide) (by decide) (Nat.le_of_ble_eq_true rfl) (fun v5 h5 n5 q5 => ?_)
          obtain ⟨rfl, N5, s2, r2⟩ := q5
          rw [N5]
          refine zp_nrm (cells' := 0) (slots' := 0) (st' := []) rfl rfl rfl ?_
          refine zn_iinc 1 (ls' := [some (.ref (d)), some (.ref (r)), some (.int (nI (c))), some (.int (nI (k + 1))), some (.int (nI (xs.getD k 0)))]) dX3_beginWithKey_47 (by decide) (by decide) rfl rfl ?_
          refine zp_pc (pc' := 50) rfl ?_
          refine zp_goto (tgt := 9) dX3_beginWithKey_50 (by decide) ?_
          refine zp_pc (pc' := 9) rfl ?_
          refine zp_drop (ls' := [some (.ref (d)), some (.ref (r)), some (.int (nI (c))), some (.int (nI (k + 1))), none]) (fun i v hv => ?_) ?_
          · rcases i with _ | _ | _ | _ | _ | i <;> simp at hv ⊢ <;> exact hv
          refine ih (16 * zwb b - (k + 1)) (by omega) (k + 1) h5 rfl (by omega) (hs.trans s2) ?_
          rw [zxor_byte (zget_lt hx.bytes (by decide) _) hc] at r2
          rw [List.range_succ, List.map_append]
          exact r2
  exact lp _ 0 h1 rfl (Nat.zero_le _) s1 r1
set_option maxRecDepth 10000 in
set_option maxHeartbeats 2000000 in
theorem e_keyed {g : ZG} {h : ZH} {n : Nat} {d r m q N L K : Nat} {b : Bool} {xs ms ys : List Nat} (hd : zdg h b d) (ht : ztab h) (hx : zrow h r N xs) (hm : zrow h m L ms) (hq : zrow h q K ys) (hr : r + 1 < d ∨ d + 7 < r) (hm4 : m + 1 < d ∨ d + 7 < m) (hl : 16 * zwb b + ms.length ≤ 512) (hq4 : q + 1 < d ∨ d + 7 < q) (hK : 8 * zwb b ≤ K) : zMt g mX3_keyed (zR 3 0 0) [.ref (d), .ref (r), .ref (m), .ref (q)] h n (fun v h' n' => v = none ∧ n' = n ∧ zsm h h' (zks d q) ∧ zrow h' q K (zmac b xs ms) ∧ zdg h' b d) := by
  refine zMt.of [some (.ref (d)), some (.ref (r)), some (.ref (m)), some (.ref (q))] (by decide) rfl (Nat.le_of_ble_eq_true rfl) ?_
  have hwb := zwb_or b
  obtain ⟨⟨zs, hz⟩, ⟨zt, hw⟩⟩ := hd.rows
  have d0 := hd.2.1
  have d16 := hd.1
  refine zp_aload_n dX3_keyed_0 rfl ?_
  refine zp_aload_n dX3_keyed_1 rfl ?_
  refine zp_bipush (v := nI (54)) dX3_keyed_2 (by decide) ?_
  refine zp_pc (pc' := 4) rfl ?_
  refine zp_callV (As := [.ref (r), .int (nI (54))]) (k := d) (st := []) (ci := 3) dX3_keyed_4 cX3_94 rfl d0 rfl rfl (e_beginWithKey (N := N) (c := 54) (xs := xs) hd hx hr (by decide)) (by decide) (by decide) (Nat.le_of_ble_eq_true rfl) (fun v1 h1 n1 q1 => ?_)
  obtain ⟨rfl, N1, s1, r1⟩ := q1
  rw [N1]
  refine zp_nrm (cells' := 0) (slots' := 0) (st' := []) rfl rfl rfl ?_
  have g1 := hd.row s1 hz r1
  have k1 := hm.sm s1 (by omega) (by omega) (by omega)
  have y1 := hx.sm s1 (by omega) (by omega) (by omega)
  have q1r := hq.sm s1 (by omega) (by omega) (by omega)
  have t1 := ht.sm s1 (fun i hi => by unfold zrs at hi; omega)
  refine zp_aload_n dX3_keyed_7 rfl ?_
  refine zp_get dX3_keyed_8 gX3_25_3 g1.2.1 rfl ?_
  refine zp_aload_n dX3_keyed_11 rfl ?_
  refine zp_pc (pc' := 12) rfl ?_
  refine zp_callV (As := [.ref (m)]) (k := d + 4) (st := []) (ci := 6) dX3_keyed_12 cX3_98 rfl r1.2.1 rfl rfl (e_appendRow (N := 512) (xs := zkey b xs 54) (ys := ms) r1 k1 (by omega) (by rw [zkey_len]; omega)) (by decide) (by decide) (Nat.le_of_ble_eq_true rfl) (fun v2 h2 n2 q2 => ?_)
  obtain ⟨rfl, N2, s2, r2⟩ := q2
  rw [N2]
  refine zp_nrm (cells' := 0) (slots' := 0) (st' := []) rfl rfl rfl ?_
  have g2 := g1.row s2 r1 r2
  have y2 := y1.sm s2 (by omega) (by omega) (by omega)
  have q2r := q1r.sm s2 (by omega) (by omega) (by omega)
  have t2 := t1.sm s2 (fun i hi => by unfold zrs at hi; omega)
  obtain ⟨-, ⟨zu, hw2⟩⟩ := g2.rows
  refine zp_aload_n dX3_keyed_15 rfl ?_
  refine zp_aload_n dX3_keyed_16 rfl ?_
  refine zp_get dX3_keyed_17 gX3_25_3 g2.2.1 rfl ?_
  refine zp_aload_n dX3_keyed_20 rfl ?_
  refine zp_get dX3_keyed_21 gX3_29_3 g2.2.1 rfl ?_
  refine zp_pc (pc' := 24) rfl ?_
  refine zp_callV (As := [.ref (d + 4), .ref (d + 6)]) (k := d) (st := []) (ci := 3) dX3_keyed_24 cX3_102 rfl g2.2.1 rfl rfl (e_hash (b := b) (N := 512) (K := 64) g2 t2 r2 hw2 (by rw [List.length_append, zkey_len]; omega) (by omega)) (by decide) (by decide) (Nat.le_of_ble_eq_true rfl) (fun v3 h3 n3 q3 => ?_)
  obtain ⟨rfl, N3, s3, r3, g3⟩ := q3
  rw [N3]
  refine zp_nrm (cells' := 0) (slots' := 0) (st' := []) rfl rfl rfl ?_
  have y3 := y2.keep (s3 _ (by unfold zhs; omega)) (s3 _ (by unfold zhs; omega))
  have t3 := t2.sm s3 (fun i hi => by unfold zhs at hi; omega)
  have w3 := r2.keep (s3 _ (by unfold zhs; omega)) (s3 _ (by unfold zhs; omega))
  refine zp_aload_n dX3_keyed_27 rfl ?_
  refine zp_aload_n dX3_keyed_28 rfl ?_
  refine zp_bipush (v := nI (92)) dX3_keyed_29 (by decide) ?_
  refine zp_pc (pc' := 31) rfl ?_
  refine zp_callV (As := [.ref (r), .int (nI (92))]) (k := d) (st := []) (ci := 3) dX3_keyed_31 cX3_94 rfl g3.2.1 rfl rfl (e_beginWithKey (N := N) (c := 92) (xs := xs) g3 y3 hr (by decide)) (by decide) (by decide) (Nat.le_of_ble_eq_true rfl) (fun v4 h4 n4 q4 => ?_)
  obtain ⟨rfl, N4, s4, r4⟩ := q4
  rw [N4]
  refine zp_nrm (cells' := 0) (slots' := 0) (st' := []) rfl rfl rfl ?_
  have g4 := g3.row s4 w3 r4
  have k4 := r3.sm s4 (by omega) (by omega) (by omega)
  have t4 := t3.sm s4 (fun i hi => by unfold zrs at hi; omega)
  refine zp_aload_n dX3_keyed_34 rfl ?_
  refine zp_get dX3_keyed_35 gX3_25_3 g4.2.1 rfl ?_
  refine zp_aload_n dX3_keyed_38 rfl ?_
  refine zp_get dX3_keyed_39 gX3_29_3 g4.2.1 rfl ?_
  refine zp_pc (pc' := 42) rfl ?_
  refine zp_callV (As := [.ref (d + 6)]) (k := d + 4) (st := []) (ci := 6) dX3_keyed_42 cX3_98 rfl r4.2.1 rfl rfl (e_appendRow (N := 512) (xs := zkey b xs 92) r4 k4 (by omega) (by rw [zkey_len, zhash_len]; omega)) (by decide) (by decide) (Nat.le_of_ble_eq_true rfl) (fun v5 h5 n5 q5 => ?_)
  obtain ⟨rfl, N5, s5, r5⟩ := q5
  rw [N5]
  refine zp_nrm (cells' := 0) (slots' := 0) (st' := []) rfl rfl rfl ?_
  have g5 := g4.row s5 r4 r5
  have t5 := t4.sm s5 (fun i hi => by unfold zrs at hi; omega)
  have sA : zsm h h5 (fun i => d + 1 ≤ i ∧ i ≤ d + 7) := ((((s1.mono (fun i hi => by unfold zrs at hi; omega)).trans (s2.mono (fun i hi => by unfold zrs at hi; omega))).trans (s3.mono (fun i hi => by unfold zhs at hi; omega))).trans (s4.mono (fun i hi => by unfold zrs at hi; omega))).trans (s5.mono (fun i hi => by unfold zrs at hi; omega))
  have q5r := hq.keep (sA q (by omega)) (sA (q + 1) (by omega))
  refine zp_aload_n dX3_keyed_45 rfl ?_
  refine zp_aload_n dX3_keyed_46 rfl ?_
  refine zp_get dX3_keyed_47 gX3_25_3 g5.2.1 rfl ?_
  refine zp_aload_n dX3_keyed_50 rfl ?_
  refine zp_pc (pc' := 51) rfl ?_
  refine zp_callV (As := [.ref (d + 4), .ref (q)]) (k := d) (st := []) (ci := 3) dX3_keyed_51 cX3_102 rfl g5.2.1 rfl rfl (e_hash (b := b) (N := 512) (K := K) g5 t5 r5 q5r (by rw [List.length_append, zkey_len, zhash_len]; omega) hK) (by decide) (by decide) (Nat.le_of_ble_eq_true rfl) (fun v6 h6 n6 q6 => ?_)
  obtain ⟨rfl, N6, s6, r6, g6⟩ := q6
  rw [N6]
  refine zp_nrm (cells' := 0) (slots' := 0) (st' := []) rfl rfl rfl ?_
  refine zp_ret (v := none) dX3_keyed_54 ⟨rfl, rfl⟩ (by decide) (by decide) ?_
  exact ⟨rfl, rfl, (sA.mono (fun i hi => Or.inl hi)).trans (s6.mono (fun i hi => by unfold zhs at hi; show (d + 1 ≤ i ∧ i ≤ d + 7) ∨ i = q ∨ i = q + 1; omega)), r6, g6⟩
set_option maxRecDepth 10000 in
set_option maxHeartbeats 2000000 in
theorem e_stretch {g : ZG} {h : ZH} {n : Nat} {d r q N K k : Nat} {b : Bool} {xs ys : List Nat} (hd : zdg h b d) (ht : ztab h) (hx : zrow h r N xs) (hq : zrow h q K ys) (hr4 : r + 1 < d ∨ d + 7 < r) (hq4 : q + 1 < d ∨ d + 7 < q) (hl : 5 + xs.length ≤ 512) (hk : k ≤ 250) (hK : k ≤ K) : zMt g mX3_stretch (zR 3 0 0) [.ref (d), .ref (r), .int (nI (k)), .ref (q)] h n (fun v h' n' => v = none ∧ n' = n ∧ zsm h h' (zks d q) ∧ zrow h' q K (zder b xs k) ∧ zdg h' b d) := by
  refine zMt.of [some (.ref (d)), some (.ref (r)), some (.int (nI (k))), some (.ref (q)), none] (by decide) rfl (Nat.le_of_ble_eq_true rfl) ?_
  obtain ⟨Qf, hQ⟩ : ∃ Qf : ZQ, Qf = (fun v h' n' => v = none ∧ n' = n ∧ zsm h h' (zks d q) ∧ zrow h' q K (zder b xs k) ∧ zdg h' b d) := ⟨_, rfl⟩
  rw [← hQ]
  have hwb := zwb_or b
  obtain ⟨⟨zs, hz⟩, ⟨zt, hw⟩⟩ := hd.rows
  have d0 := hd.2.1
  have d16 := hd.1
  have hql := hq.len
  have q16 := hq.ge
  refine zp_aload_n dX3_stretch_0 rfl ?_
  refine zp_get dX3_stretch_1 gX3_25_3 d0 rfl ?_
  refine zp_pc (pc' := 4) rfl ?_
  refine zp_callV (As := []) (k := d + 4) (st := []) (ci := 6) dX3_stretch_4 cX3_80 rfl hz.2.1 rfl rfl (e_clear (N := 512) (xs := zs) hz) (by decide) (by decide) (Nat.le_of_ble_eq_true rfl) (fun v1 h1 n1 q1 => ?_)
  obtain ⟨rfl, N1, s1, r1⟩ := q1
  rw [N1]
  refine zp_nrm (cells' := 0) (slots' := 0) (st' := []) rfl rfl rfl ?_
  have g1 := hd.row s1 hz r1
  refine zp_aload_n dX3_stretch_7 rfl ?_
  refine zp_get dX3_stretch_8 gX3_25_3 g1.2.1 rfl ?_
  refine zp_iconst (v := nI (0)) dX3_stretch_11 (by decide) ?_
  refine zp_pc (pc' := 12) rfl ?_
  refine zp_callV (As := [.int (nI (0))]) (k := d + 4) (st := []) (ci := 6) dX3_stretch_12 cX3_112 rfl r1.2.1 rfl rfl (e_append (N := 512) (xs := []) r1 (by decide)) (by decide) (by decide) (Nat.le_of_ble_eq_true rfl) (fun v2 h2 n2 q2 => ?_)
  obtain ⟨rfl, N2, s2, r2⟩ := q2
  rw [N2]
  refine zp_nrm (cells' := 0) (slots' := 0) (st' := []) rfl rfl rfl ?_
  have e2 : ([] : List Nat) ++ [(nI 0).toBitVec.toNat % 256] = [0] := rfl
  rw [e2] at r2
  have g2 := g1.row s2 r1 r2
  refine zp_aload_n dX3_stretch_15 rfl ?_
  refine zp_get dX3_stretch_16 gX3_25_3 g2.2.1 rfl ?_
  refine zp_ldc2 dX3_stretch_19 kcX3_115 ?_
  refine zp_iload_n dX3_stretch_22 rfl ?_
  refine zp_i2l dX3_stretch_23 ?_
  refine zp_lmul dX3_stretch_24 ?_
  refine zp_iconst (v := nI (4)) dX3_stretch_25 (by decide) ?_
  refine zp_pc (pc' := 26) rfl ?_
  refine zp_callV (As := [.long (((8)) * (((nI (k) : Int32)).toInt64)), .int (nI (4))]) (k := d + 4) (st := []) (ci := 6) dX3_stretch_26 cX3_83 rfl r2.2.1 rfl rfl (e_appendNumber (N := 512) (xs := [0]) (k := 4) r2 (by decide) (by decide)) (by decide) (by decide) (Nat.le_of_ble_eq_true rfl) (fun v3 h3 n3 q3 => ?_)
  obtain ⟨rfl, N3, s3, r3⟩ := q3
  rw [N3]
  refine zp_nrm (cells' := 0) (slots' := 0) (st' := []) rfl rfl rfl ?_
  rw [z8k (by omega)] at r3
  have g3 := g2.row s3 r2 r3
  have y3 := ((hx.sm s1 (by omega) (by omega) (by omega)).sm s2 (by omega) (by omega) (by omega)).sm s3 (by omega) (by omega) (by omega)
  refine zp_aload_n dX3_stretch_29 rfl ?_
  refine zp_get dX3_stretch_30 gX3_25_3 g3.2.1 rfl ?_
  refine zp_aload_n dX3_stretch_33 rfl ?_
  refine zp_pc (pc' := 34) rfl ?_
  refine zp_callV (As := [.ref (r)]) (k := d + 4) (st := []) (ci := 6) dX3_stretch_34 cX3_98 rfl r3.2.1 rfl rfl (e_appendRow (N := 512) r3 y3 (by omega) (by rw [List.length_append, znum_len]; show 1 + 4 + xs.length ≤ 512; omega)) (by decide) (by decide) (Nat.le_of_ble_eq_true rfl) (fun v4 h4 n4 q4 => ?_)
  obtain ⟨rfl, N4, s4, r4⟩ := q4
  rw [N4]
  refine zp_nrm (cells' := 0) (slots' := 0) (st' := []) rfl rfl rfl ?_
  have g4 := g3.row s4 r3 r4
  have q4r := (((hq.sm s1 (by omega) (by omega) (by omega)).sm s2 (by omega) (by omega) (by omega)).sm s3 (by omega) (by omega) (by omega)).sm s4 (by omega) (by omega) (by omega)
  refine zp_aload_n dX3_stretch_37 rfl ?_
  refine zp_pc (pc' := 38) rfl ?_
  refine zp_callV (As := []) (k := q) (st := []) (ci := 6) dX3_stretch_38 cX3_80 rfl q4r.2.1 rfl rfl (e_clear (N := K) q4r) (by decide) (by decide) (Nat.le_of_ble_eq_true rfl) (fun v5 h5 n5 q5 => ?_)
  obtain ⟨rfl, N5, s5, r5⟩ := q5
  rw [N5]
  refine zp_nrm (cells' := 0) (slots' := 0) (st' := []) rfl rfl rfl ?_
  have g5 := g4.row s5 q4r r5
  have sA : zsm h h5 (zks d q) := ((((s1.trans s2).trans s3).trans s4).mono (fun i hi => by unfold zks; unfold zrs at hi; omega)).trans (s5.mono (fun i hi => by unfold zks; unfold zrs at hi; omega))
  have i5 := r4.sm s5 (by omega) (by omega) (by omega)
  refine zp_iconst (v := nI (1)) dX3_stretch_41 (by decide) ?_
  refine zp_istore (ls' := [some (.ref (d)), some (.ref (r)), some (.int (nI (k))), some (.ref (q)), some (.int (nI (1)))]) dX3_stretch_42 (by decide) rfl ?_
  refine zp_pc (pc' := 44) rfl ?_
  refine zp_ls (ls' := [some (.ref (d)), some (.ref (r)), some (.int (nI (k))), some (.ref (q)), some (.int (nI (0 + 1)))]) rfl ?_
  have lp : ∀ (m : Nat) (c : Nat) (g1 : ZH) (x0 : Nat), m = k - c → c ≤ k → zsm h g1 (zks d q) → zdg g1 b d → zrow g1 (d + 4) 512 (x0 :: (znum (8 * k) 4 ++ xs)) → x0 < 256 → zrow g1 q K ((zcat b xs k c).take k) → True → zP g mX3_stretch (zR 3 0 0) Qf 0 0 44 [some (.ref (d)), some (.ref (r)), some (.int (nI (k))), some (.ref (q)), some (.int (nI (c + 1)))] [] g1 n := by
    intro m
    induction m using Nat.strongRecOn with
    | _ m ih =>
      intro c g1 x0 hm hc hs hd1 hi hx0 hy hy0
      have bt := ht.sm hs (fun i hi => by unfold zks at hi; omega)
      have cl := zcat_len b xs k c
      have el : (x0 :: (znum (8 * k) 4 ++ xs)).length = 5 + xs.length := by rw [List.length_cons, List.length_append, znum_len]; omega
      refine zp_iload dX3_stretch_44 rfl ?_
      refine zp_iload_n dX3_stretch_46 rfl ?_
      refine zp_pc (pc' := 47) rfl ?_
      refine zn_icmp_gt (tgt := 101) dX3_stretch_47 (by decide) (by omega) (by omega) (fun c47 => ?_) (fun c47 => ?_)
      · have ec : c = k := by omega
        refine zp_ret (v := none) dX3_stretch_101 ⟨rfl, rfl⟩ (by decide) (by decide) ?_
        rw [hQ]
        exact ⟨rfl, rfl, hs, by rw [← zder_of (c := c) (by omega) (Or.inr ec)]; exact hy, hd1⟩
      · refine zp_aload_n dX3_stretch_50 rfl ?_
        refine zp_pc (pc' := 51) rfl ?_
        refine zp_callV (As := []) (k := q) (st := []) (ci := 6) dX3_stretch_51 cX3_106 rfl hy.2.1 rfl rfl (e_length (N := K) hy) (by decide) (by decide) (Nat.le_of_ble_eq_true rfl) (fun v6 h6 n6 q6 => ?_)
        obtain ⟨rfl, H6, N6⟩ := q6
        rw [N6, H6]
        refine zp_nrm (cells' := 0) (slots' := 0) (st' := [.int (nI (((zcat b xs k c).take k).length))]) rfl rfl rfl ?_
        have tl : ((zcat b xs k c).take k).length = min k (c * (8 * zwb b)) := by rw [List.length_take, cl]
        refine zp_iload_n dX3_stretch_54 rfl ?_
        refine zp_pc (pc' := 55) rfl ?_
        refine zn_icmp_ge (tgt := 101) dX3_stretch_55 (by decide) (by omega) (by omega) (fun c55 => ?_) (fun c55 => ?_)
        · refine zp_ret (v := none) dX3_stretch_101 ⟨rfl, rfl⟩ (by decide) (by decide) ?_
          rw [hQ]
          exact ⟨rfl, rfl, hs, by rw [← zder_of (c := c) (by omega) (Or.inl (by omega))]; exact hy, hd1⟩
        · have tk : (zcat b xs k c).take k = zcat b xs k c := List.take_of_length_le (by omega)
          rw [tk] at hy
          refine zp_aload_n dX3_stretch_58 rfl ?_
          refine zp_get dX3_stretch_59 gX3_25_3 hd1.2.1 rfl ?_
          refine zp_iconst (v := nI (0)) dX3_stretch_62 (by decide) ?_
          refine zp_iload dX3_stretch_63 rfl ?_
          refine zp_pc (pc' := 65) rfl ?_
          refine zp_callV (As := [.int (nI (0)), .int (nI (c + 1))]) (k := d + 4) (st := []) (ci := 6) dX3_stretch_65 cX3_117 rfl hi.2.1 rfl rfl (e_put (N := 512) (xs := x0 :: (znum (8 * k) 4 ++ xs)) (j := 0) (b := nI (c + 1)) hi (by omega)) (by decide) (by decide) (Nat.le_of_ble_eq_true rfl) (fun v7 h7 n7 q7 => ?_)
          obtain ⟨rfl, N7, s6, r6⟩ := q7
          rw [N7]
          refine zp_nrm (cells' := 0) (slots' := 0) (st' := []) rfl rfl rfl ?_
          rw [znI_nat (by omega), List.set_cons_zero] at r6
          have g6 := hd1.row s6 hi r6
          have b6 := bt.sm s6 (fun i hi => by unfold zrs at hi; omega)
          have y6 := hy.sm s6 (by omega) (by omega) (by omega)
          obtain ⟨-, ⟨zu, hw6⟩⟩ := g6.rows
          refine zp_aload_n dX3_stretch_68 rfl ?_
          refine zp_aload_n dX3_stretch_69 rfl ?_
          refine zp_get dX3_stretch_70 gX3_25_3 g6.2.1 rfl ?_
          refine zp_aload_n dX3_stretch_73 rfl ?_
          refine zp_get dX3_stretch_74 gX3_29_3 g6.2.1 rfl ?_
          refine zp_pc (pc' := 77) rfl ?_
          refine zp_callV (As := [.ref (d + 4), .ref (d + 6)]) (k := d) (st := []) (ci := 3) dX3_stretch_77 cX3_102 rfl g6.2.1 rfl rfl (e_hash (b := b) (N := 512) (K := 64) g6 b6 r6 hw6 (by rw [List.length_cons, List.length_append, znum_len]; omega) (by omega)) (by decide) (by decide) (Nat.le_of_ble_eq_true rfl) (fun v8 h8 n8 q8 => ?_)
          obtain ⟨rfl, N8, s7, r7, g7⟩ := q8
          rw [N8]
          refine zp_nrm (cells' := 0) (slots' := 0) (st' := []) rfl rfl rfl ?_
          have y7 := y6.keep (s7 _ (by unfold zhs; omega)) (s7 _ (by unfold zhs; omega))
          have i7 := r6.keep (s7 _ (by unfold zhs; omega)) (s7 _ (by unfold zhs; omega))
          have hl7 := zhash_len b ((c + 1) % 256 :: (znum (8 * k) 4 ++ xs))
          refine zp_aload_n dX3_stretch_80 rfl ?_
          refine zp_aload_n dX3_stretch_81 rfl ?_
          refine zp_get dX3_stretch_82 gX3_29_3 g7.2.1 rfl ?_
          refine zp_iconst (v := nI (0)) dX3_stretch_85 (by decide) ?_
          refine zp_iload_n dX3_stretch_86 rfl ?_
          refine zp_aload_n dX3_stretch_87 rfl ?_
          refine zp_pc (pc' := 88) rfl ?_
          refine zp_callV (As := []) (k := q) (st := [.int (nI (k)), .int (nI (0)), .ref (d + 6), .ref (q)]) (ci := 6) dX3_stretch_88 cX3_106 rfl y7.2.1 rfl rfl (e_length (N := K) y7) (by decide) (by decide) (Nat.le_of_ble_eq_true rfl) (fun v9 h9 n9 q9 => ?_)
          obtain ⟨rfl, H9, N9⟩ := q9
          rw [N9, H9]
          refine zp_nrm (cells' := 0) (slots' := 0) (st' := [.int (nI ((zcat b xs k c).length)), .int (nI (k)), .int (nI (0)), .ref (d + 6), .ref (q)]) rfl rfl rfl ?_
          refine zn_isub dX3_stretch_91 (by omega) ?_
          refine zp_pc (pc' := 92) rfl ?_
          refine zp_callV (As := [.ref (d + 6), .int (nI (0)), .int (nI ((k) - ((zcat b xs k c).length)))]) (k := q) (st := []) (ci := 6) dX3_stretch_92 cX3_121 rfl y7.2.1 rfl rfl (e_appendPart (N := K) (K := 64) (a := 0) (c := k - (zcat b xs k c).length) y7 r7 (by omega) (by omega) (by rw [zpart_len]; omega)) (by decide) (by decide) (Nat.le_of_ble_eq_true rfl) (fun v10 h10 n10 q10 => ?_)
          obtain ⟨rfl, N10, s8, r8⟩ := q10
          rw [N10]
          refine zp_nrm (cells' := 0) (slots' := 0) (st' := []) rfl rfl rfl ?_
          have g8 := g7.row s8 y7 r8
          have i8 := i7.sm s8 (by omega) (by omega) (by omega)
          refine zn_iinc 1 (ls' := [some (.ref (d)), some (.ref (r)), some (.int (nI (k))), some (.ref (q)), some (.int (nI (c + 1 + 1)))]) dX3_stretch_95 (by decide) (by decide) rfl rfl ?_
          refine zp_pc (pc' := 98) rfl ?_
          refine zp_goto (tgt := 44) dX3_stretch_98 (by decide) ?_
          refine zp_pc (pc' := 44) rfl ?_
          refine ih (k - (c + 1)) (by omega) (c + 1) h10 _ rfl (by omega) (((hs.trans (s6.mono (fun i hi => by unfold zks; unfold zrs at hi; omega))).trans (s7.mono (fun i hi => by unfold zks; unfold zhs at hi; omega))).trans (s8.mono (fun i hi => by unfold zks; unfold zrs at hi; omega))) g8 i8 (Nat.mod_lt _ (by decide)) ?_ ?_
          · have e9 : zcat b xs k (c + 1) = zcat b xs k c ++ zhash b ((c + 1) % 256 :: (znum (8 * k) 4 ++ xs)) := (zflat_succ _ _).symm
            rw [e9, List.take_append]
            have e10 : (zcat b xs k c).take k = zcat b xs k c := tk
            rw [e10]
            have e11 : zpart (zhash b ((c + 1) % 256 :: (znum (8 * k) 4 ++ xs))) 0 (k - (zcat b xs k c).length) = (zhash b ((c + 1) % 256 :: (znum (8 * k) 4 ++ xs))).take (k - (zcat b xs k c).length) := rfl
            rw [← e11]
            exact r8
          · exact trivial
  exact lp _ 0 h5 0 rfl (Nat.zero_le _) sA g5 i5 (by decide) (by show zrow _ _ _ (List.take k []); rw [List.take_nil]; exact r5) trivial
