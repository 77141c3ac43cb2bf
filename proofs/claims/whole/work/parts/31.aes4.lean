set_option maxRecDepth 10000 in
set_option maxHeartbeats 2000000 in
theorem e_fillText {g : ZG} {h : ZH} {n : Nat} {c r N k : Nat} {rd : Int32} {xs ts : List Nat} (h16 : 16 ≤ c) (hc : h c = some (zco c rd)) (hx : zrow h r N xs) (ht : zrow h (c + 4) 512 ts) (hr : r + 1 < c ∨ c + 11 < r) (hl : xs.length ≤ 400) (hk : k < 2 ^ 20) : zMt g mX0_fillText (zR 3 0 0) [.ref (c), .ref (r), .int (nI (k))] h n (fun v h' n' => v = none ∧ n' = n ∧ zsm h h' (zrs (c + 4)) ∧ zrow h' (c + 4) 512 (zstf xs k)) := by
  refine zMt.of [some (.ref (c)), some (.ref (r)), some (.int (nI (k)))] (by decide) rfl (Nat.le_of_ble_eq_true rfl) ?_
  have hxl := hx.len
  refine zp_aload_n dX0_fillText_0 rfl ?_
  refine zp_get dX0_fillText_1 gX0_30_0 hc rfl ?_
  refine zp_pc (pc' := 4) rfl ?_
  refine zp_callV (As := []) (k := c + 4) (st := []) (ci := 6) dX0_fillText_4 cX0_75 rfl ht.2.1 rfl rfl (e_clear (N := 512) ht) (by decide) (by decide) (Nat.le_of_ble_eq_true rfl) (fun v1 h1 n1 q1 => ?_)
  obtain ⟨rfl, N1, s1, r1⟩ := q1
  rw [N1]
  refine zp_nrm (cells' := 0) (slots' := 0) (st' := []) rfl rfl rfl ?_
  have y2_0 := hx.keep (s1 _ (by unfold zrs; omega)) (s1 _ (by unfold zrs; omega))
  have y2_1 : h1 (c) = some (zco c rd) := (s1 _ (by unfold zrs; omega)).trans hc
  refine zp_aload_n dX0_fillText_7 rfl ?_
  refine zp_get dX0_fillText_8 gX0_30_0 y2_1 rfl ?_
  refine zp_aload_n dX0_fillText_11 rfl ?_
  refine zp_pc (pc' := 12) rfl ?_
  refine zp_callV (As := []) (k := r) (st := [.ref (c + 4)]) (ci := 6) dX0_fillText_12 cX0_43 rfl y2_0.2.1 rfl rfl (e_length (N := N) y2_0) (by decide) (by decide) (Nat.le_of_ble_eq_true rfl) (fun v3 h3 n3 q3 => ?_)
  obtain ⟨rfl, H3, N3⟩ := q3
  rw [N3, H3]
  refine zp_nrm (cells' := 0) (slots' := 0) (st' := [.int (nI (xs.length)), .ref (c + 4)]) rfl rfl rfl ?_
  refine zp_i2l dX0_fillText_15 ?_
  refine zp_iconst (v := nI (4)) dX0_fillText_16 (by decide) ?_
  refine zp_pc (pc' := 17) rfl ?_
  refine zp_callV (As := [.long (((nI (xs.length) : Int32)).toInt64), .int (nI (4))]) (k := c + 4) (st := []) (ci := 6) dX0_fillText_17 cX0_106 rfl r1.2.1 rfl rfl (e_appendNumber (N := 512) (xs := []) (k := 4) r1 (by decide) (by decide)) (by decide) (by decide) (Nat.le_of_ble_eq_true rfl) (fun v4 h4 n4 q4 => ?_)
  obtain ⟨rfl, N4, s4, r4⟩ := q4
  rw [N4]
  refine zp_nrm (cells' := 0) (slots' := 0) (st' := []) rfl rfl rfl ?_
  have y5_0 := y2_0.keep (s4 _ (by unfold zrs; omega)) (s4 _ (by unfold zrs; omega))
  have y5_1 : h4 (c) = some (zco c rd) := (s4 _ (by unfold zrs; omega)).trans y2_1
  rw [zi2l (by omega), List.nil_append] at r4
  refine zp_aload_n dX0_fillText_20 rfl ?_
  refine zp_get dX0_fillText_21 gX0_30_0 y5_1 rfl ?_
  refine zp_iload_n dX0_fillText_24 rfl ?_
  refine zp_i2l dX0_fillText_25 ?_
  refine zp_iconst (v := nI (4)) dX0_fillText_26 (by decide) ?_
  refine zp_pc (pc' := 27) rfl ?_
  refine zp_callV (As := [.long (((nI (k) : Int32)).toInt64), .int (nI (4))]) (k := c + 4) (st := []) (ci := 6) dX0_fillText_27 cX0_106 rfl r4.2.1 rfl rfl (e_appendNumber (N := 512) (k := 4) r4 (by decide) (by rw [znum_len]; decide)) (by decide) (by decide) (Nat.le_of_ble_eq_true rfl) (fun v6 h6 n6 q6 => ?_)
  obtain ⟨rfl, N6, s6, r6⟩ := q6
  rw [N6]
  refine zp_nrm (cells' := 0) (slots' := 0) (st' := []) rfl rfl rfl ?_
  have y7_0 := y5_0.keep (s6 _ (by unfold zrs; omega)) (s6 _ (by unfold zrs; omega))
  have y7_1 : h6 (c) = some (zco c rd) := (s6 _ (by unfold zrs; omega)).trans y5_1
  rw [zi2l (by omega)] at r6
  refine zp_aload_n dX0_fillText_30 rfl ?_
  refine zp_get dX0_fillText_31 gX0_30_0 y7_1 rfl ?_
  refine zp_aload_n dX0_fillText_34 rfl ?_
  refine zp_pc (pc' := 35) rfl ?_
  refine zp_callV (As := [.ref (r)]) (k := c + 4) (st := []) (ci := 6) dX0_fillText_35 cX0_92 rfl r6.2.1 rfl rfl (e_appendRow (N := 512) r6 y7_0 (by omega) (by rw [List.length_append, znum_len, znum_len]; omega)) (by decide) (by decide) (Nat.le_of_ble_eq_true rfl) (fun v8 h8 n8 q8 => ?_)
  obtain ⟨rfl, N8, s8, r8⟩ := q8
  rw [N8]
  refine zp_nrm (cells' := 0) (slots' := 0) (st' := []) rfl rfl rfl ?_
  have y9_0 := y7_0.keep (s8 _ (by unfold zrs; omega)) (s8 _ (by unfold zrs; omega))
  have y9_1 : h8 (c) = some (zco c rd) := (s8 _ (by unfold zrs; omega)).trans y7_1
  refine zp_aload_n dX0_fillText_38 rfl ?_
  refine zp_get dX0_fillText_39 gX0_30_0 y9_1 rfl ?_
  refine zp_sipush (v := nI (128)) dX0_fillText_42 (by decide) ?_
  refine zp_pc (pc' := 45) rfl ?_
  refine zp_callV (As := [.int (nI (128))]) (k := c + 4) (st := []) (ci := 6) dX0_fillText_45 cX0_78 rfl r8.2.1 rfl rfl (e_append (N := 512) (b := nI 128) r8 (by rw [List.length_append, List.length_append, znum_len, znum_len]; omega)) (by decide) (by decide) (Nat.le_of_ble_eq_true rfl) (fun v10 h10 n10 q10 => ?_)
  obtain ⟨rfl, N10, s10, r10⟩ := q10
  rw [N10]
  refine zp_nrm (cells' := 0) (slots' := 0) (st' := []) rfl rfl rfl ?_
  have y11_0 := y9_0.keep (s10 _ (by unfold zrs; omega)) (s10 _ (by unfold zrs; omega))
  have y11_1 : h10 (c) = some (zco c rd) := (s10 _ (by unfold zrs; omega)).trans y9_1
  have e8 : (nI 128).toBitVec.toNat % 256 = 128 := by decide
  rw [e8] at r10
  refine zp_aload_n dX0_fillText_48 rfl ?_
  refine zp_get dX0_fillText_49 gX0_30_0 y11_1 rfl ?_
  refine zp_iconst (v := nI (0)) dX0_fillText_52 (by decide) ?_
  refine zp_aload_n dX0_fillText_53 rfl ?_
  refine zp_get dX0_fillText_54 gX0_30_0 y11_1 rfl ?_
  refine zp_pc (pc' := 57) rfl ?_
  have el : (znum xs.length 4 ++ znum k 4 ++ xs ++ [128]).length = xs.length + 9 := by simp only [List.length_append, znum_len, List.length_singleton]; omega
  refine zp_callV (As := []) (k := c + 4) (st := [.int (nI (0)), .ref (c + 4)]) (ci := 6) dX0_fillText_57 cX0_43 rfl r10.2.1 rfl rfl (e_length (N := 512) r10) (by decide) (by decide) (Nat.le_of_ble_eq_true rfl) (fun v12 h12 n12 q12 => ?_)
  obtain ⟨rfl, H12, N12⟩ := q12
  rw [N12, H12]
  refine zp_nrm (cells' := 0) (slots' := 0) (st' := [.int (nI ((znum xs.length 4 ++ znum k 4 ++ xs ++ [128]).length)), .int (nI (0)), .ref (c + 4)]) rfl rfl rfl ?_
  refine zp_i (y := nI (xs.length + 9)) (by rw [el]) ?_
  refine zp_ineg dX0_fillText_60 ?_
  refine zp_bipush (v := nI (15)) dX0_fillText_61 (by decide) ?_
  refine zp_iand dX0_fillText_63 ?_
  refine zp_pc (pc' := 64) rfl ?_
  refine zp_i (y := nI (zfill (xs.length + 9))) (zfill_eq _ (by omega)) ?_
  have hf : zfill (xs.length + 9) < 16 := Nat.mod_lt _ (by decide)
  refine zp_callV (As := [.int (nI (0)), .int (nI (zfill (xs.length + 9)))]) (k := c + 4) (st := []) (ci := 6) dX0_fillText_64 cX0_110 rfl r10.2.1 rfl rfl (e_appendSame (N := 512) (b := nI 0) (k := zfill (xs.length + 9)) r10 (by rw [el]; omega)) (by decide) (by decide) (Nat.le_of_ble_eq_true rfl) (fun v13 h13 n13 q13 => ?_)
  obtain ⟨rfl, N13, s13, r13⟩ := q13
  rw [N13]
  refine zp_nrm (cells' := 0) (slots' := 0) (st' := []) rfl rfl rfl ?_
  have y14_0 := y11_0.keep (s13 _ (by unfold zrs; omega)) (s13 _ (by unfold zrs; omega))
  have y14_1 : h13 (c) = some (zco c rd) := (s13 _ (by unfold zrs; omega)).trans y11_1
  have e0 : (nI 0).toBitVec.toNat % 256 = 0 := by decide
  rw [e0] at r13
  refine zp_ret (v := none) dX0_fillText_67 ⟨rfl, rfl⟩ (by decide) (by decide) ?_
  exact ⟨rfl, rfl, (((((s1.trans s4).trans s6).trans s8).trans s10).trans s13), r13⟩
set_option maxRecDepth 10000 in
set_option maxHeartbeats 2000000 in
theorem e_chainText {g : ZG} {h : ZH} {n : Nat} {c i : Nat} {b : Bool} {ks ts us : List Nat} (ht : ztab h) (hc : zckd h c b ks) (hx : zrow h (c + 10) 16 us) (hts : zrow h (c + 4) 512 ts) (hi : i < 2 ^ 20) (h16 : ts.length % 16 = 0) : zMt g mX0_chainText (zR 4 0 0) [.ref (c), .int (nI (i))] h n (fun v h' n' => v = none ∧ n' = n ∧ zsm h h' (zes c (c + 10)) ∧ zrow h' (c + 10) 16 (zchn b ks ts i (ts.length / 16)) ∧ zckd h' c b ks) := by
  refine zMt.of [some (.ref (c)), some (.int (nI (i))), none] (by decide) rfl (Nat.le_of_ble_eq_true rfl) ?_
  obtain ⟨Qf, hQ⟩ : ∃ Qf : ZQ, Qf = (fun v h' n' => v = none ∧ n' = n ∧ zsm h h' (zes c (c + 10)) ∧ zrow h' (c + 10) 16 (zchn b ks ts i (ts.length / 16)) ∧ zckd h' c b ks) := ⟨_, rfl⟩
  rw [← hQ]
  have hk16 : 16 ≤ c := by obtain ⟨-, f, h1, -⟩ := hc; exact h1.1
  have htl := hts.len
  refine zp_aload_n dX0_chainText_0 rfl ?_
  refine zp_get dX0_chainText_1 gX0_40_0 hc.obj rfl ?_
  refine zp_pc (pc' := 4) rfl ?_
  refine zp_callV (As := []) (k := c + 10) (st := []) (ci := 6) dX0_chainText_4 cX0_75 rfl hx.2.1 rfl rfl (e_clear (N := 16) hx) (by decide) (by decide) (Nat.le_of_ble_eq_true rfl) (fun v1 h1 n1 q1 => ?_)
  obtain ⟨rfl, N1, s1, r1⟩ := q1
  rw [N1]
  refine zp_nrm (cells' := 0) (slots' := 0) (st' := []) rfl rfl rfl ?_
  have y2_0 := ht.sm s1 (fun i hi => by unfold zrs at hi; omega)
  have y2_1 := hts.keep (s1 _ (by unfold zrs; omega)) (s1 _ (by unfold zrs; omega))
  have y2_2 : zckd h1 c b ks := hc.keep (s1 _ (by unfold zrs; omega)) (s1 _ (by unfold zrs; omega)) (s1 _ (by unfold zrs; omega)) (s1 _ (by unfold zrs; omega))
  refine zp_aload_n dX0_chainText_7 rfl ?_
  refine zp_get dX0_chainText_8 gX0_40_0 y2_2.obj rfl ?_
  refine zp_iload_n dX0_chainText_11 rfl ?_
  refine zp_i2l dX0_chainText_12 ?_
  refine zp_iconst (v := nI (4)) dX0_chainText_13 (by decide) ?_
  refine zp_pc (pc' := 14) rfl ?_
  refine zp_callV (As := [.long (((nI (i) : Int32)).toInt64), .int (nI (4))]) (k := c + 10) (st := []) (ci := 6) dX0_chainText_14 cX0_106 rfl r1.2.1 rfl rfl (e_appendNumber (N := 16) (xs := []) (k := 4) r1 (by decide) (by decide)) (by decide) (by decide) (Nat.le_of_ble_eq_true rfl) (fun v3 h3 n3 q3 => ?_)
  obtain ⟨rfl, N3, s3, r3⟩ := q3
  rw [N3]
  refine zp_nrm (cells' := 0) (slots' := 0) (st' := []) rfl rfl rfl ?_
  have y4_0 := y2_0.sm s3 (fun i hi => by unfold zrs at hi; omega)
  have y4_1 := y2_1.keep (s3 _ (by unfold zrs; omega)) (s3 _ (by unfold zrs; omega))
  have y4_2 : zckd h3 c b ks := y2_2.keep (s3 _ (by unfold zrs; omega)) (s3 _ (by unfold zrs; omega)) (s3 _ (by unfold zrs; omega)) (s3 _ (by unfold zrs; omega))
  rw [zi2l (by omega), List.nil_append] at r3
  refine zp_aload_n dX0_chainText_17 rfl ?_
  refine zp_get dX0_chainText_18 gX0_40_0 y4_2.obj rfl ?_
  refine zp_iconst (v := nI (0)) dX0_chainText_21 (by decide) ?_
  refine zp_bipush (v := nI (12)) dX0_chainText_22 (by decide) ?_
  refine zp_pc (pc' := 24) rfl ?_
  refine zp_callV (As := [.int (nI (0)), .int (nI (12))]) (k := c + 10) (st := []) (ci := 6) dX0_chainText_24 cX0_110 rfl r3.2.1 rfl rfl (e_appendSame (N := 16) (b := nI 0) (k := 12) r3 (by rw [znum_len]; decide)) (by decide) (by decide) (Nat.le_of_ble_eq_true rfl) (fun v5 h5 n5 q5 => ?_)
  obtain ⟨rfl, N5, s5, r5⟩ := q5
  rw [N5]
  refine zp_nrm (cells' := 0) (slots' := 0) (st' := []) rfl rfl rfl ?_
  have y6_0 := y4_0.sm s5 (fun i hi => by unfold zrs at hi; omega)
  have y6_1 := y4_1.keep (s5 _ (by unfold zrs; omega)) (s5 _ (by unfold zrs; omega))
  have y6_2 : zckd h5 c b ks := y4_2.keep (s5 _ (by unfold zrs; omega)) (s5 _ (by unfold zrs; omega)) (s5 _ (by unfold zrs; omega)) (s5 _ (by unfold zrs; omega))
  have e0 : (nI 0).toBitVec.toNat % 256 = 0 := by decide
  rw [e0] at r5
  refine zp_aload_n dX0_chainText_27 rfl ?_
  refine zp_aload_n dX0_chainText_28 rfl ?_
  refine zp_get dX0_chainText_29 gX0_40_0 y6_2.obj rfl ?_
  refine zp_aload_n dX0_chainText_32 rfl ?_
  refine zp_get dX0_chainText_33 gX0_40_0 y6_2.obj rfl ?_
  refine zp_pc (pc' := 36) rfl ?_
  refine zp_callV (As := [.ref (c + 10), .ref (c + 10)]) (k := c) (st := []) (ci := 0) dX0_chainText_36 cX0_99 rfl y6_2.obj rfl rfl (e_encrypt (b := b) (N := 16) (K := 16) y6_0 y6_2 r5 r5 (by rw [List.length_append, znum_len, List.length_replicate]) (by omega) (by omega) (by decide)) (by decide) (by decide) (Nat.le_of_ble_eq_true rfl) (fun v7 h7 n7 q7 => ?_)
  obtain ⟨rfl, N7, s7, r7, k7⟩ := q7
  rw [N7]
  refine zp_nrm (cells' := 0) (slots' := 0) (st' := []) rfl rfl rfl ?_
  have y8_0 := y6_0.sm s7 (fun i hi => by unfold zes at hi; omega)
  have y8_1 := y6_1.keep (s7 _ (by unfold zes; omega)) (s7 _ (by unfold zes; omega))
  have sA : zsm h h7 (zes c (c + 10)) := (((s1.trans s3).trans s5).mono (fun i hi => by unfold zes; unfold zrs at hi; omega)).trans s7
  refine zp_iconst (v := nI (0)) dX0_chainText_39 (by decide) ?_
  refine zp_istore_n (ls' := [some (.ref (c)), some (.int (nI (i))), some (.int (nI (0)))]) dX0_chainText_40 (by decide) rfl ?_
  refine zp_pc (pc' := 41) rfl ?_
  refine zp_ls (ls' := [some (.ref (c)), some (.int (nI (i))), some (.int (nI (16 * 0)))]) rfl ?_
  have lp : ∀ (m : Nat) (u : Nat) (k1 : ZH), m = ts.length / 16 - u → u ≤ ts.length / 16 → zsm h k1 (zes c (c + 10)) → ztab k1 → zckd k1 c b ks → zrow k1 (c + 10) 16 (zchn b ks ts i u) → zrow k1 (c + 4) 512 ts → zP g mX0_chainText (zR 4 0 0) Qf 0 0 41 [some (.ref (c)), some (.int (nI (i))), some (.int (nI (16 * u)))] [] k1 n := by
    intro m
    induction m using Nat.strongRecOn with
    | _ m ih =>
      intro u k1 hm hu hs b1 b2 b3 b4
      have cl := zchn_len b ks ts i u
      have hdm := Nat.div_add_mod ts.length 16
      refine zp_iload_n dX0_chainText_41 rfl ?_
      refine zp_aload_n dX0_chainText_42 rfl ?_
      refine zp_get dX0_chainText_43 gX0_30_0 b2.obj rfl ?_
      refine zp_pc (pc' := 46) rfl ?_
      refine zp_callV (As := []) (k := c + 4) (st := [.int (nI (16 * u))]) (ci := 6) dX0_chainText_46 cX0_43 rfl b4.2.1 rfl rfl (e_length (N := 512) b4) (by decide) (by decide) (Nat.le_of_ble_eq_true rfl) (fun v9 h9 n9 q9 => ?_)
      obtain ⟨rfl, H9, N9⟩ := q9
      rw [N9, H9]
      refine zp_nrm (cells' := 0) (slots' := 0) (st' := [.int (nI (ts.length)), .int (nI (16 * u))]) rfl rfl rfl ?_
      refine zn_icmp_ge (tgt := 82) dX0_chainText_49 (by decide) (by omega) (by omega) (fun c49 => ?_) (fun c49 => ?_)
      · have eu : u = ts.length / 16 := by omega
        subst eu
        refine zp_ret (v := none) dX0_chainText_82 ⟨rfl, rfl⟩ (by decide) (by decide) ?_
        rw [hQ]
        exact ⟨rfl, rfl, hs, b3, b2⟩
      · refine zp_aload_n dX0_chainText_52 rfl ?_
        refine zp_get dX0_chainText_53 gX0_40_0 b2.obj rfl ?_
        refine zp_aload_n dX0_chainText_56 rfl ?_
        refine zp_get dX0_chainText_57 gX0_30_0 b2.obj rfl ?_
        refine zp_iload_n dX0_chainText_60 rfl ?_
        refine zp_pc (pc' := 61) rfl ?_
        refine zp_callV (As := [.ref (c + 4), .int (nI (16 * u))]) (k := c + 10) (st := []) (ci := 6) dX0_chainText_61 cX0_114 rfl b3.2.1 rfl rfl (e_xorPart (N := 16) (K := 512) (a := 16 * u) b3 b4 (by omega) (by omega)) (by decide) (by decide) (Nat.le_of_ble_eq_true rfl) (fun v10 h10 n10 q10 => ?_)
        obtain ⟨rfl, N10, s10, r10⟩ := q10
        rw [N10]
        refine zp_nrm (cells' := 0) (slots' := 0) (st' := []) rfl rfl rfl ?_
        have y11_0 := b1.sm s10 (fun i hi => by unfold zrs at hi; omega)
        have y11_1 := b4.keep (s10 _ (by unfold zrs; omega)) (s10 _ (by unfold zrs; omega))
        have y11_2 : zckd h10 c b ks := b2.keep (s10 _ (by unfold zrs; omega)) (s10 _ (by unfold zrs; omega)) (s10 _ (by unfold zrs; omega)) (s10 _ (by unfold zrs; omega))
        refine zp_aload_n dX0_chainText_64 rfl ?_
        refine zp_aload_n dX0_chainText_65 rfl ?_
        refine zp_get dX0_chainText_66 gX0_40_0 y11_2.obj rfl ?_
        refine zp_aload_n dX0_chainText_69 rfl ?_
        refine zp_get dX0_chainText_70 gX0_40_0 y11_2.obj rfl ?_
        refine zp_pc (pc' := 73) rfl ?_
        refine zp_callV (As := [.ref (c + 10), .ref (c + 10)]) (k := c) (st := []) (ci := 0) dX0_chainText_73 cX0_99 rfl y11_2.obj rfl rfl (e_encrypt (b := b) (N := 16) (K := 16) y11_0 y11_2 r10 r10 (by rw [zxor_len]; exact cl) (by omega) (by omega) (by decide)) (by decide) (by decide) (Nat.le_of_ble_eq_true rfl) (fun v12 h12 n12 q12 => ?_)
        obtain ⟨rfl, N12, s12, r12, k12⟩ := q12
        rw [N12]
        refine zp_nrm (cells' := 0) (slots' := 0) (st' := []) rfl rfl rfl ?_
        have y13_0 := y11_0.sm s12 (fun i hi => by unfold zes at hi; omega)
        have y13_1 := y11_1.keep (s12 _ (by unfold zes; omega)) (s12 _ (by unfold zes; omega))
        refine zn_iinc 16 (ls' := [some (.ref (c)), some (.int (nI (i))), some (.int (nI (16 * u + 16)))]) dX0_chainText_76 (by decide) (by decide) rfl rfl ?_
        refine zp_pc (pc' := 79) rfl ?_
        refine zp_ls (ls' := [some (.ref (c)), some (.int (nI (i))), some (.int (nI (16 * (u + 1))))]) (by rw [Nat.mul_add]) ?_
        refine zp_goto (tgt := 41) dX0_chainText_79 (by decide) ?_
        refine zp_pc (pc' := 41) rfl ?_
        exact ih (ts.length / 16 - (u + 1)) (by omega) (u + 1) h12 rfl (by omega) ((hs.trans (s10.mono (fun i hi => by unfold zes; unfold zrs at hi; omega))).trans s12) y13_0 k12 r12 y13_1
  exact lp _ 0 h7 rfl (Nat.zero_le _) sA y8_0 k7 r7 y8_1
