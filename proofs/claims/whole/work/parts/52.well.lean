theorem zn4_l (x : Int32) : znum (x.toInt64).toBitVec.toNat 4 = zn4 x := by
  refine znum_congr ?_
  have e : (x.toInt64).toBitVec.toNat % 2 ^ 32 = x.toBitVec.toNat := by
    show (x.toBitVec.signExtend 64).toNat % 2 ^ 32 = _
    rw [BitVec.toNat_signExtend, BitVec.toNat_setWidth]
    have := x.toBitVec.isLt
    split <;> omega
  show _ % 2 ^ 32 = _ % 2 ^ 32
  rw [e, Nat.mod_eq_of_lt (x.toBitVec.isLt)]
theorem zn4_len (x : Int32) : (zn4 x).length = 4 := znum_len _ _
theorem zBA.rf {lo t t' n : Nat} {h : ZH} {A : Nat → Option Nat} {T O : List Nat} {S : ZSup} {Gs : Nat → Option ZGn} (H : zBA lo t h n A (T, O, S, Gs)) (ht : t ≤ t') : zBW lo t' h n (T, O, S, Gs) := ⟨A, H.same (P := fun _ => False) zsm.rf (fun _ q => q.elim) (Nat.le_refl _) ht⟩
set_option maxRecDepth 10000 in
set_option maxHeartbeats 2000000 in
theorem e_feed {g : ZG} {h : ZH} {n : Nat} {lo t : Nat} {A : Nat → Option Nat} {T O : List Nat} {S : ZSup} {Gs : Nat → Option ZGn} {a b c d e : Int32} (H : zBA lo t h n A (T, O, S, Gs)) : zMt g mX9_feed (zR 3 0 0) [.ref (16), .int (a), .int (b), .int (c), .int (d), .int (e)] h n (fun v h' n' => v = some (.int (zqfeed a b c d e (T, O, S, Gs)).1) ∧ n' = n ∧ zsm h h' (zxs lo) ∧ zBW lo (t + 2) h' n' (zqfeed a b c d e (T, O, S, Gs)).2) := by
  refine zMt.of [some (.ref (16)), some (.int (a)), some (.int (b)), some (.int (c)), some (.int (d)), some (.int (e))] (by decide) rfl (Nat.le_of_ble_eq_true rfl) ?_
  obtain ⟨Qf, hQ⟩ : ∃ Qf : ZQ, Qf = (fun v h' n' => v = some (.int (zqfeed a b c d e (T, O, S, Gs)).1) ∧ n' = n ∧ zsm h h' (zxs lo) ∧ zBW lo (t + 2) h' n' (zqfeed a b c d e (T, O, S, Gs)).2) := ⟨_, rfl⟩
  rw [← hQ]
  obtain ⟨w0, w1, w2, w3, w4, w5, w6, w7, w8⟩ := id H
  have lT := w1.len
  have lO := w2.len
  refine zp_aload_n dX9_feed_0 rfl ?_
  refine zp_get dX9_feed_1 gX9_14_8 w0 rfl ?_
  refine zp_pc (pc' := 4) rfl ?_
  refine zp_callV (As := []) (k := 17) (st := []) (ci := 6) dX9_feed_4 cX9_41 rfl w1.2.1 rfl rfl (e_length (N := 240) w1) (by decide) (by decide) (Nat.le_of_ble_eq_true rfl) (fun v1 h1 n1 q1 => ?_)
  obtain ⟨rfl, H1, N1⟩ := q1
  rw [N1, H1]
  refine zp_nrm (cells' := 0) (slots' := 0) (st' := [.int (nI (T.length))]) rfl rfl rfl ?_
  refine zp_bipush (v := nI (20)) dX9_feed_7 (by decide) ?_
  refine zn_iadd dX9_feed_9 ?_
  refine zp_sipush (v := nI (240)) dX9_feed_10 (by decide) ?_
  refine zp_pc (pc' := 13) rfl ?_
  refine zn_icmp_le (tgt := 18) dX9_feed_13 (by decide) (by omega) (by omega) (fun c13 => ?_) (fun c13 => ?_)
  · have eq : zqfeed a b c d e (T, O, S, Gs) = (nI (T.length + 20), T ++ zn4 a ++ zn4 b ++ zn4 c ++ zn4 d ++ zn4 e, O, S, Gs) := if_neg (by omega)
    refine zp_aload_n dX9_feed_18 rfl ?_
    refine zp_get dX9_feed_19 gX9_14_8 w0 rfl ?_
    refine zp_iload_n dX9_feed_22 rfl ?_
    refine zp_i2l dX9_feed_23 ?_
    refine zp_iconst (v := nI (4)) dX9_feed_24 (by decide) ?_
    refine zp_pc (pc' := 25) rfl ?_
    refine zp_callV (As := [.long (((a : Int32)).toInt64), .int (nI (4))]) (k := 17) (st := []) (ci := 6) dX9_feed_25 cX9_45 rfl w1.2.1 rfl rfl (e_appendNumber (N := 240) (k := 4) w1 (by decide) (by first | omega | (simp only [List.length_append, zn4_len]; omega))) (by decide) (by decide) (Nat.le_of_ble_eq_true rfl) (fun v2 h2 n2 q2 => ?_)
    obtain ⟨rfl, N2, s2, r2⟩ := q2
    rw [N2]
    refine zp_nrm (cells' := 0) (slots' := 0) (st' := []) rfl rfl rfl ?_
    have y3_0 := w2.keep (s2 _ (by unfold zrs; omega)) (s2 _ (by unfold zrs; omega))
    have y3_1 : zsup h2 21 S := w3.off (fun i h1 h2 => s2 i (by unfold zrs; omega))
    have y3_2 : zdk h2 := w4.off s2 (fun i hi => by unfold zrs at hi; omega)
    have y3_3 : h2 (16) = some zwc := (s2 _ (by unfold zrs; omega)).trans w0
    rw [zn4_l] at r2
    refine zp_aload_n dX9_feed_28 rfl ?_
    refine zp_get dX9_feed_29 gX9_14_8 y3_3 rfl ?_
    refine zp_iload_n dX9_feed_32 rfl ?_
    refine zp_i2l dX9_feed_33 ?_
    refine zp_iconst (v := nI (4)) dX9_feed_34 (by decide) ?_
    refine zp_pc (pc' := 35) rfl ?_
    refine zp_callV (As := [.long (((b : Int32)).toInt64), .int (nI (4))]) (k := 17) (st := []) (ci := 6) dX9_feed_35 cX9_45 rfl r2.2.1 rfl rfl (e_appendNumber (N := 240) (k := 4) r2 (by decide) (by first | omega | (simp only [List.length_append, zn4_len]; omega))) (by decide) (by decide) (Nat.le_of_ble_eq_true rfl) (fun v4 h4 n4 q4 => ?_)
    obtain ⟨rfl, N4, s4, r4⟩ := q4
    rw [N4]
    refine zp_nrm (cells' := 0) (slots' := 0) (st' := []) rfl rfl rfl ?_
    have y5_0 := y3_0.keep (s4 _ (by unfold zrs; omega)) (s4 _ (by unfold zrs; omega))
    have y5_1 : zsup h4 21 S := y3_1.off (fun i h1 h2 => s4 i (by unfold zrs; omega))
    have y5_2 : zdk h4 := y3_2.off s4 (fun i hi => by unfold zrs at hi; omega)
    have y5_3 : h4 (16) = some zwc := (s4 _ (by unfold zrs; omega)).trans y3_3
    rw [zn4_l] at r4
    refine zp_aload_n dX9_feed_38 rfl ?_
    refine zp_get dX9_feed_39 gX9_14_8 y5_3 rfl ?_
    refine zp_iload_n dX9_feed_42 rfl ?_
    refine zp_i2l dX9_feed_43 ?_
    refine zp_iconst (v := nI (4)) dX9_feed_44 (by decide) ?_
    refine zp_pc (pc' := 45) rfl ?_
    refine zp_callV (As := [.long (((c : Int32)).toInt64), .int (nI (4))]) (k := 17) (st := []) (ci := 6) dX9_feed_45 cX9_45 rfl r4.2.1 rfl rfl (e_appendNumber (N := 240) (k := 4) r4 (by decide) (by first | omega | (simp only [List.length_append, zn4_len]; omega))) (by decide) (by decide) (Nat.le_of_ble_eq_true rfl) (fun v6 h6 n6 q6 => ?_)
    obtain ⟨rfl, N6, s6, r6⟩ := q6
    rw [N6]
    refine zp_nrm (cells' := 0) (slots' := 0) (st' := []) rfl rfl rfl ?_
    have y7_0 := y5_0.keep (s6 _ (by unfold zrs; omega)) (s6 _ (by unfold zrs; omega))
    have y7_1 : zsup h6 21 S := y5_1.off (fun i h1 h2 => s6 i (by unfold zrs; omega))
    have y7_2 : zdk h6 := y5_2.off s6 (fun i hi => by unfold zrs at hi; omega)
    have y7_3 : h6 (16) = some zwc := (s6 _ (by unfold zrs; omega)).trans y5_3
    rw [zn4_l] at r6
    refine zp_aload_n dX9_feed_48 rfl ?_
    refine zp_get dX9_feed_49 gX9_14_8 y7_3 rfl ?_
    refine zp_iload dX9_feed_52 rfl ?_
    refine zp_i2l dX9_feed_54 ?_
    refine zp_iconst (v := nI (4)) dX9_feed_55 (by decide) ?_
    refine zp_pc (pc' := 56) rfl ?_
    refine zp_callV (As := [.long (((d : Int32)).toInt64), .int (nI (4))]) (k := 17) (st := []) (ci := 6) dX9_feed_56 cX9_45 rfl r6.2.1 rfl rfl (e_appendNumber (N := 240) (k := 4) r6 (by decide) (by first | omega | (simp only [List.length_append, zn4_len]; omega))) (by decide) (by decide) (Nat.le_of_ble_eq_true rfl) (fun v8 h8 n8 q8 => ?_)
    obtain ⟨rfl, N8, s8, r8⟩ := q8
    rw [N8]
    refine zp_nrm (cells' := 0) (slots' := 0) (st' := []) rfl rfl rfl ?_
    have y9_0 := y7_0.keep (s8 _ (by unfold zrs; omega)) (s8 _ (by unfold zrs; omega))
    have y9_1 : zsup h8 21 S := y7_1.off (fun i h1 h2 => s8 i (by unfold zrs; omega))
    have y9_2 : zdk h8 := y7_2.off s8 (fun i hi => by unfold zrs at hi; omega)
    have y9_3 : h8 (16) = some zwc := (s8 _ (by unfold zrs; omega)).trans y7_3
    rw [zn4_l] at r8
    refine zp_aload_n dX9_feed_59 rfl ?_
    refine zp_get dX9_feed_60 gX9_14_8 y9_3 rfl ?_
    refine zp_iload dX9_feed_63 rfl ?_
    refine zp_i2l dX9_feed_65 ?_
    refine zp_iconst (v := nI (4)) dX9_feed_66 (by decide) ?_
    refine zp_pc (pc' := 67) rfl ?_
    refine zp_callV (As := [.long (((e : Int32)).toInt64), .int (nI (4))]) (k := 17) (st := []) (ci := 6) dX9_feed_67 cX9_45 rfl r8.2.1 rfl rfl (e_appendNumber (N := 240) (k := 4) r8 (by decide) (by first | omega | (simp only [List.length_append, zn4_len]; omega))) (by decide) (by decide) (Nat.le_of_ble_eq_true rfl) (fun v10 h10 n10 q10 => ?_)
    obtain ⟨rfl, N10, s10, r10⟩ := q10
    rw [N10]
    refine zp_nrm (cells' := 0) (slots' := 0) (st' := []) rfl rfl rfl ?_
    have y11_0 := y9_0.keep (s10 _ (by unfold zrs; omega)) (s10 _ (by unfold zrs; omega))
    have y11_1 : zsup h10 21 S := y9_1.off (fun i h1 h2 => s10 i (by unfold zrs; omega))
    have y11_2 : zdk h10 := y9_2.off s10 (fun i hi => by unfold zrs at hi; omega)
    have y11_3 : h10 (16) = some zwc := (s10 _ (by unfold zrs; omega)).trans y9_3
    rw [zn4_l] at r10
    refine zp_aload_n dX9_feed_70 rfl ?_
    refine zp_get dX9_feed_71 gX9_14_8 y11_3 rfl ?_
    refine zp_pc (pc' := 74) rfl ?_
    refine zp_callV (As := []) (k := 17) (st := []) (ci := 6) dX9_feed_74 cX9_41 rfl r10.2.1 rfl rfl (e_length (N := 240) r10) (by decide) (by decide) (Nat.le_of_ble_eq_true rfl) (fun v12 h12 n12 q12 => ?_)
    obtain ⟨rfl, H12, N12⟩ := q12
    rw [N12, H12]
    refine zp_nrm (cells' := 0) (slots' := 0) (st' := [.int (nI (T ++ zn4 a ++ zn4 b ++ zn4 c ++ zn4 d ++ zn4 e).length)]) rfl rfl rfl ?_
    refine zp_i (y := nI (T.length + 20)) (by simp only [List.length_append, zn4_len]) ?_
    have sA : zsm h h10 (zbt 17 62) := (((((s2).mono (fun i hi => by unfold zbt; unfold zrs at hi; omega)).trans ((s4).mono (fun i hi => by unfold zbt; unfold zrs at hi; omega))).trans ((s6).mono (fun i hi => by unfold zbt; unfold zrs at hi; omega))).trans ((s8).mono (fun i hi => by unfold zbt; unfold zrs at hi; omega))).trans ((s10).mono (fun i hi => by unfold zbt; unfold zrs at hi; omega))
    refine zp_ret (v := (some (.int (nI (T.length + 20))))) dX9_feed_77 ⟨⟨_, rfl, rfl⟩, rfl⟩ (by decide) (by decide) ?_
    rw [hQ]
    rw [eq]; exact ⟨rfl, rfl, sA.mono (fun i hi => by unfold zbt at hi; unfold zxs; omega), A, H.upd sA r10 y11_0 y11_1 y11_2 (Nat.le_refl _) (by omega)⟩
  · have eq : zqfeed a b c d e (T, O, S, Gs) = (-1, T, O, S, Gs) := if_pos (by omega)
    refine zp_iconst (v := (-1)) dX9_feed_16 (by decide) ?_
    refine zp_pc (pc' := 17) rfl ?_
    refine zp_ret (v := (some (.int ((-1))))) dX9_feed_17 ⟨⟨_, rfl, rfl⟩, rfl⟩ (by decide) (by decide) ?_
    rw [hQ]
    rw [eq]; exact ⟨rfl, rfl, zsm.rf, H.rf (by omega)⟩
set_option maxRecDepth 10000 in
set_option maxHeartbeats 2000000 in
theorem e_end {g : ZG} {h : ZH} {n : Nat} {lo t : Nat} {A : Nat → Option Nat} {T O : List Nat} {S : ZSup} {Gs : Nat → Option ZGn} {x : Int32} (H : zBA lo t h n A (T, O, S, Gs)) : zMt g mX9_end (zR 3 0 0) [.ref (16), .int (x)] h n (fun v h' n' => v = some (.int (zqend x (T, O, S, Gs)).1) ∧ n' = n ∧ zsm h h' (zxs lo) ∧ zBW lo (t + 2) h' n' (zqend x (T, O, S, Gs)).2) := by
  refine zMt.of [some (.ref (16)), some (.int (x))] (by decide) rfl (Nat.le_of_ble_eq_true rfl) ?_
  obtain ⟨Qf, hQ⟩ : ∃ Qf : ZQ, Qf = (fun v h' n' => v = some (.int (zqend x (T, O, S, Gs)).1) ∧ n' = n ∧ zsm h h' (zxs lo) ∧ zBW lo (t + 2) h' n' (zqend x (T, O, S, Gs)).2) := ⟨_, rfl⟩
  rw [← hQ]
  obtain ⟨w0, w1, w2, w3, w4, w5, w6, w7, w8⟩ := id H
  have lT := w1.len
  have lO := w2.len
  refine zp_iload_n dX9_end_0 rfl ?_
  refine zp_pc (pc' := 1) rfl ?_
  refine zp_if_lt (tgt := 15) dX9_end_1 (by decide) (fun c1 => ?_) (fun c1 => ?_)
  · have eq : zqend x (T, O, S, Gs) = (-1, T, O, S, Gs) := if_pos (Or.inl c1)
    refine zp_iconst (v := (-1)) dX9_end_15 (by decide) ?_
    refine zp_pc (pc' := 16) rfl ?_
    refine zp_ret (v := (some (.int ((-1))))) dX9_end_16 ⟨⟨_, rfl, rfl⟩, rfl⟩ (by decide) (by decide) ?_
    rw [hQ]
    rw [eq]; exact ⟨rfl, rfl, zsm.rf, H.rf (by omega)⟩
  · refine zp_iload_n dX9_end_4 rfl ?_
    refine zp_aload_n dX9_end_5 rfl ?_
    refine zp_get dX9_end_6 gX9_14_8 w0 rfl ?_
    refine zp_pc (pc' := 9) rfl ?_
    refine zp_callV (As := []) (k := 17) (st := [.int (x)]) (ci := 6) dX9_end_9 cX9_41 rfl w1.2.1 rfl rfl (e_length (N := 240) w1) (by decide) (by decide) (Nat.le_of_ble_eq_true rfl) (fun v1 h1 n1 q1 => ?_)
    obtain ⟨rfl, H1, N1⟩ := q1
    rw [N1, H1]
    refine zp_nrm (cells' := 0) (slots' := 0) (st' := [.int (nI (T.length)), .int (x)]) rfl rfl rfl ?_
    refine zp_pc (pc' := 12) rfl ?_
    refine zp_icmp_le (tgt := 17) dX9_end_12 (by decide) (fun c12 => ?_) (fun c12 => ?_)
    · obtain ⟨j, j31, rfl⟩ := nI_of c1
      have hj := (nI_leI j31 (by omega)).mp c12
      have eq : zqend (nI j) (T, O, S, Gs) = (nI j, T.take j, O, S, Gs) := (if_neg (fun q => q.elim c1 (fun q => absurd ((nI_ltI (by omega) j31).mp q) (by omega)))).trans (by rw [nI_clamp j31])
      refine zp_aload_n dX9_end_17 rfl ?_
      refine zp_get dX9_end_18 gX9_14_8 w0 rfl ?_
      refine zp_iload_n dX9_end_21 rfl ?_
      refine zp_pc (pc' := 22) rfl ?_
      refine zp_callV (As := [.int (nI (j))]) (k := 17) (st := []) (ci := 6) dX9_end_22 cX9_49 rfl w1.2.1 rfl rfl (e_cut (N := 240) w1 hj) (by decide) (by decide) (Nat.le_of_ble_eq_true rfl) (fun v2 h2 n2 q2 => ?_)
      obtain ⟨rfl, N2, s2, r2⟩ := q2
      rw [N2]
      refine zp_nrm (cells' := 0) (slots' := 0) (st' := []) rfl rfl rfl ?_
      have y3_0 := w2.keep (s2 _ (by unfold zrs; omega)) (s2 _ (by unfold zrs; omega))
      have y3_1 : zsup h2 21 S := w3.off (fun i h1 h2 => s2 i (by unfold zrs; omega))
      have y3_2 : zdk h2 := w4.off s2 (fun i hi => by unfold zrs at hi; omega)
      have y3_3 : h2 (16) = some zwc := (s2 _ (by unfold zrs; omega)).trans w0
      refine zp_iload_n dX9_end_25 rfl ?_
      refine zp_pc (pc' := 26) rfl ?_
      have sA : zsm h h2 (zbt 17 62) := (s2).mono (fun i hi => by unfold zbt; unfold zrs at hi; omega)
      refine zp_ret (v := (some (.int (nI (j))))) dX9_end_26 ⟨⟨_, rfl, rfl⟩, rfl⟩ (by decide) (by decide) ?_
      rw [hQ]
      rw [eq]; exact ⟨rfl, rfl, sA.mono (fun i hi => by unfold zbt at hi; unfold zxs; omega), A, H.upd sA r2 y3_0 y3_1 y3_2 (Nat.le_refl _) (by omega)⟩
    · have eq : zqend x (T, O, S, Gs) = (-1, T, O, S, Gs) := if_pos (Or.inr (Int32.not_le.mp c12))
      refine zp_iconst (v := (-1)) dX9_end_15 (by decide) ?_
      refine zp_pc (pc' := 16) rfl ?_
      refine zp_ret (v := (some (.int ((-1))))) dX9_end_16 ⟨⟨_, rfl, rfl⟩, rfl⟩ (by decide) (by decide) ?_
      rw [hQ]
      rw [eq]; exact ⟨rfl, rfl, zsm.rf, H.rf (by omega)⟩
set_option maxRecDepth 10000 in
set_option maxHeartbeats 2000000 in
theorem e_supply {g : ZG} {h : ZH} {n : Nat} {lo t : Nat} {A : Nat → Option Nat} {T O : List Nat} {S : ZSup} {Gs : Nat → Option ZGn} (H : zBA lo t h n A (T, O, S, Gs)) : zMt g mX9_supply (zR 3 0 0) [.ref (16)] h n (fun v h' n' => v = some (.int (zqsupply (T, O, S, Gs)).1) ∧ n' = n ∧ zsm h h' (zxs lo) ∧ zBW lo (t + 2) h' n' (zqsupply (T, O, S, Gs)).2) := by
  refine zMt.of [some (.ref (16))] (by decide) rfl (Nat.le_of_ble_eq_true rfl) ?_
  obtain ⟨Qf, hQ⟩ : ∃ Qf : ZQ, Qf = (fun v h' n' => v = some (.int (zqsupply (T, O, S, Gs)).1) ∧ n' = n ∧ zsm h h' (zxs lo) ∧ zBW lo (t + 2) h' n' (zqsupply (T, O, S, Gs)).2) := ⟨_, rfl⟩
  rw [← hQ]
  obtain ⟨w, rp, wi, pa, un, la, ru, sa, me, se, ta, fa⟩ := S
  obtain ⟨w0, w1, w2, w3, w4, w5, w6, w7, w8⟩ := id H
  have lT := w1.len
  have lO := w2.len
  have lW := w3.2.2.1.len
  refine zp_aload_n dX9_supply_0 rfl ?_
  refine zp_get dX9_supply_1 gX9_24_8 w0 rfl ?_
  refine zp_pc (pc' := 4) rfl ?_
  refine zp_callV (As := []) (k := 21) (st := []) (ci := 7) dX9_supply_4 cX9_52 rfl w3.2.1 rfl rfl (e_isUnsound w3) (by decide) (by decide) (Nat.le_of_ble_eq_true rfl) (fun v1 h1 n1 q1 => ?_)
  obtain ⟨rfl, H1, N1⟩ := q1
  rw [N1, H1]
  refine zp_nrm (cells' := 0) (slots' := 0) (st' := [.int (nI (zbi un))]) rfl rfl rfl ?_
  have hu := zbi_lt un
  refine zp_pc (pc' := 7) rfl ?_
  refine zn_if_eq (tgt := 12) dX9_supply_7 (by decide) (by omega) (fun c7 => ?_) (fun c7 => ?_)
  · have u0 : un = false := by cases un; rfl; exact absurd c7 (by decide)
    refine zp_aload_n dX9_supply_12 rfl ?_
    refine zp_get dX9_supply_13 gX9_24_8 w0 rfl ?_
    refine zp_pc (pc' := 16) rfl ?_
    refine zp_callV (As := []) (k := 21) (st := []) (ci := 7) dX9_supply_16 cX9_56 rfl w3.2.1 rfl rfl (e_waiting w3) (by decide) (by decide) (Nat.le_of_ble_eq_true rfl) (fun v2 h2 n2 q2 => ?_)
    obtain ⟨rfl, H2, N2⟩ := q2
    rw [N2, H2]
    refine zp_nrm (cells' := 0) (slots' := 0) (st' := [.int (nI (w.length))]) rfl rfl rfl ?_
    refine zp_aload_n dX9_supply_19 rfl ?_
    refine zp_get dX9_supply_20 gX9_14_8 w0 rfl ?_
    refine zp_pc (pc' := 23) rfl ?_
    refine zp_callV (As := []) (k := 17) (st := [.int (nI (w.length))]) (ci := 6) dX9_supply_23 cX9_41 rfl w1.2.1 rfl rfl (e_length (N := 240) w1) (by decide) (by decide) (Nat.le_of_ble_eq_true rfl) (fun v3 h3 n3 q3 => ?_)
    obtain ⟨rfl, H3, N3⟩ := q3
    rw [N3, H3]
    refine zp_nrm (cells' := 0) (slots' := 0) (st' := [.int (nI (T.length)), .int (nI (w.length))]) rfl rfl rfl ?_
    refine zn_iadd dX9_supply_26 ?_
    refine zp_sipush (v := nI (1000)) dX9_supply_27 (by decide) ?_
    refine zp_pc (pc' := 30) rfl ?_
    refine zn_icmp_le (tgt := 36) dX9_supply_30 (by decide) (by omega) (by omega) (fun c30 => ?_) (fun c30 => ?_)
    · refine zp_aload_n dX9_supply_36 rfl ?_
      refine zp_get dX9_supply_37 gX9_24_8 w0 rfl ?_
      refine zp_aload_n dX9_supply_40 rfl ?_
      refine zp_get dX9_supply_41 gX9_14_8 w0 rfl ?_
      refine zp_pc (pc' := 44) rfl ?_
      refine zp_callV (As := [.ref (17)]) (k := 21) (st := []) (ci := 7) dX9_supply_44 cX9_59 rfl w3.2.1 rfl rfl (e_receive (S := (w, rp, wi, pa, un, la, ru, sa, me, se, ta, fa)) (N := 240) w3 w1 (by omega) (by show w.length + _ ≤ _; omega)) (by decide) (by decide) (Nat.le_of_ble_eq_true rfl) (fun v4 h4 n4 q4 => ?_)
      obtain ⟨rfl, N4, s4, k4⟩ := q4
      rw [N4]
      refine zp_nrm (cells' := 0) (slots' := 0) (st' := []) rfl rfl rfl ?_
      have y5_0 := w1.keep (s4 _ (by unfold zss; omega)) (s4 _ (by unfold zss; omega))
      have y5_1 := w2.keep (s4 _ (by unfold zss; omega)) (s4 _ (by unfold zss; omega))
      have y5_2 : zdk h4 := w4.off s4 (fun i hi => by unfold zss at hi; omega)
      have y5_3 : h4 (16) = some zwc := (s4 _ (by unfold zss; omega)).trans w0
      obtain ⟨S2, eS⟩ : ∃ S2, S2 = zrcv (w, rp, wi, pa, un, la, ru, sa, me, se, ta, fa) T := ⟨_, rfl⟩
      rw [← eS] at k4
      refine zp_aload_n dX9_supply_47 rfl ?_
      refine zp_get dX9_supply_48 gX9_14_8 y5_3 rfl ?_
      refine zp_pc (pc' := 51) rfl ?_
      refine zp_callV (As := []) (k := 17) (st := []) (ci := 6) dX9_supply_51 cX9_63 rfl y5_0.2.1 rfl rfl (e_clear (N := 240) y5_0) (by decide) (by decide) (Nat.le_of_ble_eq_true rfl) (fun v6 h6 n6 q6 => ?_)
      obtain ⟨rfl, N6, s6, r6⟩ := q6
      rw [N6]
      refine zp_nrm (cells' := 0) (slots' := 0) (st' := []) rfl rfl rfl ?_
      have y7_0 := y5_1.keep (s6 _ (by unfold zrs; omega)) (s6 _ (by unfold zrs; omega))
      have y7_1 : zsup h6 21 S2 := k4.off (fun i h1 h2 => s6 i (by unfold zrs; omega))
      have y7_2 : zdk h6 := y5_2.off s6 (fun i hi => by unfold zrs at hi; omega)
      have y7_3 : h6 (16) = some zwc := (s6 _ (by unfold zrs; omega)).trans y5_3
      have eq : zqsupply (T, O, (w, rp, wi, pa, un, la, ru, sa, me, se, ta, fa), Gs) = (if zun S2 = true then -1 else nI S2.1.length, [], O, S2, Gs) := (if_neg (by rw [show zun (w, rp, wi, pa, un, la, ru, sa, me, se, ta, fa) = un from rfl, u0]; decide)).trans ((if_neg (by show ¬ 1000 < w.length + T.length; omega)).trans (by rw [← eS]))
      obtain ⟨w9, rp9, wi9, pa9, un9, la9, ru9, sa9, me9, se9, ta9, fa9⟩ := S2
      have lW9 := y7_1.2.2.1.len
      refine zp_aload_n dX9_supply_54 rfl ?_
      refine zp_get dX9_supply_55 gX9_24_8 y7_3 rfl ?_
      refine zp_pc (pc' := 58) rfl ?_
      refine zp_callV (As := []) (k := 21) (st := []) (ci := 7) dX9_supply_58 cX9_52 rfl y7_1.2.1 rfl rfl (e_isUnsound y7_1) (by decide) (by decide) (Nat.le_of_ble_eq_true rfl) (fun v8 h8 n8 q8 => ?_)
      obtain ⟨rfl, H8, N8⟩ := q8
      rw [N8, H8]
      refine zp_nrm (cells' := 0) (slots' := 0) (st' := [.int (nI (zbi un9))]) rfl rfl rfl ?_
      have hu9 := zbi_lt un9
      refine zp_pc (pc' := 61) rfl ?_
      refine zn_if_eq (tgt := 68) dX9_supply_61 (by decide) (by omega) (fun c61 => ?_) (fun c61 => ?_)
      · have u9 : un9 = false := by cases un9; rfl; exact absurd c61 (by decide)
        refine zp_aload_n dX9_supply_68 rfl ?_
        refine zp_get dX9_supply_69 gX9_24_8 y7_3 rfl ?_
        refine zp_pc (pc' := 72) rfl ?_
        refine zp_callV (As := []) (k := 21) (st := []) (ci := 7) dX9_supply_72 cX9_56 rfl y7_1.2.1 rfl rfl (e_waiting y7_1) (by decide) (by decide) (Nat.le_of_ble_eq_true rfl) (fun v9 h9 n9 q9 => ?_)
        obtain ⟨rfl, H9, N9⟩ := q9
        rw [N9, H9]
        refine zp_nrm (cells' := 0) (slots' := 0) (st' := [.int (nI (w9.length))]) rfl rfl rfl ?_
        have sA : zsm h h6 (zbt 17 62) := ((s4).mono (fun i hi => by unfold zbt; unfold zss at hi; omega)).trans ((s6).mono (fun i hi => by unfold zbt; unfold zrs at hi; omega))
        refine zp_ret (v := (some (.int (nI (w9.length))))) dX9_supply_75 ⟨⟨_, rfl, rfl⟩, rfl⟩ (by decide) (by decide) ?_
        rw [hQ]
        rw [eq, u9]; rw [u9] at y7_1; exact ⟨rfl, rfl, sA.mono (fun i hi => by unfold zbt at hi; unfold zxs; omega), A, H.upd sA r6 y7_0 y7_1 y7_2 (Nat.le_refl _) (by omega)⟩
      · have u9 : un9 = true := by cases un9; exact absurd rfl c61; rfl
        refine zp_iconst (v := (-1)) dX9_supply_64 (by decide) ?_
        refine zp_goto (tgt := 75) dX9_supply_65 (by decide) ?_
        refine zp_pc (pc' := 75) rfl ?_
        have sA : zsm h h6 (zbt 17 62) := ((s4).mono (fun i hi => by unfold zbt; unfold zss at hi; omega)).trans ((s6).mono (fun i hi => by unfold zbt; unfold zrs at hi; omega))
        refine zp_ret (v := (some (.int ((-1))))) dX9_supply_75 ⟨⟨_, rfl, rfl⟩, rfl⟩ (by decide) (by decide) ?_
        rw [hQ]
        rw [eq, u9]; rw [u9] at y7_1; exact ⟨rfl, rfl, sA.mono (fun i hi => by unfold zbt at hi; unfold zxs; omega), A, H.upd sA r6 y7_0 y7_1 y7_2 (Nat.le_refl _) (by omega)⟩
    · have eq : zqsupply (T, O, (w, rp, wi, pa, un, la, ru, sa, me, se, ta, fa), Gs) = (-2, T, O, (w, rp, wi, pa, un, la, ru, sa, me, se, ta, fa), Gs) := (if_neg (by rw [show zun (w, rp, wi, pa, un, la, ru, sa, me, se, ta, fa) = un from rfl, u0]; decide)).trans (if_pos (by show 1000 < w.length + T.length; omega))
      refine zp_bipush (v := (-2)) dX9_supply_33 (by decide) ?_
      refine zp_pc (pc' := 35) rfl ?_
      refine zp_ret (v := (some (.int ((-2))))) dX9_supply_35 ⟨⟨_, rfl, rfl⟩, rfl⟩ (by decide) (by decide) ?_
      rw [hQ]
      rw [eq]; exact ⟨rfl, rfl, zsm.rf, H.rf (by omega)⟩
  · have u0 : un = true := by cases un; exact absurd rfl c7; rfl
    have eq : zqsupply (T, O, (w, rp, wi, pa, un, la, ru, sa, me, se, ta, fa), Gs) = (-1, T, O, (w, rp, wi, pa, un, la, ru, sa, me, se, ta, fa), Gs) := if_pos (by rw [show zun (w, rp, wi, pa, un, la, ru, sa, me, se, ta, fa) = un from rfl, u0])
    refine zp_iconst (v := (-1)) dX9_supply_10 (by decide) ?_
    refine zp_pc (pc' := 11) rfl ?_
    refine zp_ret (v := (some (.int ((-1))))) dX9_supply_11 ⟨⟨_, rfl, rfl⟩, rfl⟩ (by decide) (by decide) ?_
    rw [hQ]
    rw [eq]; exact ⟨rfl, rfl, zsm.rf, H.rf (by omega)⟩
set_option maxRecDepth 10000 in
set_option maxHeartbeats 2000000 in
theorem e_tests {g : ZG} {h : ZH} {n : Nat} {lo t : Nat} {A : Nat → Option Nat} {T O : List Nat} {S : ZSup} {Gs : Nat → Option ZGn} {a b c : Int32} (H : zBA lo t h n A (T, O, S, Gs)) : zMt g mX9_tests (zR 3 0 0) [.ref (16), .int (a), .int (b), .int (c)] h n (fun v h' n' => v = some (.int (nI (zbi (zqtests a b c (T, O, S, Gs)).1))) ∧ n' = n ∧ zsm h h' (zxs lo) ∧ zBW lo (t + 2) h' n' (zqtests a b c (T, O, S, Gs)).2) := by
  refine zMt.of [some (.ref (16)), some (.int (a)), some (.int (b)), some (.int (c))] (by decide) rfl (Nat.le_of_ble_eq_true rfl) ?_
  obtain ⟨Qf, hQ⟩ : ∃ Qf : ZQ, Qf = (fun v h' n' => v = some (.int (nI (zbi (zqtests a b c (T, O, S, Gs)).1))) ∧ n' = n ∧ zsm h h' (zxs lo) ∧ zBW lo (t + 2) h' n' (zqtests a b c (T, O, S, Gs)).2) := ⟨_, rfl⟩
  rw [← hQ]
  obtain ⟨w, rp, wi, pa, un, la, ru, sa, me, se, ta, fa⟩ := S
  obtain ⟨w0, w1, w2, w3, w4, w5, w6, w7, w8⟩ := id H
  have lT := w1.len
  have lO := w2.len
  refine zp_aload_n dX9_tests_0 rfl ?_
  refine zp_get dX9_tests_1 gX9_24_8 w0 rfl ?_
  refine zp_iload_n dX9_tests_4 rfl ?_
  refine zp_iload_n dX9_tests_5 rfl ?_
  refine zp_iload_n dX9_tests_6 rfl ?_
  refine zp_pc (pc' := 7) rfl ?_
  refine zp_callV (As := [.int (a), .int (b), .int (c)]) (k := 21) (st := []) (ci := 7) dX9_tests_7 cX9_66 rfl w3.2.1 rfl rfl (e_set (a1 := a) (a2 := b) (a3 := c) w3) (by decide) (by decide) (Nat.le_of_ble_eq_true rfl) (fun v1 h1 n1 q1 => ?_)
  obtain ⟨rfl, N1, s1, k1⟩ := q1
  rw [N1]
  refine zp_nrm (cells' := 0) (slots' := 0) (st' := [.int (nI (zbi (ztset (w, rp, wi, pa, un, la, ru, sa, me, se, ta, fa) a b c)))]) rfl rfl rfl ?_
  have y2_0 := w1.keep (s1 _ (by unfold zss; omega)) (s1 _ (by unfold zss; omega))
  have y2_1 := w2.keep (s1 _ (by unfold zss; omega)) (s1 _ (by unfold zss; omega))
  have y2_2 : zdk h1 := w4.off s1 (fun i hi => by unfold zss at hi; omega)
  have y2_3 : h1 (16) = some zwc := (s1 _ (by unfold zss; omega)).trans w0
  have sA : zsm h h1 (zbt 17 62) := (s1).mono (fun i hi => by unfold zbt; unfold zss at hi; omega)
  refine zp_ret (v := (some (.int (nI (zbi (ztset (w, rp, wi, pa, un, la, ru, sa, me, se, ta, fa) a b c)))))) dX9_tests_10 ⟨⟨_, rfl, ((zfit_b (ztset (w, rp, wi, pa, un, la, ru, sa, me, se, ta, fa) a b c)) g).1⟩, rfl⟩ (by decide) (by decide) ?_
  rw [hQ]
  exact ⟨rfl, rfl, sA.mono (fun i hi => by unfold zbt at hi; unfold zxs; omega), A, H.upd sA y2_0 y2_1 k1 y2_2 (Nat.le_refl _) (by omega)⟩
set_option maxRecDepth 10000 in
set_option maxHeartbeats 2000000 in
theorem e_source {g : ZG} {h : ZH} {n : Nat} {lo t : Nat} {A : Nat → Option Nat} {T O : List Nat} {S : ZSup} {Gs : Nat → Option ZGn} {x : Int32} (H : zBA lo t h n A (T, O, S, Gs)) : zMt g mX9_source (zR 3 0 0) [.ref (16), .int (x)] h n (fun v h' n' => v = some (.int (zqsource x (T, O, S, Gs))) ∧ h' = h ∧ n' = n) := by
  refine zMt.of [some (.ref (16)), some (.int (x))] (by decide) rfl (Nat.le_of_ble_eq_true rfl) ?_
  obtain ⟨Qf, hQ⟩ : ∃ Qf : ZQ, Qf = (fun v h' n' => v = some (.int (zqsource x (T, O, S, Gs))) ∧ h' = h ∧ n' = n) := ⟨_, rfl⟩
  rw [← hQ]
  obtain ⟨w, rp, wi, pa, un, la, ru, sa, me, se, ta, fa⟩ := S
  obtain ⟨w0, w1, w2, w3, w4, w5, w6, w7, w8⟩ := id H
  have lT := w1.len
  have lO := w2.len
  refine zp_aload_n dX9_source_0 rfl ?_
  refine zp_get dX9_source_1 gX9_24_8 w0 rfl ?_
  refine zp_iload_n dX9_source_4 rfl ?_
  refine zp_pc (pc' := 5) rfl ?_
  refine zp_callV (As := [.int (x)]) (k := 21) (st := []) (ci := 7) dX9_source_5 cX9_70 rfl w3.2.1 rfl rfl (e_supLook (x := x) w3) (by decide) (by decide) (Nat.le_of_ble_eq_true rfl) (fun v1 h1 n1 q1 => ?_)
  obtain ⟨rfl, H1, N1⟩ := q1
  rw [N1, H1]
  refine zp_nrm (cells' := 0) (slots' := 0) (st' := [.int (zsrc (w, rp, wi, pa, un, la, ru, sa, me, se, ta, fa) x)]) rfl rfl rfl ?_
  refine zp_ret (v := (some (.int (zsrc (w, rp, wi, pa, un, la, ru, sa, me, se, ta, fa) x)))) dX9_source_8 ⟨⟨_, rfl, rfl⟩, rfl⟩ (by decide) (by decide) ?_
  rw [hQ]
  exact ⟨rfl, rfl, rfl⟩
set_option maxRecDepth 10000 in
set_option maxHeartbeats 2000000 in
theorem e_drawn {g : ZG} {h : ZH} {n : Nat} {lo t : Nat} {A : Nat → Option Nat} {T O : List Nat} {S : ZSup} {Gs : Nat → Option ZGn} {x : Int32} (H : zBA lo t h n A (T, O, S, Gs)) : zMt g mX9_drawn (zR 3 0 0) [.ref (16), .int (x)] h n (fun v h' n' => v = some (.int (zqdrawn x (T, O, S, Gs))) ∧ h' = h ∧ n' = n) := by
  refine zMt.of [some (.ref (16)), some (.int (x))] (by decide) rfl (Nat.le_of_ble_eq_true rfl) ?_
  obtain ⟨Qf, hQ⟩ : ∃ Qf : ZQ, Qf = (fun v h' n' => v = some (.int (zqdrawn x (T, O, S, Gs))) ∧ h' = h ∧ n' = n) := ⟨_, rfl⟩
  rw [← hQ]
  obtain ⟨w0, w1, w2, w3, w4, w5, w6, w7, w8⟩ := id H
  have lT := w1.len
  have lO := w2.len
  refine zp_aload_n dX9_drawn_0 rfl ?_
  refine zp_get dX9_drawn_1 gX9_18_8 w0 rfl ?_
  refine zp_iload_n dX9_drawn_4 rfl ?_
  refine zp_pc (pc' := 5) rfl ?_
  refine zp_callV (As := [.int (x)]) (k := 19) (st := []) (ci := 6) dX9_drawn_5 cX9_125 rfl w2.2.1 rfl rfl (e_at (N := 4096) w2) (by decide) (by decide) (Nat.le_of_ble_eq_true rfl) (fun v1 h1 n1 q1 => ?_)
  obtain ⟨rfl, H1, N1⟩ := q1
  rw [N1, H1]
  refine zp_nrm (cells' := 0) (slots' := 0) (st' := [.int (zat O x)]) rfl rfl rfl ?_
  refine zp_ret (v := (some (.int (zat O x)))) dX9_drawn_8 ⟨⟨_, rfl, rfl⟩, rfl⟩ (by decide) (by decide) ?_
  rw [hQ]
  exact ⟨rfl, rfl, rfl⟩
set_option maxRecDepth 10000 in
set_option maxHeartbeats 2000000 in
theorem e_size {g : ZG} {h : ZH} {n : Nat} {lo t : Nat} {A : Nat → Option Nat} {T O : List Nat} {S : ZSup} {Gs : Nat → Option ZGn} (H : zBA lo t h n A (T, O, S, Gs)) : zMt g mX9_size (zR 3 0 0) [.ref (16)] h n (fun v h' n' => v = some (.int (zqsize (T, O, S, Gs))) ∧ h' = h ∧ n' = n) := by
  refine zMt.of [some (.ref (16))] (by decide) rfl (Nat.le_of_ble_eq_true rfl) ?_
  obtain ⟨Qf, hQ⟩ : ∃ Qf : ZQ, Qf = (fun v h' n' => v = some (.int (zqsize (T, O, S, Gs))) ∧ h' = h ∧ n' = n) := ⟨_, rfl⟩
  rw [← hQ]
  obtain ⟨w0, w1, w2, w3, w4, w5, w6, w7, w8⟩ := id H
  have lT := w1.len
  have lO := w2.len
  refine zp_aload_n dX9_size_0 rfl ?_
  refine zp_get dX9_size_1 gX9_18_8 w0 rfl ?_
  refine zp_pc (pc' := 4) rfl ?_
  refine zp_callV (As := []) (k := 19) (st := []) (ci := 6) dX9_size_4 cX9_41 rfl w2.2.1 rfl rfl (e_length (N := 4096) w2) (by decide) (by decide) (Nat.le_of_ble_eq_true rfl) (fun v1 h1 n1 q1 => ?_)
  obtain ⟨rfl, H1, N1⟩ := q1
  rw [N1, H1]
  refine zp_nrm (cells' := 0) (slots' := 0) (st' := [.int (nI O.length)]) rfl rfl rfl ?_
  refine zp_ret (v := (some (.int (nI O.length)))) dX9_size_7 ⟨⟨_, rfl, rfl⟩, rfl⟩ (by decide) (by decide) ?_
  rw [hQ]
  exact ⟨rfl, rfl, rfl⟩
set_option maxRecDepth 10000 in
set_option maxHeartbeats 2000000 in
theorem e_digest {g : ZG} {h : ZH} {n : Nat} {lo t : Nat} {A : Nat → Option Nat} {T O : List Nat} {S : ZSup} {Gs : Nat → Option ZGn} {b : Bool} (H : zBA lo t h n A (T, O, S, Gs)) : zMt g mX9_digest (zR 3 0 0) [.ref (16), .int (nI (zbi b))] h n (fun v h' n' => v = some (.int (zqdigest b (T, O, S, Gs)).1) ∧ n' = n ∧ zsm h h' (zxs lo) ∧ zBW lo (t + 2) h' n' (zqdigest b (T, O, S, Gs)).2) := by
  refine zMt.of [some (.ref (16)), some (.int (nI (zbi b)))] (by decide) rfl (Nat.le_of_ble_eq_true rfl) ?_
  obtain ⟨Qf, hQ⟩ : ∃ Qf : ZQ, Qf = (fun v h' n' => v = some (.int (zqdigest b (T, O, S, Gs)).1) ∧ n' = n ∧ zsm h h' (zxs lo) ∧ zBW lo (t + 2) h' n' (zqdigest b (T, O, S, Gs)).2) := ⟨_, rfl⟩
  rw [← hQ]
  obtain ⟨w0, w1, w2, w3, w4, w5, w6, w7, w8⟩ := id H
  have lT := w1.len
  have lO := w2.len
  obtain ⟨e1, e2, e3, ⟨x4, e4⟩, ⟨x5, e5⟩, ⟨x6, e6⟩, ⟨x7, e7⟩, e8, e9⟩ := w4.parts b
  have hz := zwb_or b
  have hd := zdid2 b
  refine zp_aload_n dX9_digest_0 rfl ?_
  refine zp_get dX9_digest_1 gX9_31_8 w0 rfl ?_
  refine zp_iload_n dX9_digest_4 rfl ?_
  refine zp_pc (pc' := 5) rfl ?_
  refine zp_callV (As := [.int (nI (zbi b))]) (k := 26) (st := []) (ci := 2) dX9_digest_5 cX9_135 rfl e2 rfl rfl (e_digestOf (b := b) e2) (by decide) (by decide) (Nat.le_of_ble_eq_true rfl) (fun v1 h1 n1 q1 => ?_)
  obtain ⟨rfl, H1, N1⟩ := q1
  rw [N1, H1]
  refine zp_nrm (cells' := 0) (slots' := 0) (st' := [.ref (zdid b)]) rfl rfl rfl ?_
  refine zp_aload_n dX9_digest_8 rfl ?_
  refine zp_get dX9_digest_9 gX9_14_8 w0 rfl ?_
  refine zp_aload_n dX9_digest_12 rfl ?_
  refine zp_get dX9_digest_13 gX9_18_8 w0 rfl ?_
  refine zp_pc (pc' := 16) rfl ?_
  refine zp_callV (As := [.ref (17), .ref (19)]) (k := zdid b) (st := []) (ci := 3) dX9_digest_16 cX9_139 rfl e8.2.1 rfl rfl (e_hash (N := 240) (K := 4096) e8 e1 w1 w2 (by omega) (by omega)) (by decide) (by decide) (Nat.le_of_ble_eq_true rfl) (fun v2 h2 n2 q2 => ?_)
  obtain ⟨rfl, N2, s2, r2, k2⟩ := q2
  rw [N2]
  refine zp_nrm (cells' := 0) (slots' := 0) (st' := []) rfl rfl rfl ?_
  have zk2 : zdk h2 := zdk.of b ⟨e1.sm s2 (fun i hi => by unfold zhs at hi; omega), (s2 _ (by unfold zhs; omega)).trans e2, e3.off (fun i h1 h2 => s2 i (by unfold zhs; omega)), ⟨_, e4.keep (s2 _ (by unfold zhs; omega)) (s2 _ (by unfold zhs; omega))⟩, ⟨_, e5.keep (s2 _ (by unfold zhs; omega)) (s2 _ (by unfold zhs; omega))⟩, ⟨_, e6.keep (s2 _ (by unfold zhs; omega)) (s2 _ (by unfold zhs; omega))⟩, ⟨_, e7.keep (s2 _ (by unfold zhs; omega)) (s2 _ (by unfold zhs; omega))⟩, k2, e9.off (fun i h1 h2 => s2 i (by unfold zhs; omega))⟩
  have y3_0 := w1.keep (s2 _ (by unfold zhs; omega)) (s2 _ (by unfold zhs; omega))
  have y3_1 : zsup h2 21 S := w3.off (fun i h1 h2 => s2 i (by unfold zhs; omega))
  have y3_2 : h2 (16) = some zwc := (s2 _ (by unfold zhs; omega)).trans w0
  refine zp_aload_n dX9_digest_19 rfl ?_
  refine zp_get dX9_digest_20 gX9_18_8 y3_2 rfl ?_
  refine zp_pc (pc' := 23) rfl ?_
  refine zp_callV (As := []) (k := 19) (st := []) (ci := 6) dX9_digest_23 cX9_41 rfl r2.2.1 rfl rfl (e_length (N := 4096) r2) (by decide) (by decide) (Nat.le_of_ble_eq_true rfl) (fun v4 h4 n4 q4 => ?_)
  obtain ⟨rfl, H4, N4⟩ := q4
  rw [N4, H4]
  refine zp_nrm (cells' := 0) (slots' := 0) (st' := [.int (nI (zhash b T).length)]) rfl rfl rfl ?_
  refine zp_i (y := nI (8 * zwb b)) (by rw [zhash_len]) ?_
  have sA : zsm h h2 (zbt 17 62) := (s2).mono (fun i hi => by unfold zbt; unfold zhs at hi; omega)
  refine zp_ret (v := (some (.int (nI (8 * zwb b))))) dX9_digest_26 ⟨⟨_, rfl, rfl⟩, rfl⟩ (by decide) (by decide) ?_
  rw [hQ]
  exact ⟨rfl, rfl, sA.mono (fun i hi => by unfold zbt at hi; unfold zxs; omega), A, H.upd sA y3_0 r2 y3_1 zk2 (Nat.le_refl _) (by omega)⟩
