set_option maxRecDepth 10000 in
set_option maxHeartbeats 2000000 in
theorem e_becomeUnsound {g : ZG} {h : ZH} {n : Nat} {s : Nat} {w : List Nat} {rp wi pa : Int32} {un : Bool} {la ru sa me se ta fa : Int32} (hs : zsup h s (w, rp, wi, pa, un, la, ru, sa, me, se, ta, fa)) : zMt g mX8_becomeUnsound (zR 1 0 0) [.ref (s)] h n (fun v h' n' => v = none ∧ n' = n ∧ zsm h h' (zss s) ∧ zsup h' s ([], rp, wi, pa, true, la, ru, sa, me, se, ta, fa + nI 1)) := by
  refine zMt.of [some (.ref (s))] (by decide) rfl (Nat.le_of_ble_eq_true rfl) ?_
  obtain ⟨s16, s0, sw, gs, sg⟩ := id hs
  refine zp_aload_n dX8_becomeUnsound_0 rfl ?_
  refine zp_iconst (v := nI (1)) dX8_becomeUnsound_1 (by decide) ?_
  refine zp_put (fs' := [.ref (s + 1), .ref (s + 3), .int (rp), .int (wi), .int (pa), .int (nI (1)), .int (la), .int (ru), .int (sa), .int (me), .int (se), .int (ta), .int (fa)]) dX8_becomeUnsound_2 pX8_35_7 (by omega) s0 (Nat.le_of_ble_eq_true rfl) zfit_1 rfl ?_
  refine zp_nh (fun h1x eh1x => ?_)
  have k1_0 : h1x (s) = some (.inl (7, [.ref (s + 1), .ref (s + 3), .int (rp), .int (wi), .int (pa), .int (nI (1)), .int (la), .int (ru), .int (sa), .int (me), .int (se), .int (ta), .int (fa)])) := by rw [eh1x]; exact va_up_self _ _ _
  refine zp_aload_n dX8_becomeUnsound_5 rfl ?_
  refine zp_dup dX8_becomeUnsound_6 rfl ?_
  refine zp_get dX8_becomeUnsound_7 gX8_57_7 k1_0 rfl ?_
  refine zp_iconst (v := nI (1)) dX8_becomeUnsound_10 (by decide) ?_
  refine zp_iadd dX8_becomeUnsound_11 ?_
  refine zp_put (fs' := [.ref (s + 1), .ref (s + 3), .int (rp), .int (wi), .int (pa), .int (nI (1)), .int (la), .int (ru), .int (sa), .int (me), .int (se), .int (ta), .int ((fa) + (nI (1)))]) dX8_becomeUnsound_12 pX8_57_7 (by omega) k1_0 (Nat.le_of_ble_eq_true rfl) (zfit_i _) rfl ?_
  refine zp_nh (fun h2x eh2x => ?_)
  have k2_0 : h2x (s) = some (.inl (7, [.ref (s + 1), .ref (s + 3), .int (rp), .int (wi), .int (pa), .int (nI (1)), .int (la), .int (ru), .int (sa), .int (me), .int (se), .int (ta), .int ((fa) + (nI (1)))])) := by rw [eh2x]; exact va_up_self _ _ _
  refine zp_aload_n dX8_becomeUnsound_15 rfl ?_
  refine zp_get dX8_becomeUnsound_16 gX8_16_7 k2_0 rfl ?_
  refine zp_pc (pc' := 19) rfl ?_
  have fa1 : zsm h h2x (fun i => i = s) := (((zsm.rf (S := fun i => i = s)).up eh1x rfl).up eh2x rfl)
  have w1 := sw.keep (fa1 _ (by omega)) (fa1 _ (by omega))
  have g1 := sg.keep (fa1 _ (by omega)) (fa1 _ (by omega))
  refine zp_callV (As := []) (k := s + 1) (st := []) (ci := 6) dX8_becomeUnsound_19 cX8_67 rfl w1.2.1 rfl rfl (e_clear (N := 1000) w1) (by decide) (by decide) (Nat.le_of_ble_eq_true rfl) (fun v3 h3 n3 q3 => ?_)
  obtain ⟨rfl, N3, s3, r3⟩ := q3
  rw [N3]
  refine zp_nrm (cells' := 0) (slots' := 0) (st' := []) rfl rfl rfl ?_
  refine zp_ret (v := none) dX8_becomeUnsound_22 ⟨rfl, rfl⟩ (by decide) (by decide) ?_
  exact ⟨rfl, rfl, (fa1.mono (fun i hi => by unfold zss; omega)).trans (s3.mono (fun i hi => by unfold zss; unfold zrs at hi; omega)), s16, (s3 _ (by unfold zrs; omega)).trans k2_0, r3, gs, g1.keep (s3 _ (by unfold zrs; omega)) (s3 _ (by unfold zrs; omega))⟩
set_option maxRecDepth 10000 in
set_option maxHeartbeats 2000000 in
theorem e_beginAnew {g : ZG} {h : ZH} {n : Nat} {s : Nat} {w : List Nat} {rp wi pa : Int32} {un : Bool} {la ru sa me se ta fa : Int32} (hs : zsup h s (w, rp, wi, pa, un, la, ru, sa, me, se, ta, fa)) : zMt g mX8_beginAnew (zR 1 0 0) [.ref (s)] h n (fun v h' n' => v = none ∧ n' = n ∧ zsm h h' (zss s) ∧ zsup h' s ([], rp, wi, pa, false, -1, nI 0, -1, nI 0, nI 0, ta, fa)) := by
  refine zMt.of [some (.ref (s))] (by decide) rfl (Nat.le_of_ble_eq_true rfl) ?_
  obtain ⟨s16, s0, sw, gs, sg⟩ := id hs
  refine zp_aload_n dX8_beginAnew_0 rfl ?_
  refine zp_get dX8_beginAnew_1 gX8_16_7 s0 rfl ?_
  refine zp_pc (pc' := 4) rfl ?_
  refine zp_callV (As := []) (k := s + 1) (st := []) (ci := 6) dX8_beginAnew_4 cX8_67 rfl sw.2.1 rfl rfl (e_clear (N := 1000) sw) (by decide) (by decide) (Nat.le_of_ble_eq_true rfl) (fun v1 h1 n1 q1 => ?_)
  obtain ⟨rfl, N1, s1, r1⟩ := q1
  rw [N1]
  refine zp_nrm (cells' := 0) (slots' := 0) (st' := []) rfl rfl rfl ?_
  have k0 : h1 s = some (.inl (7, [.ref (s + 1), .ref (s + 3), .int (rp), .int (wi), .int (pa), .int (nI (zbi un)), .int (la), .int (ru), .int (sa), .int (me), .int (se), .int (ta), .int (fa)])) := (s1 _ (by unfold zrs; omega)).trans s0
  have g1 := sg.keep (s1 _ (by unfold zrs; omega)) (s1 _ (by unfold zrs; omega))
  refine zp_aload_n dX8_beginAnew_7 rfl ?_
  refine zp_iconst (v := nI (0)) dX8_beginAnew_8 (by decide) ?_
  refine zp_put (fs' := [.ref (s + 1), .ref (s + 3), .int (rp), .int (wi), .int (pa), .int (nI (0)), .int (la), .int (ru), .int (sa), .int (me), .int (se), .int (ta), .int (fa)]) dX8_beginAnew_9 pX8_35_7 (by omega) k0 (Nat.le_of_ble_eq_true rfl) zfit_0 rfl ?_
  refine zp_nh (fun h2x eh2x => ?_)
  have k2_0 : h2x (s) = some (.inl (7, [.ref (s + 1), .ref (s + 3), .int (rp), .int (wi), .int (pa), .int (nI (0)), .int (la), .int (ru), .int (sa), .int (me), .int (se), .int (ta), .int (fa)])) := by rw [eh2x]; exact va_up_self _ _ _
  refine zp_aload_n dX8_beginAnew_12 rfl ?_
  refine zp_iconst (v := (-1)) dX8_beginAnew_13 (by decide) ?_
  refine zp_put (fs' := [.ref (s + 1), .ref (s + 3), .int (rp), .int (wi), .int (pa), .int (nI (0)), .int ((-1)), .int (ru), .int (sa), .int (me), .int (se), .int (ta), .int (fa)]) dX8_beginAnew_14 pX8_39_7 (by omega) k2_0 (Nat.le_of_ble_eq_true rfl) (zfit_i _) rfl ?_
  refine zp_nh (fun h3x eh3x => ?_)
  have k3_0 : h3x (s) = some (.inl (7, [.ref (s + 1), .ref (s + 3), .int (rp), .int (wi), .int (pa), .int (nI (0)), .int ((-1)), .int (ru), .int (sa), .int (me), .int (se), .int (ta), .int (fa)])) := by rw [eh3x]; exact va_up_self _ _ _
  refine zp_aload_n dX8_beginAnew_17 rfl ?_
  refine zp_iconst (v := nI (0)) dX8_beginAnew_18 (by decide) ?_
  refine zp_put (fs' := [.ref (s + 1), .ref (s + 3), .int (rp), .int (wi), .int (pa), .int (nI (0)), .int ((-1)), .int (nI (0)), .int (sa), .int (me), .int (se), .int (ta), .int (fa)]) dX8_beginAnew_19 pX8_42_7 (by omega) k3_0 (Nat.le_of_ble_eq_true rfl) (zfit_i _) rfl ?_
  refine zp_nh (fun h4x eh4x => ?_)
  have k4_0 : h4x (s) = some (.inl (7, [.ref (s + 1), .ref (s + 3), .int (rp), .int (wi), .int (pa), .int (nI (0)), .int ((-1)), .int (nI (0)), .int (sa), .int (me), .int (se), .int (ta), .int (fa)])) := by rw [eh4x]; exact va_up_self _ _ _
  refine zp_aload_n dX8_beginAnew_22 rfl ?_
  refine zp_pc (pc' := 23) rfl ?_
  have fa1 : zsm h1 h4x (fun i => i = s) := ((((zsm.rf (S := fun i => i = s)).up eh2x rfl).up eh3x rfl).up eh4x rfl)
  refine zp_callV (As := []) (k := s) (st := []) (ci := 7) dX8_beginAnew_23 cX8_70 rfl k4_0 rfl rfl (e_forgetSample (un := false) (la := -1) (ru := nI 0) s16 k4_0) (by decide) (by decide) (Nat.le_of_ble_eq_true rfl) (fun v5 h5 n5 q5 => ?_)
  obtain ⟨rfl, N5, s5, o5⟩ := q5
  rw [N5]
  refine zp_nrm (cells' := 0) (slots' := 0) (st' := []) rfl rfl rfl ?_
  have fa2 := fa1.trans s5
  refine zp_ret (v := none) dX8_beginAnew_26 ⟨rfl, rfl⟩ (by decide) (by decide) ?_
  exact ⟨rfl, rfl, (s1.mono (fun i hi => by unfold zss; unfold zrs at hi; omega)).trans (fa2.mono (fun i hi => by unfold zss; omega)), s16, o5, r1.keep (fa2 _ (by omega)) (fa2 _ (by omega)), gs, g1.keep (fa2 _ (by omega)) (fa2 _ (by omega))⟩
set_option maxRecDepth 10000 in
set_option maxHeartbeats 2000000 in
theorem e_set {g : ZG} {h : ZH} {n : Nat} {s : Nat} {w : List Nat} {rp wi pa : Int32} {un : Bool} {la ru sa me se ta fa : Int32} {a1 a2 a3 : Int32} (hs : zsup h s (w, rp, wi, pa, un, la, ru, sa, me, se, ta, fa)) : zMt g mX8_set (zR 2 0 0) [.ref (s), .int (a1), .int (a2), .int (a3)] h n (fun v h' n' => v = some (.int (nI (zbi (ztset (w, rp, wi, pa, un, la, ru, sa, me, se, ta, fa) a1 a2 a3)))) ∧ n' = n ∧ zsm h h' (zss s) ∧ zsup h' s (if ztset (w, rp, wi, pa, un, la, ru, sa, me, se, ta, fa) a1 a2 a3 = true then zsetv (w, rp, wi, pa, un, la, ru, sa, me, se, ta, fa) a1 a2 a3 else (w, rp, wi, pa, un, la, ru, sa, me, se, ta, fa))) := by
  refine zMt.of [some (.ref (s)), some (.int (a1)), some (.int (a2)), some (.int (a3))] (by decide) rfl (Nat.le_of_ble_eq_true rfl) ?_
  obtain ⟨s16, s0, sw, gs, sg⟩ := id hs
  refine zp_iload_n dX8_set_0 rfl ?_
  refine zp_iconst (v := nI (2)) dX8_set_1 (by decide) ?_
  refine zp_pc (pc' := 2) rfl ?_
  refine zp_pc (pc' := 2) rfl ?_
  refine zp_icmp_lt (tgt := 11) dX8_set_2 (by decide) (fun c2 => ?_) (fun c2 => ?_)
  · refine zp_iconst (v := nI (0)) dX8_set_11 (by decide) ?_
    refine zp_pc (pc' := 12) rfl ?_
    have et : ztset (w, rp, wi, pa, un, la, ru, sa, me, se, ta, fa) a1 a2 a3 = false := by rw [ztset, if_pos c2]
    refine zp_i (y := nI (zbi (ztset (w, rp, wi, pa, un, la, ru, sa, me, se, ta, fa) a1 a2 a3))) (by rw [et]; rfl) ?_
    refine zp_ret (v := (some (.int (nI (zbi (ztset (w, rp, wi, pa, un, la, ru, sa, me, se, ta, fa) a1 a2 a3)))))) dX8_set_12 ⟨⟨_, rfl, ((zfit_b (ztset (w, rp, wi, pa, un, la, ru, sa, me, se, ta, fa) a1 a2 a3)) g).1⟩, rfl⟩ (by decide) (by decide) ?_
    exact ⟨rfl, rfl, zsm.rf, by rw [et]; exact hs⟩
  · refine zp_iload_n dX8_set_5 rfl ?_
    refine zp_bipush (v := nI (40)) dX8_set_6 (by decide) ?_
    refine zp_pc (pc' := 8) rfl ?_
    refine zp_icmp_le (tgt := 13) dX8_set_8 (by decide) (fun c8 => ?_) (fun c8 => ?_)
    · refine zp_iload_n dX8_set_13 rfl ?_
      refine zp_bipush (v := nI (16)) dX8_set_14 (by decide) ?_
      refine zp_pc (pc' := 16) rfl ?_
      refine zp_icmp_lt (tgt := 26) dX8_set_16 (by decide) (fun c16 => ?_) (fun c16 => ?_)
      · refine zp_iconst (v := nI (0)) dX8_set_26 (by decide) ?_
        refine zp_pc (pc' := 27) rfl ?_
        have et : ztset (w, rp, wi, pa, un, la, ru, sa, me, se, ta, fa) a1 a2 a3 = false := by rw [ztset, if_neg c2, if_neg (Int32.not_lt.mpr c8), if_pos c16]
        refine zp_i (y := nI (zbi (ztset (w, rp, wi, pa, un, la, ru, sa, me, se, ta, fa) a1 a2 a3))) (by rw [et]; rfl) ?_
        refine zp_ret (v := (some (.int (nI (zbi (ztset (w, rp, wi, pa, un, la, ru, sa, me, se, ta, fa) a1 a2 a3)))))) dX8_set_27 ⟨⟨_, rfl, ((zfit_b (ztset (w, rp, wi, pa, un, la, ru, sa, me, se, ta, fa) a1 a2 a3)) g).1⟩, rfl⟩ (by decide) (by decide) ?_
        exact ⟨rfl, rfl, zsm.rf, by rw [et]; exact hs⟩
      · refine zp_iload_n dX8_set_19 rfl ?_
        refine zp_sipush (v := nI (1024)) dX8_set_20 (by decide) ?_
        refine zp_pc (pc' := 23) rfl ?_
        refine zp_icmp_le (tgt := 28) dX8_set_23 (by decide) (fun c23 => ?_) (fun c23 => ?_)
        · refine zp_iload_n dX8_set_28 rfl ?_
          refine zp_iconst (v := nI (2)) dX8_set_29 (by decide) ?_
          refine zp_pc (pc' := 30) rfl ?_
          refine zp_icmp_lt (tgt := 38) dX8_set_30 (by decide) (fun c30 => ?_) (fun c30 => ?_)
          · refine zp_iconst (v := nI (0)) dX8_set_38 (by decide) ?_
            refine zp_pc (pc' := 39) rfl ?_
            have et : ztset (w, rp, wi, pa, un, la, ru, sa, me, se, ta, fa) a1 a2 a3 = false := by rw [ztset, if_neg c2, if_neg (Int32.not_lt.mpr c8), if_neg c16, if_neg (Int32.not_lt.mpr c23), if_pos c30]
            refine zp_i (y := nI (zbi (ztset (w, rp, wi, pa, un, la, ru, sa, me, se, ta, fa) a1 a2 a3))) (by rw [et]; rfl) ?_
            refine zp_ret (v := (some (.int (nI (zbi (ztset (w, rp, wi, pa, un, la, ru, sa, me, se, ta, fa) a1 a2 a3)))))) dX8_set_39 ⟨⟨_, rfl, ((zfit_b (ztset (w, rp, wi, pa, un, la, ru, sa, me, se, ta, fa) a1 a2 a3)) g).1⟩, rfl⟩ (by decide) (by decide) ?_
            exact ⟨rfl, rfl, zsm.rf, by rw [et]; exact hs⟩
          · refine zp_iload_n dX8_set_33 rfl ?_
            refine zp_iload_n dX8_set_34 rfl ?_
            refine zp_pc (pc' := 35) rfl ?_
            refine zp_icmp_le (tgt := 40) dX8_set_35 (by decide) (fun c35 => ?_) (fun c35 => ?_)
            · have et : ztset (w, rp, wi, pa, un, la, ru, sa, me, se, ta, fa) a1 a2 a3 = true := by rw [ztset, if_neg c2, if_neg (Int32.not_lt.mpr c8), if_neg c16, if_neg (Int32.not_lt.mpr c23), if_neg c30, if_neg (Int32.not_lt.mpr c35)]
              refine zp_aload_n dX8_set_40 rfl ?_
              refine zp_iload_n dX8_set_41 rfl ?_
              refine zp_put (fs' := [.ref (s + 1), .ref (s + 3), .int (a1), .int (wi), .int (pa), .int (nI (zbi un)), .int (la), .int (ru), .int (sa), .int (me), .int (se), .int (ta), .int (fa)]) dX8_set_42 pX8_25_7 (by omega) s0 (Nat.le_of_ble_eq_true rfl) (zfit_i _) rfl ?_
              refine zp_nh (fun h1x eh1x => ?_)
              have k1_0 : h1x (s) = some (.inl (7, [.ref (s + 1), .ref (s + 3), .int (a1), .int (wi), .int (pa), .int (nI (zbi un)), .int (la), .int (ru), .int (sa), .int (me), .int (se), .int (ta), .int (fa)])) := by rw [eh1x]; exact va_up_self _ _ _
              refine zp_aload_n dX8_set_45 rfl ?_
              refine zp_iload_n dX8_set_46 rfl ?_
              refine zp_put (fs' := [.ref (s + 1), .ref (s + 3), .int (a1), .int (a2), .int (pa), .int (nI (zbi un)), .int (la), .int (ru), .int (sa), .int (me), .int (se), .int (ta), .int (fa)]) dX8_set_47 pX8_29_7 (by omega) k1_0 (Nat.le_of_ble_eq_true rfl) (zfit_i _) rfl ?_
              refine zp_nh (fun h2x eh2x => ?_)
              have k2_0 : h2x (s) = some (.inl (7, [.ref (s + 1), .ref (s + 3), .int (a1), .int (a2), .int (pa), .int (nI (zbi un)), .int (la), .int (ru), .int (sa), .int (me), .int (se), .int (ta), .int (fa)])) := by rw [eh2x]; exact va_up_self _ _ _
              refine zp_aload_n dX8_set_50 rfl ?_
              refine zp_iload_n dX8_set_51 rfl ?_
              refine zp_put (fs' := [.ref (s + 1), .ref (s + 3), .int (a1), .int (a2), .int (a3), .int (nI (zbi un)), .int (la), .int (ru), .int (sa), .int (me), .int (se), .int (ta), .int (fa)]) dX8_set_52 pX8_32_7 (by omega) k2_0 (Nat.le_of_ble_eq_true rfl) (zfit_i _) rfl ?_
              refine zp_nh (fun h3x eh3x => ?_)
              have k3_0 : h3x (s) = some (.inl (7, [.ref (s + 1), .ref (s + 3), .int (a1), .int (a2), .int (a3), .int (nI (zbi un)), .int (la), .int (ru), .int (sa), .int (me), .int (se), .int (ta), .int (fa)])) := by rw [eh3x]; exact va_up_self _ _ _
              refine zp_aload_n dX8_set_55 rfl ?_
              refine zp_pc (pc' := 56) rfl ?_
              have fa1 : zsm h h3x (fun i => i = s) := ((((zsm.rf (S := fun i => i = s)).up eh1x rfl).up eh2x rfl).up eh3x rfl)
              have w1 := sw.keep (fa1 _ (by omega)) (fa1 _ (by omega))
              have g1 := sg.keep (fa1 _ (by omega)) (fa1 _ (by omega))
              have hs1 : zsup h3x s (w, a1, a2, a3, un, la, ru, sa, me, se, ta, fa) := ⟨s16, k3_0, w1, gs, g1⟩
              refine zp_callV (As := []) (k := s) (st := []) (ci := 7) dX8_set_56 cX8_64 rfl k3_0 rfl rfl (e_beginAnew hs1) (by decide) (by decide) (Nat.le_of_ble_eq_true rfl) (fun v4 h4 n4 q4 => ?_)
              obtain ⟨rfl, N4, s4, r4⟩ := q4
              rw [N4]
              refine zp_nrm (cells' := 0) (slots' := 0) (st' := []) rfl rfl rfl ?_
              refine zp_iconst (v := nI (1)) dX8_set_59 (by decide) ?_
              refine zp_pc (pc' := 60) rfl ?_
              refine zp_i (y := nI (zbi (ztset (w, rp, wi, pa, un, la, ru, sa, me, se, ta, fa) a1 a2 a3))) (by rw [et]; rfl) ?_
              refine zp_ret (v := (some (.int (nI (zbi (ztset (w, rp, wi, pa, un, la, ru, sa, me, se, ta, fa) a1 a2 a3)))))) dX8_set_60 ⟨⟨_, rfl, ((zfit_b (ztset (w, rp, wi, pa, un, la, ru, sa, me, se, ta, fa) a1 a2 a3)) g).1⟩, rfl⟩ (by decide) (by decide) ?_
              exact ⟨rfl, rfl, (fa1.mono (fun i hi => by unfold zss; omega)).trans s4, by rw [et]; exact r4⟩
            · refine zp_iconst (v := nI (0)) dX8_set_38 (by decide) ?_
              refine zp_pc (pc' := 39) rfl ?_
              have et : ztset (w, rp, wi, pa, un, la, ru, sa, me, se, ta, fa) a1 a2 a3 = false := by rw [ztset, if_neg c2, if_neg (Int32.not_lt.mpr c8), if_neg c16, if_neg (Int32.not_lt.mpr c23), if_neg c30, if_pos (Int32.not_le.mp c35)]
              refine zp_i (y := nI (zbi (ztset (w, rp, wi, pa, un, la, ru, sa, me, se, ta, fa) a1 a2 a3))) (by rw [et]; rfl) ?_
              refine zp_ret (v := (some (.int (nI (zbi (ztset (w, rp, wi, pa, un, la, ru, sa, me, se, ta, fa) a1 a2 a3)))))) dX8_set_39 ⟨⟨_, rfl, ((zfit_b (ztset (w, rp, wi, pa, un, la, ru, sa, me, se, ta, fa) a1 a2 a3)) g).1⟩, rfl⟩ (by decide) (by decide) ?_
              exact ⟨rfl, rfl, zsm.rf, by rw [et]; exact hs⟩
        · refine zp_iconst (v := nI (0)) dX8_set_26 (by decide) ?_
          refine zp_pc (pc' := 27) rfl ?_
          have et : ztset (w, rp, wi, pa, un, la, ru, sa, me, se, ta, fa) a1 a2 a3 = false := by rw [ztset, if_neg c2, if_neg (Int32.not_lt.mpr c8), if_neg c16, if_pos (Int32.not_le.mp c23)]
          refine zp_i (y := nI (zbi (ztset (w, rp, wi, pa, un, la, ru, sa, me, se, ta, fa) a1 a2 a3))) (by rw [et]; rfl) ?_
          refine zp_ret (v := (some (.int (nI (zbi (ztset (w, rp, wi, pa, un, la, ru, sa, me, se, ta, fa) a1 a2 a3)))))) dX8_set_27 ⟨⟨_, rfl, ((zfit_b (ztset (w, rp, wi, pa, un, la, ru, sa, me, se, ta, fa) a1 a2 a3)) g).1⟩, rfl⟩ (by decide) (by decide) ?_
          exact ⟨rfl, rfl, zsm.rf, by rw [et]; exact hs⟩
    · refine zp_iconst (v := nI (0)) dX8_set_11 (by decide) ?_
      refine zp_pc (pc' := 12) rfl ?_
      have et : ztset (w, rp, wi, pa, un, la, ru, sa, me, se, ta, fa) a1 a2 a3 = false := by rw [ztset, if_neg c2, if_pos (Int32.not_le.mp c8)]
      refine zp_i (y := nI (zbi (ztset (w, rp, wi, pa, un, la, ru, sa, me, se, ta, fa) a1 a2 a3))) (by rw [et]; rfl) ?_
      refine zp_ret (v := (some (.int (nI (zbi (ztset (w, rp, wi, pa, un, la, ru, sa, me, se, ta, fa) a1 a2 a3)))))) dX8_set_12 ⟨⟨_, rfl, ((zfit_b (ztset (w, rp, wi, pa, un, la, ru, sa, me, se, ta, fa) a1 a2 a3)) g).1⟩, rfl⟩ (by decide) (by decide) ?_
      exact ⟨rfl, rfl, zsm.rf, by rw [et]; exact hs⟩
set_option maxRecDepth 10000 in
set_option maxHeartbeats 2000000 in
theorem e_give {g : ZG} {h : ZH} {n : Nat} {s : Nat} {w : List Nat} {rp wi pa : Int32} {un : Bool} {la ru sa me se ta fa : Int32} {k : Nat} (hs : zsup h s (w, rp, wi, pa, un, la, ru, sa, me, se, ta, fa)) (hk : k ≤ w.length) (hk48 : k ≤ 48) : zMt g mX8_give (zR 3 0 0) [.ref (s), .int (nI (k))] h n (fun v h' n' => v = some (.ref (s + 3)) ∧ n' = n ∧ zsm h h' (zss s) ∧ zsup h' s (w.drop k, rp, wi, pa, un, la, ru, sa, me, se, ta + nI k, fa) ∧ zrow h' (s + 3) 48 (w.take k)) := by
  refine zMt.of [some (.ref (s)), some (.int (nI (k)))] (by decide) rfl (Nat.le_of_ble_eq_true rfl) ?_
  obtain ⟨s16, s0, sw, gs, sg⟩ := id hs
  have hwl := sw.len
  refine zp_aload_n dX8_give_0 rfl ?_
  refine zp_get dX8_give_1 gX8_22_7 s0 rfl ?_
  refine zp_aload_n dX8_give_4 rfl ?_
  refine zp_get dX8_give_5 gX8_16_7 s0 rfl ?_
  refine zp_iconst (v := nI (0)) dX8_give_8 (by decide) ?_
  refine zp_iload_n dX8_give_9 rfl ?_
  refine zp_pc (pc' := 10) rfl ?_
  have zk : (zpart w 0 k).length = k := by rw [zpart_len]; omega
  refine zp_callV (As := [.ref (s + 1), .int (nI (0)), .int (nI (k))]) (k := s + 3) (st := []) (ci := 6) dX8_give_10 cX8_90 rfl sg.2.1 rfl rfl (e_becomePart (N := 48) (K := 1000) (a := 0) (c := k) sg sw (by omega) (by omega) (by omega)) (by decide) (by decide) (Nat.le_of_ble_eq_true rfl) (fun v1 h1 n1 q1 => ?_)
  obtain ⟨rfl, N1, s1, r1⟩ := q1
  rw [N1]
  refine zp_nrm (cells' := 0) (slots' := 0) (st' := []) rfl rfl rfl ?_
  have y2_0 := sw.keep (s1 _ (by unfold zrs; omega)) (s1 _ (by unfold zrs; omega))
  have y2_1 : h1 (s) = some (.inl (7, [.ref (s + 1), .ref (s + 3), .int (rp), .int (wi), .int (pa), .int (nI (zbi un)), .int (la), .int (ru), .int (sa), .int (me), .int (se), .int (ta), .int (fa)])) := (s1 _ (by unfold zrs; omega)).trans s0
  refine zp_aload_n dX8_give_13 rfl ?_
  refine zp_get dX8_give_14 gX8_16_7 y2_1 rfl ?_
  refine zp_iload_n dX8_give_17 rfl ?_
  refine zp_pc (pc' := 18) rfl ?_
  refine zp_callV (As := [.int (nI (k))]) (k := s + 1) (st := []) (ci := 6) dX8_give_18 cX8_94 rfl y2_0.2.1 rfl rfl (e_dropFirst (N := 1000) (j := k) y2_0 hk) (by decide) (by decide) (Nat.le_of_ble_eq_true rfl) (fun v3 h3 n3 q3 => ?_)
  obtain ⟨rfl, N3, s3, r3⟩ := q3
  rw [N3]
  refine zp_nrm (cells' := 0) (slots' := 0) (st' := []) rfl rfl rfl ?_
  have y4_0 := r1.keep (s3 _ (by unfold zrs; omega)) (s3 _ (by unfold zrs; omega))
  have y4_1 : h3 (s) = some (.inl (7, [.ref (s + 1), .ref (s + 3), .int (rp), .int (wi), .int (pa), .int (nI (zbi un)), .int (la), .int (ru), .int (sa), .int (me), .int (se), .int (ta), .int (fa)])) := (s3 _ (by unfold zrs; omega)).trans y2_1
  refine zp_aload_n dX8_give_21 rfl ?_
  refine zp_dup dX8_give_22 rfl ?_
  refine zp_get dX8_give_23 gX8_54_7 y4_1 rfl ?_
  refine zp_aload_n dX8_give_26 rfl ?_
  refine zp_get dX8_give_27 gX8_22_7 y4_1 rfl ?_
  refine zp_pc (pc' := 30) rfl ?_
  refine zp_callV (As := []) (k := s + 3) (st := [.int (ta), .ref (s)]) (ci := 6) dX8_give_30 cX8_60 rfl y4_0.2.1 rfl rfl (e_length (N := 48) y4_0) (by decide) (by decide) (Nat.le_of_ble_eq_true rfl) (fun v5 h5 n5 q5 => ?_)
  obtain ⟨rfl, H5, N5⟩ := q5
  rw [N5, H5]
  refine zp_nrm (cells' := 0) (slots' := 0) (st' := [.int (nI ((zpart w 0 k).length)), .int (ta), .ref (s)]) rfl rfl rfl ?_
  refine zp_i (y := nI (k)) (by rw [zk]) ?_
  refine zp_iadd dX8_give_33 ?_
  refine zp_put (fs' := [.ref (s + 1), .ref (s + 3), .int (rp), .int (wi), .int (pa), .int (nI (zbi un)), .int (la), .int (ru), .int (sa), .int (me), .int (se), .int ((ta) + (nI (k))), .int (fa)]) dX8_give_34 pX8_54_7 (by omega) y4_1 (Nat.le_of_ble_eq_true rfl) (zfit_i _) rfl ?_
  refine zp_nh (fun h6x eh6x => ?_)
  have k6_0 : h6x (s) = some (.inl (7, [.ref (s + 1), .ref (s + 3), .int (rp), .int (wi), .int (pa), .int (nI (zbi un)), .int (la), .int (ru), .int (sa), .int (me), .int (se), .int ((ta) + (nI (k))), .int (fa)])) := by rw [eh6x]; exact va_up_self _ _ _
  refine zp_aload_n dX8_give_37 rfl ?_
  refine zp_get dX8_give_38 gX8_22_7 k6_0 rfl ?_
  refine zp_pc (pc' := 41) rfl ?_
  have fa1 : zsm h3 h6x (fun i => i = s) := (zsm.rf (S := fun i => i = s)).up eh6x rfl
  have w2 := r3.keep (fa1 _ (by omega)) (fa1 _ (by omega))
  have g2 := y4_0.keep (fa1 _ (by omega)) (fa1 _ (by omega))
  refine zp_ret (v := (some (.ref (s + 3)))) dX8_give_41 ⟨⟨_, rfl⟩, rfl⟩ (by decide) (by decide) ?_
  exact ⟨rfl, rfl, ((s1.mono (fun i hi => by unfold zss; unfold zrs at hi; omega)).trans (s3.mono (fun i hi => by unfold zss; unfold zrs at hi; omega))).trans (fa1.mono (fun i hi => by unfold zss; omega)), ⟨s16, k6_0, w2, _, g2⟩, g2⟩
set_option maxRecDepth 10000 in
set_option maxHeartbeats 2000000 in
theorem e_supLook {g : ZG} {h : ZH} {n : Nat} {s : Nat} {w : List Nat} {rp wi pa : Int32} {un : Bool} {la ru sa me se ta fa : Int32} {x : Int32} (hs : zsup h s (w, rp, wi, pa, un, la, ru, sa, me, se, ta, fa)) : zMt g mX8_look (zR 1 0 0) [.ref (s), .int (x)] h n (fun v h' n' => v = some (.int (zsrc (w, rp, wi, pa, un, la, ru, sa, me, se, ta, fa) x)) ∧ h' = h ∧ n' = n) := by
  refine zMt.of [some (.ref (s)), some (.int (x))] (by decide) rfl (Nat.le_of_ble_eq_true rfl) ?_
  obtain ⟨s16, s0, sw, gs, sg⟩ := id hs
  refine zp_iload_n dX8_look_0 rfl ?_
  refine zp_pc (pc' := 1) rfl ?_
  rcases zsw x 8 (by decide) with ⟨j, hj, rfl⟩ | hx
  · have hj2 : j = 0 ∨ j = 1 ∨ j = 2 ∨ j = 3 ∨ j = 4 ∨ j = 5 ∨ j = 6 ∨ j = 7 := by omega
    rcases hj2 with rfl | rfl | rfl | rfl | rfl | rfl | rfl | rfl
    · refine zp_tabIn (off := 47) (tgt := 48) dX8_look_1 (by decide) (by decide) rfl (by decide) ?_
      refine zp_aload_n dX8_look_48 rfl ?_
      refine zp_get dX8_look_49 gX8_16_7 s0 rfl ?_
      refine zp_pc (pc' := 52) rfl ?_
      refine zp_callV (As := []) (k := s + 1) (st := []) (ci := 6) dX8_look_52 cX8_60 rfl sw.2.1 rfl rfl (e_length (N := 1000) sw) (by decide) (by decide) (Nat.le_of_ble_eq_true rfl) (fun v1 h1 n1 q1 => ?_)
      obtain ⟨rfl, H1, N1⟩ := q1
      rw [N1, H1]
      refine zp_nrm (cells' := 0) (slots' := 0) (st' := [.int (nI (w.length))]) rfl rfl rfl ?_
      refine zp_i (y := zsrc (w, rp, wi, pa, un, la, ru, sa, me, se, ta, fa) (nI 0)) rfl ?_
      refine zp_ret (v := (some (.int (zsrc (w, rp, wi, pa, un, la, ru, sa, me, se, ta, fa) (nI 0))))) dX8_look_55 ⟨⟨_, rfl, rfl⟩, rfl⟩ (by decide) (by decide) ?_
      exact ⟨rfl, rfl, rfl⟩
    · refine zp_tabIn (off := 55) (tgt := 56) dX8_look_1 (by decide) (by decide) rfl (by decide) ?_
      have hu := zbi_lt un
      refine zp_aload_n dX8_look_56 rfl ?_
      refine zp_get dX8_look_57 gX8_35_7 s0 rfl ?_
      refine zp_pc (pc' := 60) rfl ?_
      refine zn_if_eq (tgt := 67) dX8_look_60 (by decide) (by omega) (fun c60 => ?_) (fun c60 => ?_)
      · refine zp_iconst (v := nI (0)) dX8_look_67 (by decide) ?_
        refine zp_pc (pc' := 68) rfl ?_
        refine zp_i (y := zsrc (w, rp, wi, pa, un, la, ru, sa, me, se, ta, fa) (nI 1)) (by show _ = nI (zbi un); rw [c60]) ?_
        refine zp_ret (v := (some (.int (zsrc (w, rp, wi, pa, un, la, ru, sa, me, se, ta, fa) (nI 1))))) dX8_look_68 ⟨⟨_, rfl, rfl⟩, rfl⟩ (by decide) (by decide) ?_
        exact ⟨rfl, rfl, rfl⟩
      · refine zp_iconst (v := nI (1)) dX8_look_63 (by decide) ?_
        refine zp_goto (tgt := 68) dX8_look_64 (by decide) ?_
        refine zp_pc (pc' := 68) rfl ?_
        refine zp_i (y := zsrc (w, rp, wi, pa, un, la, ru, sa, me, se, ta, fa) (nI 1)) (by show _ = nI (zbi un); rw [show zbi un = 1 by omega]) ?_
        refine zp_ret (v := (some (.int (zsrc (w, rp, wi, pa, un, la, ru, sa, me, se, ta, fa) (nI 1))))) dX8_look_68 ⟨⟨_, rfl, rfl⟩, rfl⟩ (by decide) (by decide) ?_
        exact ⟨rfl, rfl, rfl⟩
    · refine zp_tabIn (off := 68) (tgt := 69) dX8_look_1 (by decide) (by decide) rfl (by decide) ?_
      refine zp_aload_n dX8_look_69 rfl ?_
      refine zp_get dX8_look_70 gX8_42_7 s0 rfl ?_
      refine zp_pc (pc' := 73) rfl ?_
      refine zp_i (y := zsrc (w, rp, wi, pa, un, la, ru, sa, me, se, ta, fa) (nI 2)) rfl ?_
      refine zp_ret (v := (some (.int (zsrc (w, rp, wi, pa, un, la, ru, sa, me, se, ta, fa) (nI 2))))) dX8_look_73 ⟨⟨_, rfl, rfl⟩, rfl⟩ (by decide) (by decide) ?_
      exact ⟨rfl, rfl, rfl⟩
    · refine zp_tabIn (off := 73) (tgt := 74) dX8_look_1 (by decide) (by decide) rfl (by decide) ?_
      refine zp_aload_n dX8_look_74 rfl ?_
      refine zp_get dX8_look_75 gX8_45_7 s0 rfl ?_
      refine zp_pc (pc' := 78) rfl ?_
      refine zp_i (y := zsrc (w, rp, wi, pa, un, la, ru, sa, me, se, ta, fa) (nI 3)) rfl ?_
      refine zp_ret (v := (some (.int (zsrc (w, rp, wi, pa, un, la, ru, sa, me, se, ta, fa) (nI 3))))) dX8_look_78 ⟨⟨_, rfl, rfl⟩, rfl⟩ (by decide) (by decide) ?_
      exact ⟨rfl, rfl, rfl⟩
    · refine zp_tabIn (off := 78) (tgt := 79) dX8_look_1 (by decide) (by decide) rfl (by decide) ?_
      refine zp_aload_n dX8_look_79 rfl ?_
      refine zp_get dX8_look_80 gX8_48_7 s0 rfl ?_
      refine zp_pc (pc' := 83) rfl ?_
      refine zp_i (y := zsrc (w, rp, wi, pa, un, la, ru, sa, me, se, ta, fa) (nI 4)) rfl ?_
      refine zp_ret (v := (some (.int (zsrc (w, rp, wi, pa, un, la, ru, sa, me, se, ta, fa) (nI 4))))) dX8_look_83 ⟨⟨_, rfl, rfl⟩, rfl⟩ (by decide) (by decide) ?_
      exact ⟨rfl, rfl, rfl⟩
    · refine zp_tabIn (off := 83) (tgt := 84) dX8_look_1 (by decide) (by decide) rfl (by decide) ?_
      refine zp_aload_n dX8_look_84 rfl ?_
      refine zp_get dX8_look_85 gX8_51_7 s0 rfl ?_
      refine zp_pc (pc' := 88) rfl ?_
      refine zp_i (y := zsrc (w, rp, wi, pa, un, la, ru, sa, me, se, ta, fa) (nI 5)) rfl ?_
      refine zp_ret (v := (some (.int (zsrc (w, rp, wi, pa, un, la, ru, sa, me, se, ta, fa) (nI 5))))) dX8_look_88 ⟨⟨_, rfl, rfl⟩, rfl⟩ (by decide) (by decide) ?_
      exact ⟨rfl, rfl, rfl⟩
    · refine zp_tabIn (off := 88) (tgt := 89) dX8_look_1 (by decide) (by decide) rfl (by decide) ?_
      refine zp_aload_n dX8_look_89 rfl ?_
      refine zp_get dX8_look_90 gX8_54_7 s0 rfl ?_
      refine zp_pc (pc' := 93) rfl ?_
      refine zp_i (y := zsrc (w, rp, wi, pa, un, la, ru, sa, me, se, ta, fa) (nI 6)) rfl ?_
      refine zp_ret (v := (some (.int (zsrc (w, rp, wi, pa, un, la, ru, sa, me, se, ta, fa) (nI 6))))) dX8_look_93 ⟨⟨_, rfl, rfl⟩, rfl⟩ (by decide) (by decide) ?_
      exact ⟨rfl, rfl, rfl⟩
    · refine zp_tabIn (off := 93) (tgt := 94) dX8_look_1 (by decide) (by decide) rfl (by decide) ?_
      refine zp_aload_n dX8_look_94 rfl ?_
      refine zp_get dX8_look_95 gX8_57_7 s0 rfl ?_
      refine zp_pc (pc' := 98) rfl ?_
      refine zp_i (y := zsrc (w, rp, wi, pa, un, la, ru, sa, me, se, ta, fa) (nI 7)) rfl ?_
      refine zp_ret (v := (some (.int (zsrc (w, rp, wi, pa, un, la, ru, sa, me, se, ta, fa) (nI 7))))) dX8_look_98 ⟨⟨_, rfl, rfl⟩, rfl⟩ (by decide) (by decide) ?_
      exact ⟨rfl, rfl, rfl⟩
  · refine zp_tabOut (tgt := 99) dX8_look_1 hx (by decide) ?_
    refine zp_iconst (v := (-1)) dX8_look_99 (by decide) ?_
    refine zp_pc (pc' := 100) rfl ?_
    have zo := fun j hj => zsw_out (k := 8) hx j hj (by decide)
    refine zp_i (y := zsrc (w, rp, wi, pa, un, la, ru, sa, me, se, ta, fa) x) (by rw [zsrc, if_neg (zo 0 (by decide)), if_neg (zo 1 (by decide)), if_neg (zo 2 (by decide)), if_neg (zo 3 (by decide)), if_neg (zo 4 (by decide)), if_neg (zo 5 (by decide)), if_neg (zo 6 (by decide)), if_neg (zo 7 (by decide))]) ?_
    refine zp_ret (v := (some (.int (zsrc (w, rp, wi, pa, un, la, ru, sa, me, se, ta, fa) x)))) dX8_look_100 ⟨⟨_, rfl, rfl⟩, rfl⟩ (by decide) (by decide) ?_
    exact ⟨rfl, rfl, rfl⟩
set_option maxRecDepth 10000 in
set_option maxHeartbeats 2000000 in
theorem e_receive {g : ZG} {h : ZH} {n : Nat} {s r N : Nat} {S : ZSup} {xs : List Nat} (hs : zsup h s S) (hx : zrow h r N xs) (hr : r + 1 < s ∨ s + 4 < r) (hl : S.1.length + xs.length ≤ 1000) : zMt g mX8_receive (zR 2 0 0) [.ref (s), .ref (r)] h n (fun v h' n' => v = none ∧ n' = n ∧ zsm h h' (zss s) ∧ zsup h' s (zrcv S xs)) := by
  refine zMt.of [some (.ref (s)), some (.ref (r)), none, none, none, none] (by decide) rfl (Nat.le_of_ble_eq_true rfl) ?_
  obtain ⟨Qf, hQ⟩ : ∃ Qf : ZQ, Qf = (fun v h' n' => v = none ∧ n' = n ∧ zsm h h' (zss s) ∧ zsup h' s (zrcv S xs)) := ⟨_, rfl⟩
  rw [← hQ]
  have hxl := hx.len
  refine zp_iconst (v := nI (0)) dX8_receive_0 (by decide) ?_
  refine zp_istore_n (ls' := [some (.ref (s)), some (.ref (r)), some (.int (nI (0))), none, none, none]) dX8_receive_1 (by decide) rfl ?_
  refine zp_pc (pc' := 2) rfl ?_
  have lp : ∀ (m : Nat) (k : Nat) (g1 : ZH), m = xs.length - k → k ≤ xs.length → zsm h g1 (zss s) → zsup g1 s (zrcv S (xs.take k)) → zP g mX8_receive (zR 2 0 0) Qf 0 0 2 [some (.ref (s)), some (.ref (r)), some (.int (nI (k))), none, none, none] [] g1 n := by
    intro m
    induction m using Nat.strongRecOn with
    | _ m ih =>
      intro k g1 hm hk f1 hsk
      have y1 := hx.keep (f1 r (by unfold zss; omega)) (f1 (r + 1) (by unfold zss; omega))
      have ln := zrcv_len S (xs.take k)
      rw [List.length_take] at ln
      generalize eS : zrcv S (xs.take k) = T at hsk ln
      obtain ⟨w, rp, wi, pa, un, la, ru, sa, me, se, ta, fa⟩ := T
      have ln2 : w.length ≤ S.1.length + min k xs.length := ln
      obtain ⟨s16, s0, sw, gs, sg⟩ := id hsk
      have hub := zbi_lt un
      refine zp_iload_n dX8_receive_2 rfl ?_
      refine zp_aload_n dX8_receive_3 rfl ?_
      refine zp_pc (pc' := 4) rfl ?_
      refine zp_callV (As := []) (k := r) (st := [.int (nI (k))]) (ci := 6) dX8_receive_4 cX8_60 rfl y1.2.1 rfl rfl (e_length (N := N) y1) (by decide) (by decide) (Nat.le_of_ble_eq_true rfl) (fun v1 h1 n1 q1 => ?_)
      obtain ⟨rfl, H1, N1⟩ := q1
      rw [N1, H1]
      refine zp_nrm (cells' := 0) (slots' := 0) (st' := [.int (nI (xs.length)), .int (nI (k))]) rfl rfl rfl ?_
      refine zn_icmp_ge (tgt := 68) dX8_receive_7 (by decide) (by omega) (by omega) (fun c7 => ?_) (fun c7 => ?_)
      · have ek : xs.take k = xs := List.take_of_length_le (by omega)
        rw [ek] at eS
        refine zp_ret (v := none) dX8_receive_68 ⟨rfl, rfl⟩ (by decide) (by decide) ?_
        rw [hQ]
        exact ⟨rfl, rfl, f1, by rw [eS]; exact hsk⟩
      · refine zp_aload_n dX8_receive_10 rfl ?_
        refine zp_get dX8_receive_11 gX8_35_7 s0 rfl ?_
        refine zp_pc (pc' := 14) rfl ?_
        refine zn_if_ne (tgt := 68) dX8_receive_14 (by decide) (by omega) (fun c14 => ?_) (fun c14 => ?_)
        · have eu : un = true := by cases un; exact absurd rfl c14; rfl
          subst eu
          have e2 : zrcv S xs = zrcv S (xs.take k) := by
            conv => lhs; rw [← List.take_append_drop k xs, zrcv_append]
            exact zrcv_un (by rw [eS]) _
          refine zp_ret (v := none) dX8_receive_68 ⟨rfl, rfl⟩ (by decide) (by decide) ?_
          rw [hQ]
          exact ⟨rfl, rfl, f1, by rw [e2, eS]; exact hsk⟩
        · have eu : un = false := by cases un; rfl; exact absurd c14 (by decide)
          subst eu
          refine zp_aload_n dX8_receive_17 rfl ?_
          refine zp_iload_n dX8_receive_18 rfl ?_
          refine zp_pc (pc' := 19) rfl ?_
          refine zp_callV (As := [.int (nI (k))]) (k := r) (st := []) (ci := 6) dX8_receive_19 cX8_73 rfl y1.2.1 rfl rfl (e_at (N := N) (xs := xs) (k := nI k) y1) (by decide) (by decide) (Nat.le_of_ble_eq_true rfl) (fun v2 h2 n2 q2 => ?_)
          obtain ⟨rfl, H2, N2⟩ := q2
          rw [N2, H2]
          refine zp_nrm (cells' := 0) (slots' := 0) (st' := [.int (zat xs (nI k))]) rfl rfl rfl ?_
          refine zp_i (y := nI (xs.getD k 0)) (zat_nI (by omega) (by omega)) ?_
          refine zp_istore_n (ls' := [some (.ref (s)), some (.ref (r)), some (.int (nI (k))), some (.int (nI (xs.getD k 0))), none, none]) dX8_receive_22 (by decide) rfl ?_
          refine zp_aload_n dX8_receive_23 rfl ?_
          refine zp_iload_n dX8_receive_24 rfl ?_
          refine zp_pc (pc' := 25) rfl ?_
          refine zp_callV (As := [.int (nI (xs.getD k 0))]) (k := s) (st := []) (ci := 7) dX8_receive_25 cX8_77 rfl s0 rfl rfl (e_repeatsTooOften (un := false) (b := nI (xs.getD k 0)) s16 s0) (by decide) (by decide) (Nat.le_of_ble_eq_true rfl) (fun v3 h3 n3 q3 => ?_)
          obtain ⟨rfl, N3, s3, o3⟩ := q3
          rw [N3]
          refine zp_nrm (cells' := 0) (slots' := 0) (st' := [.int (nI (zbi (decide (zrun la ru (nI (xs.getD k 0)) = rp))))]) rfl rfl rfl ?_
          refine zp_istore (ls' := [some (.ref (s)), some (.ref (r)), some (.int (nI (k))), some (.int (nI (xs.getD k 0))), some (.int (nI (zbi (decide (zrun la ru (nI (xs.getD k 0)) = rp))))), none]) dX8_receive_28 (by decide) rfl ?_
          refine zp_aload_n dX8_receive_30 rfl ?_
          refine zp_iload_n dX8_receive_31 rfl ?_
          refine zp_pc (pc' := 32) rfl ?_
          refine zp_callV (As := [.int (nI (xs.getD k 0))]) (k := s) (st := []) (ci := 7) dX8_receive_32 cX8_81 rfl o3 rfl rfl (e_comesTooOften (un := false) (la := nI (xs.getD k 0)) (ru := zrun la ru (nI (xs.getD k 0))) (b := nI (xs.getD k 0)) s16 o3) (by decide) (by decide) (Nat.le_of_ble_eq_true rfl) (fun v4 h4 n4 q4 => ?_)
          obtain ⟨rfl, N4, s4, o4⟩ := q4
          rw [N4]
          refine zp_nrm (cells' := 0) (slots' := 0) (st' := [.int (nI (zbi (zfrq pa sa me (nI (xs.getD k 0)))))]) rfl rfl rfl ?_
          have f2 := s3.trans s4
          have w2 := sw.keep (f2 _ (by omega)) (f2 _ (by omega))
          have g2 := sg.keep (f2 _ (by omega)) (f2 _ (by omega))
          have h2s : zsup h4 s (w, rp, wi, pa, false, nI (xs.getD k 0), zrun la ru (nI (xs.getD k 0)), (zsmp wi sa me se (nI (xs.getD k 0))).1, (zsmp wi sa me se (nI (xs.getD k 0))).2.1, (zsmp wi sa me se (nI (xs.getD k 0))).2.2, ta, fa) := ⟨s16, o4, w2, gs, g2⟩
          have f3 := f1.trans (f2.mono (fun i hi => by unfold zss; omega))
          have stp : zrcv S (xs.take (k + 1)) = zstep (w, rp, wi, pa, false, la, ru, sa, me, se, ta, fa) (nI (xs.getD k 0)) (xs.getD k 0) := by
            have hk2 : k < xs.length := by omega
            have e1 : xs.take (k + 1) = xs.take k ++ [xs.getD k 0] := by rw [List.take_succ, List.getD_eq_getElem?_getD, List.getElem?_eq_getElem hk2]; rfl
            rw [e1, zrcv_append, eS]
            rfl
          have hd1 := zbi_lt (decide (zrun la ru (nI (xs.getD k 0)) = rp))
          have hd2 := zbi_lt (zfrq pa sa me (nI (xs.getD k 0)))
          refine zp_istore (ls' := [some (.ref (s)), some (.ref (r)), some (.int (nI (k))), some (.int (nI (xs.getD k 0))), some (.int (nI (zbi (decide (zrun la ru (nI (xs.getD k 0)) = rp))))), some (.int (nI (zbi (zfrq pa sa me (nI (xs.getD k 0))))))]) dX8_receive_35 (by decide) rfl ?_
          refine zp_iload dX8_receive_37 rfl ?_
          refine zp_pc (pc' := 39) rfl ?_
          refine zn_if_ne (tgt := 47) dX8_receive_39 (by decide) (by omega) (fun c39 => ?_) (fun c39 => ?_)
          · have c1 : zrun la ru (nI (xs.getD k 0)) = rp := by
              by_cases q : zrun la ru (nI (xs.getD k 0)) = rp
              · exact q
              · rw [decide_eq_false q] at c39; exact absurd rfl c39
            refine zp_aload_n dX8_receive_47 rfl ?_
            refine zp_pc (pc' := 48) rfl ?_
            refine zp_callV (As := []) (k := s) (st := []) (ci := 7) dX8_receive_48 cX8_84 rfl o4 rfl rfl (e_becomeUnsound h2s) (by decide) (by decide) (Nat.le_of_ble_eq_true rfl) (fun v5 h5 n5 q5 => ?_)
            obtain ⟨rfl, N5, s5, r5⟩ := q5
            rw [N5]
            refine zp_nrm (cells' := 0) (slots' := 0) (st' := []) rfl rfl rfl ?_
            have st2 : zrcv S (xs.take (k + 1)) = ([], rp, wi, pa, true, nI (xs.getD k 0), zrun la ru (nI (xs.getD k 0)), (zsmp wi sa me se (nI (xs.getD k 0))).1, (zsmp wi sa me se (nI (xs.getD k 0))).2.1, (zsmp wi sa me se (nI (xs.getD k 0))).2.2, ta, fa + nI 1) := by rw [stp, zstep, if_pos (Or.inl c1)]
            refine zp_goto (tgt := 62) dX8_receive_51 (by decide) ?_
            refine zn_iinc 1 (ls' := [some (.ref (s)), some (.ref (r)), some (.int (nI (k + 1))), some (.int (nI (xs.getD k 0))), some (.int (nI (zbi (decide (zrun la ru (nI (xs.getD k 0)) = rp))))), some (.int (nI (zbi (zfrq pa sa me (nI (xs.getD k 0))))))]) dX8_receive_62 (by decide) (by decide) rfl rfl ?_
            refine zp_pc (pc' := 65) rfl ?_
            refine zp_goto (tgt := 2) dX8_receive_65 (by decide) ?_
            refine zp_pc (pc' := 2) rfl ?_
            refine zp_drop (ls' := [some (.ref (s)), some (.ref (r)), some (.int (nI (k + 1))), none, none, none]) (fun i v hv => ?_) ?_
            · rcases i with _ | _ | _ | _ | _ | _ | i <;> simp at hv ⊢ <;> exact hv
            exact ih (xs.length - (k + 1)) (by omega) (k + 1) h5 rfl (by omega) (f3.trans s5) (by rw [st2]; exact r5)
          · refine zp_iload dX8_receive_42 rfl ?_
            refine zp_pc (pc' := 44) rfl ?_
            refine zn_if_eq (tgt := 54) dX8_receive_44 (by decide) (by omega) (fun c44 => ?_) (fun c44 => ?_)
            · refine zp_aload_n dX8_receive_54 rfl ?_
              refine zp_get dX8_receive_55 gX8_16_7 o4 rfl ?_
              refine zp_iload_n dX8_receive_58 rfl ?_
              refine zp_pc (pc' := 59) rfl ?_
              have hb := zget_lt hx.bytes (by decide) k
              refine zp_callV (As := [.int (nI (xs.getD k 0))]) (k := s + 1) (st := []) (ci := 6) dX8_receive_59 cX8_87 rfl w2.2.1 rfl rfl (e_append (N := 1000) (b := nI (xs.getD k 0)) w2 (by omega)) (by decide) (by decide) (Nat.le_of_ble_eq_true rfl) (fun v6 h6 n6 q6 => ?_)
              obtain ⟨rfl, N6, s6, r6⟩ := q6
              rw [N6]
              refine zp_nrm (cells' := 0) (slots' := 0) (st' := []) rfl rfl rfl ?_
              rw [znI_nat (by omega), Nat.mod_eq_of_lt hb] at r6
              have st2 : zrcv S (xs.take (k + 1)) = (w ++ [xs.getD k 0], rp, wi, pa, false, nI (xs.getD k 0), zrun la ru (nI (xs.getD k 0)), (zsmp wi sa me se (nI (xs.getD k 0))).1, (zsmp wi sa me se (nI (xs.getD k 0))).2.1, (zsmp wi sa me se (nI (xs.getD k 0))).2.2, ta, fa) := by
                rw [stp, zstep, if_neg]
                rintro (q | q)
                · rw [decide_eq_true q] at c39; exact absurd c39 (by decide)
                · rw [q] at c44; exact absurd c44 (by decide)
              have h3s : zsup h6 s (w ++ [xs.getD k 0], rp, wi, pa, false, nI (xs.getD k 0), zrun la ru (nI (xs.getD k 0)), (zsmp wi sa me se (nI (xs.getD k 0))).1, (zsmp wi sa me se (nI (xs.getD k 0))).2.1, (zsmp wi sa me se (nI (xs.getD k 0))).2.2, ta, fa) := ⟨s16, (s6 _ (by unfold zrs; omega)).trans o4, r6, gs, g2.keep (s6 _ (by unfold zrs; omega)) (s6 _ (by unfold zrs; omega))⟩
              refine zn_iinc 1 (ls' := [some (.ref (s)), some (.ref (r)), some (.int (nI (k + 1))), some (.int (nI (xs.getD k 0))), some (.int (nI (zbi (decide (zrun la ru (nI (xs.getD k 0)) = rp))))), some (.int (nI (zbi (zfrq pa sa me (nI (xs.getD k 0))))))]) dX8_receive_62 (by decide) (by decide) rfl rfl ?_
              refine zp_pc (pc' := 65) rfl ?_
              refine zp_goto (tgt := 2) dX8_receive_65 (by decide) ?_
              refine zp_pc (pc' := 2) rfl ?_
              refine zp_drop (ls' := [some (.ref (s)), some (.ref (r)), some (.int (nI (k + 1))), none, none, none]) (fun i v hv => ?_) ?_
              · rcases i with _ | _ | _ | _ | _ | _ | i <;> simp at hv ⊢ <;> exact hv
              exact ih (xs.length - (k + 1)) (by omega) (k + 1) h6 rfl (by omega) (f3.trans (s6.mono (fun i hi => by unfold zss; unfold zrs at hi; omega))) (by rw [st2]; exact h3s)
            · have c1 : zfrq pa sa me (nI (xs.getD k 0)) = true := by
                cases q : zfrq pa sa me (nI (xs.getD k 0))
                · rw [q] at c44; exact absurd rfl c44
                · rfl
              refine zp_aload_n dX8_receive_47 rfl ?_
              refine zp_pc (pc' := 48) rfl ?_
              refine zp_callV (As := []) (k := s) (st := []) (ci := 7) dX8_receive_48 cX8_84 rfl o4 rfl rfl (e_becomeUnsound h2s) (by decide) (by decide) (Nat.le_of_ble_eq_true rfl) (fun v7 h7 n7 q7 => ?_)
              obtain ⟨rfl, N7, s7, r7⟩ := q7
              rw [N7]
              refine zp_nrm (cells' := 0) (slots' := 0) (st' := []) rfl rfl rfl ?_
              have st2 : zrcv S (xs.take (k + 1)) = ([], rp, wi, pa, true, nI (xs.getD k 0), zrun la ru (nI (xs.getD k 0)), (zsmp wi sa me se (nI (xs.getD k 0))).1, (zsmp wi sa me se (nI (xs.getD k 0))).2.1, (zsmp wi sa me se (nI (xs.getD k 0))).2.2, ta, fa + nI 1) := by rw [stp, zstep, if_pos (Or.inr c1)]
              refine zp_goto (tgt := 62) dX8_receive_51 (by decide) ?_
              refine zn_iinc 1 (ls' := [some (.ref (s)), some (.ref (r)), some (.int (nI (k + 1))), some (.int (nI (xs.getD k 0))), some (.int (nI (zbi (decide (zrun la ru (nI (xs.getD k 0)) = rp))))), some (.int (nI (zbi (zfrq pa sa me (nI (xs.getD k 0))))))]) dX8_receive_62 (by decide) (by decide) rfl rfl ?_
              refine zp_pc (pc' := 65) rfl ?_
              refine zp_goto (tgt := 2) dX8_receive_65 (by decide) ?_
              refine zp_pc (pc' := 2) rfl ?_
              refine zp_drop (ls' := [some (.ref (s)), some (.ref (r)), some (.int (nI (k + 1))), none, none, none]) (fun i v hv => ?_) ?_
              · rcases i with _ | _ | _ | _ | _ | _ | i <;> simp at hv ⊢ <;> exact hv
              exact ih (xs.length - (k + 1)) (by omega) (k + 1) h7 rfl (by omega) (f3.trans s7) (by rw [st2]; exact r7)
  exact lp _ 0 h rfl (Nat.zero_le _) zsm.rf (by rw [List.take_zero]; exact hs)
