set_option maxRecDepth 10000 in
set_option maxHeartbeats 2000000 in
theorem e_isUnsound {g : ZG} {h : ZH} {n : Nat} {s : Nat} {w : List Nat} {rp wi pa : Int32} {un : Bool} {la ru sa me se ta fa : Int32} (hs : zsup h s (w, rp, wi, pa, un, la, ru, sa, me, se, ta, fa)) : zMt g mX8_isUnsound (zR 0 0 0) [.ref (s)] h n (fun v h' n' => v = some (.int (nI (zbi un))) ∧ h' = h ∧ n' = n) := by
  refine zMt.of [some (.ref (s))] (by decide) rfl (Nat.le_of_ble_eq_true rfl) ?_
  obtain ⟨s16, s0, sw, gs, sg⟩ := id hs
  refine zp_aload_n dX8_isUnsound_0 rfl ?_
  refine zp_get dX8_isUnsound_1 gX8_35_7 s0 rfl ?_
  refine zp_pc (pc' := 4) rfl ?_
  refine zp_ret (v := (some (.int (nI (zbi un))))) dX8_isUnsound_4 ⟨⟨_, rfl, ((zfit_b un) g).1⟩, rfl⟩ (by decide) (by decide) ?_
  exact ⟨rfl, rfl, rfl⟩
set_option maxRecDepth 10000 in
set_option maxHeartbeats 2000000 in
theorem e_waiting {g : ZG} {h : ZH} {n : Nat} {s : Nat} {w : List Nat} {rp wi pa : Int32} {un : Bool} {la ru sa me se ta fa : Int32} (hs : zsup h s (w, rp, wi, pa, un, la, ru, sa, me, se, ta, fa)) : zMt g mX8_waiting (zR 1 0 0) [.ref (s)] h n (fun v h' n' => v = some (.int (nI w.length)) ∧ h' = h ∧ n' = n) := by
  refine zMt.of [some (.ref (s))] (by decide) rfl (Nat.le_of_ble_eq_true rfl) ?_
  obtain ⟨s16, s0, sw, gs, sg⟩ := id hs
  refine zp_aload_n dX8_waiting_0 rfl ?_
  refine zp_get dX8_waiting_1 gX8_16_7 s0 rfl ?_
  refine zp_pc (pc' := 4) rfl ?_
  refine zp_callV (As := []) (k := s + 1) (st := []) (ci := 6) dX8_waiting_4 cX8_60 rfl sw.2.1 rfl rfl (e_length (N := 1000) sw) (by decide) (by decide) (Nat.le_of_ble_eq_true rfl) (fun v1 h1 n1 q1 => ?_)
  obtain ⟨rfl, H1, N1⟩ := q1
  rw [N1, H1]
  refine zp_nrm (cells' := 0) (slots' := 0) (st' := [.int (nI (w.length))]) rfl rfl rfl ?_
  refine zp_ret (v := (some (.int (nI (w.length))))) dX8_waiting_7 ⟨⟨_, rfl, rfl⟩, rfl⟩ (by decide) (by decide) ?_
  exact ⟨rfl, rfl, rfl⟩
set_option maxRecDepth 10000 in
set_option maxHeartbeats 2000000 in
theorem e_forgetSample {g : ZG} {h : ZH} {n : Nat} {s : Nat} {rp wi pa : Int32} {un : Bool} {la ru sa me se ta fa : Int32} (s16 : 16 ≤ s) (s0 : h s = some (.inl (7, [.ref (s + 1), .ref (s + 3), .int (rp), .int (wi), .int (pa), .int (nI (zbi un)), .int (la), .int (ru), .int (sa), .int (me), .int (se), .int (ta), .int (fa)]))) : zMt g mX8_forgetSample (zR 0 0 0) [.ref (s)] h n (fun v h' n' => v = none ∧ n' = n ∧ zsm h h' (fun i => i = s) ∧ h' s = some (.inl (7, [.ref (s + 1), .ref (s + 3), .int (rp), .int (wi), .int (pa), .int (nI (zbi un)), .int (la), .int (ru), .int (-1), .int (nI (0)), .int (nI (0)), .int (ta), .int (fa)]))) := by
  refine zMt.of [some (.ref (s))] (by decide) rfl (Nat.le_of_ble_eq_true rfl) ?_
  refine zp_aload_n dX8_forgetSample_0 rfl ?_
  refine zp_iconst (v := (-1)) dX8_forgetSample_1 (by decide) ?_
  refine zp_put (fs' := [.ref (s + 1), .ref (s + 3), .int (rp), .int (wi), .int (pa), .int (nI (zbi un)), .int (la), .int (ru), .int ((-1)), .int (me), .int (se), .int (ta), .int (fa)]) dX8_forgetSample_2 pX8_45_7 (by omega) s0 (Nat.le_of_ble_eq_true rfl) (zfit_i _) rfl ?_
  refine zp_nh (fun h1x eh1x => ?_)
  have k1_0 : h1x (s) = some (.inl (7, [.ref (s + 1), .ref (s + 3), .int (rp), .int (wi), .int (pa), .int (nI (zbi un)), .int (la), .int (ru), .int ((-1)), .int (me), .int (se), .int (ta), .int (fa)])) := by rw [eh1x]; exact va_up_self _ _ _
  refine zp_aload_n dX8_forgetSample_5 rfl ?_
  refine zp_iconst (v := nI (0)) dX8_forgetSample_6 (by decide) ?_
  refine zp_put (fs' := [.ref (s + 1), .ref (s + 3), .int (rp), .int (wi), .int (pa), .int (nI (zbi un)), .int (la), .int (ru), .int ((-1)), .int (nI (0)), .int (se), .int (ta), .int (fa)]) dX8_forgetSample_7 pX8_48_7 (by omega) k1_0 (Nat.le_of_ble_eq_true rfl) (zfit_i _) rfl ?_
  refine zp_nh (fun h2x eh2x => ?_)
  have k2_0 : h2x (s) = some (.inl (7, [.ref (s + 1), .ref (s + 3), .int (rp), .int (wi), .int (pa), .int (nI (zbi un)), .int (la), .int (ru), .int ((-1)), .int (nI (0)), .int (se), .int (ta), .int (fa)])) := by rw [eh2x]; exact va_up_self _ _ _
  refine zp_aload_n dX8_forgetSample_10 rfl ?_
  refine zp_iconst (v := nI (0)) dX8_forgetSample_11 (by decide) ?_
  refine zp_put (fs' := [.ref (s + 1), .ref (s + 3), .int (rp), .int (wi), .int (pa), .int (nI (zbi un)), .int (la), .int (ru), .int ((-1)), .int (nI (0)), .int (nI (0)), .int (ta), .int (fa)]) dX8_forgetSample_12 pX8_51_7 (by omega) k2_0 (Nat.le_of_ble_eq_true rfl) (zfit_i _) rfl ?_
  refine zp_nh (fun h3x eh3x => ?_)
  have k3_0 : h3x (s) = some (.inl (7, [.ref (s + 1), .ref (s + 3), .int (rp), .int (wi), .int (pa), .int (nI (zbi un)), .int (la), .int (ru), .int ((-1)), .int (nI (0)), .int (nI (0)), .int (ta), .int (fa)])) := by rw [eh3x]; exact va_up_self _ _ _
  refine zp_pc (pc' := 15) rfl ?_
  refine zp_ret (v := none) dX8_forgetSample_15 ⟨rfl, rfl⟩ (by decide) (by decide) ?_
  exact ⟨rfl, rfl, ((((zsm.rf (S := fun i => i = s)).up eh1x rfl).up eh2x rfl).up eh3x rfl), k3_0⟩
set_option maxRecDepth 10000 in
set_option maxHeartbeats 2000000 in
theorem e_repeatsTooOften {g : ZG} {h : ZH} {n : Nat} {s : Nat} {rp wi pa : Int32} {un : Bool} {la ru sa me se ta fa : Int32} {b : Int32} (s16 : 16 ≤ s) (s0 : h s = some (.inl (7, [.ref (s + 1), .ref (s + 3), .int (rp), .int (wi), .int (pa), .int (nI (zbi un)), .int (la), .int (ru), .int (sa), .int (me), .int (se), .int (ta), .int (fa)]))) : zMt g mX8_repeatsTooOften (zR 0 0 0) [.ref (s), .int (b)] h n (fun v h' n' => v = some (.int (nI (zbi (decide (zrun la ru b = rp))))) ∧ n' = n ∧ zsm h h' (fun i => i = s) ∧ h' s = some (.inl (7, [.ref (s + 1), .ref (s + 3), .int (rp), .int (wi), .int (pa), .int (nI (zbi un)), .int (b), .int (zrun la ru b), .int (sa), .int (me), .int (se), .int (ta), .int (fa)]))) := by
  refine zMt.of [some (.ref (s)), some (.int (b))] (by decide) rfl (Nat.le_of_ble_eq_true rfl) ?_
  refine zp_aload_n dX8_repeatsTooOften_0 rfl ?_
  refine zp_iload_n dX8_repeatsTooOften_1 rfl ?_
  refine zp_aload_n dX8_repeatsTooOften_2 rfl ?_
  refine zp_get dX8_repeatsTooOften_3 gX8_39_7 s0 rfl ?_
  refine zp_pc (pc' := 6) rfl ?_
  refine zp_icmp_ne (tgt := 18) dX8_repeatsTooOften_6 (by decide) (fun c6 => ?_) (fun c6 => ?_)
  · refine zp_iconst (v := nI (1)) dX8_repeatsTooOften_18 (by decide) ?_
    refine zp_pc (pc' := 19) rfl ?_
    refine zp_i (y := zrun la ru b) (by rw [zrun, if_neg c6]) ?_
    refine zp_put (fs' := [.ref (s + 1), .ref (s + 3), .int (rp), .int (wi), .int (pa), .int (nI (zbi un)), .int (la), .int (zrun la ru b), .int (sa), .int (me), .int (se), .int (ta), .int (fa)]) dX8_repeatsTooOften_19 pX8_42_7 (by omega) s0 (Nat.le_of_ble_eq_true rfl) (zfit_i _) rfl ?_
    refine zp_nh (fun h1x eh1x => ?_)
    have k1_0 : h1x (s) = some (.inl (7, [.ref (s + 1), .ref (s + 3), .int (rp), .int (wi), .int (pa), .int (nI (zbi un)), .int (la), .int (zrun la ru b), .int (sa), .int (me), .int (se), .int (ta), .int (fa)])) := by rw [eh1x]; exact va_up_self _ _ _
    refine zp_aload_n dX8_repeatsTooOften_22 rfl ?_
    refine zp_iload_n dX8_repeatsTooOften_23 rfl ?_
    refine zp_put (fs' := [.ref (s + 1), .ref (s + 3), .int (rp), .int (wi), .int (pa), .int (nI (zbi un)), .int (b), .int (zrun la ru b), .int (sa), .int (me), .int (se), .int (ta), .int (fa)]) dX8_repeatsTooOften_24 pX8_39_7 (by omega) k1_0 (Nat.le_of_ble_eq_true rfl) (zfit_i _) rfl ?_
    refine zp_nh (fun h2x eh2x => ?_)
    have k2_0 : h2x (s) = some (.inl (7, [.ref (s + 1), .ref (s + 3), .int (rp), .int (wi), .int (pa), .int (nI (zbi un)), .int (b), .int (zrun la ru b), .int (sa), .int (me), .int (se), .int (ta), .int (fa)])) := by rw [eh2x]; exact va_up_self _ _ _
    refine zp_aload_n dX8_repeatsTooOften_27 rfl ?_
    refine zp_get dX8_repeatsTooOften_28 gX8_42_7 k2_0 rfl ?_
    refine zp_aload_n dX8_repeatsTooOften_31 rfl ?_
    refine zp_get dX8_repeatsTooOften_32 gX8_25_7 k2_0 rfl ?_
    refine zp_pc (pc' := 35) rfl ?_
    refine zp_icmp_ne (tgt := 42) dX8_repeatsTooOften_35 (by decide) (fun c35 => ?_) (fun c35 => ?_)
    · refine zp_iconst (v := nI (0)) dX8_repeatsTooOften_42 (by decide) ?_
      refine zp_pc (pc' := 43) rfl ?_
      refine zp_i (y := nI (zbi (decide (zrun la ru b = rp)))) (by rw [decide_eq_false c35]; rfl) ?_
      refine zp_ret (v := (some (.int (nI (zbi (decide (zrun la ru b = rp))))))) dX8_repeatsTooOften_43 ⟨⟨_, rfl, ((zfit_b (decide (zrun la ru b = rp))) g).1⟩, rfl⟩ (by decide) (by decide) ?_
      exact ⟨rfl, rfl, ((zsm.rf (S := fun i => i = s)).up eh1x rfl).up eh2x rfl, k2_0⟩
    · refine zp_iconst (v := nI (1)) dX8_repeatsTooOften_38 (by decide) ?_
      refine zp_goto (tgt := 43) dX8_repeatsTooOften_39 (by decide) ?_
      refine zp_pc (pc' := 43) rfl ?_
      refine zp_i (y := nI (zbi (decide (zrun la ru b = rp)))) (by rw [decide_eq_true c35]; rfl) ?_
      refine zp_ret (v := (some (.int (nI (zbi (decide (zrun la ru b = rp))))))) dX8_repeatsTooOften_43 ⟨⟨_, rfl, ((zfit_b (decide (zrun la ru b = rp))) g).1⟩, rfl⟩ (by decide) (by decide) ?_
      exact ⟨rfl, rfl, ((zsm.rf (S := fun i => i = s)).up eh1x rfl).up eh2x rfl, k2_0⟩
  · refine zp_aload_n dX8_repeatsTooOften_9 rfl ?_
    refine zp_get dX8_repeatsTooOften_10 gX8_42_7 s0 rfl ?_
    refine zp_iconst (v := nI (1)) dX8_repeatsTooOften_13 (by decide) ?_
    refine zp_iadd dX8_repeatsTooOften_14 ?_
    refine zp_goto (tgt := 19) dX8_repeatsTooOften_15 (by decide) ?_
    refine zp_pc (pc' := 19) rfl ?_
    refine zp_i (y := zrun la ru b) (by rw [zrun, if_pos c6]) ?_
    refine zp_put (fs' := [.ref (s + 1), .ref (s + 3), .int (rp), .int (wi), .int (pa), .int (nI (zbi un)), .int (la), .int (zrun la ru b), .int (sa), .int (me), .int (se), .int (ta), .int (fa)]) dX8_repeatsTooOften_19 pX8_42_7 (by omega) s0 (Nat.le_of_ble_eq_true rfl) (zfit_i _) rfl ?_
    refine zp_nh (fun h3x eh3x => ?_)
    have k3_0 : h3x (s) = some (.inl (7, [.ref (s + 1), .ref (s + 3), .int (rp), .int (wi), .int (pa), .int (nI (zbi un)), .int (la), .int (zrun la ru b), .int (sa), .int (me), .int (se), .int (ta), .int (fa)])) := by rw [eh3x]; exact va_up_self _ _ _
    refine zp_aload_n dX8_repeatsTooOften_22 rfl ?_
    refine zp_iload_n dX8_repeatsTooOften_23 rfl ?_
    refine zp_put (fs' := [.ref (s + 1), .ref (s + 3), .int (rp), .int (wi), .int (pa), .int (nI (zbi un)), .int (b), .int (zrun la ru b), .int (sa), .int (me), .int (se), .int (ta), .int (fa)]) dX8_repeatsTooOften_24 pX8_39_7 (by omega) k3_0 (Nat.le_of_ble_eq_true rfl) (zfit_i _) rfl ?_
    refine zp_nh (fun h4x eh4x => ?_)
    have k4_0 : h4x (s) = some (.inl (7, [.ref (s + 1), .ref (s + 3), .int (rp), .int (wi), .int (pa), .int (nI (zbi un)), .int (b), .int (zrun la ru b), .int (sa), .int (me), .int (se), .int (ta), .int (fa)])) := by rw [eh4x]; exact va_up_self _ _ _
    refine zp_aload_n dX8_repeatsTooOften_27 rfl ?_
    refine zp_get dX8_repeatsTooOften_28 gX8_42_7 k4_0 rfl ?_
    refine zp_aload_n dX8_repeatsTooOften_31 rfl ?_
    refine zp_get dX8_repeatsTooOften_32 gX8_25_7 k4_0 rfl ?_
    refine zp_pc (pc' := 35) rfl ?_
    refine zp_icmp_ne (tgt := 42) dX8_repeatsTooOften_35 (by decide) (fun c35 => ?_) (fun c35 => ?_)
    · refine zp_iconst (v := nI (0)) dX8_repeatsTooOften_42 (by decide) ?_
      refine zp_pc (pc' := 43) rfl ?_
      refine zp_i (y := nI (zbi (decide (zrun la ru b = rp)))) (by rw [decide_eq_false c35]; rfl) ?_
      refine zp_ret (v := (some (.int (nI (zbi (decide (zrun la ru b = rp))))))) dX8_repeatsTooOften_43 ⟨⟨_, rfl, ((zfit_b (decide (zrun la ru b = rp))) g).1⟩, rfl⟩ (by decide) (by decide) ?_
      exact ⟨rfl, rfl, ((zsm.rf (S := fun i => i = s)).up eh3x rfl).up eh4x rfl, k4_0⟩
    · refine zp_iconst (v := nI (1)) dX8_repeatsTooOften_38 (by decide) ?_
      refine zp_goto (tgt := 43) dX8_repeatsTooOften_39 (by decide) ?_
      refine zp_pc (pc' := 43) rfl ?_
      refine zp_i (y := nI (zbi (decide (zrun la ru b = rp)))) (by rw [decide_eq_true c35]; rfl) ?_
      refine zp_ret (v := (some (.int (nI (zbi (decide (zrun la ru b = rp))))))) dX8_repeatsTooOften_43 ⟨⟨_, rfl, ((zfit_b (decide (zrun la ru b = rp))) g).1⟩, rfl⟩ (by decide) (by decide) ?_
      exact ⟨rfl, rfl, ((zsm.rf (S := fun i => i = s)).up eh3x rfl).up eh4x rfl, k4_0⟩
set_option maxRecDepth 10000 in
set_option maxHeartbeats 2000000 in
theorem e_comesTooOften {g : ZG} {h : ZH} {n : Nat} {s : Nat} {rp wi pa : Int32} {un : Bool} {la ru sa me se ta fa : Int32} {b : Int32} (s16 : 16 ≤ s) (s0 : h s = some (.inl (7, [.ref (s + 1), .ref (s + 3), .int (rp), .int (wi), .int (pa), .int (nI (zbi un)), .int (la), .int (ru), .int (sa), .int (me), .int (se), .int (ta), .int (fa)]))) : zMt g mX8_comesTooOften (zR 1 0 0) [.ref (s), .int (b)] h n (fun v h' n' => v = some (.int (nI (zbi (zfrq pa sa me b)))) ∧ n' = n ∧ zsm h h' (fun i => i = s) ∧ h' s = some (.inl (7, [.ref (s + 1), .ref (s + 3), .int (rp), .int (wi), .int (pa), .int (nI (zbi un)), .int (la), .int (ru), .int ((zsmp wi sa me se b).1), .int ((zsmp wi sa me se b).2.1), .int ((zsmp wi sa me se b).2.2), .int (ta), .int (fa)]))) := by
  refine zMt.of [some (.ref (s)), some (.int (b)), none] (by decide) rfl (Nat.le_of_ble_eq_true rfl) ?_
  refine zp_aload_n dX8_comesTooOften_0 rfl ?_
  refine zp_get dX8_comesTooOften_1 gX8_45_7 s0 rfl ?_
  refine zp_iconst (v := (-1)) dX8_comesTooOften_4 (by decide) ?_
  refine zp_pc (pc' := 5) rfl ?_
  refine zp_icmp_ne (tgt := 25) dX8_comesTooOften_5 (by decide) (fun c5 => ?_) (fun c5 => ?_)
  · refine zp_iconst (v := nI (0)) dX8_comesTooOften_25 (by decide) ?_
    refine zp_istore_n (ls' := [some (.ref (s)), some (.int (b)), some (.int (nI (0)))]) dX8_comesTooOften_26 (by decide) rfl ?_
    refine zp_iload_n dX8_comesTooOften_27 rfl ?_
    refine zp_aload_n dX8_comesTooOften_28 rfl ?_
    refine zp_get dX8_comesTooOften_29 gX8_45_7 s0 rfl ?_
    refine zp_pc (pc' := 32) rfl ?_
    refine zp_icmp_ne (tgt := 62) dX8_comesTooOften_32 (by decide) (fun c32 => ?_) (fun c32 => ?_)
    · refine zp_pc (pc' := 62) rfl ?_
      refine zp_aload_n dX8_comesTooOften_62 rfl ?_
      refine zp_dup dX8_comesTooOften_63 rfl ?_
      refine zp_get dX8_comesTooOften_64 gX8_51_7 s0 rfl ?_
      refine zp_iconst (v := nI (1)) dX8_comesTooOften_67 (by decide) ?_
      refine zp_iadd dX8_comesTooOften_68 ?_
      refine zp_put (fs' := [.ref (s + 1), .ref (s + 3), .int (rp), .int (wi), .int (pa), .int (nI (zbi un)), .int (la), .int (ru), .int (sa), .int (me), .int ((se) + (nI (1))), .int (ta), .int (fa)]) dX8_comesTooOften_69 pX8_51_7 (by omega) s0 (Nat.le_of_ble_eq_true rfl) (zfit_i _) rfl ?_
      refine zp_nh (fun h1x eh1x => ?_)
      have k1_0 : h1x (s) = some (.inl (7, [.ref (s + 1), .ref (s + 3), .int (rp), .int (wi), .int (pa), .int (nI (zbi un)), .int (la), .int (ru), .int (sa), .int (me), .int ((se) + (nI (1))), .int (ta), .int (fa)])) := by rw [eh1x]; exact va_up_self _ _ _
      refine zp_aload_n dX8_comesTooOften_72 rfl ?_
      refine zp_get dX8_comesTooOften_73 gX8_51_7 k1_0 rfl ?_
      refine zp_aload_n dX8_comesTooOften_76 rfl ?_
      refine zp_get dX8_comesTooOften_77 gX8_29_7 k1_0 rfl ?_
      refine zp_pc (pc' := 80) rfl ?_
      refine zp_icmp_ne (tgt := 87) dX8_comesTooOften_80 (by decide) (fun c80 => ?_) (fun c80 => ?_)
      · refine zp_iload_n dX8_comesTooOften_87 rfl ?_
        refine zp_pc (pc' := 88) rfl ?_
        have ef : zfrq pa sa me b = false := (by rw [zfrq, if_neg c5, if_neg c32])
        have es : zsmp wi sa me se b = (sa, me, se + nI 1) := (by rw [zsmp, if_neg c5, if_neg c80, if_neg c32])
        refine zp_i (y := nI (zbi (zfrq pa sa me b))) (by rw [ef]; rfl) ?_
        refine zp_ret (v := (some (.int (nI (zbi (zfrq pa sa me b)))))) dX8_comesTooOften_88 ⟨⟨_, rfl, ((zfit_b (zfrq pa sa me b)) g).1⟩, rfl⟩ (by decide) (by decide) ?_
        exact ⟨rfl, rfl, ((zsm.rf (S := fun i => i = s)).up eh1x rfl), by rw [es]; exact k1_0⟩
      · refine zp_aload_n dX8_comesTooOften_83 rfl ?_
        refine zp_pc (pc' := 84) rfl ?_
        refine zp_callV (As := []) (k := s) (st := []) (ci := 7) dX8_comesTooOften_84 cX8_70 rfl k1_0 rfl rfl (e_forgetSample (me := me) (se := se + nI 1) s16 k1_0) (by decide) (by decide) (Nat.le_of_ble_eq_true rfl) (fun v2 h2 n2 q2 => ?_)
        obtain ⟨rfl, N2, s2, o2⟩ := q2
        rw [N2]
        refine zp_nrm (cells' := 0) (slots' := 0) (st' := []) rfl rfl rfl ?_
        refine zp_iload_n dX8_comesTooOften_87 rfl ?_
        refine zp_pc (pc' := 88) rfl ?_
        have ef : zfrq pa sa me b = false := (by rw [zfrq, if_neg c5, if_neg c32])
        have es : zsmp wi sa me se b = (-1, nI 0, nI 0) := (by rw [zsmp, if_neg c5, if_pos c80])
        refine zp_i (y := nI (zbi (zfrq pa sa me b))) (by rw [ef]; rfl) ?_
        refine zp_ret (v := (some (.int (nI (zbi (zfrq pa sa me b)))))) dX8_comesTooOften_88 ⟨⟨_, rfl, ((zfit_b (zfrq pa sa me b)) g).1⟩, rfl⟩ (by decide) (by decide) ?_
        exact ⟨rfl, rfl, (((zsm.rf (S := fun i => i = s)).up eh1x rfl).trans s2), by rw [es]; exact o2⟩
    · refine zp_aload_n dX8_comesTooOften_35 rfl ?_
      refine zp_dup dX8_comesTooOften_36 rfl ?_
      refine zp_get dX8_comesTooOften_37 gX8_48_7 s0 rfl ?_
      refine zp_iconst (v := nI (1)) dX8_comesTooOften_40 (by decide) ?_
      refine zp_iadd dX8_comesTooOften_41 ?_
      refine zp_put (fs' := [.ref (s + 1), .ref (s + 3), .int (rp), .int (wi), .int (pa), .int (nI (zbi un)), .int (la), .int (ru), .int (sa), .int ((me) + (nI (1))), .int (se), .int (ta), .int (fa)]) dX8_comesTooOften_42 pX8_48_7 (by omega) s0 (Nat.le_of_ble_eq_true rfl) (zfit_i _) rfl ?_
      refine zp_nh (fun h3x eh3x => ?_)
      have k3_0 : h3x (s) = some (.inl (7, [.ref (s + 1), .ref (s + 3), .int (rp), .int (wi), .int (pa), .int (nI (zbi un)), .int (la), .int (ru), .int (sa), .int ((me) + (nI (1))), .int (se), .int (ta), .int (fa)])) := by rw [eh3x]; exact va_up_self _ _ _
      refine zp_aload_n dX8_comesTooOften_45 rfl ?_
      refine zp_get dX8_comesTooOften_46 gX8_48_7 k3_0 rfl ?_
      refine zp_aload_n dX8_comesTooOften_49 rfl ?_
      refine zp_get dX8_comesTooOften_50 gX8_32_7 k3_0 rfl ?_
      refine zp_pc (pc' := 53) rfl ?_
      refine zp_icmp_ne (tgt := 60) dX8_comesTooOften_53 (by decide) (fun c53 => ?_) (fun c53 => ?_)
      · refine zp_iconst (v := nI (0)) dX8_comesTooOften_60 (by decide) ?_
        refine zp_istore_n (ls' := [some (.ref (s)), some (.int (b)), some (.int (nI (0)))]) dX8_comesTooOften_61 (by decide) rfl ?_
        refine zp_pc (pc' := 62) rfl ?_
        refine zp_aload_n dX8_comesTooOften_62 rfl ?_
        refine zp_dup dX8_comesTooOften_63 rfl ?_
        refine zp_get dX8_comesTooOften_64 gX8_51_7 k3_0 rfl ?_
        refine zp_iconst (v := nI (1)) dX8_comesTooOften_67 (by decide) ?_
        refine zp_iadd dX8_comesTooOften_68 ?_
        refine zp_put (fs' := [.ref (s + 1), .ref (s + 3), .int (rp), .int (wi), .int (pa), .int (nI (zbi un)), .int (la), .int (ru), .int (sa), .int ((me) + (nI (1))), .int ((se) + (nI (1))), .int (ta), .int (fa)]) dX8_comesTooOften_69 pX8_51_7 (by omega) k3_0 (Nat.le_of_ble_eq_true rfl) (zfit_i _) rfl ?_
        refine zp_nh (fun h4x eh4x => ?_)
        have k4_0 : h4x (s) = some (.inl (7, [.ref (s + 1), .ref (s + 3), .int (rp), .int (wi), .int (pa), .int (nI (zbi un)), .int (la), .int (ru), .int (sa), .int ((me) + (nI (1))), .int ((se) + (nI (1))), .int (ta), .int (fa)])) := by rw [eh4x]; exact va_up_self _ _ _
        refine zp_aload_n dX8_comesTooOften_72 rfl ?_
        refine zp_get dX8_comesTooOften_73 gX8_51_7 k4_0 rfl ?_
        refine zp_aload_n dX8_comesTooOften_76 rfl ?_
        refine zp_get dX8_comesTooOften_77 gX8_29_7 k4_0 rfl ?_
        refine zp_pc (pc' := 80) rfl ?_
        refine zp_icmp_ne (tgt := 87) dX8_comesTooOften_80 (by decide) (fun c80 => ?_) (fun c80 => ?_)
        · refine zp_iload_n dX8_comesTooOften_87 rfl ?_
          refine zp_pc (pc' := 88) rfl ?_
          have ef : zfrq pa sa me b = false := (by rw [zfrq, if_neg c5, if_pos c32, if_neg c53])
          have es : zsmp wi sa me se b = (sa, me + nI 1, se + nI 1) := (by rw [zsmp, if_neg c5, if_neg c80, if_pos c32])
          refine zp_i (y := nI (zbi (zfrq pa sa me b))) (by rw [ef]; rfl) ?_
          refine zp_ret (v := (some (.int (nI (zbi (zfrq pa sa me b)))))) dX8_comesTooOften_88 ⟨⟨_, rfl, ((zfit_b (zfrq pa sa me b)) g).1⟩, rfl⟩ (by decide) (by decide) ?_
          exact ⟨rfl, rfl, (((zsm.rf (S := fun i => i = s)).up eh3x rfl).up eh4x rfl), by rw [es]; exact k4_0⟩
        · refine zp_aload_n dX8_comesTooOften_83 rfl ?_
          refine zp_pc (pc' := 84) rfl ?_
          refine zp_callV (As := []) (k := s) (st := []) (ci := 7) dX8_comesTooOften_84 cX8_70 rfl k4_0 rfl rfl (e_forgetSample (me := me + nI 1) (se := se + nI 1) s16 k4_0) (by decide) (by decide) (Nat.le_of_ble_eq_true rfl) (fun v5 h5 n5 q5 => ?_)
          obtain ⟨rfl, N5, s5, o5⟩ := q5
          rw [N5]
          refine zp_nrm (cells' := 0) (slots' := 0) (st' := []) rfl rfl rfl ?_
          refine zp_iload_n dX8_comesTooOften_87 rfl ?_
          refine zp_pc (pc' := 88) rfl ?_
          have ef : zfrq pa sa me b = false := (by rw [zfrq, if_neg c5, if_pos c32, if_neg c53])
          have es : zsmp wi sa me se b = (-1, nI 0, nI 0) := (by rw [zsmp, if_neg c5, if_pos c80])
          refine zp_i (y := nI (zbi (zfrq pa sa me b))) (by rw [ef]; rfl) ?_
          refine zp_ret (v := (some (.int (nI (zbi (zfrq pa sa me b)))))) dX8_comesTooOften_88 ⟨⟨_, rfl, ((zfit_b (zfrq pa sa me b)) g).1⟩, rfl⟩ (by decide) (by decide) ?_
          exact ⟨rfl, rfl, ((((zsm.rf (S := fun i => i = s)).up eh3x rfl).up eh4x rfl).trans s5), by rw [es]; exact o5⟩
      · refine zp_iconst (v := nI (1)) dX8_comesTooOften_56 (by decide) ?_
        refine zp_goto (tgt := 61) dX8_comesTooOften_57 (by decide) ?_
        refine zp_istore_n (ls' := [some (.ref (s)), some (.int (b)), some (.int (nI (1)))]) dX8_comesTooOften_61 (by decide) rfl ?_
        refine zp_pc (pc' := 62) rfl ?_
        refine zp_aload_n dX8_comesTooOften_62 rfl ?_
        refine zp_dup dX8_comesTooOften_63 rfl ?_
        refine zp_get dX8_comesTooOften_64 gX8_51_7 k3_0 rfl ?_
        refine zp_iconst (v := nI (1)) dX8_comesTooOften_67 (by decide) ?_
        refine zp_iadd dX8_comesTooOften_68 ?_
        refine zp_put (fs' := [.ref (s + 1), .ref (s + 3), .int (rp), .int (wi), .int (pa), .int (nI (zbi un)), .int (la), .int (ru), .int (sa), .int ((me) + (nI (1))), .int ((se) + (nI (1))), .int (ta), .int (fa)]) dX8_comesTooOften_69 pX8_51_7 (by omega) k3_0 (Nat.le_of_ble_eq_true rfl) (zfit_i _) rfl ?_
        refine zp_nh (fun h6x eh6x => ?_)
        have k6_0 : h6x (s) = some (.inl (7, [.ref (s + 1), .ref (s + 3), .int (rp), .int (wi), .int (pa), .int (nI (zbi un)), .int (la), .int (ru), .int (sa), .int ((me) + (nI (1))), .int ((se) + (nI (1))), .int (ta), .int (fa)])) := by rw [eh6x]; exact va_up_self _ _ _
        refine zp_aload_n dX8_comesTooOften_72 rfl ?_
        refine zp_get dX8_comesTooOften_73 gX8_51_7 k6_0 rfl ?_
        refine zp_aload_n dX8_comesTooOften_76 rfl ?_
        refine zp_get dX8_comesTooOften_77 gX8_29_7 k6_0 rfl ?_
        refine zp_pc (pc' := 80) rfl ?_
        refine zp_icmp_ne (tgt := 87) dX8_comesTooOften_80 (by decide) (fun c80 => ?_) (fun c80 => ?_)
        · refine zp_iload_n dX8_comesTooOften_87 rfl ?_
          refine zp_pc (pc' := 88) rfl ?_
          have ef : zfrq pa sa me b = true := (by rw [zfrq, if_neg c5, if_pos c32, if_pos c53])
          have es : zsmp wi sa me se b = (sa, me + nI 1, se + nI 1) := (by rw [zsmp, if_neg c5, if_neg c80, if_pos c32])
          refine zp_i (y := nI (zbi (zfrq pa sa me b))) (by rw [ef]; rfl) ?_
          refine zp_ret (v := (some (.int (nI (zbi (zfrq pa sa me b)))))) dX8_comesTooOften_88 ⟨⟨_, rfl, ((zfit_b (zfrq pa sa me b)) g).1⟩, rfl⟩ (by decide) (by decide) ?_
          exact ⟨rfl, rfl, (((zsm.rf (S := fun i => i = s)).up eh3x rfl).up eh6x rfl), by rw [es]; exact k6_0⟩
        · refine zp_aload_n dX8_comesTooOften_83 rfl ?_
          refine zp_pc (pc' := 84) rfl ?_
          refine zp_callV (As := []) (k := s) (st := []) (ci := 7) dX8_comesTooOften_84 cX8_70 rfl k6_0 rfl rfl (e_forgetSample (me := me + nI 1) (se := se + nI 1) s16 k6_0) (by decide) (by decide) (Nat.le_of_ble_eq_true rfl) (fun v7 h7 n7 q7 => ?_)
          obtain ⟨rfl, N7, s7, o7⟩ := q7
          rw [N7]
          refine zp_nrm (cells' := 0) (slots' := 0) (st' := []) rfl rfl rfl ?_
          refine zp_iload_n dX8_comesTooOften_87 rfl ?_
          refine zp_pc (pc' := 88) rfl ?_
          have ef : zfrq pa sa me b = true := (by rw [zfrq, if_neg c5, if_pos c32, if_pos c53])
          have es : zsmp wi sa me se b = (-1, nI 0, nI 0) := (by rw [zsmp, if_neg c5, if_pos c80])
          refine zp_i (y := nI (zbi (zfrq pa sa me b))) (by rw [ef]; rfl) ?_
          refine zp_ret (v := (some (.int (nI (zbi (zfrq pa sa me b)))))) dX8_comesTooOften_88 ⟨⟨_, rfl, ((zfit_b (zfrq pa sa me b)) g).1⟩, rfl⟩ (by decide) (by decide) ?_
          exact ⟨rfl, rfl, ((((zsm.rf (S := fun i => i = s)).up eh3x rfl).up eh6x rfl).trans s7), by rw [es]; exact o7⟩
  · refine zp_aload_n dX8_comesTooOften_8 rfl ?_
    refine zp_iload_n dX8_comesTooOften_9 rfl ?_
    refine zp_put (fs' := [.ref (s + 1), .ref (s + 3), .int (rp), .int (wi), .int (pa), .int (nI (zbi un)), .int (la), .int (ru), .int (b), .int (me), .int (se), .int (ta), .int (fa)]) dX8_comesTooOften_10 pX8_45_7 (by omega) s0 (Nat.le_of_ble_eq_true rfl) (zfit_i _) rfl ?_
    refine zp_nh (fun h8x eh8x => ?_)
    have k8_0 : h8x (s) = some (.inl (7, [.ref (s + 1), .ref (s + 3), .int (rp), .int (wi), .int (pa), .int (nI (zbi un)), .int (la), .int (ru), .int (b), .int (me), .int (se), .int (ta), .int (fa)])) := by rw [eh8x]; exact va_up_self _ _ _
    refine zp_aload_n dX8_comesTooOften_13 rfl ?_
    refine zp_iconst (v := nI (1)) dX8_comesTooOften_14 (by decide) ?_
    refine zp_put (fs' := [.ref (s + 1), .ref (s + 3), .int (rp), .int (wi), .int (pa), .int (nI (zbi un)), .int (la), .int (ru), .int (b), .int (nI (1)), .int (se), .int (ta), .int (fa)]) dX8_comesTooOften_15 pX8_48_7 (by omega) k8_0 (Nat.le_of_ble_eq_true rfl) (zfit_i _) rfl ?_
    refine zp_nh (fun h9x eh9x => ?_)
    have k9_0 : h9x (s) = some (.inl (7, [.ref (s + 1), .ref (s + 3), .int (rp), .int (wi), .int (pa), .int (nI (zbi un)), .int (la), .int (ru), .int (b), .int (nI (1)), .int (se), .int (ta), .int (fa)])) := by rw [eh9x]; exact va_up_self _ _ _
    refine zp_aload_n dX8_comesTooOften_18 rfl ?_
    refine zp_iconst (v := nI (1)) dX8_comesTooOften_19 (by decide) ?_
    refine zp_put (fs' := [.ref (s + 1), .ref (s + 3), .int (rp), .int (wi), .int (pa), .int (nI (zbi un)), .int (la), .int (ru), .int (b), .int (nI (1)), .int (nI (1)), .int (ta), .int (fa)]) dX8_comesTooOften_20 pX8_51_7 (by omega) k9_0 (Nat.le_of_ble_eq_true rfl) (zfit_i _) rfl ?_
    refine zp_nh (fun h10x eh10x => ?_)
    have k10_0 : h10x (s) = some (.inl (7, [.ref (s + 1), .ref (s + 3), .int (rp), .int (wi), .int (pa), .int (nI (zbi un)), .int (la), .int (ru), .int (b), .int (nI (1)), .int (nI (1)), .int (ta), .int (fa)])) := by rw [eh10x]; exact va_up_self _ _ _
    refine zp_iconst (v := nI (0)) dX8_comesTooOften_23 (by decide) ?_
    refine zp_pc (pc' := 24) rfl ?_
    have ef : zfrq pa sa me b = false := (by rw [zfrq, if_pos c5])
    have es : zsmp wi sa me se b = (b, nI 1, nI 1) := (by rw [zsmp, if_pos c5])
    refine zp_i (y := nI (zbi (zfrq pa sa me b))) (by rw [ef]; rfl) ?_
    refine zp_ret (v := (some (.int (nI (zbi (zfrq pa sa me b)))))) dX8_comesTooOften_24 ⟨⟨_, rfl, ((zfit_b (zfrq pa sa me b)) g).1⟩, rfl⟩ (by decide) (by decide) ?_
    exact ⟨rfl, rfl, ((((zsm.rf (S := fun i => i = s)).up eh8x rfl).up eh9x rfl).up eh10x rfl), by rw [es]; exact k10_0⟩
