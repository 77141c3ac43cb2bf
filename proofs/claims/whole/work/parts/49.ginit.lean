set_option maxRecDepth 10000 in
set_option maxHeartbeats 2000000 in
theorem e_ginit4 {g : ZG} {h : ZH} {n : Nat} {a kd st : Nat} {rs : Bool} {iv : Nat} (hn : n = a + 1) (ha : 64 ≤ a) (hk : kd < 8) (ht : ztab h) (o : h a = some (.inl (4, [.int (0), .int (0), .int (0), .null, .null, .null, .int (0), .int (0), .int (0), .int (0), .int (0), .null]))) : zMt g mX5_init (zR 2 4 226) [.ref (a), .int (nI (kd)), .int (nI (st)), .int (nI (zbi rs)), .int (nI (iv)), .ref (26)] h n (fun v h' n' => v = none ∧ n' = a + 5 ∧ zsm h h' (zbt a (a + 4)) ∧ h' a = some (.inl (4, [.int (nI (st)), .int (nI (zbi rs)), .int (nI (zsd kd)), .ref (a + 1), .ref (a + 3), .ref (26), .int (nI (kd)), .int (nI (iv)), .int (nI (0)), .int (nI 0), .int (nI (0)), .null])) ∧ zrow h' (a + 1) (zvN kd) [] ∧ zrow h' (a + 3) (zcN kd) []) := by
  refine zMt.of [some (.ref (a)), some (.int (nI (kd))), some (.int (nI (st))), some (.int (nI (zbi rs))), some (.int (nI (iv))), some (.ref (26)), none] (by decide) rfl (Nat.le_of_ble_eq_true rfl) ?_
  obtain ⟨Qf, hQ⟩ : ∃ Qf : ZQ, Qf = (fun v h' n' => v = none ∧ n' = a + 5 ∧ zsm h h' (zbt a (a + 4)) ∧ h' a = some (.inl (4, [.int (nI (st)), .int (nI (zbi rs)), .int (nI (zsd kd)), .ref (a + 1), .ref (a + 3), .ref (26), .int (nI (kd)), .int (nI (iv)), .int (nI (0)), .int (nI 0), .int (nI (0)), .null])) ∧ zrow h' (a + 1) (zvN kd) [] ∧ zrow h' (a + 3) (zcN kd) []) := ⟨_, rfl⟩
  rw [← hQ]
  subst hn
  have l1 := zsd_le hk
  refine zp_aload_n dX5_init_0 rfl ?_
  refine zp_pc (pc' := 1) rfl ?_
  refine zp_objInit dX5_init_1 cX5_3 ⟨Nat.le_of_ble_eq_true rfl, Nat.le_of_ble_eq_true rfl⟩ (Nat.le_of_ble_eq_true rfl) ?_
  refine zp_pc (pc' := 4) rfl ?_
  refine zp_aload_n dX5_init_4 rfl ?_
  refine zp_iconst (v := nI (0)) dX5_init_5 (by decide) ?_
  refine zp_put (fs' := [.int (0), .int (0), .int (0), .null, .null, .null, .int (0), .int (0), .int (nI (0)), .int (0), .int (0), .null]) dX5_init_6 pX5_9_4 (by omega) o (Nat.le_of_ble_eq_true rfl) (zfit_i _) rfl ?_
  refine zp_nh (fun h1x eh1x => ?_)
  have k1_0 : h1x (a) = some (.inl (4, [.int (0), .int (0), .int (0), .null, .null, .null, .int (0), .int (0), .int (nI (0)), .int (0), .int (0), .null])) := by rw [eh1x]; exact va_up_self _ _ _
  have sw2 : zsm h h1x (zon (a)) := zsm.rf.up eh1x rfl
  have y3_0 := ht.sm sw2 (fun i hi => by unfold zon at hi; omega)
  refine zp_aload_n dX5_init_9 rfl ?_
  refine zp_iconst (v := nI (0)) dX5_init_10 (by decide) ?_
  refine zp_put (fs' := [.int (0), .int (0), .int (0), .null, .null, .null, .int (0), .int (0), .int (nI (0)), .int (nI (0)), .int (0), .null]) dX5_init_11 pX5_15_4 (by omega) k1_0 (Nat.le_of_ble_eq_true rfl) (zfit_i _) rfl ?_
  refine zp_nh (fun h4x eh4x => ?_)
  have k4_0 : h4x (a) = some (.inl (4, [.int (0), .int (0), .int (0), .null, .null, .null, .int (0), .int (0), .int (nI (0)), .int (nI (0)), .int (0), .null])) := by rw [eh4x]; exact va_up_self _ _ _
  have sw5 : zsm h1x h4x (zon (a)) := zsm.rf.up eh4x rfl
  have y6_0 := y3_0.sm sw5 (fun i hi => by unfold zon at hi; omega)
  refine zp_aload_n dX5_init_14 rfl ?_
  refine zp_iconst (v := nI (0)) dX5_init_15 (by decide) ?_
  refine zp_put (fs' := [.int (0), .int (0), .int (0), .null, .null, .null, .int (0), .int (0), .int (nI (0)), .int (nI (0)), .int (nI (0)), .null]) dX5_init_16 pX5_18_4 (by omega) k4_0 (Nat.le_of_ble_eq_true rfl) (zfit_i _) rfl ?_
  refine zp_nh (fun h7x eh7x => ?_)
  have k7_0 : h7x (a) = some (.inl (4, [.int (0), .int (0), .int (0), .null, .null, .null, .int (0), .int (0), .int (nI (0)), .int (nI (0)), .int (nI (0)), .null])) := by rw [eh7x]; exact va_up_self _ _ _
  have sw8 : zsm h4x h7x (zon (a)) := zsm.rf.up eh7x rfl
  have y9_0 := y6_0.sm sw8 (fun i hi => by unfold zon at hi; omega)
  refine zp_aload_n dX5_init_19 rfl ?_
  refine zp_iload_n dX5_init_20 rfl ?_
  refine zp_putF (fs' := [.int (0), .int (0), .int (0), .null, .null, .null, .int (nI (kd)), .int (0), .int (nI (0)), .int (nI (0)), .int (nI (0)), .null]) dX5_init_21 pX5_21_4 rfl (by omega) k7_0 (Nat.le_of_ble_eq_true rfl) (zfit_i _) rfl ?_
  refine zp_nh (fun h10x eh10x => ?_)
  have k10_0 : h10x (a) = some (.inl (4, [.int (0), .int (0), .int (0), .null, .null, .null, .int (nI (kd)), .int (0), .int (nI (0)), .int (nI (0)), .int (nI (0)), .null])) := by rw [eh10x]; exact va_up_self _ _ _
  have sw11 : zsm h7x h10x (zon (a)) := zsm.rf.up eh10x rfl
  have y12_0 := y9_0.sm sw11 (fun i hi => by unfold zon at hi; omega)
  refine zp_pc (pc' := 24) rfl ?_
  refine zp_aload_n dX5_init_24 rfl ?_
  refine zp_iload_n dX5_init_25 rfl ?_
  refine zp_putF (fs' := [.int (nI (st)), .int (0), .int (0), .null, .null, .null, .int (nI (kd)), .int (0), .int (nI (0)), .int (nI (0)), .int (nI (0)), .null]) dX5_init_26 pX5_24_4 rfl (by omega) k10_0 (Nat.le_of_ble_eq_true rfl) (zfit_i _) rfl ?_
  refine zp_nh (fun h13x eh13x => ?_)
  have k13_0 : h13x (a) = some (.inl (4, [.int (nI (st)), .int (0), .int (0), .null, .null, .null, .int (nI (kd)), .int (0), .int (nI (0)), .int (nI (0)), .int (nI (0)), .null])) := by rw [eh13x]; exact va_up_self _ _ _
  have sw14 : zsm h10x h13x (zon (a)) := zsm.rf.up eh13x rfl
  have y15_0 := y12_0.sm sw14 (fun i hi => by unfold zon at hi; omega)
  refine zp_aload_n dX5_init_29 rfl ?_
  refine zp_iload_n dX5_init_30 rfl ?_
  refine zp_putF (fs' := [.int (nI (st)), .int (nI (zbi rs)), .int (0), .null, .null, .null, .int (nI (kd)), .int (0), .int (nI (0)), .int (nI (0)), .int (nI (0)), .null]) dX5_init_31 pX5_27_4 rfl (by omega) k13_0 (Nat.le_of_ble_eq_true rfl) (zfit_b rs) rfl ?_
  refine zp_nh (fun h16x eh16x => ?_)
  have k16_0 : h16x (a) = some (.inl (4, [.int (nI (st)), .int (nI (zbi rs)), .int (0), .null, .null, .null, .int (nI (kd)), .int (0), .int (nI (0)), .int (nI (0)), .int (nI (0)), .null])) := by rw [eh16x]; exact va_up_self _ _ _
  have sw17 : zsm h13x h16x (zon (a)) := zsm.rf.up eh16x rfl
  have y18_0 := y15_0.sm sw17 (fun i hi => by unfold zon at hi; omega)
  refine zp_aload_n dX5_init_34 rfl ?_
  refine zp_iload dX5_init_35 rfl ?_
  refine zp_putF (fs' := [.int (nI (st)), .int (nI (zbi rs)), .int (0), .null, .null, .null, .int (nI (kd)), .int (nI (iv)), .int (nI (0)), .int (nI (0)), .int (nI (0)), .null]) dX5_init_37 pX5_31_4 rfl (by omega) k16_0 (Nat.le_of_ble_eq_true rfl) (zfit_i _) rfl ?_
  refine zp_nh (fun h19x eh19x => ?_)
  have k19_0 : h19x (a) = some (.inl (4, [.int (nI (st)), .int (nI (zbi rs)), .int (0), .null, .null, .null, .int (nI (kd)), .int (nI (iv)), .int (nI (0)), .int (nI (0)), .int (nI (0)), .null])) := by rw [eh19x]; exact va_up_self _ _ _
  have sw20 : zsm h16x h19x (zon (a)) := zsm.rf.up eh19x rfl
  have y21_0 := y18_0.sm sw20 (fun i hi => by unfold zon at hi; omega)
  refine zp_aload_n dX5_init_40 rfl ?_
  refine zp_aload dX5_init_41 rfl ?_
  refine zp_putF (fs' := [.int (nI (st)), .int (nI (zbi rs)), .int (0), .null, .null, .ref (26), .int (nI (kd)), .int (nI (iv)), .int (nI (0)), .int (nI (0)), .int (nI (0)), .null]) dX5_init_43 pX5_34_4 rfl (by omega) k19_0 (Nat.le_of_ble_eq_true rfl) (zfit_r _ _) rfl ?_
  refine zp_nh (fun h22x eh22x => ?_)
  have k22_0 : h22x (a) = some (.inl (4, [.int (nI (st)), .int (nI (zbi rs)), .int (0), .null, .null, .ref (26), .int (nI (kd)), .int (nI (iv)), .int (nI (0)), .int (nI (0)), .int (nI (0)), .null])) := by rw [eh22x]; exact va_up_self _ _ _
  have sw23 : zsm h19x h22x (zon (a)) := zsm.rf.up eh22x rfl
  have y24_0 := y21_0.sm sw23 (fun i hi => by unfold zon at hi; omega)
  refine zp_pc (pc' := 46) rfl ?_
  refine zp_aload_n dX5_init_46 rfl ?_
  refine zp_iload_n dX5_init_47 rfl ?_
  refine zp_pc (pc' := 48) rfl ?_
  refine zp_callS (As := [.int (nI (kd))]) (st := [.ref (a)]) dX5_init_48 cX5_38 rfl (e_seedLengthOf y24_0 hk) (by decide) (by decide) (Nat.le_of_ble_eq_true rfl) (fun v25 h25 n25 q25 => ?_)
  obtain ⟨rfl, H25, N25⟩ := q25
  rw [N25, H25]
  refine zp_nrm (cells' := 0) (slots' := 0) (st' := [.int (nI (zsd kd)), .ref (a)]) rfl rfl rfl ?_
  refine zp_nn (cells' := 0) (slots' := 0) (n' := a + 1) (st' := [.int (nI (zsd kd)), .ref (a)]) rfl rfl rfl rfl ?_
  refine zp_putF (fs' := [.int (nI (st)), .int (nI (zbi rs)), .int (nI (zsd kd)), .null, .null, .ref (26), .int (nI (kd)), .int (nI (iv)), .int (nI (0)), .int (nI (0)), .int (nI (0)), .null]) dX5_init_51 pX5_42_4 rfl (by omega) k22_0 (Nat.le_of_ble_eq_true rfl) (zfit_i _) rfl ?_
  refine zp_nh (fun h26x eh26x => ?_)
  have k26_0 : h26x (a) = some (.inl (4, [.int (nI (st)), .int (nI (zbi rs)), .int (nI (zsd kd)), .null, .null, .ref (26), .int (nI (kd)), .int (nI (iv)), .int (nI (0)), .int (nI (0)), .int (nI (0)), .null])) := by rw [eh26x]; exact va_up_self _ _ _
  have sw27 : zsm h22x h26x (zon (a)) := zsm.rf.up eh26x rfl
  have y28_0 := y24_0.sm sw27 (fun i hi => by unfold zon at hi; omega)
  refine zp_iload_n dX5_init_54 rfl ?_
  refine zp_iconst (v := nI (4)) dX5_init_55 (by decide) ?_
  refine zp_pc (pc' := 56) rfl ?_
  refine zn_icmp_lt (tgt := 63) dX5_init_56 (by decide) (by omega) (by omega) (fun c56 => ?_) (fun c56 => ?_)
  · have k4 : kd < 4 := by omega
    refine zp_iconst (v := nI (0)) dX5_init_63 (by decide) ?_
    refine zp_istore (ls' := [some (.ref (a)), some (.int (nI (kd))), some (.int (nI (st))), some (.int (nI (zbi rs))), some (.int (nI (iv))), some (.ref (26)), some (.int (nI (0)))]) dX5_init_64 (by decide) rfl ?_
    refine zp_aload_n dX5_init_66 rfl ?_
    refine zp_pc (pc' := 67) rfl ?_
    refine zp_new dX5_init_67 nX5_45 (Nat.le_of_ble_eq_true rfl) (by show _ + 2 ≤ 226; omega) ?_
    refine zp_nn (cells' := 1) (slots' := 2) (n' := a + 2) (st' := [.ref (a + 1), .ref (a)]) rfl (by show _ + 2 = _; omega) rfl rfl ?_
    refine zp_nh (fun h29x eh29x => ?_)
    have k29_0 := (congrFun eh29x (a)).trans ((va_up_ne _ _ (by omega)).trans k26_0)
    have k29_1 : h29x (a + 1) = some (.inl (6, [.null, .int (0)])) := by rw [eh29x]; exact va_up_self _ _ _
    have sw30 : zsm h26x h29x (zon (a + 1)) := zsm.rf.up eh29x rfl
    have y31_0 := y28_0.sm sw30 (fun i hi => by unfold zon at hi; omega)
    refine zp_dup dX5_init_70 rfl ?_
    refine zp_iload dX5_init_71 rfl ?_
    refine zp_pc (pc' := 73) rfl ?_
    refine zn_if_eq (tgt := 81) dX5_init_73 (by decide) (by decide) (fun c73 => ?_) (fun c73 => ?_)
    · refine zp_aload_n dX5_init_81 rfl ?_
      refine zp_get dX5_init_82 gX5_42_4 k29_0 rfl ?_
      refine zp_pc (pc' := 85) rfl ?_
      refine zp_callI (As := [.int (nI (zsd kd))]) (k := a + 1) (st := [.ref (a + 1), .ref (a)]) dX5_init_85 cX5_49 rfl (e_row (r := a + 1) (N := zsd kd) (by omega) (by omega) (by omega) k29_1) ⟨Nat.le_of_ble_eq_true rfl, Nat.le_of_ble_eq_true rfl⟩ ⟨Nat.le_of_ble_eq_true rfl, by show _ + zsd kd ≤ 226; omega⟩ (Nat.le_of_ble_eq_true rfl) (fun v32 h32 n32 q32 => ?_)
      obtain ⟨rfl, N32, s32, r32⟩ := q32
      rw [N32]
      refine zp_nn (cells' := 2) (slots' := 2 + zsd kd) (n' := a + 3) (st' := [.ref (a + 1), .ref (a)]) rfl rfl rfl rfl ?_
      have s32 : zsm _ _ (zrs (a + 1)) := s32
      have r32 := r32 rfl
      have m33 : h32 (a) = some (.inl (4, [.int (nI (st)), .int (nI (zbi rs)), .int (nI (zsd kd)), .null, .null, .ref (26), .int (nI (kd)), .int (nI (iv)), .int (nI (0)), .int (nI (0)), .int (nI (0)), .null])) := (s32 _ (by unfold zrs; omega)).trans k29_0
      have y34_0 := y31_0.sm s32 (fun i hi => by unfold zrs at hi; omega)
      refine zp_putF (fs' := [.int (nI (st)), .int (nI (zbi rs)), .int (nI (zsd kd)), .ref (a + 1), .null, .ref (26), .int (nI (kd)), .int (nI (iv)), .int (nI (0)), .int (nI (0)), .int (nI (0)), .null]) dX5_init_88 pX5_52_4 rfl (by omega) m33 (Nat.le_of_ble_eq_true rfl) (zfit_r _ _) rfl ?_
      refine zp_nh (fun h35x eh35x => ?_)
      have k35_0 : h35x (a) = some (.inl (4, [.int (nI (st)), .int (nI (zbi rs)), .int (nI (zsd kd)), .ref (a + 1), .null, .ref (26), .int (nI (kd)), .int (nI (iv)), .int (nI (0)), .int (nI (0)), .int (nI (0)), .null])) := by rw [eh35x]; exact va_up_self _ _ _
      have sw36 : zsm h32 h35x (zon (a)) := zsm.rf.up eh35x rfl
      have y37_0 := y34_0.sm sw36 (fun i hi => by unfold zon at hi; omega)
      have y37_1 := r32.keep (sw36 _ (by unfold zon; omega)) (sw36 _ (by unfold zon; omega))
      refine zp_aload_n dX5_init_91 rfl ?_
      refine zp_pc (pc' := 92) rfl ?_
      refine zp_new dX5_init_92 nX5_45 (Nat.le_of_ble_eq_true rfl) (by show _ + 2 ≤ 226; omega) ?_
      refine zp_nn (cells' := 3) (slots' := 4 + zsd kd) (n' := a + 4) (st' := [.ref (a + 3), .ref (a)]) rfl (by show _ + 2 = _; omega) rfl rfl ?_
      refine zp_nh (fun h38x eh38x => ?_)
      have k38_0 := (congrFun eh38x (a)).trans ((va_up_ne _ _ (by omega)).trans k35_0)
      have k38_1 : h38x (a + 3) = some (.inl (6, [.null, .int (0)])) := by rw [eh38x]; exact va_up_self _ _ _
      have sw39 : zsm h35x h38x (zon (a + 3)) := zsm.rf.up eh38x rfl
      have y40_0 := y37_0.sm sw39 (fun i hi => by unfold zon at hi; omega)
      have y40_1 := y37_1.keep (sw39 _ (by unfold zon; omega)) (sw39 _ (by unfold zon; omega))
      refine zp_dup dX5_init_95 rfl ?_
      refine zp_iload dX5_init_96 rfl ?_
      refine zp_pc (pc' := 98) rfl ?_
      refine zn_if_eq (tgt := 111) dX5_init_98 (by decide) (by decide) (fun c98 => ?_) (fun c98 => ?_)
      · refine zp_aload_n dX5_init_111 rfl ?_
        refine zp_get dX5_init_112 gX5_42_4 k38_0 rfl ?_
        refine zp_pc (pc' := 115) rfl ?_
        refine zp_callI (As := [.int (nI (zsd kd))]) (k := a + 3) (st := [.ref (a + 3), .ref (a)]) dX5_init_115 cX5_49 rfl (e_row (r := a + 3) (N := zsd kd) (by omega) (by omega) (by omega) k38_1) ⟨Nat.le_of_ble_eq_true rfl, Nat.le_of_ble_eq_true rfl⟩ ⟨Nat.le_of_ble_eq_true rfl, by show _ + (zsd kd) ≤ 226; omega⟩ (Nat.le_of_ble_eq_true rfl) (fun v41 h41 n41 q41 => ?_)
        obtain ⟨rfl, N41, s41, r41⟩ := q41
        rw [N41]
        refine zp_nn (cells' := 4) (slots' := 4 + zsd kd + (zsd kd)) (n' := a + 5) (st' := [.ref (a + 3), .ref (a)]) rfl rfl rfl rfl ?_
        have s41 : zsm _ _ (zrs (a + 3)) := s41
        have r41 := r41 rfl
        have m42 : h41 (a) = some (.inl (4, [.int (nI (st)), .int (nI (zbi rs)), .int (nI (zsd kd)), .ref (a + 1), .null, .ref (26), .int (nI (kd)), .int (nI (iv)), .int (nI (0)), .int (nI (0)), .int (nI (0)), .null])) := (s41 _ (by unfold zrs; omega)).trans k38_0
        have y43_0 := y40_0.sm s41 (fun i hi => by unfold zrs at hi; omega)
        have y43_1 := y40_1.keep (s41 _ (by unfold zrs; omega)) (s41 _ (by unfold zrs; omega))
        refine zp_putF (fs' := [.int (nI (st)), .int (nI (zbi rs)), .int (nI (zsd kd)), .ref (a + 1), .ref (a + 3), .ref (26), .int (nI (kd)), .int (nI (iv)), .int (nI (0)), .int (nI (0)), .int (nI (0)), .null]) dX5_init_118 pX5_56_4 rfl (by omega) m42 (Nat.le_of_ble_eq_true rfl) (zfit_r _ _) rfl ?_
        refine zp_nh (fun h44x eh44x => ?_)
        have k44_0 : h44x (a) = some (.inl (4, [.int (nI (st)), .int (nI (zbi rs)), .int (nI (zsd kd)), .ref (a + 1), .ref (a + 3), .ref (26), .int (nI (kd)), .int (nI (iv)), .int (nI (0)), .int (nI (0)), .int (nI (0)), .null])) := by rw [eh44x]; exact va_up_self _ _ _
        have sw45 : zsm h41 h44x (zon (a)) := zsm.rf.up eh44x rfl
        have y46_0 := y43_0.sm sw45 (fun i hi => by unfold zon at hi; omega)
        have y46_1 := y43_1.keep (sw45 _ (by unfold zon; omega)) (sw45 _ (by unfold zon; omega))
        have y46_2 := r41.keep (sw45 _ (by unfold zon; omega)) (sw45 _ (by unfold zon; omega))
        refine zp_pc (pc' := 121) rfl ?_
        have e1 : zvN kd = zsd kd := by unfold zvN; rw [if_pos k4]
        have e2 : zcN kd = zsd kd := by unfold zcN; rw [if_pos k4]
        refine zp_ret (v := none) dX5_init_121 ⟨rfl, rfl⟩ (Nat.le_of_ble_eq_true rfl) (by show _ ≤ 226; omega) ?_
        rw [hQ]
        exact ⟨rfl, rfl, (((((((((((((((sw2).mono (fun i hi => by unfold zbt; unfold zon at hi; omega)).trans ((sw5).mono (fun i hi => by unfold zbt; unfold zon at hi; omega))).trans ((sw8).mono (fun i hi => by unfold zbt; unfold zon at hi; omega))).trans ((sw11).mono (fun i hi => by unfold zbt; unfold zon at hi; omega))).trans ((sw14).mono (fun i hi => by unfold zbt; unfold zon at hi; omega))).trans ((sw17).mono (fun i hi => by unfold zbt; unfold zon at hi; omega))).trans ((sw20).mono (fun i hi => by unfold zbt; unfold zon at hi; omega))).trans ((sw23).mono (fun i hi => by unfold zbt; unfold zon at hi; omega))).trans ((sw27).mono (fun i hi => by unfold zbt; unfold zon at hi; omega))).trans ((sw30).mono (fun i hi => by unfold zbt; unfold zon at hi; omega))).trans ((s32).mono (fun i hi => by unfold zbt; unfold zrs at hi; omega))).trans ((sw36).mono (fun i hi => by unfold zbt; unfold zon at hi; omega))).trans ((sw39).mono (fun i hi => by unfold zbt; unfold zon at hi; omega))).trans ((s41).mono (fun i hi => by unfold zbt; unfold zrs at hi; omega))).trans ((sw45).mono (fun i hi => by unfold zbt; unfold zon at hi; omega)), k44_0, by rw [e1]; exact y46_1, by rw [e2]; exact y46_2⟩
      · exact absurd rfl c98
    · exact absurd rfl c73
  · have k4 : ¬ kd < 4 := by omega
    refine zp_iconst (v := nI (1)) dX5_init_59 (by decide) ?_
    refine zp_goto (tgt := 64) dX5_init_60 (by decide) ?_
    refine zp_istore (ls' := [some (.ref (a)), some (.int (nI (kd))), some (.int (nI (st))), some (.int (nI (zbi rs))), some (.int (nI (iv))), some (.ref (26)), some (.int (nI (1)))]) dX5_init_64 (by decide) rfl ?_
    refine zp_aload_n dX5_init_66 rfl ?_
    refine zp_pc (pc' := 67) rfl ?_
    refine zp_new dX5_init_67 nX5_45 (Nat.le_of_ble_eq_true rfl) (by show _ + 2 ≤ 226; omega) ?_
    refine zp_nn (cells' := 1) (slots' := 2) (n' := a + 2) (st' := [.ref (a + 1), .ref (a)]) rfl (by show _ + 2 = _; omega) rfl rfl ?_
    refine zp_nh (fun h47x eh47x => ?_)
    have k47_0 := (congrFun eh47x (a)).trans ((va_up_ne _ _ (by omega)).trans k26_0)
    have k47_1 : h47x (a + 1) = some (.inl (6, [.null, .int (0)])) := by rw [eh47x]; exact va_up_self _ _ _
    have sw48 : zsm h26x h47x (zon (a + 1)) := zsm.rf.up eh47x rfl
    have y49_0 := y28_0.sm sw48 (fun i hi => by unfold zon at hi; omega)
    refine zp_dup dX5_init_70 rfl ?_
    refine zp_iload dX5_init_71 rfl ?_
    refine zp_pc (pc' := 73) rfl ?_
    refine zn_if_eq (tgt := 81) dX5_init_73 (by decide) (by decide) (fun c73 => ?_) (fun c73 => ?_)
    · exact absurd c73 (by decide)
    · refine zp_bipush (v := nI (16)) dX5_init_76 (by decide) ?_
      refine zp_goto (tgt := 85) dX5_init_78 (by decide) ?_
      refine zp_pc (pc' := 85) rfl ?_
      refine zp_callI (As := [.int (nI (16))]) (k := a + 1) (st := [.ref (a + 1), .ref (a)]) dX5_init_85 cX5_49 rfl (e_row (r := a + 1) (N := 16) (by omega) (by omega) (by omega) k47_1) ⟨Nat.le_of_ble_eq_true rfl, Nat.le_of_ble_eq_true rfl⟩ ⟨Nat.le_of_ble_eq_true rfl, by show _ + 16 ≤ 226; omega⟩ (Nat.le_of_ble_eq_true rfl) (fun v50 h50 n50 q50 => ?_)
      obtain ⟨rfl, N50, s50, r50⟩ := q50
      rw [N50]
      refine zp_nn (cells' := 2) (slots' := 2 + 16) (n' := a + 3) (st' := [.ref (a + 1), .ref (a)]) rfl rfl rfl rfl ?_
      have s50 : zsm _ _ (zrs (a + 1)) := s50
      have r50 := r50 rfl
      have m51 : h50 (a) = some (.inl (4, [.int (nI (st)), .int (nI (zbi rs)), .int (nI (zsd kd)), .null, .null, .ref (26), .int (nI (kd)), .int (nI (iv)), .int (nI (0)), .int (nI (0)), .int (nI (0)), .null])) := (s50 _ (by unfold zrs; omega)).trans k47_0
      have y52_0 := y49_0.sm s50 (fun i hi => by unfold zrs at hi; omega)
      refine zp_putF (fs' := [.int (nI (st)), .int (nI (zbi rs)), .int (nI (zsd kd)), .ref (a + 1), .null, .ref (26), .int (nI (kd)), .int (nI (iv)), .int (nI (0)), .int (nI (0)), .int (nI (0)), .null]) dX5_init_88 pX5_52_4 rfl (by omega) m51 (Nat.le_of_ble_eq_true rfl) (zfit_r _ _) rfl ?_
      refine zp_nh (fun h53x eh53x => ?_)
      have k53_0 : h53x (a) = some (.inl (4, [.int (nI (st)), .int (nI (zbi rs)), .int (nI (zsd kd)), .ref (a + 1), .null, .ref (26), .int (nI (kd)), .int (nI (iv)), .int (nI (0)), .int (nI (0)), .int (nI (0)), .null])) := by rw [eh53x]; exact va_up_self _ _ _
      have sw54 : zsm h50 h53x (zon (a)) := zsm.rf.up eh53x rfl
      have y55_0 := y52_0.sm sw54 (fun i hi => by unfold zon at hi; omega)
      have y55_1 := r50.keep (sw54 _ (by unfold zon; omega)) (sw54 _ (by unfold zon; omega))
      refine zp_aload_n dX5_init_91 rfl ?_
      refine zp_pc (pc' := 92) rfl ?_
      refine zp_new dX5_init_92 nX5_45 (Nat.le_of_ble_eq_true rfl) (by show _ + 2 ≤ 226; omega) ?_
      refine zp_nn (cells' := 3) (slots' := 4 + 16) (n' := a + 4) (st' := [.ref (a + 3), .ref (a)]) rfl (by show _ + 2 = _; omega) rfl rfl ?_
      refine zp_nh (fun h56x eh56x => ?_)
      have k56_0 := (congrFun eh56x (a)).trans ((va_up_ne _ _ (by omega)).trans k53_0)
      have k56_1 : h56x (a + 3) = some (.inl (6, [.null, .int (0)])) := by rw [eh56x]; exact va_up_self _ _ _
      have sw57 : zsm h53x h56x (zon (a + 3)) := zsm.rf.up eh56x rfl
      have y58_0 := y55_0.sm sw57 (fun i hi => by unfold zon at hi; omega)
      have y58_1 := y55_1.keep (sw57 _ (by unfold zon; omega)) (sw57 _ (by unfold zon; omega))
      refine zp_dup dX5_init_95 rfl ?_
      refine zp_iload dX5_init_96 rfl ?_
      refine zp_pc (pc' := 98) rfl ?_
      refine zn_if_eq (tgt := 111) dX5_init_98 (by decide) (by decide) (fun c98 => ?_) (fun c98 => ?_)
      · exact absurd c98 (by decide)
      · refine zp_aload_n dX5_init_101 rfl ?_
        refine zp_get dX5_init_102 gX5_42_4 k56_0 rfl ?_
        refine zp_bipush (v := nI (16)) dX5_init_105 (by decide) ?_
        refine zn_isub dX5_init_107 (by omega) ?_
        refine zp_goto (tgt := 115) dX5_init_108 (by decide) ?_
        refine zp_pc (pc' := 115) rfl ?_
        refine zp_callI (As := [.int (nI ((zsd kd) - (16)))]) (k := a + 3) (st := [.ref (a + 3), .ref (a)]) dX5_init_115 cX5_49 rfl (e_row (r := a + 3) (N := zsd kd - 16) (by omega) (by omega) (by omega) k56_1) ⟨Nat.le_of_ble_eq_true rfl, Nat.le_of_ble_eq_true rfl⟩ ⟨Nat.le_of_ble_eq_true rfl, by show _ + (zsd kd - 16) ≤ 226; omega⟩ (Nat.le_of_ble_eq_true rfl) (fun v59 h59 n59 q59 => ?_)
        obtain ⟨rfl, N59, s59, r59⟩ := q59
        rw [N59]
        refine zp_nn (cells' := 4) (slots' := 4 + 16 + (zsd kd - 16)) (n' := a + 5) (st' := [.ref (a + 3), .ref (a)]) rfl rfl rfl rfl ?_
        have s59 : zsm _ _ (zrs (a + 3)) := s59
        have r59 := r59 rfl
        have m60 : h59 (a) = some (.inl (4, [.int (nI (st)), .int (nI (zbi rs)), .int (nI (zsd kd)), .ref (a + 1), .null, .ref (26), .int (nI (kd)), .int (nI (iv)), .int (nI (0)), .int (nI (0)), .int (nI (0)), .null])) := (s59 _ (by unfold zrs; omega)).trans k56_0
        have y61_0 := y58_0.sm s59 (fun i hi => by unfold zrs at hi; omega)
        have y61_1 := y58_1.keep (s59 _ (by unfold zrs; omega)) (s59 _ (by unfold zrs; omega))
        refine zp_putF (fs' := [.int (nI (st)), .int (nI (zbi rs)), .int (nI (zsd kd)), .ref (a + 1), .ref (a + 3), .ref (26), .int (nI (kd)), .int (nI (iv)), .int (nI (0)), .int (nI (0)), .int (nI (0)), .null]) dX5_init_118 pX5_56_4 rfl (by omega) m60 (Nat.le_of_ble_eq_true rfl) (zfit_r _ _) rfl ?_
        refine zp_nh (fun h62x eh62x => ?_)
        have k62_0 : h62x (a) = some (.inl (4, [.int (nI (st)), .int (nI (zbi rs)), .int (nI (zsd kd)), .ref (a + 1), .ref (a + 3), .ref (26), .int (nI (kd)), .int (nI (iv)), .int (nI (0)), .int (nI (0)), .int (nI (0)), .null])) := by rw [eh62x]; exact va_up_self _ _ _
        have sw63 : zsm h59 h62x (zon (a)) := zsm.rf.up eh62x rfl
        have y64_0 := y61_0.sm sw63 (fun i hi => by unfold zon at hi; omega)
        have y64_1 := y61_1.keep (sw63 _ (by unfold zon; omega)) (sw63 _ (by unfold zon; omega))
        have y64_2 := r59.keep (sw63 _ (by unfold zon; omega)) (sw63 _ (by unfold zon; omega))
        refine zp_pc (pc' := 121) rfl ?_
        have e1 : zvN kd = 16 := by unfold zvN; rw [if_neg k4]
        have e2 : zcN kd = zsd kd - 16 := by unfold zcN; rw [if_neg k4]
        refine zp_ret (v := none) dX5_init_121 ⟨rfl, rfl⟩ (Nat.le_of_ble_eq_true rfl) (by show _ ≤ 226; omega) ?_
        rw [hQ]
        exact ⟨rfl, rfl, (((((((((((((((sw2).mono (fun i hi => by unfold zbt; unfold zon at hi; omega)).trans ((sw5).mono (fun i hi => by unfold zbt; unfold zon at hi; omega))).trans ((sw8).mono (fun i hi => by unfold zbt; unfold zon at hi; omega))).trans ((sw11).mono (fun i hi => by unfold zbt; unfold zon at hi; omega))).trans ((sw14).mono (fun i hi => by unfold zbt; unfold zon at hi; omega))).trans ((sw17).mono (fun i hi => by unfold zbt; unfold zon at hi; omega))).trans ((sw20).mono (fun i hi => by unfold zbt; unfold zon at hi; omega))).trans ((sw23).mono (fun i hi => by unfold zbt; unfold zon at hi; omega))).trans ((sw27).mono (fun i hi => by unfold zbt; unfold zon at hi; omega))).trans ((sw48).mono (fun i hi => by unfold zbt; unfold zon at hi; omega))).trans ((s50).mono (fun i hi => by unfold zbt; unfold zrs at hi; omega))).trans ((sw54).mono (fun i hi => by unfold zbt; unfold zon at hi; omega))).trans ((sw57).mono (fun i hi => by unfold zbt; unfold zon at hi; omega))).trans ((s59).mono (fun i hi => by unfold zbt; unfold zrs at hi; omega))).trans ((sw63).mono (fun i hi => by unfold zbt; unfold zon at hi; omega)), k62_0, by rw [e1]; exact y64_1, by rw [e2]; exact y64_2⟩
set_option maxRecDepth 10000 in
set_option maxHeartbeats 2000000 in
theorem e_ginit5 {g : ZG} {h : ZH} {n : Nat} {a kd st : Nat} {rs : Bool} {iv : Nat} (hn : n = a + 1) (ha : 64 ≤ a) (hk : kd < 8) (ht : ztab h) (o : h a = some (.inl (5, [.int (0), .int (0), .int (0), .null, .null, .null, .int (0), .int (0), .int (0), .int (0), .int (0), .null]))) : zMt g mX5_init (zR 2 4 226) [.ref (a), .int (nI (kd)), .int (nI (st)), .int (nI (zbi rs)), .int (nI (iv)), .ref (26)] h n (fun v h' n' => v = none ∧ n' = a + 5 ∧ zsm h h' (zbt a (a + 4)) ∧ h' a = some (.inl (5, [.int (nI (st)), .int (nI (zbi rs)), .int (nI (zsd kd)), .ref (a + 1), .ref (a + 3), .ref (26), .int (nI (kd)), .int (nI (iv)), .int (nI (0)), .int (nI 0), .int (nI (0)), .null])) ∧ zrow h' (a + 1) (zvN kd) [] ∧ zrow h' (a + 3) (zcN kd) []) := by
  refine zMt.of [some (.ref (a)), some (.int (nI (kd))), some (.int (nI (st))), some (.int (nI (zbi rs))), some (.int (nI (iv))), some (.ref (26)), none] (by decide) rfl (Nat.le_of_ble_eq_true rfl) ?_
  obtain ⟨Qf, hQ⟩ : ∃ Qf : ZQ, Qf = (fun v h' n' => v = none ∧ n' = a + 5 ∧ zsm h h' (zbt a (a + 4)) ∧ h' a = some (.inl (5, [.int (nI (st)), .int (nI (zbi rs)), .int (nI (zsd kd)), .ref (a + 1), .ref (a + 3), .ref (26), .int (nI (kd)), .int (nI (iv)), .int (nI (0)), .int (nI 0), .int (nI (0)), .null])) ∧ zrow h' (a + 1) (zvN kd) [] ∧ zrow h' (a + 3) (zcN kd) []) := ⟨_, rfl⟩
  rw [← hQ]
  subst hn
  have l1 := zsd_le hk
  refine zp_aload_n dX5_init_0 rfl ?_
  refine zp_pc (pc' := 1) rfl ?_
  refine zp_objInit dX5_init_1 cX5_3 ⟨Nat.le_of_ble_eq_true rfl, Nat.le_of_ble_eq_true rfl⟩ (Nat.le_of_ble_eq_true rfl) ?_
  refine zp_pc (pc' := 4) rfl ?_
  refine zp_aload_n dX5_init_4 rfl ?_
  refine zp_iconst (v := nI (0)) dX5_init_5 (by decide) ?_
  refine zp_put (fs' := [.int (0), .int (0), .int (0), .null, .null, .null, .int (0), .int (0), .int (nI (0)), .int (0), .int (0), .null]) dX5_init_6 pX5_9_5 (by omega) o (Nat.le_of_ble_eq_true rfl) (zfit_i _) rfl ?_
  refine zp_nh (fun h1x eh1x => ?_)
  have k1_0 : h1x (a) = some (.inl (5, [.int (0), .int (0), .int (0), .null, .null, .null, .int (0), .int (0), .int (nI (0)), .int (0), .int (0), .null])) := by rw [eh1x]; exact va_up_self _ _ _
  have sw2 : zsm h h1x (zon (a)) := zsm.rf.up eh1x rfl
  have y3_0 := ht.sm sw2 (fun i hi => by unfold zon at hi; omega)
  refine zp_aload_n dX5_init_9 rfl ?_
  refine zp_iconst (v := nI (0)) dX5_init_10 (by decide) ?_
  refine zp_put (fs' := [.int (0), .int (0), .int (0), .null, .null, .null, .int (0), .int (0), .int (nI (0)), .int (nI (0)), .int (0), .null]) dX5_init_11 pX5_15_5 (by omega) k1_0 (Nat.le_of_ble_eq_true rfl) (zfit_i _) rfl ?_
  refine zp_nh (fun h4x eh4x => ?_)
  have k4_0 : h4x (a) = some (.inl (5, [.int (0), .int (0), .int (0), .null, .null, .null, .int (0), .int (0), .int (nI (0)), .int (nI (0)), .int (0), .null])) := by rw [eh4x]; exact va_up_self _ _ _
  have sw5 : zsm h1x h4x (zon (a)) := zsm.rf.up eh4x rfl
  have y6_0 := y3_0.sm sw5 (fun i hi => by unfold zon at hi; omega)
  refine zp_aload_n dX5_init_14 rfl ?_
  refine zp_iconst (v := nI (0)) dX5_init_15 (by decide) ?_
  refine zp_put (fs' := [.int (0), .int (0), .int (0), .null, .null, .null, .int (0), .int (0), .int (nI (0)), .int (nI (0)), .int (nI (0)), .null]) dX5_init_16 pX5_18_5 (by omega) k4_0 (Nat.le_of_ble_eq_true rfl) (zfit_i _) rfl ?_
  refine zp_nh (fun h7x eh7x => ?_)
  have k7_0 : h7x (a) = some (.inl (5, [.int (0), .int (0), .int (0), .null, .null, .null, .int (0), .int (0), .int (nI (0)), .int (nI (0)), .int (nI (0)), .null])) := by rw [eh7x]; exact va_up_self _ _ _
  have sw8 : zsm h4x h7x (zon (a)) := zsm.rf.up eh7x rfl
  have y9_0 := y6_0.sm sw8 (fun i hi => by unfold zon at hi; omega)
  refine zp_aload_n dX5_init_19 rfl ?_
  refine zp_iload_n dX5_init_20 rfl ?_
  refine zp_putF (fs' := [.int (0), .int (0), .int (0), .null, .null, .null, .int (nI (kd)), .int (0), .int (nI (0)), .int (nI (0)), .int (nI (0)), .null]) dX5_init_21 pX5_21_5 rfl (by omega) k7_0 (Nat.le_of_ble_eq_true rfl) (zfit_i _) rfl ?_
  refine zp_nh (fun h10x eh10x => ?_)
  have k10_0 : h10x (a) = some (.inl (5, [.int (0), .int (0), .int (0), .null, .null, .null, .int (nI (kd)), .int (0), .int (nI (0)), .int (nI (0)), .int (nI (0)), .null])) := by rw [eh10x]; exact va_up_self _ _ _
  have sw11 : zsm h7x h10x (zon (a)) := zsm.rf.up eh10x rfl
  have y12_0 := y9_0.sm sw11 (fun i hi => by unfold zon at hi; omega)
  refine zp_pc (pc' := 24) rfl ?_
  refine zp_aload_n dX5_init_24 rfl ?_
  refine zp_iload_n dX5_init_25 rfl ?_
  refine zp_putF (fs' := [.int (nI (st)), .int (0), .int (0), .null, .null, .null, .int (nI (kd)), .int (0), .int (nI (0)), .int (nI (0)), .int (nI (0)), .null]) dX5_init_26 pX5_24_5 rfl (by omega) k10_0 (Nat.le_of_ble_eq_true rfl) (zfit_i _) rfl ?_
  refine zp_nh (fun h13x eh13x => ?_)
  have k13_0 : h13x (a) = some (.inl (5, [.int (nI (st)), .int (0), .int (0), .null, .null, .null, .int (nI (kd)), .int (0), .int (nI (0)), .int (nI (0)), .int (nI (0)), .null])) := by rw [eh13x]; exact va_up_self _ _ _
  have sw14 : zsm h10x h13x (zon (a)) := zsm.rf.up eh13x rfl
  have y15_0 := y12_0.sm sw14 (fun i hi => by unfold zon at hi; omega)
  refine zp_aload_n dX5_init_29 rfl ?_
  refine zp_iload_n dX5_init_30 rfl ?_
  refine zp_putF (fs' := [.int (nI (st)), .int (nI (zbi rs)), .int (0), .null, .null, .null, .int (nI (kd)), .int (0), .int (nI (0)), .int (nI (0)), .int (nI (0)), .null]) dX5_init_31 pX5_27_5 rfl (by omega) k13_0 (Nat.le_of_ble_eq_true rfl) (zfit_b rs) rfl ?_
  refine zp_nh (fun h16x eh16x => ?_)
  have k16_0 : h16x (a) = some (.inl (5, [.int (nI (st)), .int (nI (zbi rs)), .int (0), .null, .null, .null, .int (nI (kd)), .int (0), .int (nI (0)), .int (nI (0)), .int (nI (0)), .null])) := by rw [eh16x]; exact va_up_self _ _ _
  have sw17 : zsm h13x h16x (zon (a)) := zsm.rf.up eh16x rfl
  have y18_0 := y15_0.sm sw17 (fun i hi => by unfold zon at hi; omega)
  refine zp_aload_n dX5_init_34 rfl ?_
  refine zp_iload dX5_init_35 rfl ?_
  refine zp_putF (fs' := [.int (nI (st)), .int (nI (zbi rs)), .int (0), .null, .null, .null, .int (nI (kd)), .int (nI (iv)), .int (nI (0)), .int (nI (0)), .int (nI (0)), .null]) dX5_init_37 pX5_31_5 rfl (by omega) k16_0 (Nat.le_of_ble_eq_true rfl) (zfit_i _) rfl ?_
  refine zp_nh (fun h19x eh19x => ?_)
  have k19_0 : h19x (a) = some (.inl (5, [.int (nI (st)), .int (nI (zbi rs)), .int (0), .null, .null, .null, .int (nI (kd)), .int (nI (iv)), .int (nI (0)), .int (nI (0)), .int (nI (0)), .null])) := by rw [eh19x]; exact va_up_self _ _ _
  have sw20 : zsm h16x h19x (zon (a)) := zsm.rf.up eh19x rfl
  have y21_0 := y18_0.sm sw20 (fun i hi => by unfold zon at hi; omega)
  refine zp_aload_n dX5_init_40 rfl ?_
  refine zp_aload dX5_init_41 rfl ?_
  refine zp_putF (fs' := [.int (nI (st)), .int (nI (zbi rs)), .int (0), .null, .null, .ref (26), .int (nI (kd)), .int (nI (iv)), .int (nI (0)), .int (nI (0)), .int (nI (0)), .null]) dX5_init_43 pX5_34_5 rfl (by omega) k19_0 (Nat.le_of_ble_eq_true rfl) (zfit_r _ _) rfl ?_
  refine zp_nh (fun h22x eh22x => ?_)
  have k22_0 : h22x (a) = some (.inl (5, [.int (nI (st)), .int (nI (zbi rs)), .int (0), .null, .null, .ref (26), .int (nI (kd)), .int (nI (iv)), .int (nI (0)), .int (nI (0)), .int (nI (0)), .null])) := by rw [eh22x]; exact va_up_self _ _ _
  have sw23 : zsm h19x h22x (zon (a)) := zsm.rf.up eh22x rfl
  have y24_0 := y21_0.sm sw23 (fun i hi => by unfold zon at hi; omega)
  refine zp_pc (pc' := 46) rfl ?_
  refine zp_aload_n dX5_init_46 rfl ?_
  refine zp_iload_n dX5_init_47 rfl ?_
  refine zp_pc (pc' := 48) rfl ?_
  refine zp_callS (As := [.int (nI (kd))]) (st := [.ref (a)]) dX5_init_48 cX5_38 rfl (e_seedLengthOf y24_0 hk) (by decide) (by decide) (Nat.le_of_ble_eq_true rfl) (fun v25 h25 n25 q25 => ?_)
  obtain ⟨rfl, H25, N25⟩ := q25
  rw [N25, H25]
  refine zp_nrm (cells' := 0) (slots' := 0) (st' := [.int (nI (zsd kd)), .ref (a)]) rfl rfl rfl ?_
  refine zp_nn (cells' := 0) (slots' := 0) (n' := a + 1) (st' := [.int (nI (zsd kd)), .ref (a)]) rfl rfl rfl rfl ?_
  refine zp_putF (fs' := [.int (nI (st)), .int (nI (zbi rs)), .int (nI (zsd kd)), .null, .null, .ref (26), .int (nI (kd)), .int (nI (iv)), .int (nI (0)), .int (nI (0)), .int (nI (0)), .null]) dX5_init_51 pX5_42_5 rfl (by omega) k22_0 (Nat.le_of_ble_eq_true rfl) (zfit_i _) rfl ?_
  refine zp_nh (fun h26x eh26x => ?_)
  have k26_0 : h26x (a) = some (.inl (5, [.int (nI (st)), .int (nI (zbi rs)), .int (nI (zsd kd)), .null, .null, .ref (26), .int (nI (kd)), .int (nI (iv)), .int (nI (0)), .int (nI (0)), .int (nI (0)), .null])) := by rw [eh26x]; exact va_up_self _ _ _
  have sw27 : zsm h22x h26x (zon (a)) := zsm.rf.up eh26x rfl
  have y28_0 := y24_0.sm sw27 (fun i hi => by unfold zon at hi; omega)
  refine zp_iload_n dX5_init_54 rfl ?_
  refine zp_iconst (v := nI (4)) dX5_init_55 (by decide) ?_
  refine zp_pc (pc' := 56) rfl ?_
  refine zn_icmp_lt (tgt := 63) dX5_init_56 (by decide) (by omega) (by omega) (fun c56 => ?_) (fun c56 => ?_)
  · have k4 : kd < 4 := by omega
    refine zp_iconst (v := nI (0)) dX5_init_63 (by decide) ?_
    refine zp_istore (ls' := [some (.ref (a)), some (.int (nI (kd))), some (.int (nI (st))), some (.int (nI (zbi rs))), some (.int (nI (iv))), some (.ref (26)), some (.int (nI (0)))]) dX5_init_64 (by decide) rfl ?_
    refine zp_aload_n dX5_init_66 rfl ?_
    refine zp_pc (pc' := 67) rfl ?_
    refine zp_new dX5_init_67 nX5_45 (Nat.le_of_ble_eq_true rfl) (by show _ + 2 ≤ 226; omega) ?_
    refine zp_nn (cells' := 1) (slots' := 2) (n' := a + 2) (st' := [.ref (a + 1), .ref (a)]) rfl (by show _ + 2 = _; omega) rfl rfl ?_
    refine zp_nh (fun h29x eh29x => ?_)
    have k29_0 := (congrFun eh29x (a)).trans ((va_up_ne _ _ (by omega)).trans k26_0)
    have k29_1 : h29x (a + 1) = some (.inl (6, [.null, .int (0)])) := by rw [eh29x]; exact va_up_self _ _ _
    have sw30 : zsm h26x h29x (zon (a + 1)) := zsm.rf.up eh29x rfl
    have y31_0 := y28_0.sm sw30 (fun i hi => by unfold zon at hi; omega)
    refine zp_dup dX5_init_70 rfl ?_
    refine zp_iload dX5_init_71 rfl ?_
    refine zp_pc (pc' := 73) rfl ?_
    refine zn_if_eq (tgt := 81) dX5_init_73 (by decide) (by decide) (fun c73 => ?_) (fun c73 => ?_)
    · refine zp_aload_n dX5_init_81 rfl ?_
      refine zp_get dX5_init_82 gX5_42_5 k29_0 rfl ?_
      refine zp_pc (pc' := 85) rfl ?_
      refine zp_callI (As := [.int (nI (zsd kd))]) (k := a + 1) (st := [.ref (a + 1), .ref (a)]) dX5_init_85 cX5_49 rfl (e_row (r := a + 1) (N := zsd kd) (by omega) (by omega) (by omega) k29_1) ⟨Nat.le_of_ble_eq_true rfl, Nat.le_of_ble_eq_true rfl⟩ ⟨Nat.le_of_ble_eq_true rfl, by show _ + zsd kd ≤ 226; omega⟩ (Nat.le_of_ble_eq_true rfl) (fun v32 h32 n32 q32 => ?_)
      obtain ⟨rfl, N32, s32, r32⟩ := q32
      rw [N32]
      refine zp_nn (cells' := 2) (slots' := 2 + zsd kd) (n' := a + 3) (st' := [.ref (a + 1), .ref (a)]) rfl rfl rfl rfl ?_
      have s32 : zsm _ _ (zrs (a + 1)) := s32
      have r32 := r32 rfl
      have m33 : h32 (a) = some (.inl (5, [.int (nI (st)), .int (nI (zbi rs)), .int (nI (zsd kd)), .null, .null, .ref (26), .int (nI (kd)), .int (nI (iv)), .int (nI (0)), .int (nI (0)), .int (nI (0)), .null])) := (s32 _ (by unfold zrs; omega)).trans k29_0
      have y34_0 := y31_0.sm s32 (fun i hi => by unfold zrs at hi; omega)
      refine zp_putF (fs' := [.int (nI (st)), .int (nI (zbi rs)), .int (nI (zsd kd)), .ref (a + 1), .null, .ref (26), .int (nI (kd)), .int (nI (iv)), .int (nI (0)), .int (nI (0)), .int (nI (0)), .null]) dX5_init_88 pX5_52_5 rfl (by omega) m33 (Nat.le_of_ble_eq_true rfl) (zfit_r _ _) rfl ?_
      refine zp_nh (fun h35x eh35x => ?_)
      have k35_0 : h35x (a) = some (.inl (5, [.int (nI (st)), .int (nI (zbi rs)), .int (nI (zsd kd)), .ref (a + 1), .null, .ref (26), .int (nI (kd)), .int (nI (iv)), .int (nI (0)), .int (nI (0)), .int (nI (0)), .null])) := by rw [eh35x]; exact va_up_self _ _ _
      have sw36 : zsm h32 h35x (zon (a)) := zsm.rf.up eh35x rfl
      have y37_0 := y34_0.sm sw36 (fun i hi => by unfold zon at hi; omega)
      have y37_1 := r32.keep (sw36 _ (by unfold zon; omega)) (sw36 _ (by unfold zon; omega))
      refine zp_aload_n dX5_init_91 rfl ?_
      refine zp_pc (pc' := 92) rfl ?_
      refine zp_new dX5_init_92 nX5_45 (Nat.le_of_ble_eq_true rfl) (by show _ + 2 ≤ 226; omega) ?_
      refine zp_nn (cells' := 3) (slots' := 4 + zsd kd) (n' := a + 4) (st' := [.ref (a + 3), .ref (a)]) rfl (by show _ + 2 = _; omega) rfl rfl ?_
      refine zp_nh (fun h38x eh38x => ?_)
      have k38_0 := (congrFun eh38x (a)).trans ((va_up_ne _ _ (by omega)).trans k35_0)
      have k38_1 : h38x (a + 3) = some (.inl (6, [.null, .int (0)])) := by rw [eh38x]; exact va_up_self _ _ _
      have sw39 : zsm h35x h38x (zon (a + 3)) := zsm.rf.up eh38x rfl
      have y40_0 := y37_0.sm sw39 (fun i hi => by unfold zon at hi; omega)
      have y40_1 := y37_1.keep (sw39 _ (by unfold zon; omega)) (sw39 _ (by unfold zon; omega))
      refine zp_dup dX5_init_95 rfl ?_
      refine zp_iload dX5_init_96 rfl ?_
      refine zp_pc (pc' := 98) rfl ?_
      refine zn_if_eq (tgt := 111) dX5_init_98 (by decide) (by decide) (fun c98 => ?_) (fun c98 => ?_)
      · refine zp_aload_n dX5_init_111 rfl ?_
        refine zp_get dX5_init_112 gX5_42_5 k38_0 rfl ?_
        refine zp_pc (pc' := 115) rfl ?_
        refine zp_callI (As := [.int (nI (zsd kd))]) (k := a + 3) (st := [.ref (a + 3), .ref (a)]) dX5_init_115 cX5_49 rfl (e_row (r := a + 3) (N := zsd kd) (by omega) (by omega) (by omega) k38_1) ⟨Nat.le_of_ble_eq_true rfl, Nat.le_of_ble_eq_true rfl⟩ ⟨Nat.le_of_ble_eq_true rfl, by show _ + (zsd kd) ≤ 226; omega⟩ (Nat.le_of_ble_eq_true rfl) (fun v41 h41 n41 q41 => ?_)
        obtain ⟨rfl, N41, s41, r41⟩ := q41
        rw [N41]
        refine zp_nn (cells' := 4) (slots' := 4 + zsd kd + (zsd kd)) (n' := a + 5) (st' := [.ref (a + 3), .ref (a)]) rfl rfl rfl rfl ?_
        have s41 : zsm _ _ (zrs (a + 3)) := s41
        have r41 := r41 rfl
        have m42 : h41 (a) = some (.inl (5, [.int (nI (st)), .int (nI (zbi rs)), .int (nI (zsd kd)), .ref (a + 1), .null, .ref (26), .int (nI (kd)), .int (nI (iv)), .int (nI (0)), .int (nI (0)), .int (nI (0)), .null])) := (s41 _ (by unfold zrs; omega)).trans k38_0
        have y43_0 := y40_0.sm s41 (fun i hi => by unfold zrs at hi; omega)
        have y43_1 := y40_1.keep (s41 _ (by unfold zrs; omega)) (s41 _ (by unfold zrs; omega))
        refine zp_putF (fs' := [.int (nI (st)), .int (nI (zbi rs)), .int (nI (zsd kd)), .ref (a + 1), .ref (a + 3), .ref (26), .int (nI (kd)), .int (nI (iv)), .int (nI (0)), .int (nI (0)), .int (nI (0)), .null]) dX5_init_118 pX5_56_5 rfl (by omega) m42 (Nat.le_of_ble_eq_true rfl) (zfit_r _ _) rfl ?_
        refine zp_nh (fun h44x eh44x => ?_)
        have k44_0 : h44x (a) = some (.inl (5, [.int (nI (st)), .int (nI (zbi rs)), .int (nI (zsd kd)), .ref (a + 1), .ref (a + 3), .ref (26), .int (nI (kd)), .int (nI (iv)), .int (nI (0)), .int (nI (0)), .int (nI (0)), .null])) := by rw [eh44x]; exact va_up_self _ _ _
        have sw45 : zsm h41 h44x (zon (a)) := zsm.rf.up eh44x rfl
        have y46_0 := y43_0.sm sw45 (fun i hi => by unfold zon at hi; omega)
        have y46_1 := y43_1.keep (sw45 _ (by unfold zon; omega)) (sw45 _ (by unfold zon; omega))
        have y46_2 := r41.keep (sw45 _ (by unfold zon; omega)) (sw45 _ (by unfold zon; omega))
        refine zp_pc (pc' := 121) rfl ?_
        have e1 : zvN kd = zsd kd := by unfold zvN; rw [if_pos k4]
        have e2 : zcN kd = zsd kd := by unfold zcN; rw [if_pos k4]
        refine zp_ret (v := none) dX5_init_121 ⟨rfl, rfl⟩ (Nat.le_of_ble_eq_true rfl) (by show _ ≤ 226; omega) ?_
        rw [hQ]
        exact ⟨rfl, rfl, (((((((((((((((sw2).mono (fun i hi => by unfold zbt; unfold zon at hi; omega)).trans ((sw5).mono (fun i hi => by unfold zbt; unfold zon at hi; omega))).trans ((sw8).mono (fun i hi => by unfold zbt; unfold zon at hi; omega))).trans ((sw11).mono (fun i hi => by unfold zbt; unfold zon at hi; omega))).trans ((sw14).mono (fun i hi => by unfold zbt; unfold zon at hi; omega))).trans ((sw17).mono (fun i hi => by unfold zbt; unfold zon at hi; omega))).trans ((sw20).mono (fun i hi => by unfold zbt; unfold zon at hi; omega))).trans ((sw23).mono (fun i hi => by unfold zbt; unfold zon at hi; omega))).trans ((sw27).mono (fun i hi => by unfold zbt; unfold zon at hi; omega))).trans ((sw30).mono (fun i hi => by unfold zbt; unfold zon at hi; omega))).trans ((s32).mono (fun i hi => by unfold zbt; unfold zrs at hi; omega))).trans ((sw36).mono (fun i hi => by unfold zbt; unfold zon at hi; omega))).trans ((sw39).mono (fun i hi => by unfold zbt; unfold zon at hi; omega))).trans ((s41).mono (fun i hi => by unfold zbt; unfold zrs at hi; omega))).trans ((sw45).mono (fun i hi => by unfold zbt; unfold zon at hi; omega)), k44_0, by rw [e1]; exact y46_1, by rw [e2]; exact y46_2⟩
      · exact absurd rfl c98
    · exact absurd rfl c73
  · have k4 : ¬ kd < 4 := by omega
    refine zp_iconst (v := nI (1)) dX5_init_59 (by decide) ?_
    refine zp_goto (tgt := 64) dX5_init_60 (by decide) ?_
    refine zp_istore (ls' := [some (.ref (a)), some (.int (nI (kd))), some (.int (nI (st))), some (.int (nI (zbi rs))), some (.int (nI (iv))), some (.ref (26)), some (.int (nI (1)))]) dX5_init_64 (by decide) rfl ?_
    refine zp_aload_n dX5_init_66 rfl ?_
    refine zp_pc (pc' := 67) rfl ?_
    refine zp_new dX5_init_67 nX5_45 (Nat.le_of_ble_eq_true rfl) (by show _ + 2 ≤ 226; omega) ?_
    refine zp_nn (cells' := 1) (slots' := 2) (n' := a + 2) (st' := [.ref (a + 1), .ref (a)]) rfl (by show _ + 2 = _; omega) rfl rfl ?_
    refine zp_nh (fun h47x eh47x => ?_)
    have k47_0 := (congrFun eh47x (a)).trans ((va_up_ne _ _ (by omega)).trans k26_0)
    have k47_1 : h47x (a + 1) = some (.inl (6, [.null, .int (0)])) := by rw [eh47x]; exact va_up_self _ _ _
    have sw48 : zsm h26x h47x (zon (a + 1)) := zsm.rf.up eh47x rfl
    have y49_0 := y28_0.sm sw48 (fun i hi => by unfold zon at hi; omega)
    refine zp_dup dX5_init_70 rfl ?_
    refine zp_iload dX5_init_71 rfl ?_
    refine zp_pc (pc' := 73) rfl ?_
    refine zn_if_eq (tgt := 81) dX5_init_73 (by decide) (by decide) (fun c73 => ?_) (fun c73 => ?_)
    · exact absurd c73 (by decide)
    · refine zp_bipush (v := nI (16)) dX5_init_76 (by decide) ?_
      refine zp_goto (tgt := 85) dX5_init_78 (by decide) ?_
      refine zp_pc (pc' := 85) rfl ?_
      refine zp_callI (As := [.int (nI (16))]) (k := a + 1) (st := [.ref (a + 1), .ref (a)]) dX5_init_85 cX5_49 rfl (e_row (r := a + 1) (N := 16) (by omega) (by omega) (by omega) k47_1) ⟨Nat.le_of_ble_eq_true rfl, Nat.le_of_ble_eq_true rfl⟩ ⟨Nat.le_of_ble_eq_true rfl, by show _ + 16 ≤ 226; omega⟩ (Nat.le_of_ble_eq_true rfl) (fun v50 h50 n50 q50 => ?_)
      obtain ⟨rfl, N50, s50, r50⟩ := q50
      rw [N50]
      refine zp_nn (cells' := 2) (slots' := 2 + 16) (n' := a + 3) (st' := [.ref (a + 1), .ref (a)]) rfl rfl rfl rfl ?_
      have s50 : zsm _ _ (zrs (a + 1)) := s50
      have r50 := r50 rfl
      have m51 : h50 (a) = some (.inl (5, [.int (nI (st)), .int (nI (zbi rs)), .int (nI (zsd kd)), .null, .null, .ref (26), .int (nI (kd)), .int (nI (iv)), .int (nI (0)), .int (nI (0)), .int (nI (0)), .null])) := (s50 _ (by unfold zrs; omega)).trans k47_0
      have y52_0 := y49_0.sm s50 (fun i hi => by unfold zrs at hi; omega)
      refine zp_putF (fs' := [.int (nI (st)), .int (nI (zbi rs)), .int (nI (zsd kd)), .ref (a + 1), .null, .ref (26), .int (nI (kd)), .int (nI (iv)), .int (nI (0)), .int (nI (0)), .int (nI (0)), .null]) dX5_init_88 pX5_52_5 rfl (by omega) m51 (Nat.le_of_ble_eq_true rfl) (zfit_r _ _) rfl ?_
      refine zp_nh (fun h53x eh53x => ?_)
      have k53_0 : h53x (a) = some (.inl (5, [.int (nI (st)), .int (nI (zbi rs)), .int (nI (zsd kd)), .ref (a + 1), .null, .ref (26), .int (nI (kd)), .int (nI (iv)), .int (nI (0)), .int (nI (0)), .int (nI (0)), .null])) := by rw [eh53x]; exact va_up_self _ _ _
      have sw54 : zsm h50 h53x (zon (a)) := zsm.rf.up eh53x rfl
      have y55_0 := y52_0.sm sw54 (fun i hi => by unfold zon at hi; omega)
      have y55_1 := r50.keep (sw54 _ (by unfold zon; omega)) (sw54 _ (by unfold zon; omega))
      refine zp_aload_n dX5_init_91 rfl ?_
      refine zp_pc (pc' := 92) rfl ?_
      refine zp_new dX5_init_92 nX5_45 (Nat.le_of_ble_eq_true rfl) (by show _ + 2 ≤ 226; omega) ?_
      refine zp_nn (cells' := 3) (slots' := 4 + 16) (n' := a + 4) (st' := [.ref (a + 3), .ref (a)]) rfl (by show _ + 2 = _; omega) rfl rfl ?_
      refine zp_nh (fun h56x eh56x => ?_)
      have k56_0 := (congrFun eh56x (a)).trans ((va_up_ne _ _ (by omega)).trans k53_0)
      have k56_1 : h56x (a + 3) = some (.inl (6, [.null, .int (0)])) := by rw [eh56x]; exact va_up_self _ _ _
      have sw57 : zsm h53x h56x (zon (a + 3)) := zsm.rf.up eh56x rfl
      have y58_0 := y55_0.sm sw57 (fun i hi => by unfold zon at hi; omega)
      have y58_1 := y55_1.keep (sw57 _ (by unfold zon; omega)) (sw57 _ (by unfold zon; omega))
      refine zp_dup dX5_init_95 rfl ?_
      refine zp_iload dX5_init_96 rfl ?_
      refine zp_pc (pc' := 98) rfl ?_
      refine zn_if_eq (tgt := 111) dX5_init_98 (by decide) (by decide) (fun c98 => ?_) (fun c98 => ?_)
      · exact absurd c98 (by decide)
      · refine zp_aload_n dX5_init_101 rfl ?_
        refine zp_get dX5_init_102 gX5_42_5 k56_0 rfl ?_
        refine zp_bipush (v := nI (16)) dX5_init_105 (by decide) ?_
        refine zn_isub dX5_init_107 (by omega) ?_
        refine zp_goto (tgt := 115) dX5_init_108 (by decide) ?_
        refine zp_pc (pc' := 115) rfl ?_
        refine zp_callI (As := [.int (nI ((zsd kd) - (16)))]) (k := a + 3) (st := [.ref (a + 3), .ref (a)]) dX5_init_115 cX5_49 rfl (e_row (r := a + 3) (N := zsd kd - 16) (by omega) (by omega) (by omega) k56_1) ⟨Nat.le_of_ble_eq_true rfl, Nat.le_of_ble_eq_true rfl⟩ ⟨Nat.le_of_ble_eq_true rfl, by show _ + (zsd kd - 16) ≤ 226; omega⟩ (Nat.le_of_ble_eq_true rfl) (fun v59 h59 n59 q59 => ?_)
        obtain ⟨rfl, N59, s59, r59⟩ := q59
        rw [N59]
        refine zp_nn (cells' := 4) (slots' := 4 + 16 + (zsd kd - 16)) (n' := a + 5) (st' := [.ref (a + 3), .ref (a)]) rfl rfl rfl rfl ?_
        have s59 : zsm _ _ (zrs (a + 3)) := s59
        have r59 := r59 rfl
        have m60 : h59 (a) = some (.inl (5, [.int (nI (st)), .int (nI (zbi rs)), .int (nI (zsd kd)), .ref (a + 1), .null, .ref (26), .int (nI (kd)), .int (nI (iv)), .int (nI (0)), .int (nI (0)), .int (nI (0)), .null])) := (s59 _ (by unfold zrs; omega)).trans k56_0
        have y61_0 := y58_0.sm s59 (fun i hi => by unfold zrs at hi; omega)
        have y61_1 := y58_1.keep (s59 _ (by unfold zrs; omega)) (s59 _ (by unfold zrs; omega))
        refine zp_putF (fs' := [.int (nI (st)), .int (nI (zbi rs)), .int (nI (zsd kd)), .ref (a + 1), .ref (a + 3), .ref (26), .int (nI (kd)), .int (nI (iv)), .int (nI (0)), .int (nI (0)), .int (nI (0)), .null]) dX5_init_118 pX5_56_5 rfl (by omega) m60 (Nat.le_of_ble_eq_true rfl) (zfit_r _ _) rfl ?_
        refine zp_nh (fun h62x eh62x => ?_)
        have k62_0 : h62x (a) = some (.inl (5, [.int (nI (st)), .int (nI (zbi rs)), .int (nI (zsd kd)), .ref (a + 1), .ref (a + 3), .ref (26), .int (nI (kd)), .int (nI (iv)), .int (nI (0)), .int (nI (0)), .int (nI (0)), .null])) := by rw [eh62x]; exact va_up_self _ _ _
        have sw63 : zsm h59 h62x (zon (a)) := zsm.rf.up eh62x rfl
        have y64_0 := y61_0.sm sw63 (fun i hi => by unfold zon at hi; omega)
        have y64_1 := y61_1.keep (sw63 _ (by unfold zon; omega)) (sw63 _ (by unfold zon; omega))
        have y64_2 := r59.keep (sw63 _ (by unfold zon; omega)) (sw63 _ (by unfold zon; omega))
        refine zp_pc (pc' := 121) rfl ?_
        have e1 : zvN kd = 16 := by unfold zvN; rw [if_neg k4]
        have e2 : zcN kd = zsd kd - 16 := by unfold zcN; rw [if_neg k4]
        refine zp_ret (v := none) dX5_init_121 ⟨rfl, rfl⟩ (Nat.le_of_ble_eq_true rfl) (by show _ ≤ 226; omega) ?_
        rw [hQ]
        exact ⟨rfl, rfl, (((((((((((((((sw2).mono (fun i hi => by unfold zbt; unfold zon at hi; omega)).trans ((sw5).mono (fun i hi => by unfold zbt; unfold zon at hi; omega))).trans ((sw8).mono (fun i hi => by unfold zbt; unfold zon at hi; omega))).trans ((sw11).mono (fun i hi => by unfold zbt; unfold zon at hi; omega))).trans ((sw14).mono (fun i hi => by unfold zbt; unfold zon at hi; omega))).trans ((sw17).mono (fun i hi => by unfold zbt; unfold zon at hi; omega))).trans ((sw20).mono (fun i hi => by unfold zbt; unfold zon at hi; omega))).trans ((sw23).mono (fun i hi => by unfold zbt; unfold zon at hi; omega))).trans ((sw27).mono (fun i hi => by unfold zbt; unfold zon at hi; omega))).trans ((sw48).mono (fun i hi => by unfold zbt; unfold zon at hi; omega))).trans ((s50).mono (fun i hi => by unfold zbt; unfold zrs at hi; omega))).trans ((sw54).mono (fun i hi => by unfold zbt; unfold zon at hi; omega))).trans ((sw57).mono (fun i hi => by unfold zbt; unfold zon at hi; omega))).trans ((s59).mono (fun i hi => by unfold zbt; unfold zrs at hi; omega))).trans ((sw63).mono (fun i hi => by unfold zbt; unfold zon at hi; omega)), k62_0, by rw [e1]; exact y64_1, by rw [e2]; exact y64_2⟩
set_option maxRecDepth 10000 in
set_option maxHeartbeats 2000000 in
theorem e_ginit1 {g : ZG} {h : ZH} {n : Nat} {a kd st : Nat} {rs : Bool} {iv : Nat} (hn : n = a + 1) (ha : 64 ≤ a) (hk : kd < 8) (ht : ztab h) (o : h a = some (.inl (1, [.int (0), .int (0), .int (0), .null, .null, .null, .int (0), .int (0), .int (0), .int (0), .int (0), .null, .int (0)]))) : zMt g mX5_init (zR 2 4 226) [.ref (a), .int (nI (kd)), .int (nI (st)), .int (nI (zbi rs)), .int (nI (iv)), .ref (26)] h n (fun v h' n' => v = none ∧ n' = a + 5 ∧ zsm h h' (zbt a (a + 4)) ∧ h' a = some (.inl (1, [.int (nI (st)), .int (nI (zbi rs)), .int (nI (zsd kd)), .ref (a + 1), .ref (a + 3), .ref (26), .int (nI (kd)), .int (nI (iv)), .int (nI (0)), .int (nI 0), .int (nI (0)), .null, .int (0)])) ∧ zrow h' (a + 1) (zvN kd) [] ∧ zrow h' (a + 3) (zcN kd) []) := by
  refine zMt.of [some (.ref (a)), some (.int (nI (kd))), some (.int (nI (st))), some (.int (nI (zbi rs))), some (.int (nI (iv))), some (.ref (26)), none] (by decide) rfl (Nat.le_of_ble_eq_true rfl) ?_
  obtain ⟨Qf, hQ⟩ : ∃ Qf : ZQ, Qf = (fun v h' n' => v = none ∧ n' = a + 5 ∧ zsm h h' (zbt a (a + 4)) ∧ h' a = some (.inl (1, [.int (nI (st)), .int (nI (zbi rs)), .int (nI (zsd kd)), .ref (a + 1), .ref (a + 3), .ref (26), .int (nI (kd)), .int (nI (iv)), .int (nI (0)), .int (nI 0), .int (nI (0)), .null, .int (0)])) ∧ zrow h' (a + 1) (zvN kd) [] ∧ zrow h' (a + 3) (zcN kd) []) := ⟨_, rfl⟩
  rw [← hQ]
  subst hn
  have l1 := zsd_le hk
  refine zp_aload_n dX5_init_0 rfl ?_
  refine zp_pc (pc' := 1) rfl ?_
  refine zp_objInit dX5_init_1 cX5_3 ⟨Nat.le_of_ble_eq_true rfl, Nat.le_of_ble_eq_true rfl⟩ (Nat.le_of_ble_eq_true rfl) ?_
  refine zp_pc (pc' := 4) rfl ?_
  refine zp_aload_n dX5_init_4 rfl ?_
  refine zp_iconst (v := nI (0)) dX5_init_5 (by decide) ?_
  refine zp_put (fs' := [.int (0), .int (0), .int (0), .null, .null, .null, .int (0), .int (0), .int (nI (0)), .int (0), .int (0), .null, .int (0)]) dX5_init_6 pX5_9_1 (by omega) o (Nat.le_of_ble_eq_true rfl) (zfit_i _) rfl ?_
  refine zp_nh (fun h1x eh1x => ?_)
  have k1_0 : h1x (a) = some (.inl (1, [.int (0), .int (0), .int (0), .null, .null, .null, .int (0), .int (0), .int (nI (0)), .int (0), .int (0), .null, .int (0)])) := by rw [eh1x]; exact va_up_self _ _ _
  have sw2 : zsm h h1x (zon (a)) := zsm.rf.up eh1x rfl
  have y3_0 := ht.sm sw2 (fun i hi => by unfold zon at hi; omega)
  refine zp_aload_n dX5_init_9 rfl ?_
  refine zp_iconst (v := nI (0)) dX5_init_10 (by decide) ?_
  refine zp_put (fs' := [.int (0), .int (0), .int (0), .null, .null, .null, .int (0), .int (0), .int (nI (0)), .int (nI (0)), .int (0), .null, .int (0)]) dX5_init_11 pX5_15_1 (by omega) k1_0 (Nat.le_of_ble_eq_true rfl) (zfit_i _) rfl ?_
  refine zp_nh (fun h4x eh4x => ?_)
  have k4_0 : h4x (a) = some (.inl (1, [.int (0), .int (0), .int (0), .null, .null, .null, .int (0), .int (0), .int (nI (0)), .int (nI (0)), .int (0), .null, .int (0)])) := by rw [eh4x]; exact va_up_self _ _ _
  have sw5 : zsm h1x h4x (zon (a)) := zsm.rf.up eh4x rfl
  have y6_0 := y3_0.sm sw5 (fun i hi => by unfold zon at hi; omega)
  refine zp_aload_n dX5_init_14 rfl ?_
  refine zp_iconst (v := nI (0)) dX5_init_15 (by decide) ?_
  refine zp_put (fs' := [.int (0), .int (0), .int (0), .null, .null, .null, .int (0), .int (0), .int (nI (0)), .int (nI (0)), .int (nI (0)), .null, .int (0)]) dX5_init_16 pX5_18_1 (by omega) k4_0 (Nat.le_of_ble_eq_true rfl) (zfit_i _) rfl ?_
  refine zp_nh (fun h7x eh7x => ?_)
  have k7_0 : h7x (a) = some (.inl (1, [.int (0), .int (0), .int (0), .null, .null, .null, .int (0), .int (0), .int (nI (0)), .int (nI (0)), .int (nI (0)), .null, .int (0)])) := by rw [eh7x]; exact va_up_self _ _ _
  have sw8 : zsm h4x h7x (zon (a)) := zsm.rf.up eh7x rfl
  have y9_0 := y6_0.sm sw8 (fun i hi => by unfold zon at hi; omega)
  refine zp_aload_n dX5_init_19 rfl ?_
  refine zp_iload_n dX5_init_20 rfl ?_
  refine zp_putF (fs' := [.int (0), .int (0), .int (0), .null, .null, .null, .int (nI (kd)), .int (0), .int (nI (0)), .int (nI (0)), .int (nI (0)), .null, .int (0)]) dX5_init_21 pX5_21_1 rfl (by omega) k7_0 (Nat.le_of_ble_eq_true rfl) (zfit_i _) rfl ?_
  refine zp_nh (fun h10x eh10x => ?_)
  have k10_0 : h10x (a) = some (.inl (1, [.int (0), .int (0), .int (0), .null, .null, .null, .int (nI (kd)), .int (0), .int (nI (0)), .int (nI (0)), .int (nI (0)), .null, .int (0)])) := by rw [eh10x]; exact va_up_self _ _ _
  have sw11 : zsm h7x h10x (zon (a)) := zsm.rf.up eh10x rfl
  have y12_0 := y9_0.sm sw11 (fun i hi => by unfold zon at hi; omega)
  refine zp_pc (pc' := 24) rfl ?_
  refine zp_aload_n dX5_init_24 rfl ?_
  refine zp_iload_n dX5_init_25 rfl ?_
  refine zp_putF (fs' := [.int (nI (st)), .int (0), .int (0), .null, .null, .null, .int (nI (kd)), .int (0), .int (nI (0)), .int (nI (0)), .int (nI (0)), .null, .int (0)]) dX5_init_26 pX5_24_1 rfl (by omega) k10_0 (Nat.le_of_ble_eq_true rfl) (zfit_i _) rfl ?_
  refine zp_nh (fun h13x eh13x => ?_)
  have k13_0 : h13x (a) = some (.inl (1, [.int (nI (st)), .int (0), .int (0), .null, .null, .null, .int (nI (kd)), .int (0), .int (nI (0)), .int (nI (0)), .int (nI (0)), .null, .int (0)])) := by rw [eh13x]; exact va_up_self _ _ _
  have sw14 : zsm h10x h13x (zon (a)) := zsm.rf.up eh13x rfl
  have y15_0 := y12_0.sm sw14 (fun i hi => by unfold zon at hi; omega)
  refine zp_aload_n dX5_init_29 rfl ?_
  refine zp_iload_n dX5_init_30 rfl ?_
  refine zp_putF (fs' := [.int (nI (st)), .int (nI (zbi rs)), .int (0), .null, .null, .null, .int (nI (kd)), .int (0), .int (nI (0)), .int (nI (0)), .int (nI (0)), .null, .int (0)]) dX5_init_31 pX5_27_1 rfl (by omega) k13_0 (Nat.le_of_ble_eq_true rfl) (zfit_b rs) rfl ?_
  refine zp_nh (fun h16x eh16x => ?_)
  have k16_0 : h16x (a) = some (.inl (1, [.int (nI (st)), .int (nI (zbi rs)), .int (0), .null, .null, .null, .int (nI (kd)), .int (0), .int (nI (0)), .int (nI (0)), .int (nI (0)), .null, .int (0)])) := by rw [eh16x]; exact va_up_self _ _ _
  have sw17 : zsm h13x h16x (zon (a)) := zsm.rf.up eh16x rfl
  have y18_0 := y15_0.sm sw17 (fun i hi => by unfold zon at hi; omega)
  refine zp_aload_n dX5_init_34 rfl ?_
  refine zp_iload dX5_init_35 rfl ?_
  refine zp_putF (fs' := [.int (nI (st)), .int (nI (zbi rs)), .int (0), .null, .null, .null, .int (nI (kd)), .int (nI (iv)), .int (nI (0)), .int (nI (0)), .int (nI (0)), .null, .int (0)]) dX5_init_37 pX5_31_1 rfl (by omega) k16_0 (Nat.le_of_ble_eq_true rfl) (zfit_i _) rfl ?_
  refine zp_nh (fun h19x eh19x => ?_)
  have k19_0 : h19x (a) = some (.inl (1, [.int (nI (st)), .int (nI (zbi rs)), .int (0), .null, .null, .null, .int (nI (kd)), .int (nI (iv)), .int (nI (0)), .int (nI (0)), .int (nI (0)), .null, .int (0)])) := by rw [eh19x]; exact va_up_self _ _ _
  have sw20 : zsm h16x h19x (zon (a)) := zsm.rf.up eh19x rfl
  have y21_0 := y18_0.sm sw20 (fun i hi => by unfold zon at hi; omega)
  refine zp_aload_n dX5_init_40 rfl ?_
  refine zp_aload dX5_init_41 rfl ?_
  refine zp_putF (fs' := [.int (nI (st)), .int (nI (zbi rs)), .int (0), .null, .null, .ref (26), .int (nI (kd)), .int (nI (iv)), .int (nI (0)), .int (nI (0)), .int (nI (0)), .null, .int (0)]) dX5_init_43 pX5_34_1 rfl (by omega) k19_0 (Nat.le_of_ble_eq_true rfl) (zfit_r _ _) rfl ?_
  refine zp_nh (fun h22x eh22x => ?_)
  have k22_0 : h22x (a) = some (.inl (1, [.int (nI (st)), .int (nI (zbi rs)), .int (0), .null, .null, .ref (26), .int (nI (kd)), .int (nI (iv)), .int (nI (0)), .int (nI (0)), .int (nI (0)), .null, .int (0)])) := by rw [eh22x]; exact va_up_self _ _ _
  have sw23 : zsm h19x h22x (zon (a)) := zsm.rf.up eh22x rfl
  have y24_0 := y21_0.sm sw23 (fun i hi => by unfold zon at hi; omega)
  refine zp_pc (pc' := 46) rfl ?_
  refine zp_aload_n dX5_init_46 rfl ?_
  refine zp_iload_n dX5_init_47 rfl ?_
  refine zp_pc (pc' := 48) rfl ?_
  refine zp_callS (As := [.int (nI (kd))]) (st := [.ref (a)]) dX5_init_48 cX5_38 rfl (e_seedLengthOf y24_0 hk) (by decide) (by decide) (Nat.le_of_ble_eq_true rfl) (fun v25 h25 n25 q25 => ?_)
  obtain ⟨rfl, H25, N25⟩ := q25
  rw [N25, H25]
  refine zp_nrm (cells' := 0) (slots' := 0) (st' := [.int (nI (zsd kd)), .ref (a)]) rfl rfl rfl ?_
  refine zp_nn (cells' := 0) (slots' := 0) (n' := a + 1) (st' := [.int (nI (zsd kd)), .ref (a)]) rfl rfl rfl rfl ?_
  refine zp_putF (fs' := [.int (nI (st)), .int (nI (zbi rs)), .int (nI (zsd kd)), .null, .null, .ref (26), .int (nI (kd)), .int (nI (iv)), .int (nI (0)), .int (nI (0)), .int (nI (0)), .null, .int (0)]) dX5_init_51 pX5_42_1 rfl (by omega) k22_0 (Nat.le_of_ble_eq_true rfl) (zfit_i _) rfl ?_
  refine zp_nh (fun h26x eh26x => ?_)
  have k26_0 : h26x (a) = some (.inl (1, [.int (nI (st)), .int (nI (zbi rs)), .int (nI (zsd kd)), .null, .null, .ref (26), .int (nI (kd)), .int (nI (iv)), .int (nI (0)), .int (nI (0)), .int (nI (0)), .null, .int (0)])) := by rw [eh26x]; exact va_up_self _ _ _
  have sw27 : zsm h22x h26x (zon (a)) := zsm.rf.up eh26x rfl
  have y28_0 := y24_0.sm sw27 (fun i hi => by unfold zon at hi; omega)
  refine zp_iload_n dX5_init_54 rfl ?_
  refine zp_iconst (v := nI (4)) dX5_init_55 (by decide) ?_
  refine zp_pc (pc' := 56) rfl ?_
  refine zn_icmp_lt (tgt := 63) dX5_init_56 (by decide) (by omega) (by omega) (fun c56 => ?_) (fun c56 => ?_)
  · have k4 : kd < 4 := by omega
    refine zp_iconst (v := nI (0)) dX5_init_63 (by decide) ?_
    refine zp_istore (ls' := [some (.ref (a)), some (.int (nI (kd))), some (.int (nI (st))), some (.int (nI (zbi rs))), some (.int (nI (iv))), some (.ref (26)), some (.int (nI (0)))]) dX5_init_64 (by decide) rfl ?_
    refine zp_aload_n dX5_init_66 rfl ?_
    refine zp_pc (pc' := 67) rfl ?_
    refine zp_new dX5_init_67 nX5_45 (Nat.le_of_ble_eq_true rfl) (by show _ + 2 ≤ 226; omega) ?_
    refine zp_nn (cells' := 1) (slots' := 2) (n' := a + 2) (st' := [.ref (a + 1), .ref (a)]) rfl (by show _ + 2 = _; omega) rfl rfl ?_
    refine zp_nh (fun h29x eh29x => ?_)
    have k29_0 := (congrFun eh29x (a)).trans ((va_up_ne _ _ (by omega)).trans k26_0)
    have k29_1 : h29x (a + 1) = some (.inl (6, [.null, .int (0)])) := by rw [eh29x]; exact va_up_self _ _ _
    have sw30 : zsm h26x h29x (zon (a + 1)) := zsm.rf.up eh29x rfl
    have y31_0 := y28_0.sm sw30 (fun i hi => by unfold zon at hi; omega)
    refine zp_dup dX5_init_70 rfl ?_
    refine zp_iload dX5_init_71 rfl ?_
    refine zp_pc (pc' := 73) rfl ?_
    refine zn_if_eq (tgt := 81) dX5_init_73 (by decide) (by decide) (fun c73 => ?_) (fun c73 => ?_)
    · refine zp_aload_n dX5_init_81 rfl ?_
      refine zp_get dX5_init_82 gX5_42_1 k29_0 rfl ?_
      refine zp_pc (pc' := 85) rfl ?_
      refine zp_callI (As := [.int (nI (zsd kd))]) (k := a + 1) (st := [.ref (a + 1), .ref (a)]) dX5_init_85 cX5_49 rfl (e_row (r := a + 1) (N := zsd kd) (by omega) (by omega) (by omega) k29_1) ⟨Nat.le_of_ble_eq_true rfl, Nat.le_of_ble_eq_true rfl⟩ ⟨Nat.le_of_ble_eq_true rfl, by show _ + zsd kd ≤ 226; omega⟩ (Nat.le_of_ble_eq_true rfl) (fun v32 h32 n32 q32 => ?_)
      obtain ⟨rfl, N32, s32, r32⟩ := q32
      rw [N32]
      refine zp_nn (cells' := 2) (slots' := 2 + zsd kd) (n' := a + 3) (st' := [.ref (a + 1), .ref (a)]) rfl rfl rfl rfl ?_
      have s32 : zsm _ _ (zrs (a + 1)) := s32
      have r32 := r32 rfl
      have m33 : h32 (a) = some (.inl (1, [.int (nI (st)), .int (nI (zbi rs)), .int (nI (zsd kd)), .null, .null, .ref (26), .int (nI (kd)), .int (nI (iv)), .int (nI (0)), .int (nI (0)), .int (nI (0)), .null, .int (0)])) := (s32 _ (by unfold zrs; omega)).trans k29_0
      have y34_0 := y31_0.sm s32 (fun i hi => by unfold zrs at hi; omega)
      refine zp_putF (fs' := [.int (nI (st)), .int (nI (zbi rs)), .int (nI (zsd kd)), .ref (a + 1), .null, .ref (26), .int (nI (kd)), .int (nI (iv)), .int (nI (0)), .int (nI (0)), .int (nI (0)), .null, .int (0)]) dX5_init_88 pX5_52_1 rfl (by omega) m33 (Nat.le_of_ble_eq_true rfl) (zfit_r _ _) rfl ?_
      refine zp_nh (fun h35x eh35x => ?_)
      have k35_0 : h35x (a) = some (.inl (1, [.int (nI (st)), .int (nI (zbi rs)), .int (nI (zsd kd)), .ref (a + 1), .null, .ref (26), .int (nI (kd)), .int (nI (iv)), .int (nI (0)), .int (nI (0)), .int (nI (0)), .null, .int (0)])) := by rw [eh35x]; exact va_up_self _ _ _
      have sw36 : zsm h32 h35x (zon (a)) := zsm.rf.up eh35x rfl
      have y37_0 := y34_0.sm sw36 (fun i hi => by unfold zon at hi; omega)
      have y37_1 := r32.keep (sw36 _ (by unfold zon; omega)) (sw36 _ (by unfold zon; omega))
      refine zp_aload_n dX5_init_91 rfl ?_
      refine zp_pc (pc' := 92) rfl ?_
      refine zp_new dX5_init_92 nX5_45 (Nat.le_of_ble_eq_true rfl) (by show _ + 2 ≤ 226; omega) ?_
      refine zp_nn (cells' := 3) (slots' := 4 + zsd kd) (n' := a + 4) (st' := [.ref (a + 3), .ref (a)]) rfl (by show _ + 2 = _; omega) rfl rfl ?_
      refine zp_nh (fun h38x eh38x => ?_)
      have k38_0 := (congrFun eh38x (a)).trans ((va_up_ne _ _ (by omega)).trans k35_0)
      have k38_1 : h38x (a + 3) = some (.inl (6, [.null, .int (0)])) := by rw [eh38x]; exact va_up_self _ _ _
      have sw39 : zsm h35x h38x (zon (a + 3)) := zsm.rf.up eh38x rfl
      have y40_0 := y37_0.sm sw39 (fun i hi => by unfold zon at hi; omega)
      have y40_1 := y37_1.keep (sw39 _ (by unfold zon; omega)) (sw39 _ (by unfold zon; omega))
      refine zp_dup dX5_init_95 rfl ?_
      refine zp_iload dX5_init_96 rfl ?_
      refine zp_pc (pc' := 98) rfl ?_
      refine zn_if_eq (tgt := 111) dX5_init_98 (by decide) (by decide) (fun c98 => ?_) (fun c98 => ?_)
      · refine zp_aload_n dX5_init_111 rfl ?_
        refine zp_get dX5_init_112 gX5_42_1 k38_0 rfl ?_
        refine zp_pc (pc' := 115) rfl ?_
        refine zp_callI (As := [.int (nI (zsd kd))]) (k := a + 3) (st := [.ref (a + 3), .ref (a)]) dX5_init_115 cX5_49 rfl (e_row (r := a + 3) (N := zsd kd) (by omega) (by omega) (by omega) k38_1) ⟨Nat.le_of_ble_eq_true rfl, Nat.le_of_ble_eq_true rfl⟩ ⟨Nat.le_of_ble_eq_true rfl, by show _ + (zsd kd) ≤ 226; omega⟩ (Nat.le_of_ble_eq_true rfl) (fun v41 h41 n41 q41 => ?_)
        obtain ⟨rfl, N41, s41, r41⟩ := q41
        rw [N41]
        refine zp_nn (cells' := 4) (slots' := 4 + zsd kd + (zsd kd)) (n' := a + 5) (st' := [.ref (a + 3), .ref (a)]) rfl rfl rfl rfl ?_
        have s41 : zsm _ _ (zrs (a + 3)) := s41
        have r41 := r41 rfl
        have m42 : h41 (a) = some (.inl (1, [.int (nI (st)), .int (nI (zbi rs)), .int (nI (zsd kd)), .ref (a + 1), .null, .ref (26), .int (nI (kd)), .int (nI (iv)), .int (nI (0)), .int (nI (0)), .int (nI (0)), .null, .int (0)])) := (s41 _ (by unfold zrs; omega)).trans k38_0
        have y43_0 := y40_0.sm s41 (fun i hi => by unfold zrs at hi; omega)
        have y43_1 := y40_1.keep (s41 _ (by unfold zrs; omega)) (s41 _ (by unfold zrs; omega))
        refine zp_putF (fs' := [.int (nI (st)), .int (nI (zbi rs)), .int (nI (zsd kd)), .ref (a + 1), .ref (a + 3), .ref (26), .int (nI (kd)), .int (nI (iv)), .int (nI (0)), .int (nI (0)), .int (nI (0)), .null, .int (0)]) dX5_init_118 pX5_56_1 rfl (by omega) m42 (Nat.le_of_ble_eq_true rfl) (zfit_r _ _) rfl ?_
        refine zp_nh (fun h44x eh44x => ?_)
        have k44_0 : h44x (a) = some (.inl (1, [.int (nI (st)), .int (nI (zbi rs)), .int (nI (zsd kd)), .ref (a + 1), .ref (a + 3), .ref (26), .int (nI (kd)), .int (nI (iv)), .int (nI (0)), .int (nI (0)), .int (nI (0)), .null, .int (0)])) := by rw [eh44x]; exact va_up_self _ _ _
        have sw45 : zsm h41 h44x (zon (a)) := zsm.rf.up eh44x rfl
        have y46_0 := y43_0.sm sw45 (fun i hi => by unfold zon at hi; omega)
        have y46_1 := y43_1.keep (sw45 _ (by unfold zon; omega)) (sw45 _ (by unfold zon; omega))
        have y46_2 := r41.keep (sw45 _ (by unfold zon; omega)) (sw45 _ (by unfold zon; omega))
        refine zp_pc (pc' := 121) rfl ?_
        have e1 : zvN kd = zsd kd := by unfold zvN; rw [if_pos k4]
        have e2 : zcN kd = zsd kd := by unfold zcN; rw [if_pos k4]
        refine zp_ret (v := none) dX5_init_121 ⟨rfl, rfl⟩ (Nat.le_of_ble_eq_true rfl) (by show _ ≤ 226; omega) ?_
        rw [hQ]
        exact ⟨rfl, rfl, (((((((((((((((sw2).mono (fun i hi => by unfold zbt; unfold zon at hi; omega)).trans ((sw5).mono (fun i hi => by unfold zbt; unfold zon at hi; omega))).trans ((sw8).mono (fun i hi => by unfold zbt; unfold zon at hi; omega))).trans ((sw11).mono (fun i hi => by unfold zbt; unfold zon at hi; omega))).trans ((sw14).mono (fun i hi => by unfold zbt; unfold zon at hi; omega))).trans ((sw17).mono (fun i hi => by unfold zbt; unfold zon at hi; omega))).trans ((sw20).mono (fun i hi => by unfold zbt; unfold zon at hi; omega))).trans ((sw23).mono (fun i hi => by unfold zbt; unfold zon at hi; omega))).trans ((sw27).mono (fun i hi => by unfold zbt; unfold zon at hi; omega))).trans ((sw30).mono (fun i hi => by unfold zbt; unfold zon at hi; omega))).trans ((s32).mono (fun i hi => by unfold zbt; unfold zrs at hi; omega))).trans ((sw36).mono (fun i hi => by unfold zbt; unfold zon at hi; omega))).trans ((sw39).mono (fun i hi => by unfold zbt; unfold zon at hi; omega))).trans ((s41).mono (fun i hi => by unfold zbt; unfold zrs at hi; omega))).trans ((sw45).mono (fun i hi => by unfold zbt; unfold zon at hi; omega)), k44_0, by rw [e1]; exact y46_1, by rw [e2]; exact y46_2⟩
      · exact absurd rfl c98
    · exact absurd rfl c73
  · have k4 : ¬ kd < 4 := by omega
    refine zp_iconst (v := nI (1)) dX5_init_59 (by decide) ?_
    refine zp_goto (tgt := 64) dX5_init_60 (by decide) ?_
    refine zp_istore (ls' := [some (.ref (a)), some (.int (nI (kd))), some (.int (nI (st))), some (.int (nI (zbi rs))), some (.int (nI (iv))), some (.ref (26)), some (.int (nI (1)))]) dX5_init_64 (by decide) rfl ?_
    refine zp_aload_n dX5_init_66 rfl ?_
    refine zp_pc (pc' := 67) rfl ?_
    refine zp_new dX5_init_67 nX5_45 (Nat.le_of_ble_eq_true rfl) (by show _ + 2 ≤ 226; omega) ?_
    refine zp_nn (cells' := 1) (slots' := 2) (n' := a + 2) (st' := [.ref (a + 1), .ref (a)]) rfl (by show _ + 2 = _; omega) rfl rfl ?_
    refine zp_nh (fun h47x eh47x => ?_)
    have k47_0 := (congrFun eh47x (a)).trans ((va_up_ne _ _ (by omega)).trans k26_0)
    have k47_1 : h47x (a + 1) = some (.inl (6, [.null, .int (0)])) := by rw [eh47x]; exact va_up_self _ _ _
    have sw48 : zsm h26x h47x (zon (a + 1)) := zsm.rf.up eh47x rfl
    have y49_0 := y28_0.sm sw48 (fun i hi => by unfold zon at hi; omega)
    refine zp_dup dX5_init_70 rfl ?_
    refine zp_iload dX5_init_71 rfl ?_
    refine zp_pc (pc' := 73) rfl ?_
    refine zn_if_eq (tgt := 81) dX5_init_73 (by decide) (by decide) (fun c73 => ?_) (fun c73 => ?_)
    · exact absurd c73 (by decide)
    · refine zp_bipush (v := nI (16)) dX5_init_76 (by decide) ?_
      refine zp_goto (tgt := 85) dX5_init_78 (by decide) ?_
      refine zp_pc (pc' := 85) rfl ?_
      refine zp_callI (As := [.int (nI (16))]) (k := a + 1) (st := [.ref (a + 1), .ref (a)]) dX5_init_85 cX5_49 rfl (e_row (r := a + 1) (N := 16) (by omega) (by omega) (by omega) k47_1) ⟨Nat.le_of_ble_eq_true rfl, Nat.le_of_ble_eq_true rfl⟩ ⟨Nat.le_of_ble_eq_true rfl, by show _ + 16 ≤ 226; omega⟩ (Nat.le_of_ble_eq_true rfl) (fun v50 h50 n50 q50 => ?_)
      obtain ⟨rfl, N50, s50, r50⟩ := q50
      rw [N50]
      refine zp_nn (cells' := 2) (slots' := 2 + 16) (n' := a + 3) (st' := [.ref (a + 1), .ref (a)]) rfl rfl rfl rfl ?_
      have s50 : zsm _ _ (zrs (a + 1)) := s50
      have r50 := r50 rfl
      have m51 : h50 (a) = some (.inl (1, [.int (nI (st)), .int (nI (zbi rs)), .int (nI (zsd kd)), .null, .null, .ref (26), .int (nI (kd)), .int (nI (iv)), .int (nI (0)), .int (nI (0)), .int (nI (0)), .null, .int (0)])) := (s50 _ (by unfold zrs; omega)).trans k47_0
      have y52_0 := y49_0.sm s50 (fun i hi => by unfold zrs at hi; omega)
      refine zp_putF (fs' := [.int (nI (st)), .int (nI (zbi rs)), .int (nI (zsd kd)), .ref (a + 1), .null, .ref (26), .int (nI (kd)), .int (nI (iv)), .int (nI (0)), .int (nI (0)), .int (nI (0)), .null, .int (0)]) dX5_init_88 pX5_52_1 rfl (by omega) m51 (Nat.le_of_ble_eq_true rfl) (zfit_r _ _) rfl ?_
      refine zp_nh (fun h53x eh53x => ?_)
      have k53_0 : h53x (a) = some (.inl (1, [.int (nI (st)), .int (nI (zbi rs)), .int (nI (zsd kd)), .ref (a + 1), .null, .ref (26), .int (nI (kd)), .int (nI (iv)), .int (nI (0)), .int (nI (0)), .int (nI (0)), .null, .int (0)])) := by rw [eh53x]; exact va_up_self _ _ _
      have sw54 : zsm h50 h53x (zon (a)) := zsm.rf.up eh53x rfl
      have y55_0 := y52_0.sm sw54 (fun i hi => by unfold zon at hi; omega)
      have y55_1 := r50.keep (sw54 _ (by unfold zon; omega)) (sw54 _ (by unfold zon; omega))
      refine zp_aload_n dX5_init_91 rfl ?_
      refine zp_pc (pc' := 92) rfl ?_
      refine zp_new dX5_init_92 nX5_45 (Nat.le_of_ble_eq_true rfl) (by show _ + 2 ≤ 226; omega) ?_
      refine zp_nn (cells' := 3) (slots' := 4 + 16) (n' := a + 4) (st' := [.ref (a + 3), .ref (a)]) rfl (by show _ + 2 = _; omega) rfl rfl ?_
      refine zp_nh (fun h56x eh56x => ?_)
      have k56_0 := (congrFun eh56x (a)).trans ((va_up_ne _ _ (by omega)).trans k53_0)
      have k56_1 : h56x (a + 3) = some (.inl (6, [.null, .int (0)])) := by rw [eh56x]; exact va_up_self _ _ _
      have sw57 : zsm h53x h56x (zon (a + 3)) := zsm.rf.up eh56x rfl
      have y58_0 := y55_0.sm sw57 (fun i hi => by unfold zon at hi; omega)
      have y58_1 := y55_1.keep (sw57 _ (by unfold zon; omega)) (sw57 _ (by unfold zon; omega))
      refine zp_dup dX5_init_95 rfl ?_
      refine zp_iload dX5_init_96 rfl ?_
      refine zp_pc (pc' := 98) rfl ?_
      refine zn_if_eq (tgt := 111) dX5_init_98 (by decide) (by decide) (fun c98 => ?_) (fun c98 => ?_)
      · exact absurd c98 (by decide)
      · refine zp_aload_n dX5_init_101 rfl ?_
        refine zp_get dX5_init_102 gX5_42_1 k56_0 rfl ?_
        refine zp_bipush (v := nI (16)) dX5_init_105 (by decide) ?_
        refine zn_isub dX5_init_107 (by omega) ?_
        refine zp_goto (tgt := 115) dX5_init_108 (by decide) ?_
        refine zp_pc (pc' := 115) rfl ?_
        refine zp_callI (As := [.int (nI ((zsd kd) - (16)))]) (k := a + 3) (st := [.ref (a + 3), .ref (a)]) dX5_init_115 cX5_49 rfl (e_row (r := a + 3) (N := zsd kd - 16) (by omega) (by omega) (by omega) k56_1) ⟨Nat.le_of_ble_eq_true rfl, Nat.le_of_ble_eq_true rfl⟩ ⟨Nat.le_of_ble_eq_true rfl, by show _ + (zsd kd - 16) ≤ 226; omega⟩ (Nat.le_of_ble_eq_true rfl) (fun v59 h59 n59 q59 => ?_)
        obtain ⟨rfl, N59, s59, r59⟩ := q59
        rw [N59]
        refine zp_nn (cells' := 4) (slots' := 4 + 16 + (zsd kd - 16)) (n' := a + 5) (st' := [.ref (a + 3), .ref (a)]) rfl rfl rfl rfl ?_
        have s59 : zsm _ _ (zrs (a + 3)) := s59
        have r59 := r59 rfl
        have m60 : h59 (a) = some (.inl (1, [.int (nI (st)), .int (nI (zbi rs)), .int (nI (zsd kd)), .ref (a + 1), .null, .ref (26), .int (nI (kd)), .int (nI (iv)), .int (nI (0)), .int (nI (0)), .int (nI (0)), .null, .int (0)])) := (s59 _ (by unfold zrs; omega)).trans k56_0
        have y61_0 := y58_0.sm s59 (fun i hi => by unfold zrs at hi; omega)
        have y61_1 := y58_1.keep (s59 _ (by unfold zrs; omega)) (s59 _ (by unfold zrs; omega))
        refine zp_putF (fs' := [.int (nI (st)), .int (nI (zbi rs)), .int (nI (zsd kd)), .ref (a + 1), .ref (a + 3), .ref (26), .int (nI (kd)), .int (nI (iv)), .int (nI (0)), .int (nI (0)), .int (nI (0)), .null, .int (0)]) dX5_init_118 pX5_56_1 rfl (by omega) m60 (Nat.le_of_ble_eq_true rfl) (zfit_r _ _) rfl ?_
        refine zp_nh (fun h62x eh62x => ?_)
        have k62_0 : h62x (a) = some (.inl (1, [.int (nI (st)), .int (nI (zbi rs)), .int (nI (zsd kd)), .ref (a + 1), .ref (a + 3), .ref (26), .int (nI (kd)), .int (nI (iv)), .int (nI (0)), .int (nI (0)), .int (nI (0)), .null, .int (0)])) := by rw [eh62x]; exact va_up_self _ _ _
        have sw63 : zsm h59 h62x (zon (a)) := zsm.rf.up eh62x rfl
        have y64_0 := y61_0.sm sw63 (fun i hi => by unfold zon at hi; omega)
        have y64_1 := y61_1.keep (sw63 _ (by unfold zon; omega)) (sw63 _ (by unfold zon; omega))
        have y64_2 := r59.keep (sw63 _ (by unfold zon; omega)) (sw63 _ (by unfold zon; omega))
        refine zp_pc (pc' := 121) rfl ?_
        have e1 : zvN kd = 16 := by unfold zvN; rw [if_neg k4]
        have e2 : zcN kd = zsd kd - 16 := by unfold zcN; rw [if_neg k4]
        refine zp_ret (v := none) dX5_init_121 ⟨rfl, rfl⟩ (Nat.le_of_ble_eq_true rfl) (by show _ ≤ 226; omega) ?_
        rw [hQ]
        exact ⟨rfl, rfl, (((((((((((((((sw2).mono (fun i hi => by unfold zbt; unfold zon at hi; omega)).trans ((sw5).mono (fun i hi => by unfold zbt; unfold zon at hi; omega))).trans ((sw8).mono (fun i hi => by unfold zbt; unfold zon at hi; omega))).trans ((sw11).mono (fun i hi => by unfold zbt; unfold zon at hi; omega))).trans ((sw14).mono (fun i hi => by unfold zbt; unfold zon at hi; omega))).trans ((sw17).mono (fun i hi => by unfold zbt; unfold zon at hi; omega))).trans ((sw20).mono (fun i hi => by unfold zbt; unfold zon at hi; omega))).trans ((sw23).mono (fun i hi => by unfold zbt; unfold zon at hi; omega))).trans ((sw27).mono (fun i hi => by unfold zbt; unfold zon at hi; omega))).trans ((sw48).mono (fun i hi => by unfold zbt; unfold zon at hi; omega))).trans ((s50).mono (fun i hi => by unfold zbt; unfold zrs at hi; omega))).trans ((sw54).mono (fun i hi => by unfold zbt; unfold zon at hi; omega))).trans ((sw57).mono (fun i hi => by unfold zbt; unfold zon at hi; omega))).trans ((s59).mono (fun i hi => by unfold zbt; unfold zrs at hi; omega))).trans ((sw63).mono (fun i hi => by unfold zbt; unfold zon at hi; omega)), k62_0, by rw [e1]; exact y64_1, by rw [e2]; exact y64_2⟩
set_option maxRecDepth 10000 in
set_option maxHeartbeats 2000000 in
theorem e_gnew4 {g : ZG} {h : ZH} {n : Nat} {a kd st : Nat} {rs : Bool} {iv : Nat} (hn : n = a + 1) (ha : 64 ≤ a) (hk : kd < 2) (b3 : st ≤ 256) (b4 : iv ≤ 100000) (hd : zdk h) (o : h a = some (.inl (4, [.int (0), .int (0), .int (0), .null, .null, .null, .int (0), .int (0), .int (0), .int (0), .int (0), .null]))) : zMt g mX4_init (zR 3 4 226) [.ref (a), .int (nI (kd)), .int (nI (st)), .int (nI (zbi rs)), .int (nI (iv)), .ref (26)] h n (fun v h' n' => v = none ∧ n' = a + 5 ∧ zsm h h' (zbt a (a + 4)) ∧ zgen h' a 0 (kd, st, rs, iv, 0, nI 0, 0, [], [])) := by
  refine zMt.of [some (.ref (a)), some (.int (nI (kd))), some (.int (nI (st))), some (.int (nI (zbi rs))), some (.int (nI (iv))), some (.ref (26))] (by decide) rfl (Nat.le_of_ble_eq_true rfl) ?_
  obtain ⟨Qf, hQ⟩ : ∃ Qf : ZQ, Qf = (fun v h' n' => v = none ∧ n' = a + 5 ∧ zsm h h' (zbt a (a + 4)) ∧ zgen h' a 0 (kd, st, rs, iv, 0, nI 0, 0, [], [])) := ⟨_, rfl⟩
  rw [← hQ]
  have k8 : kd < 8 := by omega
  have l1 := zsd_le k8
  refine zp_aload_n dX4_init_0 rfl ?_
  refine zp_iload_n dX4_init_1 rfl ?_
  refine zp_iload_n dX4_init_2 rfl ?_
  refine zp_iload_n dX4_init_3 rfl ?_
  refine zp_iload dX4_init_4 rfl ?_
  refine zp_aload dX4_init_6 rfl ?_
  refine zp_pc (pc' := 8) rfl ?_
  refine zp_callI (As := [.int (nI (kd)), .int (nI (st)), .int (nI (zbi rs)), .int (nI (iv)), .ref (26)]) (k := a) (st := []) dX4_init_8 cX4_1 rfl (e_ginit4 hn ha k8 hd.1 o) (by decide) (by decide) (Nat.le_of_ble_eq_true rfl) (fun v1 h1 n1 q1 => ?_)
  obtain ⟨rfl, N1, s1, o1, v1, c1⟩ := q1
  rw [N1]
  refine zp_nn (cells' := 4) (slots' := 226) (n' := a + 5) (st' := []) rfl rfl rfl rfl ?_
  have y2_0 : zdk h1 := hd.off s1 (fun i hi => by unfold zbt at hi; omega)
  refine zp_aload_n dX4_init_11 rfl ?_
  refine zp_aload dX4_init_12 rfl ?_
  refine zp_iload_n dX4_init_14 rfl ?_
  refine zp_pc (pc' := 15) rfl ?_
  refine zp_callSU (As := [.int (nI kd)]) (st := [.ref (26), .ref (a)]) dX4_init_15 cX4_7 rfl (e_isGreat k8) (by decide) (by decide) (Nat.le_of_ble_eq_true rfl) (fun v3 h3 n3 q3 => ?_)
  obtain ⟨rfl, H3, N3⟩ := q3
  rw [N3, H3]
  refine zp_nn (cells' := 4) (slots' := 226) (n' := a + 5) (st' := [.int (nI (zbi (zod kd))), .ref (26), .ref (a)]) rfl rfl rfl rfl ?_
  refine zp_callV (As := [.int (nI (zbi (zod kd)))]) (k := 26) (st := [.ref (a)]) (ci := 2) dX4_init_18 cX4_13 rfl y2_0.2.1 rfl rfl (e_digestOf (b := zod kd) y2_0.2.1) (by decide) (by decide) (Nat.le_of_ble_eq_true rfl) (fun v4 h4 n4 q4 => ?_)
  obtain ⟨rfl, H4, N4⟩ := q4
  rw [N4, H4]
  refine zp_nn (cells' := 4) (slots' := 226) (n' := a + 5) (st' := [.ref (zdid (zod kd)), .ref (a)]) rfl rfl rfl rfl ?_
  refine zp_putF (fs' := [.int (nI (st)), .int (nI (zbi rs)), .int (nI (zsd kd)), .ref (a + 1), .ref (a + 3), .ref (26), .int (nI (kd)), .int (nI (iv)), .int (nI (0)), .int (nI 0), .int (nI (0)), .ref (zdid (zod kd))]) dX4_init_21 pX4_19_4 rfl (by omega) o1 (Nat.le_of_ble_eq_true rfl) (zfit_r _ _) rfl ?_
  refine zp_nh (fun h5x eh5x => ?_)
  have k5_0 : h5x (a) = some (.inl (4, [.int (nI (st)), .int (nI (zbi rs)), .int (nI (zsd kd)), .ref (a + 1), .ref (a + 3), .ref (26), .int (nI (kd)), .int (nI (iv)), .int (nI (0)), .int (nI 0), .int (nI (0)), .ref (zdid (zod kd))])) := by rw [eh5x]; exact va_up_self _ _ _
  have sw6 : zsm h1 h5x (zon (a)) := zsm.rf.up eh5x rfl
  have y7_0 : zdk h5x := y2_0.off sw6 (fun i hi => by unfold zon at hi; omega)
  have y7_1 := v1.keep (sw6 _ (by unfold zon; omega)) (sw6 _ (by unfold zon; omega))
  have y7_2 := c1.keep (sw6 _ (by unfold zon; omega)) (sw6 _ (by unfold zon; omega))
  refine zp_pc (pc' := 24) rfl ?_
  have hc : (some (.inl (4, [.int (nI (st)), .int (nI (zbi rs)), .int (nI (zsd kd)), .ref (a + 1), .ref (a + 3), .ref (26), .int (nI (kd)), .int (nI (iv)), .int (nI (0)), .int (nI 0), .int (nI (0)), .ref (zdid (zod kd))])) : Option ZC) = some (.inl (zci kd, zgl a kd st rs iv 0 (nI 0) 0 (zex kd))) := by
    rcases zkind k8 with ⟨-, -, -, -, -, e6, e7⟩ | ⟨q, -⟩ | ⟨q, -⟩
    · rw [e6, e7]; rfl
    · omega
    · omega
  refine zp_ret (v := none) dX4_init_24 ⟨rfl, rfl⟩ (Nat.le_of_ble_eq_true rfl) (Nat.le_of_ble_eq_true rfl) ?_
  rw [hQ]
  exact ⟨rfl, rfl, ((s1).mono (fun i hi => by unfold zbt; unfold zbt at hi; omega)).trans ((sw6).mono (fun i hi => by unfold zbt; unfold zon at hi; omega)), by omega, k8, b3, b4, Nat.le_refl _, Nat.le_refl _, (k5_0).trans hc, y7_1, y7_2, Or.inl rfl⟩
set_option maxRecDepth 10000 in
set_option maxHeartbeats 2000000 in
theorem e_gnew5 {g : ZG} {h : ZH} {n : Nat} {a kd st : Nat} {rs : Bool} {iv : Nat} (hn : n = a + 1) (ha : 64 ≤ a) (hk : 2 ≤ kd ∧ kd < 4) (b3 : st ≤ 256) (b4 : iv ≤ 100000) (hd : zdk h) (o : h a = some (.inl (5, [.int (0), .int (0), .int (0), .null, .null, .null, .int (0), .int (0), .int (0), .int (0), .int (0), .null]))) : zMt g mX6_init (zR 3 4 226) [.ref (a), .int (nI (kd)), .int (nI (st)), .int (nI (zbi rs)), .int (nI (iv)), .ref (26)] h n (fun v h' n' => v = none ∧ n' = a + 5 ∧ zsm h h' (zbt a (a + 4)) ∧ zgen h' a 0 (kd, st, rs, iv, 0, nI 0, 0, [], [])) := by
  refine zMt.of [some (.ref (a)), some (.int (nI (kd))), some (.int (nI (st))), some (.int (nI (zbi rs))), some (.int (nI (iv))), some (.ref (26))] (by decide) rfl (Nat.le_of_ble_eq_true rfl) ?_
  obtain ⟨Qf, hQ⟩ : ∃ Qf : ZQ, Qf = (fun v h' n' => v = none ∧ n' = a + 5 ∧ zsm h h' (zbt a (a + 4)) ∧ zgen h' a 0 (kd, st, rs, iv, 0, nI 0, 0, [], [])) := ⟨_, rfl⟩
  rw [← hQ]
  have k8 : kd < 8 := by omega
  have l1 := zsd_le k8
  refine zp_aload_n dX6_init_0 rfl ?_
  refine zp_iload_n dX6_init_1 rfl ?_
  refine zp_iload_n dX6_init_2 rfl ?_
  refine zp_iload_n dX6_init_3 rfl ?_
  refine zp_iload dX6_init_4 rfl ?_
  refine zp_aload dX6_init_6 rfl ?_
  refine zp_pc (pc' := 8) rfl ?_
  refine zp_callI (As := [.int (nI (kd)), .int (nI (st)), .int (nI (zbi rs)), .int (nI (iv)), .ref (26)]) (k := a) (st := []) dX6_init_8 cX6_1 rfl (e_ginit5 hn ha k8 hd.1 o) (by decide) (by decide) (Nat.le_of_ble_eq_true rfl) (fun v1 h1 n1 q1 => ?_)
  obtain ⟨rfl, N1, s1, o1, v1, c1⟩ := q1
  rw [N1]
  refine zp_nn (cells' := 4) (slots' := 226) (n' := a + 5) (st' := []) rfl rfl rfl rfl ?_
  have y2_0 : zdk h1 := hd.off s1 (fun i hi => by unfold zbt at hi; omega)
  refine zp_aload_n dX6_init_11 rfl ?_
  refine zp_aload dX6_init_12 rfl ?_
  refine zp_iload_n dX6_init_14 rfl ?_
  refine zp_pc (pc' := 15) rfl ?_
  refine zp_callSU (As := [.int (nI kd)]) (st := [.ref (26), .ref (a)]) dX6_init_15 cX6_7 rfl (e_isGreat k8) (by decide) (by decide) (Nat.le_of_ble_eq_true rfl) (fun v3 h3 n3 q3 => ?_)
  obtain ⟨rfl, H3, N3⟩ := q3
  rw [N3, H3]
  refine zp_nn (cells' := 4) (slots' := 226) (n' := a + 5) (st' := [.int (nI (zbi (zod kd))), .ref (26), .ref (a)]) rfl rfl rfl rfl ?_
  refine zp_callV (As := [.int (nI (zbi (zod kd)))]) (k := 26) (st := [.ref (a)]) (ci := 2) dX6_init_18 cX6_13 rfl y2_0.2.1 rfl rfl (e_digestOf (b := zod kd) y2_0.2.1) (by decide) (by decide) (Nat.le_of_ble_eq_true rfl) (fun v4 h4 n4 q4 => ?_)
  obtain ⟨rfl, H4, N4⟩ := q4
  rw [N4, H4]
  refine zp_nn (cells' := 4) (slots' := 226) (n' := a + 5) (st' := [.ref (zdid (zod kd)), .ref (a)]) rfl rfl rfl rfl ?_
  refine zp_putF (fs' := [.int (nI (st)), .int (nI (zbi rs)), .int (nI (zsd kd)), .ref (a + 1), .ref (a + 3), .ref (26), .int (nI (kd)), .int (nI (iv)), .int (nI (0)), .int (nI 0), .int (nI (0)), .ref (zdid (zod kd))]) dX6_init_21 pX6_19_5 rfl (by omega) o1 (Nat.le_of_ble_eq_true rfl) (zfit_r _ _) rfl ?_
  refine zp_nh (fun h5x eh5x => ?_)
  have k5_0 : h5x (a) = some (.inl (5, [.int (nI (st)), .int (nI (zbi rs)), .int (nI (zsd kd)), .ref (a + 1), .ref (a + 3), .ref (26), .int (nI (kd)), .int (nI (iv)), .int (nI (0)), .int (nI 0), .int (nI (0)), .ref (zdid (zod kd))])) := by rw [eh5x]; exact va_up_self _ _ _
  have sw6 : zsm h1 h5x (zon (a)) := zsm.rf.up eh5x rfl
  have y7_0 : zdk h5x := y2_0.off sw6 (fun i hi => by unfold zon at hi; omega)
  have y7_1 := v1.keep (sw6 _ (by unfold zon; omega)) (sw6 _ (by unfold zon; omega))
  have y7_2 := c1.keep (sw6 _ (by unfold zon; omega)) (sw6 _ (by unfold zon; omega))
  refine zp_pc (pc' := 24) rfl ?_
  have hc : (some (.inl (5, [.int (nI (st)), .int (nI (zbi rs)), .int (nI (zsd kd)), .ref (a + 1), .ref (a + 3), .ref (26), .int (nI (kd)), .int (nI (iv)), .int (nI (0)), .int (nI 0), .int (nI (0)), .ref (zdid (zod kd))])) : Option ZC) = some (.inl (zci kd, zgl a kd st rs iv 0 (nI 0) 0 (zex kd))) := by
    rcases zkind k8 with ⟨q, -⟩ | ⟨-, -, -, -, -, -, e6, e7⟩ | ⟨-, q, -⟩
    · omega
    · rw [e6, e7]; rfl
    · omega
  refine zp_ret (v := none) dX6_init_24 ⟨rfl, rfl⟩ (Nat.le_of_ble_eq_true rfl) (Nat.le_of_ble_eq_true rfl) ?_
  rw [hQ]
  exact ⟨rfl, rfl, ((s1).mono (fun i hi => by unfold zbt; unfold zbt at hi; omega)).trans ((sw6).mono (fun i hi => by unfold zbt; unfold zon at hi; omega)), by omega, k8, b3, b4, Nat.le_refl _, Nat.le_refl _, (k5_0).trans hc, y7_1, y7_2, Or.inl rfl⟩
set_option maxRecDepth 10000 in
set_option maxHeartbeats 2000000 in
theorem e_gnew1 {g : ZG} {h : ZH} {n : Nat} {a kd st : Nat} {rs : Bool} {iv : Nat} (hn : n = a + 1) (ha : 64 ≤ a) (hk : 4 ≤ kd ∧ kd < 8) (b3 : st ≤ 256) (b4 : iv ≤ 100000) (hd : zdk h) (o : h a = some (.inl (1, [.int (0), .int (0), .int (0), .null, .null, .null, .int (0), .int (0), .int (0), .int (0), .int (0), .null, .int (0)]))) : zMt g mX1_init (zR 3 4 226) [.ref (a), .int (nI (kd)), .int (nI (st)), .int (nI (zbi rs)), .int (nI (iv)), .ref (26)] h n (fun v h' n' => v = none ∧ n' = a + 5 ∧ zsm h h' (zbt a (a + 4)) ∧ zgen h' a 0 (kd, st, rs, iv, 0, nI 0, 0, [], [])) := by
  refine zMt.of [some (.ref (a)), some (.int (nI (kd))), some (.int (nI (st))), some (.int (nI (zbi rs))), some (.int (nI (iv))), some (.ref (26))] (by decide) rfl (Nat.le_of_ble_eq_true rfl) ?_
  obtain ⟨Qf, hQ⟩ : ∃ Qf : ZQ, Qf = (fun v h' n' => v = none ∧ n' = a + 5 ∧ zsm h h' (zbt a (a + 4)) ∧ zgen h' a 0 (kd, st, rs, iv, 0, nI 0, 0, [], [])) := ⟨_, rfl⟩
  rw [← hQ]
  have k8 : kd < 8 := by omega
  have l1 := zsd_le k8
  refine zp_aload_n dX1_init_0 rfl ?_
  refine zp_iload_n dX1_init_1 rfl ?_
  refine zp_iload_n dX1_init_2 rfl ?_
  refine zp_iload_n dX1_init_3 rfl ?_
  refine zp_iload dX1_init_4 rfl ?_
  refine zp_aload dX1_init_6 rfl ?_
  refine zp_pc (pc' := 8) rfl ?_
  refine zp_callI (As := [.int (nI (kd)), .int (nI (st)), .int (nI (zbi rs)), .int (nI (iv)), .ref (26)]) (k := a) (st := []) dX1_init_8 cX1_1 rfl (e_ginit1 hn ha k8 hd.1 o) (by decide) (by decide) (Nat.le_of_ble_eq_true rfl) (fun v1 h1 n1 q1 => ?_)
  obtain ⟨rfl, N1, s1, o1, v1, c1⟩ := q1
  rw [N1]
  refine zp_nn (cells' := 4) (slots' := 226) (n' := a + 5) (st' := []) rfl rfl rfl rfl ?_
  have y2_0 : zdk h1 := hd.off s1 (fun i hi => by unfold zbt at hi; omega)
  refine zp_aload_n dX1_init_11 rfl ?_
  refine zp_aload dX1_init_12 rfl ?_
  refine zp_get dX1_init_14 gX1_7_2 y2_0.2.1 rfl ?_
  refine zp_putF (fs' := [.int (nI (st)), .int (nI (zbi rs)), .int (nI (zsd kd)), .ref (a + 1), .ref (a + 3), .ref (26), .int (nI (kd)), .int (nI (iv)), .int (nI (0)), .int (nI 0), .int (nI (0)), .ref (27), .int (0)]) dX1_init_17 pX1_13_1 rfl (by omega) o1 (Nat.le_of_ble_eq_true rfl) (zfit_r _ _) rfl ?_
  refine zp_nh (fun h3x eh3x => ?_)
  have k3_0 : h3x (a) = some (.inl (1, [.int (nI (st)), .int (nI (zbi rs)), .int (nI (zsd kd)), .ref (a + 1), .ref (a + 3), .ref (26), .int (nI (kd)), .int (nI (iv)), .int (nI (0)), .int (nI 0), .int (nI (0)), .ref (27), .int (0)])) := by rw [eh3x]; exact va_up_self _ _ _
  have k3_1 := (congrFun eh3x (26)).trans ((va_up_ne _ _ (by omega)).trans y2_0.2.1)
  have sw4 : zsm h1 h3x (zon (a)) := zsm.rf.up eh3x rfl
  have y5_0 : zdk h3x := y2_0.off sw4 (fun i hi => by unfold zon at hi; omega)
  have y5_1 := v1.keep (sw4 _ (by unfold zon; omega)) (sw4 _ (by unfold zon; omega))
  have y5_2 := c1.keep (sw4 _ (by unfold zon; omega)) (sw4 _ (by unfold zon; omega))
  refine zp_aload_n dX1_init_20 rfl ?_
  refine zp_aload_n dX1_init_21 rfl ?_
  refine zp_get dX1_init_22 gX1_18_1 k3_0 rfl ?_
  refine zp_bipush (v := nI (16)) dX1_init_25 (by decide) ?_
  refine zn_isub dX1_init_27 (by omega) ?_
  refine zp_putF (fs' := [.int (nI (st)), .int (nI (zbi rs)), .int (nI (zsd kd)), .ref (a + 1), .ref (a + 3), .ref (26), .int (nI (kd)), .int (nI (iv)), .int (nI (0)), .int (nI 0), .int (nI (0)), .ref (27), .int (nI ((zsd kd) - (16)))]) dX1_init_28 pX1_24_1 rfl (by omega) k3_0 (Nat.le_of_ble_eq_true rfl) (zfit_i _) rfl ?_
  refine zp_nh (fun h6x eh6x => ?_)
  have k6_0 : h6x (a) = some (.inl (1, [.int (nI (st)), .int (nI (zbi rs)), .int (nI (zsd kd)), .ref (a + 1), .ref (a + 3), .ref (26), .int (nI (kd)), .int (nI (iv)), .int (nI (0)), .int (nI 0), .int (nI (0)), .ref (27), .int (nI ((zsd kd) - (16)))])) := by rw [eh6x]; exact va_up_self _ _ _
  have k6_1 := (congrFun eh6x (26)).trans ((va_up_ne _ _ (by omega)).trans k3_1)
  have sw7 : zsm h3x h6x (zon (a)) := zsm.rf.up eh6x rfl
  have y8_0 : zdk h6x := y5_0.off sw7 (fun i hi => by unfold zon at hi; omega)
  have y8_1 := y5_1.keep (sw7 _ (by unfold zon; omega)) (sw7 _ (by unfold zon; omega))
  have y8_2 := y5_2.keep (sw7 _ (by unfold zon; omega)) (sw7 _ (by unfold zon; omega))
  refine zp_pc (pc' := 31) rfl ?_
  have hc : (some (.inl (1, [.int (nI (st)), .int (nI (zbi rs)), .int (nI (zsd kd)), .ref (a + 1), .ref (a + 3), .ref (26), .int (nI (kd)), .int (nI (iv)), .int (nI (0)), .int (nI 0), .int (nI (0)), .ref (27), .int (nI ((zsd kd) - (16)))])) : Option ZC) = some (.inl (zci kd, zgl a kd st rs iv 0 (nI 0) 0 (zex kd))) := by
    rcases zkind k8 with ⟨q, -⟩ | ⟨-, q, -⟩ | ⟨-, -, -, e5, -, -, e6, e7⟩
    · omega
    · omega
    · rw [e6]; unfold zex; rw [if_neg (by omega)]; rfl
  refine zp_ret (v := none) dX1_init_31 ⟨rfl, rfl⟩ (Nat.le_of_ble_eq_true rfl) (Nat.le_of_ble_eq_true rfl) ?_
  rw [hQ]
  exact ⟨rfl, rfl, (((s1).mono (fun i hi => by unfold zbt; unfold zbt at hi; omega)).trans ((sw4).mono (fun i hi => by unfold zbt; unfold zon at hi; omega))).trans ((sw7).mono (fun i hi => by unfold zbt; unfold zon at hi; omega)), by omega, k8, b3, b4, Nat.le_refl _, Nat.le_refl _, (k6_0).trans hc, y8_1, y8_2, Or.inl rfl⟩
