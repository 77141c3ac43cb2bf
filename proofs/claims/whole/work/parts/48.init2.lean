set_option maxRecDepth 10000 in
set_option maxHeartbeats 2000000 in
theorem e_deskInit {g : ZG} {h : ZH} {n : Nat}  (hn : n = 27) (ht : ztab h) (o : h 26 = some (.inl (2, [.null, .null, .null, .null, .null, .null, .null]))) : zMt g mX2_init (zR 3 36 4696) [.ref (26)] h n (fun v h' n' => v = none ∧ n' = 63 ∧ zsm h h' (zbt 26 62) ∧ zdk h') := by
  refine zMt.of [some (.ref (26))] (by decide) rfl (Nat.le_of_ble_eq_true rfl) ?_
  obtain ⟨Qf, hQ⟩ : ∃ Qf : ZQ, Qf = (fun v h' n' => v = none ∧ n' = 63 ∧ zsm h h' (zbt 26 62) ∧ zdk h') := ⟨_, rfl⟩
  rw [← hQ]
  subst hn
  refine zp_aload_n dX2_init_0 rfl ?_
  refine zp_pc (pc' := 1) rfl ?_
  refine zp_objInit dX2_init_1 cX2_1 ⟨Nat.le_of_ble_eq_true rfl, Nat.le_of_ble_eq_true rfl⟩ (Nat.le_of_ble_eq_true rfl) ?_
  refine zp_pc (pc' := 4) rfl ?_
  refine zp_aload_n dX2_init_4 rfl ?_
  refine zp_pc (pc' := 5) rfl ?_
  refine zp_new dX2_init_5 nX2_7 (Nat.le_of_ble_eq_true rfl) (Nat.le_of_ble_eq_true rfl) ?_
  refine zp_nn (cells' := 1) (slots' := 8) (n' := 28) (st' := [.ref (27), .ref (26)]) rfl rfl rfl rfl ?_
  refine zp_nh (fun h1x eh1x => ?_)
  have k1_0 := (congrFun eh1x (26)).trans ((va_up_ne _ _ (by omega)).trans o)
  have k1_1 : h1x (27) = some (.inl (0, [.null, .null, .null, .int (0), .null, .null, .null, .null])) := by rw [eh1x]; exact va_up_self _ _ _
  have sw2 : zsm h h1x (zon (27)) := zsm.rf.up eh1x rfl
  have y3_0 := ht.sm sw2 (fun i hi => by unfold zon at hi; omega)
  refine zp_dup dX2_init_8 rfl ?_
  refine zp_pc (pc' := 9) rfl ?_
  refine zp_callIN (As := []) (k := 27) (st := [.ref (27), .ref (26)]) dX2_init_9 cX2_9 rfl (e_cipInit rfl k1_1) (by decide) (by decide) (Nat.le_of_ble_eq_true rfl) (fun v4 h4 n4 q4 => ?_)
  obtain ⟨rfl, N4, s4, k4⟩ := q4
  rw [N4]
  refine zp_nn (cells' := 12) (slots' := 896) (n' := 39) (st' := [.ref (27), .ref (26)]) rfl rfl rfl rfl ?_
  have m5 : h4 (26) = some (.inl (2, [.null, .null, .null, .null, .null, .null, .null])) := (s4 _ (by unfold zbt; omega)).trans k1_0
  have y6_0 := y3_0.sm s4 (fun i hi => by unfold zbt at hi; omega)
  refine zp_putF (fs' := [.ref (27), .null, .null, .null, .null, .null, .null]) dX2_init_12 pX2_10_2 rfl (by omega) m5 (Nat.le_of_ble_eq_true rfl) (zfit_r _ _) rfl ?_
  refine zp_nh (fun h7x eh7x => ?_)
  have k7_0 : h7x (26) = some (.inl (2, [.ref (27), .null, .null, .null, .null, .null, .null])) := by rw [eh7x]; exact va_up_self _ _ _
  have sw8 : zsm h4 h7x (zon (26)) := zsm.rf.up eh7x rfl
  have y9_0 := y6_0.sm sw8 (fun i hi => by unfold zon at hi; omega)
  have y9_1 : zcy h7x 27 := k4.off (fun i h1 h2 => sw8 i (by unfold zon; omega))
  refine zp_aload_n dX2_init_15 rfl ?_
  refine zp_pc (pc' := 16) rfl ?_
  refine zp_new dX2_init_16 nX2_16 (Nat.le_of_ble_eq_true rfl) (Nat.le_of_ble_eq_true rfl) ?_
  refine zp_nn (cells' := 13) (slots' := 898) (n' := 40) (st' := [.ref (39), .ref (26)]) rfl rfl rfl rfl ?_
  refine zp_nh (fun h10x eh10x => ?_)
  have k10_0 := (congrFun eh10x (26)).trans ((va_up_ne _ _ (by omega)).trans k7_0)
  have k10_1 : h10x (39) = some (.inl (6, [.null, .int (0)])) := by rw [eh10x]; exact va_up_self _ _ _
  have sw11 : zsm h7x h10x (zon (39)) := zsm.rf.up eh10x rfl
  have y12_0 := y9_0.sm sw11 (fun i hi => by unfold zon at hi; omega)
  have y12_1 : zcy h10x 27 := y9_1.off (fun i h1 h2 => sw11 i (by unfold zon; omega))
  refine zp_dup dX2_init_19 rfl ?_
  refine zp_bipush (v := nI (64)) dX2_init_20 (by decide) ?_
  refine zp_pc (pc' := 22) rfl ?_
  refine zp_callI (As := [.int (nI (64))]) (k := 39) (st := [.ref (39), .ref (26)]) dX2_init_22 cX2_20 rfl (e_row (r := 39) (N := 64) (by omega) (by omega) (by omega) k10_1) (by decide) (by decide) (Nat.le_of_ble_eq_true rfl) (fun v13 h13 n13 q13 => ?_)
  obtain ⟨rfl, N13, s13, r13⟩ := q13
  rw [N13]
  refine zp_nn (cells' := 14) (slots' := 962) (n' := 41) (st' := [.ref (39), .ref (26)]) rfl rfl rfl rfl ?_
  have s13 : zsm _ _ (zrs (39)) := s13
  have r13 := r13 rfl
  have m14 : h13 (26) = some (.inl (2, [.ref (27), .null, .null, .null, .null, .null, .null])) := (s13 _ (by unfold zrs; omega)).trans k10_0
  have y15_0 := y12_0.sm s13 (fun i hi => by unfold zrs at hi; omega)
  have y15_1 : zcy h13 27 := y12_1.off (fun i h1 h2 => s13 i (by unfold zrs; omega))
  refine zp_putF (fs' := [.ref (27), .ref (39), .null, .null, .null, .null, .null]) dX2_init_25 pX2_23_2 rfl (by omega) m14 (Nat.le_of_ble_eq_true rfl) (zfit_r _ _) rfl ?_
  refine zp_nh (fun h16x eh16x => ?_)
  have k16_0 : h16x (26) = some (.inl (2, [.ref (27), .ref (39), .null, .null, .null, .null, .null])) := by rw [eh16x]; exact va_up_self _ _ _
  have sw17 : zsm h13 h16x (zon (26)) := zsm.rf.up eh16x rfl
  have y18_0 := y15_0.sm sw17 (fun i hi => by unfold zon at hi; omega)
  have y18_1 : zcy h16x 27 := y15_1.off (fun i h1 h2 => sw17 i (by unfold zon; omega))
  have y18_2 := r13.keep (sw17 _ (by unfold zon; omega)) (sw17 _ (by unfold zon; omega))
  refine zp_aload_n dX2_init_28 rfl ?_
  refine zp_pc (pc' := 29) rfl ?_
  refine zp_new dX2_init_29 nX2_16 (Nat.le_of_ble_eq_true rfl) (Nat.le_of_ble_eq_true rfl) ?_
  refine zp_nn (cells' := 15) (slots' := 964) (n' := 42) (st' := [.ref (41), .ref (26)]) rfl rfl rfl rfl ?_
  refine zp_nh (fun h19x eh19x => ?_)
  have k19_0 := (congrFun eh19x (26)).trans ((va_up_ne _ _ (by omega)).trans k16_0)
  have k19_1 : h19x (41) = some (.inl (6, [.null, .int (0)])) := by rw [eh19x]; exact va_up_self _ _ _
  have sw20 : zsm h16x h19x (zon (41)) := zsm.rf.up eh19x rfl
  have y21_0 := y18_0.sm sw20 (fun i hi => by unfold zon at hi; omega)
  have y21_1 : zcy h19x 27 := y18_1.off (fun i h1 h2 => sw20 i (by unfold zon; omega))
  have y21_2 := y18_2.keep (sw20 _ (by unfold zon; omega)) (sw20 _ (by unfold zon; omega))
  refine zp_dup dX2_init_32 rfl ?_
  refine zp_sipush (v := nI (512)) dX2_init_33 (by decide) ?_
  refine zp_pc (pc' := 36) rfl ?_
  refine zp_callI (As := [.int (nI (512))]) (k := 41) (st := [.ref (41), .ref (26)]) dX2_init_36 cX2_20 rfl (e_row (r := 41) (N := 512) (by omega) (by omega) (by omega) k19_1) (by decide) (by decide) (Nat.le_of_ble_eq_true rfl) (fun v22 h22 n22 q22 => ?_)
  obtain ⟨rfl, N22, s22, r22⟩ := q22
  rw [N22]
  refine zp_nn (cells' := 16) (slots' := 1476) (n' := 43) (st' := [.ref (41), .ref (26)]) rfl rfl rfl rfl ?_
  have s22 : zsm _ _ (zrs (41)) := s22
  have r22 := r22 rfl
  have m23 : h22 (26) = some (.inl (2, [.ref (27), .ref (39), .null, .null, .null, .null, .null])) := (s22 _ (by unfold zrs; omega)).trans k19_0
  have y24_0 := y21_0.sm s22 (fun i hi => by unfold zrs at hi; omega)
  have y24_1 : zcy h22 27 := y21_1.off (fun i h1 h2 => s22 i (by unfold zrs; omega))
  have y24_2 := y21_2.keep (s22 _ (by unfold zrs; omega)) (s22 _ (by unfold zrs; omega))
  refine zp_putF (fs' := [.ref (27), .ref (39), .ref (41), .null, .null, .null, .null]) dX2_init_39 pX2_27_2 rfl (by omega) m23 (Nat.le_of_ble_eq_true rfl) (zfit_r _ _) rfl ?_
  refine zp_nh (fun h25x eh25x => ?_)
  have k25_0 : h25x (26) = some (.inl (2, [.ref (27), .ref (39), .ref (41), .null, .null, .null, .null])) := by rw [eh25x]; exact va_up_self _ _ _
  have sw26 : zsm h22 h25x (zon (26)) := zsm.rf.up eh25x rfl
  have y27_0 := y24_0.sm sw26 (fun i hi => by unfold zon at hi; omega)
  have y27_1 : zcy h25x 27 := y24_1.off (fun i h1 h2 => sw26 i (by unfold zon; omega))
  have y27_2 := y24_2.keep (sw26 _ (by unfold zon; omega)) (sw26 _ (by unfold zon; omega))
  have y27_3 := r22.keep (sw26 _ (by unfold zon; omega)) (sw26 _ (by unfold zon; omega))
  refine zp_aload_n dX2_init_42 rfl ?_
  refine zp_pc (pc' := 43) rfl ?_
  refine zp_new dX2_init_43 nX2_16 (Nat.le_of_ble_eq_true rfl) (Nat.le_of_ble_eq_true rfl) ?_
  refine zp_nn (cells' := 17) (slots' := 1478) (n' := 44) (st' := [.ref (43), .ref (26)]) rfl rfl rfl rfl ?_
  refine zp_nh (fun h28x eh28x => ?_)
  have k28_0 := (congrFun eh28x (26)).trans ((va_up_ne _ _ (by omega)).trans k25_0)
  have k28_1 : h28x (43) = some (.inl (6, [.null, .int (0)])) := by rw [eh28x]; exact va_up_self _ _ _
  have sw29 : zsm h25x h28x (zon (43)) := zsm.rf.up eh28x rfl
  have y30_0 := y27_0.sm sw29 (fun i hi => by unfold zon at hi; omega)
  have y30_1 : zcy h28x 27 := y27_1.off (fun i h1 h2 => sw29 i (by unfold zon; omega))
  have y30_2 := y27_2.keep (sw29 _ (by unfold zon; omega)) (sw29 _ (by unfold zon; omega))
  have y30_3 := y27_3.keep (sw29 _ (by unfold zon; omega)) (sw29 _ (by unfold zon; omega))
  refine zp_dup dX2_init_46 rfl ?_
  refine zp_sipush (v := nI (512)) dX2_init_47 (by decide) ?_
  refine zp_pc (pc' := 50) rfl ?_
  refine zp_callI (As := [.int (nI (512))]) (k := 43) (st := [.ref (43), .ref (26)]) dX2_init_50 cX2_20 rfl (e_row (r := 43) (N := 512) (by omega) (by omega) (by omega) k28_1) (by decide) (by decide) (Nat.le_of_ble_eq_true rfl) (fun v31 h31 n31 q31 => ?_)
  obtain ⟨rfl, N31, s31, r31⟩ := q31
  rw [N31]
  refine zp_nn (cells' := 18) (slots' := 1990) (n' := 45) (st' := [.ref (43), .ref (26)]) rfl rfl rfl rfl ?_
  have s31 : zsm _ _ (zrs (43)) := s31
  have r31 := r31 rfl
  have m32 : h31 (26) = some (.inl (2, [.ref (27), .ref (39), .ref (41), .null, .null, .null, .null])) := (s31 _ (by unfold zrs; omega)).trans k28_0
  have y33_0 := y30_0.sm s31 (fun i hi => by unfold zrs at hi; omega)
  have y33_1 : zcy h31 27 := y30_1.off (fun i h1 h2 => s31 i (by unfold zrs; omega))
  have y33_2 := y30_2.keep (s31 _ (by unfold zrs; omega)) (s31 _ (by unfold zrs; omega))
  have y33_3 := y30_3.keep (s31 _ (by unfold zrs; omega)) (s31 _ (by unfold zrs; omega))
  refine zp_putF (fs' := [.ref (27), .ref (39), .ref (41), .ref (43), .null, .null, .null]) dX2_init_53 pX2_30_2 rfl (by omega) m32 (Nat.le_of_ble_eq_true rfl) (zfit_r _ _) rfl ?_
  refine zp_nh (fun h34x eh34x => ?_)
  have k34_0 : h34x (26) = some (.inl (2, [.ref (27), .ref (39), .ref (41), .ref (43), .null, .null, .null])) := by rw [eh34x]; exact va_up_self _ _ _
  have sw35 : zsm h31 h34x (zon (26)) := zsm.rf.up eh34x rfl
  have y36_0 := y33_0.sm sw35 (fun i hi => by unfold zon at hi; omega)
  have y36_1 : zcy h34x 27 := y33_1.off (fun i h1 h2 => sw35 i (by unfold zon; omega))
  have y36_2 := y33_2.keep (sw35 _ (by unfold zon; omega)) (sw35 _ (by unfold zon; omega))
  have y36_3 := y33_3.keep (sw35 _ (by unfold zon; omega)) (sw35 _ (by unfold zon; omega))
  have y36_4 := r31.keep (sw35 _ (by unfold zon; omega)) (sw35 _ (by unfold zon; omega))
  refine zp_aload_n dX2_init_56 rfl ?_
  refine zp_pc (pc' := 57) rfl ?_
  refine zp_new dX2_init_57 nX2_16 (Nat.le_of_ble_eq_true rfl) (Nat.le_of_ble_eq_true rfl) ?_
  refine zp_nn (cells' := 19) (slots' := 1992) (n' := 46) (st' := [.ref (45), .ref (26)]) rfl rfl rfl rfl ?_
  refine zp_nh (fun h37x eh37x => ?_)
  have k37_0 := (congrFun eh37x (26)).trans ((va_up_ne _ _ (by omega)).trans k34_0)
  have k37_1 : h37x (45) = some (.inl (6, [.null, .int (0)])) := by rw [eh37x]; exact va_up_self _ _ _
  have sw38 : zsm h34x h37x (zon (45)) := zsm.rf.up eh37x rfl
  have y39_0 := y36_0.sm sw38 (fun i hi => by unfold zon at hi; omega)
  have y39_1 : zcy h37x 27 := y36_1.off (fun i h1 h2 => sw38 i (by unfold zon; omega))
  have y39_2 := y36_2.keep (sw38 _ (by unfold zon; omega)) (sw38 _ (by unfold zon; omega))
  have y39_3 := y36_3.keep (sw38 _ (by unfold zon; omega)) (sw38 _ (by unfold zon; omega))
  have y39_4 := y36_4.keep (sw38 _ (by unfold zon; omega)) (sw38 _ (by unfold zon; omega))
  refine zp_dup dX2_init_60 rfl ?_
  refine zp_bipush (v := nI (64)) dX2_init_61 (by decide) ?_
  refine zp_pc (pc' := 63) rfl ?_
  refine zp_callI (As := [.int (nI (64))]) (k := 45) (st := [.ref (45), .ref (26)]) dX2_init_63 cX2_20 rfl (e_row (r := 45) (N := 64) (by omega) (by omega) (by omega) k37_1) (by decide) (by decide) (Nat.le_of_ble_eq_true rfl) (fun v40 h40 n40 q40 => ?_)
  obtain ⟨rfl, N40, s40, r40⟩ := q40
  rw [N40]
  refine zp_nn (cells' := 20) (slots' := 2056) (n' := 47) (st' := [.ref (45), .ref (26)]) rfl rfl rfl rfl ?_
  have s40 : zsm _ _ (zrs (45)) := s40
  have r40 := r40 rfl
  have m41 : h40 (26) = some (.inl (2, [.ref (27), .ref (39), .ref (41), .ref (43), .null, .null, .null])) := (s40 _ (by unfold zrs; omega)).trans k37_0
  have y42_0 := y39_0.sm s40 (fun i hi => by unfold zrs at hi; omega)
  have y42_1 : zcy h40 27 := y39_1.off (fun i h1 h2 => s40 i (by unfold zrs; omega))
  have y42_2 := y39_2.keep (s40 _ (by unfold zrs; omega)) (s40 _ (by unfold zrs; omega))
  have y42_3 := y39_3.keep (s40 _ (by unfold zrs; omega)) (s40 _ (by unfold zrs; omega))
  have y42_4 := y39_4.keep (s40 _ (by unfold zrs; omega)) (s40 _ (by unfold zrs; omega))
  refine zp_putF (fs' := [.ref (27), .ref (39), .ref (41), .ref (43), .ref (45), .null, .null]) dX2_init_66 pX2_33_2 rfl (by omega) m41 (Nat.le_of_ble_eq_true rfl) (zfit_r _ _) rfl ?_
  refine zp_nh (fun h43x eh43x => ?_)
  have k43_0 : h43x (26) = some (.inl (2, [.ref (27), .ref (39), .ref (41), .ref (43), .ref (45), .null, .null])) := by rw [eh43x]; exact va_up_self _ _ _
  have sw44 : zsm h40 h43x (zon (26)) := zsm.rf.up eh43x rfl
  have y45_0 := y42_0.sm sw44 (fun i hi => by unfold zon at hi; omega)
  have y45_1 : zcy h43x 27 := y42_1.off (fun i h1 h2 => sw44 i (by unfold zon; omega))
  have y45_2 := y42_2.keep (sw44 _ (by unfold zon; omega)) (sw44 _ (by unfold zon; omega))
  have y45_3 := y42_3.keep (sw44 _ (by unfold zon; omega)) (sw44 _ (by unfold zon; omega))
  have y45_4 := y42_4.keep (sw44 _ (by unfold zon; omega)) (sw44 _ (by unfold zon; omega))
  have y45_5 := r40.keep (sw44 _ (by unfold zon; omega)) (sw44 _ (by unfold zon; omega))
  refine zp_aload_n dX2_init_69 rfl ?_
  refine zp_pc (pc' := 70) rfl ?_
  refine zp_new dX2_init_70 nX2_18 (Nat.le_of_ble_eq_true rfl) (Nat.le_of_ble_eq_true rfl) ?_
  refine zp_nn (cells' := 21) (slots' := 2068) (n' := 48) (st' := [.ref (47), .ref (26)]) rfl rfl rfl rfl ?_
  refine zp_nh (fun h46x eh46x => ?_)
  have k46_0 := (congrFun eh46x (26)).trans ((va_up_ne _ _ (by omega)).trans k43_0)
  have k46_1 : h46x (47) = some (.inl (3, [.int (0), .int (0), .int (0), .long (0), .int (0), .int (0), .null, .null, .null, .null, .null, .null])) := by rw [eh46x]; exact va_up_self _ _ _
  have sw47 : zsm h43x h46x (zon (47)) := zsm.rf.up eh46x rfl
  have y48_0 := y45_0.sm sw47 (fun i hi => by unfold zon at hi; omega)
  have y48_1 : zcy h46x 27 := y45_1.off (fun i h1 h2 => sw47 i (by unfold zon; omega))
  have y48_2 := y45_2.keep (sw47 _ (by unfold zon; omega)) (sw47 _ (by unfold zon; omega))
  have y48_3 := y45_3.keep (sw47 _ (by unfold zon; omega)) (sw47 _ (by unfold zon; omega))
  have y48_4 := y45_4.keep (sw47 _ (by unfold zon; omega)) (sw47 _ (by unfold zon; omega))
  have y48_5 := y45_5.keep (sw47 _ (by unfold zon; omega)) (sw47 _ (by unfold zon; omega))
  refine zp_dup dX2_init_73 rfl ?_
  refine zp_iconst (v := nI (0)) dX2_init_74 (by decide) ?_
  refine zp_pc (pc' := 75) rfl ?_
  refine zp_callI (As := [.int (nI (0))]) (k := 47) (st := [.ref (47), .ref (26)]) dX2_init_75 cX2_36 rfl (e_digInit0 rfl k46_1) (by decide) (by decide) (Nat.le_of_ble_eq_true rfl) (fun v49 h49 n49 q49 => ?_)
  obtain ⟨rfl, N49, s49, k49⟩ := q49
  rw [N49]
  refine zp_nn (cells' := 28) (slots' := 3376) (n' := 55) (st' := [.ref (47), .ref (26)]) rfl rfl rfl rfl ?_
  have m50 : h49 (26) = some (.inl (2, [.ref (27), .ref (39), .ref (41), .ref (43), .ref (45), .null, .null])) := (s49 _ (by unfold zbt; omega)).trans k46_0
  have y51_0 := y48_0.sm s49 (fun i hi => by unfold zbt at hi; omega)
  have y51_1 : zcy h49 27 := y48_1.off (fun i h1 h2 => s49 i (by unfold zbt; omega))
  have y51_2 := y48_2.keep (s49 _ (by unfold zbt; omega)) (s49 _ (by unfold zbt; omega))
  have y51_3 := y48_3.keep (s49 _ (by unfold zbt; omega)) (s49 _ (by unfold zbt; omega))
  have y51_4 := y48_4.keep (s49 _ (by unfold zbt; omega)) (s49 _ (by unfold zbt; omega))
  have y51_5 := y48_5.keep (s49 _ (by unfold zbt; omega)) (s49 _ (by unfold zbt; omega))
  refine zp_putF (fs' := [.ref (27), .ref (39), .ref (41), .ref (43), .ref (45), .ref (47), .null]) dX2_init_78 pX2_39_2 rfl (by omega) m50 (Nat.le_of_ble_eq_true rfl) (zfit_r _ _) rfl ?_
  refine zp_nh (fun h52x eh52x => ?_)
  have k52_0 : h52x (26) = some (.inl (2, [.ref (27), .ref (39), .ref (41), .ref (43), .ref (45), .ref (47), .null])) := by rw [eh52x]; exact va_up_self _ _ _
  have sw53 : zsm h49 h52x (zon (26)) := zsm.rf.up eh52x rfl
  have y54_0 := y51_0.sm sw53 (fun i hi => by unfold zon at hi; omega)
  have y54_1 : zcy h52x 27 := y51_1.off (fun i h1 h2 => sw53 i (by unfold zon; omega))
  have y54_2 := y51_2.keep (sw53 _ (by unfold zon; omega)) (sw53 _ (by unfold zon; omega))
  have y54_3 := y51_3.keep (sw53 _ (by unfold zon; omega)) (sw53 _ (by unfold zon; omega))
  have y54_4 := y51_4.keep (sw53 _ (by unfold zon; omega)) (sw53 _ (by unfold zon; omega))
  have y54_5 := y51_5.keep (sw53 _ (by unfold zon; omega)) (sw53 _ (by unfold zon; omega))
  have y54_6 : zdg h52x false 47 := k49.off (fun i h1 h2 => sw53 i (by unfold zon; omega))
  refine zp_aload_n dX2_init_81 rfl ?_
  refine zp_pc (pc' := 82) rfl ?_
  refine zp_new dX2_init_82 nX2_18 (Nat.le_of_ble_eq_true rfl) (Nat.le_of_ble_eq_true rfl) ?_
  refine zp_nn (cells' := 29) (slots' := 3388) (n' := 56) (st' := [.ref (55), .ref (26)]) rfl rfl rfl rfl ?_
  refine zp_nh (fun h55x eh55x => ?_)
  have k55_0 := (congrFun eh55x (26)).trans ((va_up_ne _ _ (by omega)).trans k52_0)
  have k55_1 : h55x (55) = some (.inl (3, [.int (0), .int (0), .int (0), .long (0), .int (0), .int (0), .null, .null, .null, .null, .null, .null])) := by rw [eh55x]; exact va_up_self _ _ _
  have sw56 : zsm h52x h55x (zon (55)) := zsm.rf.up eh55x rfl
  have y57_0 := y54_0.sm sw56 (fun i hi => by unfold zon at hi; omega)
  have y57_1 : zcy h55x 27 := y54_1.off (fun i h1 h2 => sw56 i (by unfold zon; omega))
  have y57_2 := y54_2.keep (sw56 _ (by unfold zon; omega)) (sw56 _ (by unfold zon; omega))
  have y57_3 := y54_3.keep (sw56 _ (by unfold zon; omega)) (sw56 _ (by unfold zon; omega))
  have y57_4 := y54_4.keep (sw56 _ (by unfold zon; omega)) (sw56 _ (by unfold zon; omega))
  have y57_5 := y54_5.keep (sw56 _ (by unfold zon; omega)) (sw56 _ (by unfold zon; omega))
  have y57_6 : zdg h55x false 47 := y54_6.off (fun i h1 h2 => sw56 i (by unfold zon; omega))
  refine zp_dup dX2_init_85 rfl ?_
  refine zp_iconst (v := nI (1)) dX2_init_86 (by decide) ?_
  refine zp_pc (pc' := 87) rfl ?_
  refine zp_callI (As := [.int (nI (1))]) (k := 55) (st := [.ref (55), .ref (26)]) dX2_init_87 cX2_36 rfl (e_digInit1 rfl k55_1) (by decide) (by decide) (Nat.le_of_ble_eq_true rfl) (fun v58 h58 n58 q58 => ?_)
  obtain ⟨rfl, N58, s58, k58⟩ := q58
  rw [N58]
  refine zp_nn (cells' := 36) (slots' := 4696) (n' := 63) (st' := [.ref (55), .ref (26)]) rfl rfl rfl rfl ?_
  have m59 : h58 (26) = some (.inl (2, [.ref (27), .ref (39), .ref (41), .ref (43), .ref (45), .ref (47), .null])) := (s58 _ (by unfold zbt; omega)).trans k55_0
  have y60_0 := y57_0.sm s58 (fun i hi => by unfold zbt at hi; omega)
  have y60_1 : zcy h58 27 := y57_1.off (fun i h1 h2 => s58 i (by unfold zbt; omega))
  have y60_2 := y57_2.keep (s58 _ (by unfold zbt; omega)) (s58 _ (by unfold zbt; omega))
  have y60_3 := y57_3.keep (s58 _ (by unfold zbt; omega)) (s58 _ (by unfold zbt; omega))
  have y60_4 := y57_4.keep (s58 _ (by unfold zbt; omega)) (s58 _ (by unfold zbt; omega))
  have y60_5 := y57_5.keep (s58 _ (by unfold zbt; omega)) (s58 _ (by unfold zbt; omega))
  have y60_6 : zdg h58 false 47 := y57_6.off (fun i h1 h2 => s58 i (by unfold zbt; omega))
  refine zp_putF (fs' := [.ref (27), .ref (39), .ref (41), .ref (43), .ref (45), .ref (47), .ref (55)]) dX2_init_90 pX2_43_2 rfl (by omega) m59 (Nat.le_of_ble_eq_true rfl) (zfit_r _ _) rfl ?_
  refine zp_nh (fun h61x eh61x => ?_)
  have k61_0 : h61x (26) = some (.inl (2, [.ref (27), .ref (39), .ref (41), .ref (43), .ref (45), .ref (47), .ref (55)])) := by rw [eh61x]; exact va_up_self _ _ _
  have sw62 : zsm h58 h61x (zon (26)) := zsm.rf.up eh61x rfl
  have y63_0 := y60_0.sm sw62 (fun i hi => by unfold zon at hi; omega)
  have y63_1 : zcy h61x 27 := y60_1.off (fun i h1 h2 => sw62 i (by unfold zon; omega))
  have y63_2 := y60_2.keep (sw62 _ (by unfold zon; omega)) (sw62 _ (by unfold zon; omega))
  have y63_3 := y60_3.keep (sw62 _ (by unfold zon; omega)) (sw62 _ (by unfold zon; omega))
  have y63_4 := y60_4.keep (sw62 _ (by unfold zon; omega)) (sw62 _ (by unfold zon; omega))
  have y63_5 := y60_5.keep (sw62 _ (by unfold zon; omega)) (sw62 _ (by unfold zon; omega))
  have y63_6 : zdg h61x false 47 := y60_6.off (fun i h1 h2 => sw62 i (by unfold zon; omega))
  have y63_7 : zdg h61x true 55 := k58.off (fun i h1 h2 => sw62 i (by unfold zon; omega))
  refine zp_pc (pc' := 93) rfl ?_
  refine zp_ret (v := none) dX2_init_93 ⟨rfl, rfl⟩ (Nat.le_of_ble_eq_true rfl) (Nat.le_of_ble_eq_true rfl) ?_
  rw [hQ]
  exact ⟨rfl, rfl, (((((((((((((((((((((sw2).mono (fun i hi => by unfold zbt; unfold zon at hi; omega)).trans ((s4).mono (fun i hi => by unfold zbt; unfold zbt at hi; omega))).trans ((sw8).mono (fun i hi => by unfold zbt; unfold zon at hi; omega))).trans ((sw11).mono (fun i hi => by unfold zbt; unfold zon at hi; omega))).trans ((s13).mono (fun i hi => by unfold zbt; unfold zrs at hi; omega))).trans ((sw17).mono (fun i hi => by unfold zbt; unfold zon at hi; omega))).trans ((sw20).mono (fun i hi => by unfold zbt; unfold zon at hi; omega))).trans ((s22).mono (fun i hi => by unfold zbt; unfold zrs at hi; omega))).trans ((sw26).mono (fun i hi => by unfold zbt; unfold zon at hi; omega))).trans ((sw29).mono (fun i hi => by unfold zbt; unfold zon at hi; omega))).trans ((s31).mono (fun i hi => by unfold zbt; unfold zrs at hi; omega))).trans ((sw35).mono (fun i hi => by unfold zbt; unfold zon at hi; omega))).trans ((sw38).mono (fun i hi => by unfold zbt; unfold zon at hi; omega))).trans ((s40).mono (fun i hi => by unfold zbt; unfold zrs at hi; omega))).trans ((sw44).mono (fun i hi => by unfold zbt; unfold zon at hi; omega))).trans ((sw47).mono (fun i hi => by unfold zbt; unfold zon at hi; omega))).trans ((s49).mono (fun i hi => by unfold zbt; unfold zbt at hi; omega))).trans ((sw53).mono (fun i hi => by unfold zbt; unfold zon at hi; omega))).trans ((sw56).mono (fun i hi => by unfold zbt; unfold zon at hi; omega))).trans ((s58).mono (fun i hi => by unfold zbt; unfold zbt at hi; omega))).trans ((sw62).mono (fun i hi => by unfold zbt; unfold zon at hi; omega)), y63_0, k61_0, y63_1, ⟨_, y63_2⟩, ⟨_, y63_3⟩, ⟨_, y63_4⟩, ⟨_, y63_5⟩, y63_6, y63_7⟩
set_option maxRecDepth 10000 in
set_option maxHeartbeats 2000000 in
theorem e_wellInit {g : ZG} {h : ZH} {n : Nat}  (hn : n = 17) (ht : ztab h) (o : h 16 = some (.inl (8, [.null, .null, .null, .null, .null]))) : zMt g mX9_init (zR 4 47 10112) [.ref (16)] h n (fun v h' n' => v = none ∧ n' = 64 ∧ zsm h h' (zbt 16 63) ∧ h' 16 = some (.inl (8, [.ref 17, .ref 19, .ref 21, .ref 26, .ref 63])) ∧ zrow h' 17 240 [] ∧ zrow h' 19 4096 [] ∧ zsup h' 21 zS0 ∧ zdk h' ∧ h' 63 = some (.inr (4, .inr (.inr (false, fun _ => none))))) := by
  refine zMt.of [some (.ref (16))] (by decide) rfl (Nat.le_of_ble_eq_true rfl) ?_
  obtain ⟨Qf, hQ⟩ : ∃ Qf : ZQ, Qf = (fun v h' n' => v = none ∧ n' = 64 ∧ zsm h h' (zbt 16 63) ∧ h' 16 = some (.inl (8, [.ref 17, .ref 19, .ref 21, .ref 26, .ref 63])) ∧ zrow h' 17 240 [] ∧ zrow h' 19 4096 [] ∧ zsup h' 21 zS0 ∧ zdk h' ∧ h' 63 = some (.inr (4, .inr (.inr (false, fun _ => none))))) := ⟨_, rfl⟩
  rw [← hQ]
  subst hn
  refine zp_aload_n dX9_init_0 rfl ?_
  refine zp_pc (pc' := 1) rfl ?_
  refine zp_objInit dX9_init_1 cX9_3 ⟨Nat.le_of_ble_eq_true rfl, Nat.le_of_ble_eq_true rfl⟩ (Nat.le_of_ble_eq_true rfl) ?_
  refine zp_pc (pc' := 4) rfl ?_
  refine zp_aload_n dX9_init_4 rfl ?_
  refine zp_pc (pc' := 5) rfl ?_
  refine zp_new dX9_init_5 nX9_9 (Nat.le_of_ble_eq_true rfl) (Nat.le_of_ble_eq_true rfl) ?_
  refine zp_nn (cells' := 1) (slots' := 2) (n' := 18) (st' := [.ref (17), .ref (16)]) rfl rfl rfl rfl ?_
  refine zp_nh (fun h1x eh1x => ?_)
  have k1_0 := (congrFun eh1x (16)).trans ((va_up_ne _ _ (by omega)).trans o)
  have k1_1 : h1x (17) = some (.inl (6, [.null, .int (0)])) := by rw [eh1x]; exact va_up_self _ _ _
  have sw2 : zsm h h1x (zon (17)) := zsm.rf.up eh1x rfl
  have y3_0 := ht.sm sw2 (fun i hi => by unfold zon at hi; omega)
  refine zp_dup dX9_init_8 rfl ?_
  refine zp_sipush (v := nI (240)) dX9_init_9 (by decide) ?_
  refine zp_pc (pc' := 12) rfl ?_
  refine zp_callI (As := [.int (nI (240))]) (k := 17) (st := [.ref (17), .ref (16)]) dX9_init_12 cX9_11 rfl (e_row (r := 17) (N := 240) (by omega) (by omega) (by omega) k1_1) (by decide) (by decide) (Nat.le_of_ble_eq_true rfl) (fun v4 h4 n4 q4 => ?_)
  obtain ⟨rfl, N4, s4, r4⟩ := q4
  rw [N4]
  refine zp_nn (cells' := 2) (slots' := 242) (n' := 19) (st' := [.ref (17), .ref (16)]) rfl rfl rfl rfl ?_
  have s4 : zsm _ _ (zrs (17)) := s4
  have r4 := r4 rfl
  have m5 : h4 (16) = some (.inl (8, [.null, .null, .null, .null, .null])) := (s4 _ (by unfold zrs; omega)).trans k1_0
  have y6_0 := y3_0.sm s4 (fun i hi => by unfold zrs at hi; omega)
  refine zp_putF (fs' := [.ref (17), .null, .null, .null, .null]) dX9_init_15 pX9_14_8 rfl (by omega) m5 (Nat.le_of_ble_eq_true rfl) (zfit_r _ _) rfl ?_
  refine zp_nh (fun h7x eh7x => ?_)
  have k7_0 : h7x (16) = some (.inl (8, [.ref (17), .null, .null, .null, .null])) := by rw [eh7x]; exact va_up_self _ _ _
  have sw8 : zsm h4 h7x (zon (16)) := zsm.rf.up eh7x rfl
  have y9_0 := y6_0.sm sw8 (fun i hi => by unfold zon at hi; omega)
  have y9_1 := r4.keep (sw8 _ (by unfold zon; omega)) (sw8 _ (by unfold zon; omega))
  refine zp_aload_n dX9_init_18 rfl ?_
  refine zp_pc (pc' := 19) rfl ?_
  refine zp_new dX9_init_19 nX9_9 (Nat.le_of_ble_eq_true rfl) (Nat.le_of_ble_eq_true rfl) ?_
  refine zp_nn (cells' := 3) (slots' := 244) (n' := 20) (st' := [.ref (19), .ref (16)]) rfl rfl rfl rfl ?_
  refine zp_nh (fun h10x eh10x => ?_)
  have k10_0 := (congrFun eh10x (16)).trans ((va_up_ne _ _ (by omega)).trans k7_0)
  have k10_1 : h10x (19) = some (.inl (6, [.null, .int (0)])) := by rw [eh10x]; exact va_up_self _ _ _
  have sw11 : zsm h7x h10x (zon (19)) := zsm.rf.up eh10x rfl
  have y12_0 := y9_0.sm sw11 (fun i hi => by unfold zon at hi; omega)
  have y12_1 := y9_1.keep (sw11 _ (by unfold zon; omega)) (sw11 _ (by unfold zon; omega))
  refine zp_dup dX9_init_22 rfl ?_
  refine zp_sipush (v := nI (4096)) dX9_init_23 (by decide) ?_
  refine zp_pc (pc' := 26) rfl ?_
  refine zp_callI (As := [.int (nI (4096))]) (k := 19) (st := [.ref (19), .ref (16)]) dX9_init_26 cX9_11 rfl (e_row (r := 19) (N := 4096) (by omega) (by omega) (by omega) k10_1) (by decide) (by decide) (Nat.le_of_ble_eq_true rfl) (fun v13 h13 n13 q13 => ?_)
  obtain ⟨rfl, N13, s13, r13⟩ := q13
  rw [N13]
  refine zp_nn (cells' := 4) (slots' := 4340) (n' := 21) (st' := [.ref (19), .ref (16)]) rfl rfl rfl rfl ?_
  have s13 : zsm _ _ (zrs (19)) := s13
  have r13 := r13 rfl
  have m14 : h13 (16) = some (.inl (8, [.ref (17), .null, .null, .null, .null])) := (s13 _ (by unfold zrs; omega)).trans k10_0
  have y15_0 := y12_0.sm s13 (fun i hi => by unfold zrs at hi; omega)
  have y15_1 := y12_1.keep (s13 _ (by unfold zrs; omega)) (s13 _ (by unfold zrs; omega))
  refine zp_putF (fs' := [.ref (17), .ref (19), .null, .null, .null]) dX9_init_29 pX9_18_8 rfl (by omega) m14 (Nat.le_of_ble_eq_true rfl) (zfit_r _ _) rfl ?_
  refine zp_nh (fun h16x eh16x => ?_)
  have k16_0 : h16x (16) = some (.inl (8, [.ref (17), .ref (19), .null, .null, .null])) := by rw [eh16x]; exact va_up_self _ _ _
  have sw17 : zsm h13 h16x (zon (16)) := zsm.rf.up eh16x rfl
  have y18_0 := y15_0.sm sw17 (fun i hi => by unfold zon at hi; omega)
  have y18_1 := y15_1.keep (sw17 _ (by unfold zon; omega)) (sw17 _ (by unfold zon; omega))
  have y18_2 := r13.keep (sw17 _ (by unfold zon; omega)) (sw17 _ (by unfold zon; omega))
  refine zp_aload_n dX9_init_32 rfl ?_
  refine zp_pc (pc' := 33) rfl ?_
  refine zp_new dX9_init_33 nX9_21 (Nat.le_of_ble_eq_true rfl) (Nat.le_of_ble_eq_true rfl) ?_
  refine zp_nn (cells' := 5) (slots' := 4353) (n' := 22) (st' := [.ref (21), .ref (16)]) rfl rfl rfl rfl ?_
  refine zp_nh (fun h19x eh19x => ?_)
  have k19_0 := (congrFun eh19x (16)).trans ((va_up_ne _ _ (by omega)).trans k16_0)
  have k19_1 : h19x (21) = some (.inl (7, [.null, .null, .int (0), .int (0), .int (0), .int (0), .int (0), .int (0), .int (0), .int (0), .int (0), .int (0), .int (0)])) := by rw [eh19x]; exact va_up_self _ _ _
  have sw20 : zsm h16x h19x (zon (21)) := zsm.rf.up eh19x rfl
  have y21_0 := y18_0.sm sw20 (fun i hi => by unfold zon at hi; omega)
  have y21_1 := y18_1.keep (sw20 _ (by unfold zon; omega)) (sw20 _ (by unfold zon; omega))
  have y21_2 := y18_2.keep (sw20 _ (by unfold zon; omega)) (sw20 _ (by unfold zon; omega))
  refine zp_dup dX9_init_36 rfl ?_
  refine zp_pc (pc' := 37) rfl ?_
  refine zp_callIN (As := []) (k := 21) (st := [.ref (21), .ref (16)]) dX9_init_37 cX9_23 rfl (e_supInit rfl k19_1) (by decide) (by decide) (Nat.le_of_ble_eq_true rfl) (fun v22 h22 n22 q22 => ?_)
  obtain ⟨rfl, N22, s22, k22⟩ := q22
  rw [N22]
  refine zp_nn (cells' := 9) (slots' := 5405) (n' := 26) (st' := [.ref (21), .ref (16)]) rfl rfl rfl rfl ?_
  have m23 : h22 (16) = some (.inl (8, [.ref (17), .ref (19), .null, .null, .null])) := (s22 _ (by unfold zbt; omega)).trans k19_0
  have y24_0 := y21_0.sm s22 (fun i hi => by unfold zbt at hi; omega)
  have y24_1 := y21_1.keep (s22 _ (by unfold zbt; omega)) (s22 _ (by unfold zbt; omega))
  have y24_2 := y21_2.keep (s22 _ (by unfold zbt; omega)) (s22 _ (by unfold zbt; omega))
  refine zp_putF (fs' := [.ref (17), .ref (19), .ref (21), .null, .null]) dX9_init_40 pX9_24_8 rfl (by omega) m23 (Nat.le_of_ble_eq_true rfl) (zfit_r _ _) rfl ?_
  refine zp_nh (fun h25x eh25x => ?_)
  have k25_0 : h25x (16) = some (.inl (8, [.ref (17), .ref (19), .ref (21), .null, .null])) := by rw [eh25x]; exact va_up_self _ _ _
  have sw26 : zsm h22 h25x (zon (16)) := zsm.rf.up eh25x rfl
  have y27_0 := y24_0.sm sw26 (fun i hi => by unfold zon at hi; omega)
  have y27_1 := y24_1.keep (sw26 _ (by unfold zon; omega)) (sw26 _ (by unfold zon; omega))
  have y27_2 := y24_2.keep (sw26 _ (by unfold zon; omega)) (sw26 _ (by unfold zon; omega))
  have y27_3 : zsup h25x 21 zS0 := k22.off (fun i h1 h2 => sw26 i (by unfold zon; omega))
  refine zp_aload_n dX9_init_43 rfl ?_
  refine zp_pc (pc' := 44) rfl ?_
  refine zp_new dX9_init_44 nX9_28 (Nat.le_of_ble_eq_true rfl) (Nat.le_of_ble_eq_true rfl) ?_
  refine zp_nn (cells' := 10) (slots' := 5412) (n' := 27) (st' := [.ref (26), .ref (16)]) rfl rfl rfl rfl ?_
  refine zp_nh (fun h28x eh28x => ?_)
  have k28_0 := (congrFun eh28x (16)).trans ((va_up_ne _ _ (by omega)).trans k25_0)
  have k28_1 : h28x (26) = some (.inl (2, [.null, .null, .null, .null, .null, .null, .null])) := by rw [eh28x]; exact va_up_self _ _ _
  have sw29 : zsm h25x h28x (zon (26)) := zsm.rf.up eh28x rfl
  have y30_0 := y27_0.sm sw29 (fun i hi => by unfold zon at hi; omega)
  have y30_1 := y27_1.keep (sw29 _ (by unfold zon; omega)) (sw29 _ (by unfold zon; omega))
  have y30_2 := y27_2.keep (sw29 _ (by unfold zon; omega)) (sw29 _ (by unfold zon; omega))
  have y30_3 : zsup h28x 21 zS0 := y27_3.off (fun i h1 h2 => sw29 i (by unfold zon; omega))
  refine zp_dup dX9_init_47 rfl ?_
  refine zp_pc (pc' := 48) rfl ?_
  refine zp_callIN (As := []) (k := 26) (st := [.ref (26), .ref (16)]) dX9_init_48 cX9_30 rfl (e_deskInit rfl y30_0 k28_1) (by decide) (by decide) (Nat.le_of_ble_eq_true rfl) (fun v31 h31 n31 q31 => ?_)
  obtain ⟨rfl, N31, s31, k31⟩ := q31
  rw [N31]
  refine zp_nn (cells' := 46) (slots' := 10108) (n' := 63) (st' := [.ref (26), .ref (16)]) rfl rfl rfl rfl ?_
  have m32 : h31 (16) = some (.inl (8, [.ref (17), .ref (19), .ref (21), .null, .null])) := (s31 _ (by unfold zbt; omega)).trans k28_0
  have y33_0 := y30_0.sm s31 (fun i hi => by unfold zbt at hi; omega)
  have y33_1 := y30_1.keep (s31 _ (by unfold zbt; omega)) (s31 _ (by unfold zbt; omega))
  have y33_2 := y30_2.keep (s31 _ (by unfold zbt; omega)) (s31 _ (by unfold zbt; omega))
  have y33_3 : zsup h31 21 zS0 := y30_3.off (fun i h1 h2 => s31 i (by unfold zbt; omega))
  refine zp_putF (fs' := [.ref (17), .ref (19), .ref (21), .ref (26), .null]) dX9_init_51 pX9_31_8 rfl (by omega) m32 (Nat.le_of_ble_eq_true rfl) (zfit_r _ _) rfl ?_
  refine zp_nh (fun h34x eh34x => ?_)
  have k34_0 : h34x (16) = some (.inl (8, [.ref (17), .ref (19), .ref (21), .ref (26), .null])) := by rw [eh34x]; exact va_up_self _ _ _
  have sw35 : zsm h31 h34x (zon (16)) := zsm.rf.up eh34x rfl
  have y36_0 := y33_0.sm sw35 (fun i hi => by unfold zon at hi; omega)
  have y36_1 := y33_1.keep (sw35 _ (by unfold zon; omega)) (sw35 _ (by unfold zon; omega))
  have y36_2 := y33_2.keep (sw35 _ (by unfold zon; omega)) (sw35 _ (by unfold zon; omega))
  have y36_3 : zsup h34x 21 zS0 := y33_3.off (fun i h1 h2 => sw35 i (by unfold zon; omega))
  have y36_4 : zdk h34x := k31.off sw35 (fun i hi => by unfold zon at hi; omega)
  refine zp_aload_n dX9_init_54 rfl ?_
  refine zp_iconst (v := nI (4)) dX9_init_55 (by decide) ?_
  refine zp_pc (pc' := 56) rfl ?_
  refine zp_newq (b := false) (N := 4) dX9_init_56 nX9_35 zao_false (nI_pos (by decide)) (nI_clamp (by decide)) (by decide) (Nat.le_of_ble_eq_true rfl) (Nat.le_of_ble_eq_true rfl) ?_
  refine zp_nn (cells' := 47) (slots' := 10112) (n' := 64) (st' := [.ref (63), .ref (16)]) rfl rfl rfl rfl ?_
  refine zp_nh (fun h37x eh37x => ?_)
  have k37_0 := (congrFun eh37x (16)).trans ((va_up_ne _ _ (by omega)).trans k34_0)
  have k37_1 : h37x (63) = some (.inr (4, .inr (.inr (false, fun _ => none)))) := by rw [eh37x]; exact va_up_self _ _ _
  have sw38 : zsm h34x h37x (zon (63)) := zsm.rf.up eh37x rfl
  have y39_0 := y36_0.sm sw38 (fun i hi => by unfold zon at hi; omega)
  have y39_1 := y36_1.keep (sw38 _ (by unfold zon; omega)) (sw38 _ (by unfold zon; omega))
  have y39_2 := y36_2.keep (sw38 _ (by unfold zon; omega)) (sw38 _ (by unfold zon; omega))
  have y39_3 : zsup h37x 21 zS0 := y36_3.off (fun i h1 h2 => sw38 i (by unfold zon; omega))
  have y39_4 : zdk h37x := y36_4.off sw38 (fun i hi => by unfold zon at hi; omega)
  refine zp_putF (fs' := [.ref (17), .ref (19), .ref (21), .ref (26), .ref (63)]) dX9_init_59 pX9_37_8 rfl (by omega) k37_0 (Nat.le_of_ble_eq_true rfl) (zfit_a _ _) rfl ?_
  refine zp_nh (fun h40x eh40x => ?_)
  have k40_0 : h40x (16) = some (.inl (8, [.ref (17), .ref (19), .ref (21), .ref (26), .ref (63)])) := by rw [eh40x]; exact va_up_self _ _ _
  have k40_1 := (congrFun eh40x (63)).trans ((va_up_ne _ _ (by omega)).trans k37_1)
  have sw41 : zsm h37x h40x (zon (16)) := zsm.rf.up eh40x rfl
  have y42_0 := y39_0.sm sw41 (fun i hi => by unfold zon at hi; omega)
  have y42_1 := y39_1.keep (sw41 _ (by unfold zon; omega)) (sw41 _ (by unfold zon; omega))
  have y42_2 := y39_2.keep (sw41 _ (by unfold zon; omega)) (sw41 _ (by unfold zon; omega))
  have y42_3 : zsup h40x 21 zS0 := y39_3.off (fun i h1 h2 => sw41 i (by unfold zon; omega))
  have y42_4 : zdk h40x := y39_4.off sw41 (fun i hi => by unfold zon at hi; omega)
  refine zp_pc (pc' := 62) rfl ?_
  refine zp_ret (v := none) dX9_init_62 ⟨rfl, rfl⟩ (Nat.le_of_ble_eq_true rfl) (Nat.le_of_ble_eq_true rfl) ?_
  rw [hQ]
  exact ⟨rfl, rfl, ((((((((((((((sw2).mono (fun i hi => by unfold zbt; unfold zon at hi; omega)).trans ((s4).mono (fun i hi => by unfold zbt; unfold zrs at hi; omega))).trans ((sw8).mono (fun i hi => by unfold zbt; unfold zon at hi; omega))).trans ((sw11).mono (fun i hi => by unfold zbt; unfold zon at hi; omega))).trans ((s13).mono (fun i hi => by unfold zbt; unfold zrs at hi; omega))).trans ((sw17).mono (fun i hi => by unfold zbt; unfold zon at hi; omega))).trans ((sw20).mono (fun i hi => by unfold zbt; unfold zon at hi; omega))).trans ((s22).mono (fun i hi => by unfold zbt; unfold zbt at hi; omega))).trans ((sw26).mono (fun i hi => by unfold zbt; unfold zon at hi; omega))).trans ((sw29).mono (fun i hi => by unfold zbt; unfold zon at hi; omega))).trans ((s31).mono (fun i hi => by unfold zbt; unfold zbt at hi; omega))).trans ((sw35).mono (fun i hi => by unfold zbt; unfold zon at hi; omega))).trans ((sw38).mono (fun i hi => by unfold zbt; unfold zon at hi; omega))).trans ((sw41).mono (fun i hi => by unfold zbt; unfold zon at hi; omega)), k40_0, y42_1, y42_2, y42_3, y42_4, k40_1⟩
set_option maxRecDepth 10000 in
set_option maxHeartbeats 2000000 in
theorem e_seedLengthOf {g : ZG} {h : ZH} {n : Nat} {kd : Nat} (ht : ztab h) (hk : kd < 8) : zMt g mX5_seedLengthOf (zR 0 0 0) [.int (nI (kd))] h n (fun v h' n' => v = some (.int (nI (zsd kd))) ∧ h' = h ∧ n' = n) := by
  refine zMt.of [some (.int (nI (kd)))] (by decide) rfl (Nat.le_of_ble_eq_true rfl) ?_
  refine zp_iload_n dX5_seedLengthOf_0 rfl ?_
  refine zp_pc (pc' := 1) rfl ?_
  refine zn_if_lt (tgt := 18) dX5_seedLengthOf_1 (by decide) (by omega) ?_
  refine zp_iload_n dX5_seedLengthOf_4 rfl ?_
  refine zp_bipush (v := nI (8)) dX5_seedLengthOf_5 (by decide) ?_
  refine zp_pc (pc' := 7) rfl ?_
  refine zn_icmp_ge (tgt := 18) dX5_seedLengthOf_7 (by decide) (by omega) (by omega) (fun c7 => ?_) (fun c7 => ?_)
  · exact absurd c7 (by omega)
  · refine zp_gets dX5_seedLengthOf_10 sX5_66 ?_
    refine zp_iload_n dX5_seedLengthOf_13 rfl ?_
    refine zp_pc (pc' := 14) rfl ?_
    refine zn_iald (j := kd) dX5_seedLengthOf_14 ht.2.2.2.2.2.2.2.1 (by omega) (by omega) ?_
    refine zp_i (y := nI (zsd kd)) (zsd_tab hk) ?_
    refine zp_goto (tgt := 19) dX5_seedLengthOf_15 (by decide) ?_
    refine zp_pc (pc' := 19) rfl ?_
    refine zp_ret (v := (some (.int (nI (zsd kd))))) dX5_seedLengthOf_19 ⟨⟨_, rfl, rfl⟩, rfl⟩ (by decide) (by decide) ?_
    exact ⟨rfl, rfl, rfl⟩
set_option maxRecDepth 10000 in
set_option maxHeartbeats 2000000 in
theorem e_isGreat {g : ZG} {h : ZH} {n : Nat} {kd : Nat} (hk : kd < 8) : zMt g mX5_isGreat (zR 0 0 0) [.int (nI (kd))] h n (fun v h' n' => v = some (.int (nI (zbi (zod kd)))) ∧ h' = h ∧ n' = n) := by
  refine zMt.of [some (.int (nI (kd)))] (by decide) rfl (Nat.le_of_ble_eq_true rfl) ?_
  refine zp_iload_n dX5_isGreat_0 rfl ?_
  refine zp_iconst (v := nI (1)) dX5_isGreat_1 (by decide) ?_
  refine zp_pc (pc' := 2) rfl ?_
  refine zp_iand dX5_isGreat_2 ?_
  refine zp_i (y := nI (kd % 2)) (pk_andN (by omega) 1 (by decide)) ?_
  refine zp_iconst (v := nI (1)) dX5_isGreat_3 (by decide) ?_
  refine zp_pc (pc' := 4) rfl ?_
  refine zn_icmp_ne (tgt := 11) dX5_isGreat_4 (by decide) (by omega) (by omega) (fun c4 => ?_) (fun c4 => ?_)
  · refine zp_iconst (v := nI (0)) dX5_isGreat_11 (by decide) ?_
    refine zp_pc (pc' := 12) rfl ?_
    refine zp_ret (v := (some (.int (nI (0))))) dX5_isGreat_12 ⟨⟨_, rfl, rfl⟩, rfl⟩ (by decide) (by decide) ?_
    exact ⟨by rw [show zod kd = false by unfold zod; exact decide_eq_false c4]; rfl, rfl, rfl⟩
  · refine zp_iconst (v := nI (1)) dX5_isGreat_7 (by decide) ?_
    refine zp_goto (tgt := 12) dX5_isGreat_8 (by decide) ?_
    refine zp_pc (pc' := 12) rfl ?_
    refine zp_ret (v := (some (.int (nI (1))))) dX5_isGreat_12 ⟨⟨_, rfl, rfl⟩, rfl⟩ (by decide) (by decide) ?_
    exact ⟨by rw [show zod kd = true by unfold zod; exact decide_eq_true (by omega)]; rfl, rfl, rfl⟩
