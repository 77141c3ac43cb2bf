/-! constructors -/
section ZNN
variable {g : ZG} {M : ZM} {R : Room} {Qf : ZQ} {cells slots pc : Nat} {ls : List (Option Value)} {st : List Value} {h : ZH} {n : Nat}
theorem zp_nn {cells' slots' n' : Nat} {st' : List Value} (h1 : cells = cells') (h2 : slots = slots') (h3 : n = n') (h4 : st = st') (k : zP g M R Qf cells' slots' pc ls st' h n') : zP g M R Qf cells slots pc ls st h n := by
  subst h1; subst h2; subst h3; subst h4; exact k
end ZNN
abbrev zon (k : Nat) : Nat → Prop := fun i => i = k
abbrev zbt (a b : Nat) : Nat → Prop := fun i => a ≤ i ∧ i ≤ b
def zS0 : ZSup := ([], nI 5, nI 512, nI 40, false, -1, nI 0, -1, nI 0, nI 0, nI 0, nI 0)
set_option maxRecDepth 10000 in
set_option maxHeartbeats 2000000 in
theorem e_supInit {g : ZG} {h : ZH} {n : Nat}  (hn : n = 22) (o : h 21 = some (.inl (7, [.null, .null, .int 0, .int 0, .int 0, .int 0, .int 0, .int 0, .int 0, .int 0, .int 0, .int 0, .int 0]))) : zMt g mX8_init (zR 2 4 1052) [.ref (21)] h n (fun v h' n' => v = none ∧ n' = 26 ∧ zsm h h' (zbt 21 25) ∧ zsup h' 21 zS0) := by
  refine zMt.of [some (.ref (21))] (by decide) rfl (Nat.le_of_ble_eq_true rfl) ?_
  obtain ⟨Qf, hQ⟩ : ∃ Qf : ZQ, Qf = (fun v h' n' => v = none ∧ n' = 26 ∧ zsm h h' (zbt 21 25) ∧ zsup h' 21 zS0) := ⟨_, rfl⟩
  rw [← hQ]
  subst hn
  refine zp_aload_n dX8_init_0 rfl ?_
  refine zp_pc (pc' := 1) rfl ?_
  refine zp_objInit dX8_init_1 cX8_3 ⟨Nat.le_of_ble_eq_true rfl, Nat.le_of_ble_eq_true rfl⟩ (Nat.le_of_ble_eq_true rfl) ?_
  refine zp_pc (pc' := 4) rfl ?_
  refine zp_aload_n dX8_init_4 rfl ?_
  refine zp_pc (pc' := 5) rfl ?_
  refine zp_new dX8_init_5 nX8_9 (Nat.le_of_ble_eq_true rfl) (Nat.le_of_ble_eq_true rfl) ?_
  refine zp_nn (cells' := 1) (slots' := 2) (n' := 23) (st' := [.ref (22), .ref (21)]) rfl rfl rfl rfl ?_
  refine zp_nh (fun h1x eh1x => ?_)
  have k1_0 := (congrFun eh1x (21)).trans ((va_up_ne _ _ (by omega)).trans o)
  have k1_1 : h1x (22) = some (.inl (6, [.null, .int (0)])) := by rw [eh1x]; exact va_up_self _ _ _
  have sw2 : zsm h h1x (zon (22)) := zsm.rf.up eh1x rfl
  refine zp_dup dX8_init_8 rfl ?_
  refine zp_sipush (v := nI (1000)) dX8_init_9 (by decide) ?_
  refine zp_pc (pc' := 12) rfl ?_
  refine zp_callI (As := [.int (nI (1000))]) (k := 22) (st := [.ref (22), .ref (21)]) dX8_init_12 cX8_13 rfl (e_row (r := 22) (N := 1000) (by omega) (by omega) (by omega) k1_1) (by decide) (by decide) (Nat.le_of_ble_eq_true rfl) (fun v4 h4 n4 q4 => ?_)
  obtain ⟨rfl, N4, s4, r4⟩ := q4
  rw [N4]
  refine zp_nn (cells' := 2) (slots' := 1002) (n' := 24) (st' := [.ref (22), .ref (21)]) rfl rfl rfl rfl ?_
  have s4 : zsm _ _ (zrs (22)) := s4
  have r4 := r4 rfl
  have m5 : h4 (21) = some (.inl (7, [.null, .null, .int (0), .int (0), .int (0), .int (0), .int (0), .int (0), .int (0), .int (0), .int (0), .int (0), .int (0)])) := (s4 _ (by unfold zrs; omega)).trans k1_0
  refine zp_putF (fs' := [.ref (22), .null, .int (0), .int (0), .int (0), .int (0), .int (0), .int (0), .int (0), .int (0), .int (0), .int (0), .int (0)]) dX8_init_15 pX8_16_7 rfl (by omega) m5 (Nat.le_of_ble_eq_true rfl) (zfit_r _ _) rfl ?_
  refine zp_nh (fun h7x eh7x => ?_)
  have k7_0 : h7x (21) = some (.inl (7, [.ref (22), .null, .int (0), .int (0), .int (0), .int (0), .int (0), .int (0), .int (0), .int (0), .int (0), .int (0), .int (0)])) := by rw [eh7x]; exact va_up_self _ _ _
  have sw8 : zsm h4 h7x (zon (21)) := zsm.rf.up eh7x rfl
  have y9_0 := r4.keep (sw8 _ (by unfold zon; omega)) (sw8 _ (by unfold zon; omega))
  refine zp_aload_n dX8_init_18 rfl ?_
  refine zp_pc (pc' := 19) rfl ?_
  refine zp_new dX8_init_19 nX8_9 (Nat.le_of_ble_eq_true rfl) (Nat.le_of_ble_eq_true rfl) ?_
  refine zp_nn (cells' := 3) (slots' := 1004) (n' := 25) (st' := [.ref (24), .ref (21)]) rfl rfl rfl rfl ?_
  refine zp_nh (fun h10x eh10x => ?_)
  have k10_0 := (congrFun eh10x (21)).trans ((va_up_ne _ _ (by omega)).trans k7_0)
  have k10_1 : h10x (24) = some (.inl (6, [.null, .int (0)])) := by rw [eh10x]; exact va_up_self _ _ _
  have sw11 : zsm h7x h10x (zon (24)) := zsm.rf.up eh10x rfl
  have y12_0 := y9_0.keep (sw11 _ (by unfold zon; omega)) (sw11 _ (by unfold zon; omega))
  refine zp_dup dX8_init_22 rfl ?_
  refine zp_bipush (v := nI (48)) dX8_init_23 (by decide) ?_
  refine zp_pc (pc' := 25) rfl ?_
  refine zp_callI (As := [.int (nI (48))]) (k := 24) (st := [.ref (24), .ref (21)]) dX8_init_25 cX8_13 rfl (e_row (r := 24) (N := 48) (by omega) (by omega) (by omega) k10_1) (by decide) (by decide) (Nat.le_of_ble_eq_true rfl) (fun v13 h13 n13 q13 => ?_)
  obtain ⟨rfl, N13, s13, r13⟩ := q13
  rw [N13]
  refine zp_nn (cells' := 4) (slots' := 1052) (n' := 26) (st' := [.ref (24), .ref (21)]) rfl rfl rfl rfl ?_
  have s13 : zsm _ _ (zrs (24)) := s13
  have r13 := r13 rfl
  have m14 : h13 (21) = some (.inl (7, [.ref (22), .null, .int (0), .int (0), .int (0), .int (0), .int (0), .int (0), .int (0), .int (0), .int (0), .int (0), .int (0)])) := (s13 _ (by unfold zrs; omega)).trans k10_0
  have y15_0 := y12_0.keep (s13 _ (by unfold zrs; omega)) (s13 _ (by unfold zrs; omega))
  refine zp_putF (fs' := [.ref (22), .ref (24), .int (0), .int (0), .int (0), .int (0), .int (0), .int (0), .int (0), .int (0), .int (0), .int (0), .int (0)]) dX8_init_28 pX8_22_7 rfl (by omega) m14 (Nat.le_of_ble_eq_true rfl) (zfit_r _ _) rfl ?_
  refine zp_nh (fun h16x eh16x => ?_)
  have k16_0 : h16x (21) = some (.inl (7, [.ref (22), .ref (24), .int (0), .int (0), .int (0), .int (0), .int (0), .int (0), .int (0), .int (0), .int (0), .int (0), .int (0)])) := by rw [eh16x]; exact va_up_self _ _ _
  have sw17 : zsm h13 h16x (zon (21)) := zsm.rf.up eh16x rfl
  have y18_0 := y15_0.keep (sw17 _ (by unfold zon; omega)) (sw17 _ (by unfold zon; omega))
  have y18_1 := r13.keep (sw17 _ (by unfold zon; omega)) (sw17 _ (by unfold zon; omega))
  refine zp_aload_n dX8_init_31 rfl ?_
  refine zp_iconst (v := nI (5)) dX8_init_32 (by decide) ?_
  refine zp_put (fs' := [.ref (22), .ref (24), .int (nI (5)), .int (0), .int (0), .int (0), .int (0), .int (0), .int (0), .int (0), .int (0), .int (0), .int (0)]) dX8_init_33 pX8_25_7 (by omega) k16_0 (Nat.le_of_ble_eq_true rfl) (zfit_i _) rfl ?_
  refine zp_nh (fun h19x eh19x => ?_)
  have k19_0 : h19x (21) = some (.inl (7, [.ref (22), .ref (24), .int (nI (5)), .int (0), .int (0), .int (0), .int (0), .int (0), .int (0), .int (0), .int (0), .int (0), .int (0)])) := by rw [eh19x]; exact va_up_self _ _ _
  have sw20 : zsm h16x h19x (zon (21)) := zsm.rf.up eh19x rfl
  have y21_0 := y18_0.keep (sw20 _ (by unfold zon; omega)) (sw20 _ (by unfold zon; omega))
  have y21_1 := y18_1.keep (sw20 _ (by unfold zon; omega)) (sw20 _ (by unfold zon; omega))
  refine zp_aload_n dX8_init_36 rfl ?_
  refine zp_sipush (v := nI (512)) dX8_init_37 (by decide) ?_
  refine zp_put (fs' := [.ref (22), .ref (24), .int (nI (5)), .int (nI (512)), .int (0), .int (0), .int (0), .int (0), .int (0), .int (0), .int (0), .int (0), .int (0)]) dX8_init_40 pX8_29_7 (by omega) k19_0 (Nat.le_of_ble_eq_true rfl) (zfit_i _) rfl ?_
  refine zp_nh (fun h22x eh22x => ?_)
  have k22_0 : h22x (21) = some (.inl (7, [.ref (22), .ref (24), .int (nI (5)), .int (nI (512)), .int (0), .int (0), .int (0), .int (0), .int (0), .int (0), .int (0), .int (0), .int (0)])) := by rw [eh22x]; exact va_up_self _ _ _
  have sw23 : zsm h19x h22x (zon (21)) := zsm.rf.up eh22x rfl
  have y24_0 := y21_0.keep (sw23 _ (by unfold zon; omega)) (sw23 _ (by unfold zon; omega))
  have y24_1 := y21_1.keep (sw23 _ (by unfold zon; omega)) (sw23 _ (by unfold zon; omega))
  refine zp_aload_n dX8_init_43 rfl ?_
  refine zp_bipush (v := nI (40)) dX8_init_44 (by decide) ?_
  refine zp_put (fs' := [.ref (22), .ref (24), .int (nI (5)), .int (nI (512)), .int (nI (40)), .int (0), .int (0), .int (0), .int (0), .int (0), .int (0), .int (0), .int (0)]) dX8_init_46 pX8_32_7 (by omega) k22_0 (Nat.le_of_ble_eq_true rfl) (zfit_i _) rfl ?_
  refine zp_nh (fun h25x eh25x => ?_)
  have k25_0 : h25x (21) = some (.inl (7, [.ref (22), .ref (24), .int (nI (5)), .int (nI (512)), .int (nI (40)), .int (0), .int (0), .int (0), .int (0), .int (0), .int (0), .int (0), .int (0)])) := by rw [eh25x]; exact va_up_self _ _ _
  have sw26 : zsm h22x h25x (zon (21)) := zsm.rf.up eh25x rfl
  have y27_0 := y24_0.keep (sw26 _ (by unfold zon; omega)) (sw26 _ (by unfold zon; omega))
  have y27_1 := y24_1.keep (sw26 _ (by unfold zon; omega)) (sw26 _ (by unfold zon; omega))
  refine zp_aload_n dX8_init_49 rfl ?_
  refine zp_iconst (v := nI (0)) dX8_init_50 (by decide) ?_
  refine zp_pc (pc' := 51) rfl ?_
  refine zp_put (fs' := [.ref (22), .ref (24), .int (nI (5)), .int (nI (512)), .int (nI (40)), .int (nI (0)), .int (0), .int (0), .int (0), .int (0), .int (0), .int (0), .int (0)]) dX8_init_51 pX8_35_7 (by omega) k25_0 (Nat.le_of_ble_eq_true rfl) zfit_0 rfl ?_
  refine zp_nh (fun h28x eh28x => ?_)
  have k28_0 : h28x (21) = some (.inl (7, [.ref (22), .ref (24), .int (nI (5)), .int (nI (512)), .int (nI (40)), .int (nI (0)), .int (0), .int (0), .int (0), .int (0), .int (0), .int (0), .int (0)])) := by rw [eh28x]; exact va_up_self _ _ _
  have sw29 : zsm h25x h28x (zon (21)) := zsm.rf.up eh28x rfl
  have y30_0 := y27_0.keep (sw29 _ (by unfold zon; omega)) (sw29 _ (by unfold zon; omega))
  have y30_1 := y27_1.keep (sw29 _ (by unfold zon; omega)) (sw29 _ (by unfold zon; omega))
  refine zp_aload_n dX8_init_54 rfl ?_
  refine zp_iconst (v := (-1)) dX8_init_55 (by decide) ?_
  refine zp_put (fs' := [.ref (22), .ref (24), .int (nI (5)), .int (nI (512)), .int (nI (40)), .int (nI (0)), .int ((-1)), .int (0), .int (0), .int (0), .int (0), .int (0), .int (0)]) dX8_init_56 pX8_39_7 (by omega) k28_0 (Nat.le_of_ble_eq_true rfl) (zfit_i _) rfl ?_
  refine zp_nh (fun h31x eh31x => ?_)
  have k31_0 : h31x (21) = some (.inl (7, [.ref (22), .ref (24), .int (nI (5)), .int (nI (512)), .int (nI (40)), .int (nI (0)), .int ((-1)), .int (0), .int (0), .int (0), .int (0), .int (0), .int (0)])) := by rw [eh31x]; exact va_up_self _ _ _
  have sw32 : zsm h28x h31x (zon (21)) := zsm.rf.up eh31x rfl
  have y33_0 := y30_0.keep (sw32 _ (by unfold zon; omega)) (sw32 _ (by unfold zon; omega))
  have y33_1 := y30_1.keep (sw32 _ (by unfold zon; omega)) (sw32 _ (by unfold zon; omega))
  refine zp_aload_n dX8_init_59 rfl ?_
  refine zp_iconst (v := nI (0)) dX8_init_60 (by decide) ?_
  refine zp_put (fs' := [.ref (22), .ref (24), .int (nI (5)), .int (nI (512)), .int (nI (40)), .int (nI (0)), .int ((-1)), .int (nI (0)), .int (0), .int (0), .int (0), .int (0), .int (0)]) dX8_init_61 pX8_42_7 (by omega) k31_0 (Nat.le_of_ble_eq_true rfl) (zfit_i _) rfl ?_
  refine zp_nh (fun h34x eh34x => ?_)
  have k34_0 : h34x (21) = some (.inl (7, [.ref (22), .ref (24), .int (nI (5)), .int (nI (512)), .int (nI (40)), .int (nI (0)), .int ((-1)), .int (nI (0)), .int (0), .int (0), .int (0), .int (0), .int (0)])) := by rw [eh34x]; exact va_up_self _ _ _
  have sw35 : zsm h31x h34x (zon (21)) := zsm.rf.up eh34x rfl
  have y36_0 := y33_0.keep (sw35 _ (by unfold zon; omega)) (sw35 _ (by unfold zon; omega))
  have y36_1 := y33_1.keep (sw35 _ (by unfold zon; omega)) (sw35 _ (by unfold zon; omega))
  refine zp_aload_n dX8_init_64 rfl ?_
  refine zp_iconst (v := (-1)) dX8_init_65 (by decide) ?_
  refine zp_put (fs' := [.ref (22), .ref (24), .int (nI (5)), .int (nI (512)), .int (nI (40)), .int (nI (0)), .int ((-1)), .int (nI (0)), .int ((-1)), .int (0), .int (0), .int (0), .int (0)]) dX8_init_66 pX8_45_7 (by omega) k34_0 (Nat.le_of_ble_eq_true rfl) (zfit_i _) rfl ?_
  refine zp_nh (fun h37x eh37x => ?_)
  have k37_0 : h37x (21) = some (.inl (7, [.ref (22), .ref (24), .int (nI (5)), .int (nI (512)), .int (nI (40)), .int (nI (0)), .int ((-1)), .int (nI (0)), .int ((-1)), .int (0), .int (0), .int (0), .int (0)])) := by rw [eh37x]; exact va_up_self _ _ _
  have sw38 : zsm h34x h37x (zon (21)) := zsm.rf.up eh37x rfl
  have y39_0 := y36_0.keep (sw38 _ (by unfold zon; omega)) (sw38 _ (by unfold zon; omega))
  have y39_1 := y36_1.keep (sw38 _ (by unfold zon; omega)) (sw38 _ (by unfold zon; omega))
  refine zp_aload_n dX8_init_69 rfl ?_
  refine zp_iconst (v := nI (0)) dX8_init_70 (by decide) ?_
  refine zp_pc (pc' := 71) rfl ?_
  refine zp_put (fs' := [.ref (22), .ref (24), .int (nI (5)), .int (nI (512)), .int (nI (40)), .int (nI (0)), .int ((-1)), .int (nI (0)), .int ((-1)), .int (nI (0)), .int (0), .int (0), .int (0)]) dX8_init_71 pX8_48_7 (by omega) k37_0 (Nat.le_of_ble_eq_true rfl) (zfit_i _) rfl ?_
  refine zp_nh (fun h40x eh40x => ?_)
  have k40_0 : h40x (21) = some (.inl (7, [.ref (22), .ref (24), .int (nI (5)), .int (nI (512)), .int (nI (40)), .int (nI (0)), .int ((-1)), .int (nI (0)), .int ((-1)), .int (nI (0)), .int (0), .int (0), .int (0)])) := by rw [eh40x]; exact va_up_self _ _ _
  have sw41 : zsm h37x h40x (zon (21)) := zsm.rf.up eh40x rfl
  have y42_0 := y39_0.keep (sw41 _ (by unfold zon; omega)) (sw41 _ (by unfold zon; omega))
  have y42_1 := y39_1.keep (sw41 _ (by unfold zon; omega)) (sw41 _ (by unfold zon; omega))
  refine zp_aload_n dX8_init_74 rfl ?_
  refine zp_iconst (v := nI (0)) dX8_init_75 (by decide) ?_
  refine zp_put (fs' := [.ref (22), .ref (24), .int (nI (5)), .int (nI (512)), .int (nI (40)), .int (nI (0)), .int ((-1)), .int (nI (0)), .int ((-1)), .int (nI (0)), .int (nI (0)), .int (0), .int (0)]) dX8_init_76 pX8_51_7 (by omega) k40_0 (Nat.le_of_ble_eq_true rfl) (zfit_i _) rfl ?_
  refine zp_nh (fun h43x eh43x => ?_)
  have k43_0 : h43x (21) = some (.inl (7, [.ref (22), .ref (24), .int (nI (5)), .int (nI (512)), .int (nI (40)), .int (nI (0)), .int ((-1)), .int (nI (0)), .int ((-1)), .int (nI (0)), .int (nI (0)), .int (0), .int (0)])) := by rw [eh43x]; exact va_up_self _ _ _
  have sw44 : zsm h40x h43x (zon (21)) := zsm.rf.up eh43x rfl
  have y45_0 := y42_0.keep (sw44 _ (by unfold zon; omega)) (sw44 _ (by unfold zon; omega))
  have y45_1 := y42_1.keep (sw44 _ (by unfold zon; omega)) (sw44 _ (by unfold zon; omega))
  refine zp_aload_n dX8_init_79 rfl ?_
  refine zp_iconst (v := nI (0)) dX8_init_80 (by decide) ?_
  refine zp_put (fs' := [.ref (22), .ref (24), .int (nI (5)), .int (nI (512)), .int (nI (40)), .int (nI (0)), .int ((-1)), .int (nI (0)), .int ((-1)), .int (nI (0)), .int (nI (0)), .int (nI (0)), .int (0)]) dX8_init_81 pX8_54_7 (by omega) k43_0 (Nat.le_of_ble_eq_true rfl) (zfit_i _) rfl ?_
  refine zp_nh (fun h46x eh46x => ?_)
  have k46_0 : h46x (21) = some (.inl (7, [.ref (22), .ref (24), .int (nI (5)), .int (nI (512)), .int (nI (40)), .int (nI (0)), .int ((-1)), .int (nI (0)), .int ((-1)), .int (nI (0)), .int (nI (0)), .int (nI (0)), .int (0)])) := by rw [eh46x]; exact va_up_self _ _ _
  have sw47 : zsm h43x h46x (zon (21)) := zsm.rf.up eh46x rfl
  have y48_0 := y45_0.keep (sw47 _ (by unfold zon; omega)) (sw47 _ (by unfold zon; omega))
  have y48_1 := y45_1.keep (sw47 _ (by unfold zon; omega)) (sw47 _ (by unfold zon; omega))
  refine zp_aload_n dX8_init_84 rfl ?_
  refine zp_iconst (v := nI (0)) dX8_init_85 (by decide) ?_
  refine zp_put (fs' := [.ref (22), .ref (24), .int (nI (5)), .int (nI (512)), .int (nI (40)), .int (nI (0)), .int ((-1)), .int (nI (0)), .int ((-1)), .int (nI (0)), .int (nI (0)), .int (nI (0)), .int (nI (0))]) dX8_init_86 pX8_57_7 (by omega) k46_0 (Nat.le_of_ble_eq_true rfl) (zfit_i _) rfl ?_
  refine zp_nh (fun h49x eh49x => ?_)
  have k49_0 : h49x (21) = some (.inl (7, [.ref (22), .ref (24), .int (nI (5)), .int (nI (512)), .int (nI (40)), .int (nI (0)), .int ((-1)), .int (nI (0)), .int ((-1)), .int (nI (0)), .int (nI (0)), .int (nI (0)), .int (nI (0))])) := by rw [eh49x]; exact va_up_self _ _ _
  have sw50 : zsm h46x h49x (zon (21)) := zsm.rf.up eh49x rfl
  have y51_0 := y48_0.keep (sw50 _ (by unfold zon; omega)) (sw50 _ (by unfold zon; omega))
  have y51_1 := y48_1.keep (sw50 _ (by unfold zon; omega)) (sw50 _ (by unfold zon; omega))
  refine zp_pc (pc' := 89) rfl ?_
  refine zp_ret (v := none) dX8_init_89 ⟨rfl, rfl⟩ (Nat.le_of_ble_eq_true rfl) (Nat.le_of_ble_eq_true rfl) ?_
  rw [hQ]
  exact ⟨rfl, rfl, (((((((((((((((((sw2).mono (fun i hi => by unfold zbt; unfold zon at hi; omega)).trans ((s4).mono (fun i hi => by unfold zbt; unfold zrs at hi; omega))).trans ((sw8).mono (fun i hi => by unfold zbt; unfold zon at hi; omega))).trans ((sw11).mono (fun i hi => by unfold zbt; unfold zon at hi; omega))).trans ((s13).mono (fun i hi => by unfold zbt; unfold zrs at hi; omega))).trans ((sw17).mono (fun i hi => by unfold zbt; unfold zon at hi; omega))).trans ((sw20).mono (fun i hi => by unfold zbt; unfold zon at hi; omega))).trans ((sw23).mono (fun i hi => by unfold zbt; unfold zon at hi; omega))).trans ((sw26).mono (fun i hi => by unfold zbt; unfold zon at hi; omega))).trans ((sw29).mono (fun i hi => by unfold zbt; unfold zon at hi; omega))).trans ((sw32).mono (fun i hi => by unfold zbt; unfold zon at hi; omega))).trans ((sw35).mono (fun i hi => by unfold zbt; unfold zon at hi; omega))).trans ((sw38).mono (fun i hi => by unfold zbt; unfold zon at hi; omega))).trans ((sw41).mono (fun i hi => by unfold zbt; unfold zon at hi; omega))).trans ((sw44).mono (fun i hi => by unfold zbt; unfold zon at hi; omega))).trans ((sw47).mono (fun i hi => by unfold zbt; unfold zon at hi; omega))).trans ((sw50).mono (fun i hi => by unfold zbt; unfold zon at hi; omega)), by decide, k49_0, y51_0, _, y51_1⟩
set_option maxRecDepth 10000 in
set_option maxHeartbeats 2000000 in
theorem e_cipInit {g : ZG} {h : ZH} {n : Nat}  (hn : n = 28) (o : h 27 = some (.inl (0, [.null, .null, .null, .int 0, .null, .null, .null, .null]))) : zMt g mX0_init (zR 2 11 888) [.ref (27)] h n (fun v h' n' => v = none ∧ n' = 39 ∧ zsm h h' (zbt 27 38) ∧ zcy h' 27) := by
  refine zMt.of [some (.ref (27))] (by decide) rfl (Nat.le_of_ble_eq_true rfl) ?_
  obtain ⟨Qf, hQ⟩ : ∃ Qf : ZQ, Qf = (fun v h' n' => v = none ∧ n' = 39 ∧ zsm h h' (zbt 27 38) ∧ zcy h' 27) := ⟨_, rfl⟩
  rw [← hQ]
  subst hn
  refine zp_aload_n dX0_init_0 rfl ?_
  refine zp_pc (pc' := 1) rfl ?_
  refine zp_objInit dX0_init_1 cX0_1 ⟨Nat.le_of_ble_eq_true rfl, Nat.le_of_ble_eq_true rfl⟩ (Nat.le_of_ble_eq_true rfl) ?_
  refine zp_pc (pc' := 4) rfl ?_
  refine zp_aload_n dX0_init_4 rfl ?_
  refine zp_sipush (v := nI (240)) dX0_init_5 (by decide) ?_
  refine zp_pc (pc' := 8) rfl ?_
  refine zp_newi (N := 240) dX0_init_8 (nI_pos (by decide)) (nI_clamp (by decide)) (by decide) (Nat.le_of_ble_eq_true rfl) (Nat.le_of_ble_eq_true rfl) ?_
  refine zp_nn (cells' := 1) (slots' := 240) (n' := 29) (st' := [.ref (28), .ref (27)]) rfl rfl rfl rfl ?_
  refine zp_nh (fun h1x eh1x => ?_)
  have k1_0 := (congrFun eh1x (27)).trans ((va_up_ne _ _ (by omega)).trans o)
  have k1_1 : h1x (28) = some (.inr (240, .inl (fun _ => 0))) := by rw [eh1x]; exact va_up_self _ _ _
  have sw2 : zsm h h1x (zon (28)) := zsm.rf.up eh1x rfl
  refine zp_putF (fs' := [.ref (28), .null, .null, .int (0), .null, .null, .null, .null]) dX0_init_10 pX0_9_0 rfl (by omega) k1_0 (Nat.le_of_ble_eq_true rfl) (zfit_a _ _) rfl ?_
  refine zp_nh (fun h4x eh4x => ?_)
  have k4_0 : h4x (27) = some (.inl (0, [.ref (28), .null, .null, .int (0), .null, .null, .null, .null])) := by rw [eh4x]; exact va_up_self _ _ _
  have k4_1 := (congrFun eh4x (28)).trans ((va_up_ne _ _ (by omega)).trans k1_1)
  have sw5 : zsm h1x h4x (zon (27)) := zsm.rf.up eh4x rfl
  refine zp_aload_n dX0_init_13 rfl ?_
  refine zp_bipush (v := nI (16)) dX0_init_14 (by decide) ?_
  refine zp_pc (pc' := 16) rfl ?_
  refine zp_newi (N := 16) dX0_init_16 (nI_pos (by decide)) (nI_clamp (by decide)) (by decide) (Nat.le_of_ble_eq_true rfl) (Nat.le_of_ble_eq_true rfl) ?_
  refine zp_nn (cells' := 2) (slots' := 256) (n' := 30) (st' := [.ref (29), .ref (27)]) rfl rfl rfl rfl ?_
  refine zp_nh (fun h7x eh7x => ?_)
  have k7_0 := (congrFun eh7x (27)).trans ((va_up_ne _ _ (by omega)).trans k4_0)
  have k7_1 := (congrFun eh7x (28)).trans ((va_up_ne _ _ (by omega)).trans k4_1)
  have k7_2 : h7x (29) = some (.inr (16, .inl (fun _ => 0))) := by rw [eh7x]; exact va_up_self _ _ _
  have sw8 : zsm h4x h7x (zon (29)) := zsm.rf.up eh7x rfl
  refine zp_putF (fs' := [.ref (28), .ref (29), .null, .int (0), .null, .null, .null, .null]) dX0_init_18 pX0_13_0 rfl (by omega) k7_0 (Nat.le_of_ble_eq_true rfl) (zfit_a _ _) rfl ?_
  refine zp_nh (fun h10x eh10x => ?_)
  have k10_0 : h10x (27) = some (.inl (0, [.ref (28), .ref (29), .null, .int (0), .null, .null, .null, .null])) := by rw [eh10x]; exact va_up_self _ _ _
  have k10_1 := (congrFun eh10x (28)).trans ((va_up_ne _ _ (by omega)).trans k7_1)
  have k10_2 := (congrFun eh10x (29)).trans ((va_up_ne _ _ (by omega)).trans k7_2)
  have sw11 : zsm h7x h10x (zon (27)) := zsm.rf.up eh10x rfl
  refine zp_aload_n dX0_init_21 rfl ?_
  refine zp_bipush (v := nI (16)) dX0_init_22 (by decide) ?_
  refine zp_pc (pc' := 24) rfl ?_
  refine zp_newi (N := 16) dX0_init_24 (nI_pos (by decide)) (nI_clamp (by decide)) (by decide) (Nat.le_of_ble_eq_true rfl) (Nat.le_of_ble_eq_true rfl) ?_
  refine zp_nn (cells' := 3) (slots' := 272) (n' := 31) (st' := [.ref (30), .ref (27)]) rfl rfl rfl rfl ?_
  refine zp_nh (fun h13x eh13x => ?_)
  have k13_0 := (congrFun eh13x (27)).trans ((va_up_ne _ _ (by omega)).trans k10_0)
  have k13_1 := (congrFun eh13x (28)).trans ((va_up_ne _ _ (by omega)).trans k10_1)
  have k13_2 := (congrFun eh13x (29)).trans ((va_up_ne _ _ (by omega)).trans k10_2)
  have k13_3 : h13x (30) = some (.inr (16, .inl (fun _ => 0))) := by rw [eh13x]; exact va_up_self _ _ _
  have sw14 : zsm h10x h13x (zon (30)) := zsm.rf.up eh13x rfl
  refine zp_putF (fs' := [.ref (28), .ref (29), .ref (30), .int (0), .null, .null, .null, .null]) dX0_init_26 pX0_16_0 rfl (by omega) k13_0 (Nat.le_of_ble_eq_true rfl) (zfit_a _ _) rfl ?_
  refine zp_nh (fun h16x eh16x => ?_)
  have k16_0 : h16x (27) = some (.inl (0, [.ref (28), .ref (29), .ref (30), .int (0), .null, .null, .null, .null])) := by rw [eh16x]; exact va_up_self _ _ _
  have k16_1 := (congrFun eh16x (28)).trans ((va_up_ne _ _ (by omega)).trans k13_1)
  have k16_2 := (congrFun eh16x (29)).trans ((va_up_ne _ _ (by omega)).trans k13_2)
  have k16_3 := (congrFun eh16x (30)).trans ((va_up_ne _ _ (by omega)).trans k13_3)
  have sw17 : zsm h13x h16x (zon (27)) := zsm.rf.up eh16x rfl
  refine zp_aload_n dX0_init_29 rfl ?_
  refine zp_iconst (v := nI (0)) dX0_init_30 (by decide) ?_
  refine zp_put (fs' := [.ref (28), .ref (29), .ref (30), .int (nI (0)), .null, .null, .null, .null]) dX0_init_31 pX0_19_0 (by omega) k16_0 (Nat.le_of_ble_eq_true rfl) (zfit_i _) rfl ?_
  refine zp_nh (fun h19x eh19x => ?_)
  have k19_0 : h19x (27) = some (.inl (0, [.ref (28), .ref (29), .ref (30), .int (nI (0)), .null, .null, .null, .null])) := by rw [eh19x]; exact va_up_self _ _ _
  have k19_1 := (congrFun eh19x (28)).trans ((va_up_ne _ _ (by omega)).trans k16_1)
  have k19_2 := (congrFun eh19x (29)).trans ((va_up_ne _ _ (by omega)).trans k16_2)
  have k19_3 := (congrFun eh19x (30)).trans ((va_up_ne _ _ (by omega)).trans k16_3)
  have sw20 : zsm h16x h19x (zon (27)) := zsm.rf.up eh19x rfl
  refine zp_aload_n dX0_init_34 rfl ?_
  refine zp_pc (pc' := 35) rfl ?_
  refine zp_new dX0_init_35 nX0_23 (Nat.le_of_ble_eq_true rfl) (Nat.le_of_ble_eq_true rfl) ?_
  refine zp_nn (cells' := 4) (slots' := 274) (n' := 32) (st' := [.ref (31), .ref (27)]) rfl rfl rfl rfl ?_
  refine zp_nh (fun h22x eh22x => ?_)
  have k22_0 := (congrFun eh22x (27)).trans ((va_up_ne _ _ (by omega)).trans k19_0)
  have k22_1 := (congrFun eh22x (28)).trans ((va_up_ne _ _ (by omega)).trans k19_1)
  have k22_2 := (congrFun eh22x (29)).trans ((va_up_ne _ _ (by omega)).trans k19_2)
  have k22_3 := (congrFun eh22x (30)).trans ((va_up_ne _ _ (by omega)).trans k19_3)
  have k22_4 : h22x (31) = some (.inl (6, [.null, .int (0)])) := by rw [eh22x]; exact va_up_self _ _ _
  have sw23 : zsm h19x h22x (zon (31)) := zsm.rf.up eh22x rfl
  refine zp_dup dX0_init_38 rfl ?_
  refine zp_sipush (v := nI (512)) dX0_init_39 (by decide) ?_
  refine zp_pc (pc' := 42) rfl ?_
  refine zp_callI (As := [.int (nI (512))]) (k := 31) (st := [.ref (31), .ref (27)]) dX0_init_42 cX0_27 rfl (e_row (r := 31) (N := 512) (by omega) (by omega) (by omega) k22_4) (by decide) (by decide) (Nat.le_of_ble_eq_true rfl) (fun v25 h25 n25 q25 => ?_)
  obtain ⟨rfl, N25, s25, r25⟩ := q25
  rw [N25]
  refine zp_nn (cells' := 5) (slots' := 786) (n' := 33) (st' := [.ref (31), .ref (27)]) rfl rfl rfl rfl ?_
  have s25 : zsm _ _ (zrs (31)) := s25
  have r25 := r25 rfl
  have m26 : h25 (27) = some (.inl (0, [.ref (28), .ref (29), .ref (30), .int (nI (0)), .null, .null, .null, .null])) := (s25 _ (by unfold zrs; omega)).trans k22_0
  have m27 : h25 (28) = some (.inr (240, .inl (fun _ => 0))) := (s25 _ (by unfold zrs; omega)).trans k22_1
  have m28 : h25 (29) = some (.inr (16, .inl (fun _ => 0))) := (s25 _ (by unfold zrs; omega)).trans k22_2
  have m29 : h25 (30) = some (.inr (16, .inl (fun _ => 0))) := (s25 _ (by unfold zrs; omega)).trans k22_3
  refine zp_putF (fs' := [.ref (28), .ref (29), .ref (30), .int (nI (0)), .ref (31), .null, .null, .null]) dX0_init_45 pX0_30_0 rfl (by omega) m26 (Nat.le_of_ble_eq_true rfl) (zfit_r _ _) rfl ?_
  refine zp_nh (fun h31x eh31x => ?_)
  have k31_0 : h31x (27) = some (.inl (0, [.ref (28), .ref (29), .ref (30), .int (nI (0)), .ref (31), .null, .null, .null])) := by rw [eh31x]; exact va_up_self _ _ _
  have k31_1 := (congrFun eh31x (28)).trans ((va_up_ne _ _ (by omega)).trans m27)
  have k31_2 := (congrFun eh31x (29)).trans ((va_up_ne _ _ (by omega)).trans m28)
  have k31_3 := (congrFun eh31x (30)).trans ((va_up_ne _ _ (by omega)).trans m29)
  have sw32 : zsm h25 h31x (zon (27)) := zsm.rf.up eh31x rfl
  have y33_0 := r25.keep (sw32 _ (by unfold zon; omega)) (sw32 _ (by unfold zon; omega))
  refine zp_aload_n dX0_init_48 rfl ?_
  refine zp_pc (pc' := 49) rfl ?_
  refine zp_new dX0_init_49 nX0_23 (Nat.le_of_ble_eq_true rfl) (Nat.le_of_ble_eq_true rfl) ?_
  refine zp_nn (cells' := 6) (slots' := 788) (n' := 34) (st' := [.ref (33), .ref (27)]) rfl rfl rfl rfl ?_
  refine zp_nh (fun h34x eh34x => ?_)
  have k34_0 := (congrFun eh34x (27)).trans ((va_up_ne _ _ (by omega)).trans k31_0)
  have k34_1 := (congrFun eh34x (28)).trans ((va_up_ne _ _ (by omega)).trans k31_1)
  have k34_2 := (congrFun eh34x (29)).trans ((va_up_ne _ _ (by omega)).trans k31_2)
  have k34_3 := (congrFun eh34x (30)).trans ((va_up_ne _ _ (by omega)).trans k31_3)
  have k34_4 : h34x (33) = some (.inl (6, [.null, .int (0)])) := by rw [eh34x]; exact va_up_self _ _ _
  have sw35 : zsm h31x h34x (zon (33)) := zsm.rf.up eh34x rfl
  have y36_0 := y33_0.keep (sw35 _ (by unfold zon; omega)) (sw35 _ (by unfold zon; omega))
  refine zp_dup dX0_init_52 rfl ?_
  refine zp_bipush (v := nI (48)) dX0_init_53 (by decide) ?_
  refine zp_pc (pc' := 55) rfl ?_
  refine zp_callI (As := [.int (nI (48))]) (k := 33) (st := [.ref (33), .ref (27)]) dX0_init_55 cX0_27 rfl (e_row (r := 33) (N := 48) (by omega) (by omega) (by omega) k34_4) (by decide) (by decide) (Nat.le_of_ble_eq_true rfl) (fun v37 h37 n37 q37 => ?_)
  obtain ⟨rfl, N37, s37, r37⟩ := q37
  rw [N37]
  refine zp_nn (cells' := 7) (slots' := 836) (n' := 35) (st' := [.ref (33), .ref (27)]) rfl rfl rfl rfl ?_
  have s37 : zsm _ _ (zrs (33)) := s37
  have r37 := r37 rfl
  have m38 : h37 (27) = some (.inl (0, [.ref (28), .ref (29), .ref (30), .int (nI (0)), .ref (31), .null, .null, .null])) := (s37 _ (by unfold zrs; omega)).trans k34_0
  have m39 : h37 (28) = some (.inr (240, .inl (fun _ => 0))) := (s37 _ (by unfold zrs; omega)).trans k34_1
  have m40 : h37 (29) = some (.inr (16, .inl (fun _ => 0))) := (s37 _ (by unfold zrs; omega)).trans k34_2
  have m41 : h37 (30) = some (.inr (16, .inl (fun _ => 0))) := (s37 _ (by unfold zrs; omega)).trans k34_3
  have y42_0 := y36_0.keep (s37 _ (by unfold zrs; omega)) (s37 _ (by unfold zrs; omega))
  refine zp_putF (fs' := [.ref (28), .ref (29), .ref (30), .int (nI (0)), .ref (31), .ref (33), .null, .null]) dX0_init_58 pX0_34_0 rfl (by omega) m38 (Nat.le_of_ble_eq_true rfl) (zfit_r _ _) rfl ?_
  refine zp_nh (fun h43x eh43x => ?_)
  have k43_0 : h43x (27) = some (.inl (0, [.ref (28), .ref (29), .ref (30), .int (nI (0)), .ref (31), .ref (33), .null, .null])) := by rw [eh43x]; exact va_up_self _ _ _
  have k43_1 := (congrFun eh43x (28)).trans ((va_up_ne _ _ (by omega)).trans m39)
  have k43_2 := (congrFun eh43x (29)).trans ((va_up_ne _ _ (by omega)).trans m40)
  have k43_3 := (congrFun eh43x (30)).trans ((va_up_ne _ _ (by omega)).trans m41)
  have sw44 : zsm h37 h43x (zon (27)) := zsm.rf.up eh43x rfl
  have y45_0 := y42_0.keep (sw44 _ (by unfold zon; omega)) (sw44 _ (by unfold zon; omega))
  have y45_1 := r37.keep (sw44 _ (by unfold zon; omega)) (sw44 _ (by unfold zon; omega))
  refine zp_aload_n dX0_init_61 rfl ?_
  refine zp_pc (pc' := 62) rfl ?_
  refine zp_new dX0_init_62 nX0_23 (Nat.le_of_ble_eq_true rfl) (Nat.le_of_ble_eq_true rfl) ?_
  refine zp_nn (cells' := 8) (slots' := 838) (n' := 36) (st' := [.ref (35), .ref (27)]) rfl rfl rfl rfl ?_
  refine zp_nh (fun h46x eh46x => ?_)
  have k46_0 := (congrFun eh46x (27)).trans ((va_up_ne _ _ (by omega)).trans k43_0)
  have k46_1 := (congrFun eh46x (28)).trans ((va_up_ne _ _ (by omega)).trans k43_1)
  have k46_2 := (congrFun eh46x (29)).trans ((va_up_ne _ _ (by omega)).trans k43_2)
  have k46_3 := (congrFun eh46x (30)).trans ((va_up_ne _ _ (by omega)).trans k43_3)
  have k46_4 : h46x (35) = some (.inl (6, [.null, .int (0)])) := by rw [eh46x]; exact va_up_self _ _ _
  have sw47 : zsm h43x h46x (zon (35)) := zsm.rf.up eh46x rfl
  have y48_0 := y45_0.keep (sw47 _ (by unfold zon; omega)) (sw47 _ (by unfold zon; omega))
  have y48_1 := y45_1.keep (sw47 _ (by unfold zon; omega)) (sw47 _ (by unfold zon; omega))
  refine zp_dup dX0_init_65 rfl ?_
  refine zp_bipush (v := nI (32)) dX0_init_66 (by decide) ?_
  refine zp_pc (pc' := 68) rfl ?_
  refine zp_callI (As := [.int (nI (32))]) (k := 35) (st := [.ref (35), .ref (27)]) dX0_init_68 cX0_27 rfl (e_row (r := 35) (N := 32) (by omega) (by omega) (by omega) k46_4) (by decide) (by decide) (Nat.le_of_ble_eq_true rfl) (fun v49 h49 n49 q49 => ?_)
  obtain ⟨rfl, N49, s49, r49⟩ := q49
  rw [N49]
  refine zp_nn (cells' := 9) (slots' := 870) (n' := 37) (st' := [.ref (35), .ref (27)]) rfl rfl rfl rfl ?_
  have s49 : zsm _ _ (zrs (35)) := s49
  have r49 := r49 rfl
  have m50 : h49 (27) = some (.inl (0, [.ref (28), .ref (29), .ref (30), .int (nI (0)), .ref (31), .ref (33), .null, .null])) := (s49 _ (by unfold zrs; omega)).trans k46_0
  have m51 : h49 (28) = some (.inr (240, .inl (fun _ => 0))) := (s49 _ (by unfold zrs; omega)).trans k46_1
  have m52 : h49 (29) = some (.inr (16, .inl (fun _ => 0))) := (s49 _ (by unfold zrs; omega)).trans k46_2
  have m53 : h49 (30) = some (.inr (16, .inl (fun _ => 0))) := (s49 _ (by unfold zrs; omega)).trans k46_3
  have y54_0 := y48_0.keep (s49 _ (by unfold zrs; omega)) (s49 _ (by unfold zrs; omega))
  have y54_1 := y48_1.keep (s49 _ (by unfold zrs; omega)) (s49 _ (by unfold zrs; omega))
  refine zp_putF (fs' := [.ref (28), .ref (29), .ref (30), .int (nI (0)), .ref (31), .ref (33), .ref (35), .null]) dX0_init_71 pX0_37_0 rfl (by omega) m50 (Nat.le_of_ble_eq_true rfl) (zfit_r _ _) rfl ?_
  refine zp_nh (fun h55x eh55x => ?_)
  have k55_0 : h55x (27) = some (.inl (0, [.ref (28), .ref (29), .ref (30), .int (nI (0)), .ref (31), .ref (33), .ref (35), .null])) := by rw [eh55x]; exact va_up_self _ _ _
  have k55_1 := (congrFun eh55x (28)).trans ((va_up_ne _ _ (by omega)).trans m51)
  have k55_2 := (congrFun eh55x (29)).trans ((va_up_ne _ _ (by omega)).trans m52)
  have k55_3 := (congrFun eh55x (30)).trans ((va_up_ne _ _ (by omega)).trans m53)
  have sw56 : zsm h49 h55x (zon (27)) := zsm.rf.up eh55x rfl
  have y57_0 := y54_0.keep (sw56 _ (by unfold zon; omega)) (sw56 _ (by unfold zon; omega))
  have y57_1 := y54_1.keep (sw56 _ (by unfold zon; omega)) (sw56 _ (by unfold zon; omega))
  have y57_2 := r49.keep (sw56 _ (by unfold zon; omega)) (sw56 _ (by unfold zon; omega))
  refine zp_aload_n dX0_init_74 rfl ?_
  refine zp_pc (pc' := 75) rfl ?_
  refine zp_new dX0_init_75 nX0_23 (Nat.le_of_ble_eq_true rfl) (Nat.le_of_ble_eq_true rfl) ?_
  refine zp_nn (cells' := 10) (slots' := 872) (n' := 38) (st' := [.ref (37), .ref (27)]) rfl rfl rfl rfl ?_
  refine zp_nh (fun h58x eh58x => ?_)
  have k58_0 := (congrFun eh58x (27)).trans ((va_up_ne _ _ (by omega)).trans k55_0)
  have k58_1 := (congrFun eh58x (28)).trans ((va_up_ne _ _ (by omega)).trans k55_1)
  have k58_2 := (congrFun eh58x (29)).trans ((va_up_ne _ _ (by omega)).trans k55_2)
  have k58_3 := (congrFun eh58x (30)).trans ((va_up_ne _ _ (by omega)).trans k55_3)
  have k58_4 : h58x (37) = some (.inl (6, [.null, .int (0)])) := by rw [eh58x]; exact va_up_self _ _ _
  have sw59 : zsm h55x h58x (zon (37)) := zsm.rf.up eh58x rfl
  have y60_0 := y57_0.keep (sw59 _ (by unfold zon; omega)) (sw59 _ (by unfold zon; omega))
  have y60_1 := y57_1.keep (sw59 _ (by unfold zon; omega)) (sw59 _ (by unfold zon; omega))
  have y60_2 := y57_2.keep (sw59 _ (by unfold zon; omega)) (sw59 _ (by unfold zon; omega))
  refine zp_dup dX0_init_78 rfl ?_
  refine zp_bipush (v := nI (16)) dX0_init_79 (by decide) ?_
  refine zp_pc (pc' := 81) rfl ?_
  refine zp_callI (As := [.int (nI (16))]) (k := 37) (st := [.ref (37), .ref (27)]) dX0_init_81 cX0_27 rfl (e_row (r := 37) (N := 16) (by omega) (by omega) (by omega) k58_4) (by decide) (by decide) (Nat.le_of_ble_eq_true rfl) (fun v61 h61 n61 q61 => ?_)
  obtain ⟨rfl, N61, s61, r61⟩ := q61
  rw [N61]
  refine zp_nn (cells' := 11) (slots' := 888) (n' := 39) (st' := [.ref (37), .ref (27)]) rfl rfl rfl rfl ?_
  have s61 : zsm _ _ (zrs (37)) := s61
  have r61 := r61 rfl
  have m62 : h61 (27) = some (.inl (0, [.ref (28), .ref (29), .ref (30), .int (nI (0)), .ref (31), .ref (33), .ref (35), .null])) := (s61 _ (by unfold zrs; omega)).trans k58_0
  have m63 : h61 (28) = some (.inr (240, .inl (fun _ => 0))) := (s61 _ (by unfold zrs; omega)).trans k58_1
  have m64 : h61 (29) = some (.inr (16, .inl (fun _ => 0))) := (s61 _ (by unfold zrs; omega)).trans k58_2
  have m65 : h61 (30) = some (.inr (16, .inl (fun _ => 0))) := (s61 _ (by unfold zrs; omega)).trans k58_3
  have y66_0 := y60_0.keep (s61 _ (by unfold zrs; omega)) (s61 _ (by unfold zrs; omega))
  have y66_1 := y60_1.keep (s61 _ (by unfold zrs; omega)) (s61 _ (by unfold zrs; omega))
  have y66_2 := y60_2.keep (s61 _ (by unfold zrs; omega)) (s61 _ (by unfold zrs; omega))
  refine zp_putF (fs' := [.ref (28), .ref (29), .ref (30), .int (nI (0)), .ref (31), .ref (33), .ref (35), .ref (37)]) dX0_init_84 pX0_40_0 rfl (by omega) m62 (Nat.le_of_ble_eq_true rfl) (zfit_r _ _) rfl ?_
  refine zp_nh (fun h67x eh67x => ?_)
  have k67_0 : h67x (27) = some (.inl (0, [.ref (28), .ref (29), .ref (30), .int (nI (0)), .ref (31), .ref (33), .ref (35), .ref (37)])) := by rw [eh67x]; exact va_up_self _ _ _
  have k67_1 := (congrFun eh67x (28)).trans ((va_up_ne _ _ (by omega)).trans m63)
  have k67_2 := (congrFun eh67x (29)).trans ((va_up_ne _ _ (by omega)).trans m64)
  have k67_3 := (congrFun eh67x (30)).trans ((va_up_ne _ _ (by omega)).trans m65)
  have sw68 : zsm h61 h67x (zon (27)) := zsm.rf.up eh67x rfl
  have y69_0 := y66_0.keep (sw68 _ (by unfold zon; omega)) (sw68 _ (by unfold zon; omega))
  have y69_1 := y66_1.keep (sw68 _ (by unfold zon; omega)) (sw68 _ (by unfold zon; omega))
  have y69_2 := y66_2.keep (sw68 _ (by unfold zon; omega)) (sw68 _ (by unfold zon; omega))
  have y69_3 := r61.keep (sw68 _ (by unfold zon; omega)) (sw68 _ (by unfold zon; omega))
  refine zp_pc (pc' := 87) rfl ?_
  refine zp_ret (v := none) dX0_init_87 ⟨rfl, rfl⟩ (Nat.le_of_ble_eq_true rfl) (Nat.le_of_ble_eq_true rfl) ?_
  rw [hQ]
  exact ⟨rfl, rfl, (((((((((((((((((((sw2).mono (fun i hi => by unfold zbt; unfold zon at hi; omega)).trans ((sw5).mono (fun i hi => by unfold zbt; unfold zon at hi; omega))).trans ((sw8).mono (fun i hi => by unfold zbt; unfold zon at hi; omega))).trans ((sw11).mono (fun i hi => by unfold zbt; unfold zon at hi; omega))).trans ((sw14).mono (fun i hi => by unfold zbt; unfold zon at hi; omega))).trans ((sw17).mono (fun i hi => by unfold zbt; unfold zon at hi; omega))).trans ((sw20).mono (fun i hi => by unfold zbt; unfold zon at hi; omega))).trans ((sw23).mono (fun i hi => by unfold zbt; unfold zon at hi; omega))).trans ((s25).mono (fun i hi => by unfold zbt; unfold zrs at hi; omega))).trans ((sw32).mono (fun i hi => by unfold zbt; unfold zon at hi; omega))).trans ((sw35).mono (fun i hi => by unfold zbt; unfold zon at hi; omega))).trans ((s37).mono (fun i hi => by unfold zbt; unfold zrs at hi; omega))).trans ((sw44).mono (fun i hi => by unfold zbt; unfold zon at hi; omega))).trans ((sw47).mono (fun i hi => by unfold zbt; unfold zon at hi; omega))).trans ((s49).mono (fun i hi => by unfold zbt; unfold zrs at hi; omega))).trans ((sw56).mono (fun i hi => by unfold zbt; unfold zon at hi; omega))).trans ((sw59).mono (fun i hi => by unfold zbt; unfold zon at hi; omega))).trans ((s61).mono (fun i hi => by unfold zbt; unfold zrs at hi; omega))).trans ((sw68).mono (fun i hi => by unfold zbt; unfold zon at hi; omega)), ⟨_, _, by decide, k67_0, k67_1, ⟨_, k67_2⟩, _, k67_3⟩, ⟨_, y69_0⟩, ⟨_, y69_1⟩, ⟨_, y69_2⟩, _, y69_3⟩
set_option maxRecDepth 10000 in
set_option maxHeartbeats 2000000 in
theorem e_digInit0 {g : ZG} {h : ZH} {n : Nat}  (hn : n = 48) (o : h 47 = some (.inl (3, [.int 0, .int 0, .int 0, .long 0, .int 0, .int 0, .null, .null, .null, .null, .null, .null]))) : zMt g mX3_init (zR 2 7 1308) [.ref (47), .int (nI (0))] h n (fun v h' n' => v = none ∧ n' = 55 ∧ zsm h h' (zbt 47 54) ∧ zdg h' false 47) := by
  refine zMt.of [some (.ref (47)), some (.int (nI (0)))] (by decide) rfl (Nat.le_of_ble_eq_true rfl) ?_
  obtain ⟨Qf, hQ⟩ : ∃ Qf : ZQ, Qf = (fun v h' n' => v = none ∧ n' = 55 ∧ zsm h h' (zbt 47 54) ∧ zdg h' false 47) := ⟨_, rfl⟩
  rw [← hQ]
  subst hn
  refine zp_aload_n dX3_init_0 rfl ?_
  refine zp_pc (pc' := 1) rfl ?_
  refine zp_objInit dX3_init_1 cX3_1 ⟨Nat.le_of_ble_eq_true rfl, Nat.le_of_ble_eq_true rfl⟩ (Nat.le_of_ble_eq_true rfl) ?_
  refine zp_pc (pc' := 4) rfl ?_
  refine zp_aload_n dX3_init_4 rfl ?_
  refine zp_sipush (v := nI (640)) dX3_init_5 (by decide) ?_
  refine zp_pc (pc' := 8) rfl ?_
  refine zp_newi (N := 640) dX3_init_8 (nI_pos (by decide)) (nI_clamp (by decide)) (by decide) (Nat.le_of_ble_eq_true rfl) (Nat.le_of_ble_eq_true rfl) ?_
  refine zp_nn (cells' := 1) (slots' := 640) (n' := 49) (st' := [.ref (48), .ref (47)]) rfl rfl rfl rfl ?_
  refine zp_nh (fun h1x eh1x => ?_)
  have k1_0 := (congrFun eh1x (47)).trans ((va_up_ne _ _ (by omega)).trans o)
  have k1_1 : h1x (48) = some (.inr (640, .inl (fun _ => 0))) := by rw [eh1x]; exact va_up_self _ _ _
  have sw2 : zsm h h1x (zon (48)) := zsm.rf.up eh1x rfl
  refine zp_putF (fs' := [.int (0), .int (0), .int (0), .long (0), .int (0), .int (0), .null, .ref (48), .null, .null, .null, .null]) dX3_init_10 pX3_9_3 rfl (by omega) k1_0 (Nat.le_of_ble_eq_true rfl) (zfit_a _ _) rfl ?_
  refine zp_nh (fun h4x eh4x => ?_)
  have k4_0 : h4x (47) = some (.inl (3, [.int (0), .int (0), .int (0), .long (0), .int (0), .int (0), .null, .ref (48), .null, .null, .null, .null])) := by rw [eh4x]; exact va_up_self _ _ _
  have k4_1 := (congrFun eh4x (48)).trans ((va_up_ne _ _ (by omega)).trans k1_1)
  have sw5 : zsm h1x h4x (zon (47)) := zsm.rf.up eh4x rfl
  refine zp_aload_n dX3_init_13 rfl ?_
  refine zp_bipush (v := nI (8)) dX3_init_14 (by decide) ?_
  refine zp_pc (pc' := 16) rfl ?_
  refine zp_newl (N := 8) dX3_init_16 (nI_pos (by decide)) (nI_clamp (by decide)) (by decide) (Nat.le_of_ble_eq_true rfl) (Nat.le_of_ble_eq_true rfl) ?_
  refine zp_nn (cells' := 2) (slots' := 648) (n' := 50) (st' := [.ref (49), .ref (47)]) rfl rfl rfl rfl ?_
  refine zp_nh (fun h7x eh7x => ?_)
  have k7_0 := (congrFun eh7x (47)).trans ((va_up_ne _ _ (by omega)).trans k4_0)
  have k7_1 := (congrFun eh7x (48)).trans ((va_up_ne _ _ (by omega)).trans k4_1)
  have k7_2 : h7x (49) = some (.inr (8, .inr (.inl (fun _ => 0)))) := by rw [eh7x]; exact va_up_self _ _ _
  have sw8 : zsm h4x h7x (zon (49)) := zsm.rf.up eh7x rfl
  refine zp_putF (fs' := [.int (0), .int (0), .int (0), .long (0), .int (0), .int (0), .null, .ref (48), .ref (49), .null, .null, .null]) dX3_init_18 pX3_13_3 rfl (by omega) k7_0 (Nat.le_of_ble_eq_true rfl) (zfit_a _ _) rfl ?_
  refine zp_nh (fun h10x eh10x => ?_)
  have k10_0 : h10x (47) = some (.inl (3, [.int (0), .int (0), .int (0), .long (0), .int (0), .int (0), .null, .ref (48), .ref (49), .null, .null, .null])) := by rw [eh10x]; exact va_up_self _ _ _
  have k10_1 := (congrFun eh10x (48)).trans ((va_up_ne _ _ (by omega)).trans k7_1)
  have k10_2 := (congrFun eh10x (49)).trans ((va_up_ne _ _ (by omega)).trans k7_2)
  have sw11 : zsm h7x h10x (zon (47)) := zsm.rf.up eh10x rfl
  refine zp_aload_n dX3_init_21 rfl ?_
  refine zp_bipush (v := nI (80)) dX3_init_22 (by decide) ?_
  refine zp_pc (pc' := 24) rfl ?_
  refine zp_newl (N := 80) dX3_init_24 (nI_pos (by decide)) (nI_clamp (by decide)) (by decide) (Nat.le_of_ble_eq_true rfl) (Nat.le_of_ble_eq_true rfl) ?_
  refine zp_nn (cells' := 3) (slots' := 728) (n' := 51) (st' := [.ref (50), .ref (47)]) rfl rfl rfl rfl ?_
  refine zp_nh (fun h13x eh13x => ?_)
  have k13_0 := (congrFun eh13x (47)).trans ((va_up_ne _ _ (by omega)).trans k10_0)
  have k13_1 := (congrFun eh13x (48)).trans ((va_up_ne _ _ (by omega)).trans k10_1)
  have k13_2 := (congrFun eh13x (49)).trans ((va_up_ne _ _ (by omega)).trans k10_2)
  have k13_3 : h13x (50) = some (.inr (80, .inr (.inl (fun _ => 0)))) := by rw [eh13x]; exact va_up_self _ _ _
  have sw14 : zsm h10x h13x (zon (50)) := zsm.rf.up eh13x rfl
  refine zp_putF (fs' := [.int (0), .int (0), .int (0), .long (0), .int (0), .int (0), .null, .ref (48), .ref (49), .ref (50), .null, .null]) dX3_init_26 pX3_17_3 rfl (by omega) k13_0 (Nat.le_of_ble_eq_true rfl) (zfit_a _ _) rfl ?_
  refine zp_nh (fun h16x eh16x => ?_)
  have k16_0 : h16x (47) = some (.inl (3, [.int (0), .int (0), .int (0), .long (0), .int (0), .int (0), .null, .ref (48), .ref (49), .ref (50), .null, .null])) := by rw [eh16x]; exact va_up_self _ _ _
  have k16_1 := (congrFun eh16x (48)).trans ((va_up_ne _ _ (by omega)).trans k13_1)
  have k16_2 := (congrFun eh16x (49)).trans ((va_up_ne _ _ (by omega)).trans k13_2)
  have k16_3 := (congrFun eh16x (50)).trans ((va_up_ne _ _ (by omega)).trans k13_3)
  have sw17 : zsm h13x h16x (zon (47)) := zsm.rf.up eh16x rfl
  refine zp_aload_n dX3_init_29 rfl ?_
  refine zp_pc (pc' := 30) rfl ?_
  refine zp_new dX3_init_30 nX3_20 (Nat.le_of_ble_eq_true rfl) (Nat.le_of_ble_eq_true rfl) ?_
  refine zp_nn (cells' := 4) (slots' := 730) (n' := 52) (st' := [.ref (51), .ref (47)]) rfl rfl rfl rfl ?_
  refine zp_nh (fun h19x eh19x => ?_)
  have k19_0 := (congrFun eh19x (47)).trans ((va_up_ne _ _ (by omega)).trans k16_0)
  have k19_1 := (congrFun eh19x (48)).trans ((va_up_ne _ _ (by omega)).trans k16_1)
  have k19_2 := (congrFun eh19x (49)).trans ((va_up_ne _ _ (by omega)).trans k16_2)
  have k19_3 := (congrFun eh19x (50)).trans ((va_up_ne _ _ (by omega)).trans k16_3)
  have k19_4 : h19x (51) = some (.inl (6, [.null, .int (0)])) := by rw [eh19x]; exact va_up_self _ _ _
  have sw20 : zsm h16x h19x (zon (51)) := zsm.rf.up eh19x rfl
  refine zp_dup dX3_init_33 rfl ?_
  refine zp_sipush (v := nI (512)) dX3_init_34 (by decide) ?_
  refine zp_pc (pc' := 37) rfl ?_
  refine zp_callI (As := [.int (nI (512))]) (k := 51) (st := [.ref (51), .ref (47)]) dX3_init_37 cX3_22 rfl (e_row (r := 51) (N := 512) (by omega) (by omega) (by omega) k19_4) (by decide) (by decide) (Nat.le_of_ble_eq_true rfl) (fun v22 h22 n22 q22 => ?_)
  obtain ⟨rfl, N22, s22, r22⟩ := q22
  rw [N22]
  refine zp_nn (cells' := 5) (slots' := 1242) (n' := 53) (st' := [.ref (51), .ref (47)]) rfl rfl rfl rfl ?_
  have s22 : zsm _ _ (zrs (51)) := s22
  have r22 := r22 rfl
  have m23 : h22 (47) = some (.inl (3, [.int (0), .int (0), .int (0), .long (0), .int (0), .int (0), .null, .ref (48), .ref (49), .ref (50), .null, .null])) := (s22 _ (by unfold zrs; omega)).trans k19_0
  have m24 : h22 (48) = some (.inr (640, .inl (fun _ => 0))) := (s22 _ (by unfold zrs; omega)).trans k19_1
  have m25 : h22 (49) = some (.inr (8, .inr (.inl (fun _ => 0)))) := (s22 _ (by unfold zrs; omega)).trans k19_2
  have m26 : h22 (50) = some (.inr (80, .inr (.inl (fun _ => 0)))) := (s22 _ (by unfold zrs; omega)).trans k19_3
  refine zp_putF (fs' := [.int (0), .int (0), .int (0), .long (0), .int (0), .int (0), .null, .ref (48), .ref (49), .ref (50), .ref (51), .null]) dX3_init_40 pX3_25_3 rfl (by omega) m23 (Nat.le_of_ble_eq_true rfl) (zfit_r _ _) rfl ?_
  refine zp_nh (fun h28x eh28x => ?_)
  have k28_0 : h28x (47) = some (.inl (3, [.int (0), .int (0), .int (0), .long (0), .int (0), .int (0), .null, .ref (48), .ref (49), .ref (50), .ref (51), .null])) := by rw [eh28x]; exact va_up_self _ _ _
  have k28_1 := (congrFun eh28x (48)).trans ((va_up_ne _ _ (by omega)).trans m24)
  have k28_2 := (congrFun eh28x (49)).trans ((va_up_ne _ _ (by omega)).trans m25)
  have k28_3 := (congrFun eh28x (50)).trans ((va_up_ne _ _ (by omega)).trans m26)
  have sw29 : zsm h22 h28x (zon (47)) := zsm.rf.up eh28x rfl
  have y30_0 := r22.keep (sw29 _ (by unfold zon; omega)) (sw29 _ (by unfold zon; omega))
  refine zp_aload_n dX3_init_43 rfl ?_
  refine zp_pc (pc' := 44) rfl ?_
  refine zp_new dX3_init_44 nX3_20 (Nat.le_of_ble_eq_true rfl) (Nat.le_of_ble_eq_true rfl) ?_
  refine zp_nn (cells' := 6) (slots' := 1244) (n' := 54) (st' := [.ref (53), .ref (47)]) rfl rfl rfl rfl ?_
  refine zp_nh (fun h31x eh31x => ?_)
  have k31_0 := (congrFun eh31x (47)).trans ((va_up_ne _ _ (by omega)).trans k28_0)
  have k31_1 := (congrFun eh31x (48)).trans ((va_up_ne _ _ (by omega)).trans k28_1)
  have k31_2 := (congrFun eh31x (49)).trans ((va_up_ne _ _ (by omega)).trans k28_2)
  have k31_3 := (congrFun eh31x (50)).trans ((va_up_ne _ _ (by omega)).trans k28_3)
  have k31_4 : h31x (53) = some (.inl (6, [.null, .int (0)])) := by rw [eh31x]; exact va_up_self _ _ _
  have sw32 : zsm h28x h31x (zon (53)) := zsm.rf.up eh31x rfl
  have y33_0 := y30_0.keep (sw32 _ (by unfold zon; omega)) (sw32 _ (by unfold zon; omega))
  refine zp_dup dX3_init_47 rfl ?_
  refine zp_bipush (v := nI (64)) dX3_init_48 (by decide) ?_
  refine zp_pc (pc' := 50) rfl ?_
  refine zp_callI (As := [.int (nI (64))]) (k := 53) (st := [.ref (53), .ref (47)]) dX3_init_50 cX3_22 rfl (e_row (r := 53) (N := 64) (by omega) (by omega) (by omega) k31_4) (by decide) (by decide) (Nat.le_of_ble_eq_true rfl) (fun v34 h34 n34 q34 => ?_)
  obtain ⟨rfl, N34, s34, r34⟩ := q34
  rw [N34]
  refine zp_nn (cells' := 7) (slots' := 1308) (n' := 55) (st' := [.ref (53), .ref (47)]) rfl rfl rfl rfl ?_
  have s34 : zsm _ _ (zrs (53)) := s34
  have r34 := r34 rfl
  have m35 : h34 (47) = some (.inl (3, [.int (0), .int (0), .int (0), .long (0), .int (0), .int (0), .null, .ref (48), .ref (49), .ref (50), .ref (51), .null])) := (s34 _ (by unfold zrs; omega)).trans k31_0
  have m36 : h34 (48) = some (.inr (640, .inl (fun _ => 0))) := (s34 _ (by unfold zrs; omega)).trans k31_1
  have m37 : h34 (49) = some (.inr (8, .inr (.inl (fun _ => 0)))) := (s34 _ (by unfold zrs; omega)).trans k31_2
  have m38 : h34 (50) = some (.inr (80, .inr (.inl (fun _ => 0)))) := (s34 _ (by unfold zrs; omega)).trans k31_3
  have y39_0 := y33_0.keep (s34 _ (by unfold zrs; omega)) (s34 _ (by unfold zrs; omega))
  refine zp_putF (fs' := [.int (0), .int (0), .int (0), .long (0), .int (0), .int (0), .null, .ref (48), .ref (49), .ref (50), .ref (51), .ref (53)]) dX3_init_53 pX3_29_3 rfl (by omega) m35 (Nat.le_of_ble_eq_true rfl) (zfit_r _ _) rfl ?_
  refine zp_nh (fun h40x eh40x => ?_)
  have k40_0 : h40x (47) = some (.inl (3, [.int (0), .int (0), .int (0), .long (0), .int (0), .int (0), .null, .ref (48), .ref (49), .ref (50), .ref (51), .ref (53)])) := by rw [eh40x]; exact va_up_self _ _ _
  have k40_1 := (congrFun eh40x (48)).trans ((va_up_ne _ _ (by omega)).trans m36)
  have k40_2 := (congrFun eh40x (49)).trans ((va_up_ne _ _ (by omega)).trans m37)
  have k40_3 := (congrFun eh40x (50)).trans ((va_up_ne _ _ (by omega)).trans m38)
  have sw41 : zsm h34 h40x (zon (47)) := zsm.rf.up eh40x rfl
  have y42_0 := y39_0.keep (sw41 _ (by unfold zon; omega)) (sw41 _ (by unfold zon; omega))
  have y42_1 := r34.keep (sw41 _ (by unfold zon; omega)) (sw41 _ (by unfold zon; omega))
  refine zp_aload_n dX3_init_56 rfl ?_
  refine zp_iload_n dX3_init_57 rfl ?_
  refine zp_pc (pc' := 58) rfl ?_
  refine zn_if_eq (tgt := 66) dX3_init_58 (by decide) (by decide) (fun c58 => ?_) (fun c58 => ?_)
  · refine zp_iconst (v := nI (4)) dX3_init_66 (by decide) ?_
    refine zp_pc (pc' := 67) rfl ?_
    refine zp_putF (fs' := [.int (0), .int (nI (4)), .int (0), .long (0), .int (0), .int (0), .null, .ref (48), .ref (49), .ref (50), .ref (51), .ref (53)]) dX3_init_67 pX3_32_3 rfl (by omega) k40_0 (Nat.le_of_ble_eq_true rfl) (zfit_i _) rfl ?_
    refine zp_nh (fun h43x eh43x => ?_)
    have k43_0 : h43x (47) = some (.inl (3, [.int (0), .int (nI (4)), .int (0), .long (0), .int (0), .int (0), .null, .ref (48), .ref (49), .ref (50), .ref (51), .ref (53)])) := by rw [eh43x]; exact va_up_self _ _ _
    have k43_1 := (congrFun eh43x (48)).trans ((va_up_ne _ _ (by omega)).trans k40_1)
    have k43_2 := (congrFun eh43x (49)).trans ((va_up_ne _ _ (by omega)).trans k40_2)
    have k43_3 := (congrFun eh43x (50)).trans ((va_up_ne _ _ (by omega)).trans k40_3)
    have sw44 : zsm h40x h43x (zon (47)) := zsm.rf.up eh43x rfl
    have y45_0 := y42_0.keep (sw44 _ (by unfold zon; omega)) (sw44 _ (by unfold zon; omega))
    have y45_1 := y42_1.keep (sw44 _ (by unfold zon; omega)) (sw44 _ (by unfold zon; omega))
    refine zp_aload_n dX3_init_70 rfl ?_
    refine zp_bipush (v := nI (8)) dX3_init_71 (by decide) ?_
    refine zp_aload_n dX3_init_73 rfl ?_
    refine zp_get dX3_init_74 gX3_32_3 k43_0 rfl ?_
    refine zn_imul dX3_init_77 ?_
    refine zp_putF (fs' := [.int (0), .int (nI (4)), .int (nI ((8) * (4))), .long (0), .int (0), .int (0), .null, .ref (48), .ref (49), .ref (50), .ref (51), .ref (53)]) dX3_init_78 pX3_36_3 rfl (by omega) k43_0 (Nat.le_of_ble_eq_true rfl) (zfit_i _) rfl ?_
    refine zp_nh (fun h46x eh46x => ?_)
    have k46_0 : h46x (47) = some (.inl (3, [.int (0), .int (nI (4)), .int (nI ((8) * (4))), .long (0), .int (0), .int (0), .null, .ref (48), .ref (49), .ref (50), .ref (51), .ref (53)])) := by rw [eh46x]; exact va_up_self _ _ _
    have k46_1 := (congrFun eh46x (48)).trans ((va_up_ne _ _ (by omega)).trans k43_1)
    have k46_2 := (congrFun eh46x (49)).trans ((va_up_ne _ _ (by omega)).trans k43_2)
    have k46_3 := (congrFun eh46x (50)).trans ((va_up_ne _ _ (by omega)).trans k43_3)
    have sw47 : zsm h43x h46x (zon (47)) := zsm.rf.up eh46x rfl
    have y48_0 := y45_0.keep (sw47 _ (by unfold zon; omega)) (sw47 _ (by unfold zon; omega))
    have y48_1 := y45_1.keep (sw47 _ (by unfold zon; omega)) (sw47 _ (by unfold zon; omega))
    refine zp_aload_n dX3_init_81 rfl ?_
    refine zp_ldc2 dX3_init_82 kcX3_39 ?_
    refine zp_bipush (v := nI (64)) dX3_init_85 (by decide) ?_
    refine zp_aload_n dX3_init_87 rfl ?_
    refine zp_get dX3_init_88 gX3_36_3 k46_0 rfl ?_
    refine zp_pc (pc' := 91) rfl ?_
    refine zn_isub dX3_init_91 (by omega) ?_
    refine zp_pc (pc' := 92) rfl ?_
    refine zp_lushr dX3_init_92 ?_
    refine zp_l (y := zmask false) (by decide) ?_
    refine zp_putF (fs' := [.int (0), .int (nI (4)), .int (nI ((8) * (4))), .long (zmask false), .int (0), .int (0), .null, .ref (48), .ref (49), .ref (50), .ref (51), .ref (53)]) dX3_init_93 pX3_41_3 rfl (by omega) k46_0 (Nat.le_of_ble_eq_true rfl) (zfit_l _) rfl ?_
    refine zp_nh (fun h49x eh49x => ?_)
    have k49_0 : h49x (47) = some (.inl (3, [.int (0), .int (nI (4)), .int (nI ((8) * (4))), .long (zmask false), .int (0), .int (0), .null, .ref (48), .ref (49), .ref (50), .ref (51), .ref (53)])) := by rw [eh49x]; exact va_up_self _ _ _
    have k49_1 := (congrFun eh49x (48)).trans ((va_up_ne _ _ (by omega)).trans k46_1)
    have k49_2 := (congrFun eh49x (49)).trans ((va_up_ne _ _ (by omega)).trans k46_2)
    have k49_3 := (congrFun eh49x (50)).trans ((va_up_ne _ _ (by omega)).trans k46_3)
    have sw50 : zsm h46x h49x (zon (47)) := zsm.rf.up eh49x rfl
    have y51_0 := y48_0.keep (sw50 _ (by unfold zon; omega)) (sw50 _ (by unfold zon; omega))
    have y51_1 := y48_1.keep (sw50 _ (by unfold zon; omega)) (sw50 _ (by unfold zon; omega))
    refine zp_aload_n dX3_init_96 rfl ?_
    refine zp_bipush (v := nI (8)) dX3_init_97 (by decide) ?_
    refine zp_aload_n dX3_init_99 rfl ?_
    refine zp_get dX3_init_100 gX3_32_3 k49_0 rfl ?_
    refine zn_imul dX3_init_103 ?_
    refine zp_putF (fs' := [.int (nI ((8) * (4))), .int (nI (4)), .int (nI ((8) * (4))), .long (zmask false), .int (0), .int (0), .null, .ref (48), .ref (49), .ref (50), .ref (51), .ref (53)]) dX3_init_104 pX3_45_3 rfl (by omega) k49_0 (Nat.le_of_ble_eq_true rfl) (zfit_i _) rfl ?_
    refine zp_nh (fun h52x eh52x => ?_)
    have k52_0 : h52x (47) = some (.inl (3, [.int (nI ((8) * (4))), .int (nI (4)), .int (nI ((8) * (4))), .long (zmask false), .int (0), .int (0), .null, .ref (48), .ref (49), .ref (50), .ref (51), .ref (53)])) := by rw [eh52x]; exact va_up_self _ _ _
    have k52_1 := (congrFun eh52x (48)).trans ((va_up_ne _ _ (by omega)).trans k49_1)
    have k52_2 := (congrFun eh52x (49)).trans ((va_up_ne _ _ (by omega)).trans k49_2)
    have k52_3 := (congrFun eh52x (50)).trans ((va_up_ne _ _ (by omega)).trans k49_3)
    have sw53 : zsm h49x h52x (zon (47)) := zsm.rf.up eh52x rfl
    have y54_0 := y51_0.keep (sw53 _ (by unfold zon; omega)) (sw53 _ (by unfold zon; omega))
    have y54_1 := y51_1.keep (sw53 _ (by unfold zon; omega)) (sw53 _ (by unfold zon; omega))
    refine zp_aload_n dX3_init_107 rfl ?_
    refine zp_bipush (v := nI (16)) dX3_init_108 (by decide) ?_
    refine zp_aload_n dX3_init_110 rfl ?_
    refine zp_get dX3_init_111 gX3_32_3 k52_0 rfl ?_
    refine zn_imul dX3_init_114 ?_
    refine zp_pc (pc' := 115) rfl ?_
    refine zp_putF (fs' := [.int (nI ((8) * (4))), .int (nI (4)), .int (nI ((8) * (4))), .long (zmask false), .int (nI ((16) * (4))), .int (0), .null, .ref (48), .ref (49), .ref (50), .ref (51), .ref (53)]) dX3_init_115 pX3_48_3 rfl (by omega) k52_0 (Nat.le_of_ble_eq_true rfl) (zfit_i _) rfl ?_
    refine zp_nh (fun h55x eh55x => ?_)
    have k55_0 : h55x (47) = some (.inl (3, [.int (nI ((8) * (4))), .int (nI (4)), .int (nI ((8) * (4))), .long (zmask false), .int (nI ((16) * (4))), .int (0), .null, .ref (48), .ref (49), .ref (50), .ref (51), .ref (53)])) := by rw [eh55x]; exact va_up_self _ _ _
    have k55_1 := (congrFun eh55x (48)).trans ((va_up_ne _ _ (by omega)).trans k52_1)
    have k55_2 := (congrFun eh55x (49)).trans ((va_up_ne _ _ (by omega)).trans k52_2)
    have k55_3 := (congrFun eh55x (50)).trans ((va_up_ne _ _ (by omega)).trans k52_3)
    have sw56 : zsm h52x h55x (zon (47)) := zsm.rf.up eh55x rfl
    have y57_0 := y54_0.keep (sw56 _ (by unfold zon; omega)) (sw56 _ (by unfold zon; omega))
    have y57_1 := y54_1.keep (sw56 _ (by unfold zon; omega)) (sw56 _ (by unfold zon; omega))
    refine zp_aload_n dX3_init_118 rfl ?_
    refine zp_iload_n dX3_init_119 rfl ?_
    refine zp_pc (pc' := 120) rfl ?_
    refine zn_if_eq (tgt := 128) dX3_init_120 (by decide) (by decide) (fun c120 => ?_) (fun c120 => ?_)
    · refine zp_bipush (v := nI (64)) dX3_init_128 (by decide) ?_
      refine zp_putF (fs' := [.int (nI ((8) * (4))), .int (nI (4)), .int (nI ((8) * (4))), .long (zmask false), .int (nI ((16) * (4))), .int (nI (64)), .null, .ref (48), .ref (49), .ref (50), .ref (51), .ref (53)]) dX3_init_130 pX3_51_3 rfl (by omega) k55_0 (Nat.le_of_ble_eq_true rfl) (zfit_i _) rfl ?_
      refine zp_nh (fun h58x eh58x => ?_)
      have k58_0 : h58x (47) = some (.inl (3, [.int (nI ((8) * (4))), .int (nI (4)), .int (nI ((8) * (4))), .long (zmask false), .int (nI ((16) * (4))), .int (nI (64)), .null, .ref (48), .ref (49), .ref (50), .ref (51), .ref (53)])) := by rw [eh58x]; exact va_up_self _ _ _
      have k58_1 := (congrFun eh58x (48)).trans ((va_up_ne _ _ (by omega)).trans k55_1)
      have k58_2 := (congrFun eh58x (49)).trans ((va_up_ne _ _ (by omega)).trans k55_2)
      have k58_3 := (congrFun eh58x (50)).trans ((va_up_ne _ _ (by omega)).trans k55_3)
      have sw59 : zsm h55x h58x (zon (47)) := zsm.rf.up eh58x rfl
      have y60_0 := y57_0.keep (sw59 _ (by unfold zon; omega)) (sw59 _ (by unfold zon; omega))
      have y60_1 := y57_1.keep (sw59 _ (by unfold zon; omega)) (sw59 _ (by unfold zon; omega))
      refine zp_aload_n dX3_init_133 rfl ?_
      refine zp_iload_n dX3_init_134 rfl ?_
      refine zp_pc (pc' := 135) rfl ?_
      refine zn_if_eq (tgt := 144) dX3_init_135 (by decide) (by decide) (fun c135 => ?_) (fun c135 => ?_)
      · refine zp_gets dX3_init_144 sX3_57 ?_
        refine zp_putF (fs' := [.int (nI ((8) * (4))), .int (nI (4)), .int (nI ((8) * (4))), .long (zmask false), .int (nI ((16) * (4))), .int (nI (64)), .ref (4), .ref (48), .ref (49), .ref (50), .ref (51), .ref (53)]) dX3_init_147 pX3_60_3 rfl (by omega) k58_0 (Nat.le_of_ble_eq_true rfl) (zfit_a _ _) rfl ?_
        refine zp_nh (fun h61x eh61x => ?_)
        have k61_0 : h61x (47) = some (.inl (3, [.int (nI ((8) * (4))), .int (nI (4)), .int (nI ((8) * (4))), .long (zmask false), .int (nI ((16) * (4))), .int (nI (64)), .ref (4), .ref (48), .ref (49), .ref (50), .ref (51), .ref (53)])) := by rw [eh61x]; exact va_up_self _ _ _
        have k61_1 := (congrFun eh61x (48)).trans ((va_up_ne _ _ (by omega)).trans k58_1)
        have k61_2 := (congrFun eh61x (49)).trans ((va_up_ne _ _ (by omega)).trans k58_2)
        have k61_3 := (congrFun eh61x (50)).trans ((va_up_ne _ _ (by omega)).trans k58_3)
        have sw62 : zsm h58x h61x (zon (47)) := zsm.rf.up eh61x rfl
        have y63_0 := y60_0.keep (sw62 _ (by unfold zon; omega)) (sw62 _ (by unfold zon; omega))
        have y63_1 := y60_1.keep (sw62 _ (by unfold zon; omega)) (sw62 _ (by unfold zon; omega))
        refine zp_pc (pc' := 150) rfl ?_
        refine zp_ret (v := none) dX3_init_150 ⟨rfl, rfl⟩ (Nat.le_of_ble_eq_true rfl) (Nat.le_of_ble_eq_true rfl) ?_
        rw [hQ]
        exact ⟨rfl, rfl, (((((((((((((((((((sw2).mono (fun i hi => by unfold zbt; unfold zon at hi; omega)).trans ((sw5).mono (fun i hi => by unfold zbt; unfold zon at hi; omega))).trans ((sw8).mono (fun i hi => by unfold zbt; unfold zon at hi; omega))).trans ((sw11).mono (fun i hi => by unfold zbt; unfold zon at hi; omega))).trans ((sw14).mono (fun i hi => by unfold zbt; unfold zon at hi; omega))).trans ((sw17).mono (fun i hi => by unfold zbt; unfold zon at hi; omega))).trans ((sw20).mono (fun i hi => by unfold zbt; unfold zon at hi; omega))).trans ((s22).mono (fun i hi => by unfold zbt; unfold zrs at hi; omega))).trans ((sw29).mono (fun i hi => by unfold zbt; unfold zon at hi; omega))).trans ((sw32).mono (fun i hi => by unfold zbt; unfold zon at hi; omega))).trans ((s34).mono (fun i hi => by unfold zbt; unfold zrs at hi; omega))).trans ((sw41).mono (fun i hi => by unfold zbt; unfold zon at hi; omega))).trans ((sw44).mono (fun i hi => by unfold zbt; unfold zon at hi; omega))).trans ((sw47).mono (fun i hi => by unfold zbt; unfold zon at hi; omega))).trans ((sw50).mono (fun i hi => by unfold zbt; unfold zon at hi; omega))).trans ((sw53).mono (fun i hi => by unfold zbt; unfold zon at hi; omega))).trans ((sw56).mono (fun i hi => by unfold zbt; unfold zon at hi; omega))).trans ((sw59).mono (fun i hi => by unfold zbt; unfold zon at hi; omega))).trans ((sw62).mono (fun i hi => by unfold zbt; unfold zon at hi; omega)), by decide, k61_0, ⟨_, k61_1⟩, ⟨_, k61_2⟩, ⟨_, k61_3⟩, ⟨_, y63_0⟩, _, y63_1⟩
      · exact absurd rfl c135
    · exact absurd rfl c120
  · exact absurd rfl c58
set_option maxRecDepth 10000 in
set_option maxHeartbeats 2000000 in
theorem e_digInit1 {g : ZG} {h : ZH} {n : Nat}  (hn : n = 56) (o : h 55 = some (.inl (3, [.int 0, .int 0, .int 0, .long 0, .int 0, .int 0, .null, .null, .null, .null, .null, .null]))) : zMt g mX3_init (zR 2 7 1308) [.ref (55), .int (nI (1))] h n (fun v h' n' => v = none ∧ n' = 63 ∧ zsm h h' (zbt 55 62) ∧ zdg h' true 55) := by
  refine zMt.of [some (.ref (55)), some (.int (nI (1)))] (by decide) rfl (Nat.le_of_ble_eq_true rfl) ?_
  obtain ⟨Qf, hQ⟩ : ∃ Qf : ZQ, Qf = (fun v h' n' => v = none ∧ n' = 63 ∧ zsm h h' (zbt 55 62) ∧ zdg h' true 55) := ⟨_, rfl⟩
  rw [← hQ]
  subst hn
  refine zp_aload_n dX3_init_0 rfl ?_
  refine zp_pc (pc' := 1) rfl ?_
  refine zp_objInit dX3_init_1 cX3_1 ⟨Nat.le_of_ble_eq_true rfl, Nat.le_of_ble_eq_true rfl⟩ (Nat.le_of_ble_eq_true rfl) ?_
  refine zp_pc (pc' := 4) rfl ?_
  refine zp_aload_n dX3_init_4 rfl ?_
  refine zp_sipush (v := nI (640)) dX3_init_5 (by decide) ?_
  refine zp_pc (pc' := 8) rfl ?_
  refine zp_newi (N := 640) dX3_init_8 (nI_pos (by decide)) (nI_clamp (by decide)) (by decide) (Nat.le_of_ble_eq_true rfl) (Nat.le_of_ble_eq_true rfl) ?_
  refine zp_nn (cells' := 1) (slots' := 640) (n' := 57) (st' := [.ref (56), .ref (55)]) rfl rfl rfl rfl ?_
  refine zp_nh (fun h1x eh1x => ?_)
  have k1_0 := (congrFun eh1x (55)).trans ((va_up_ne _ _ (by omega)).trans o)
  have k1_1 : h1x (56) = some (.inr (640, .inl (fun _ => 0))) := by rw [eh1x]; exact va_up_self _ _ _
  have sw2 : zsm h h1x (zon (56)) := zsm.rf.up eh1x rfl
  refine zp_putF (fs' := [.int (0), .int (0), .int (0), .long (0), .int (0), .int (0), .null, .ref (56), .null, .null, .null, .null]) dX3_init_10 pX3_9_3 rfl (by omega) k1_0 (Nat.le_of_ble_eq_true rfl) (zfit_a _ _) rfl ?_
  refine zp_nh (fun h4x eh4x => ?_)
  have k4_0 : h4x (55) = some (.inl (3, [.int (0), .int (0), .int (0), .long (0), .int (0), .int (0), .null, .ref (56), .null, .null, .null, .null])) := by rw [eh4x]; exact va_up_self _ _ _
  have k4_1 := (congrFun eh4x (56)).trans ((va_up_ne _ _ (by omega)).trans k1_1)
  have sw5 : zsm h1x h4x (zon (55)) := zsm.rf.up eh4x rfl
  refine zp_aload_n dX3_init_13 rfl ?_
  refine zp_bipush (v := nI (8)) dX3_init_14 (by decide) ?_
  refine zp_pc (pc' := 16) rfl ?_
  refine zp_newl (N := 8) dX3_init_16 (nI_pos (by decide)) (nI_clamp (by decide)) (by decide) (Nat.le_of_ble_eq_true rfl) (Nat.le_of_ble_eq_true rfl) ?_
  refine zp_nn (cells' := 2) (slots' := 648) (n' := 58) (st' := [.ref (57), .ref (55)]) rfl rfl rfl rfl ?_
  refine zp_nh (fun h7x eh7x => ?_)
  have k7_0 := (congrFun eh7x (55)).trans ((va_up_ne _ _ (by omega)).trans k4_0)
  have k7_1 := (congrFun eh7x (56)).trans ((va_up_ne _ _ (by omega)).trans k4_1)
  have k7_2 : h7x (57) = some (.inr (8, .inr (.inl (fun _ => 0)))) := by rw [eh7x]; exact va_up_self _ _ _
  have sw8 : zsm h4x h7x (zon (57)) := zsm.rf.up eh7x rfl
  refine zp_putF (fs' := [.int (0), .int (0), .int (0), .long (0), .int (0), .int (0), .null, .ref (56), .ref (57), .null, .null, .null]) dX3_init_18 pX3_13_3 rfl (by omega) k7_0 (Nat.le_of_ble_eq_true rfl) (zfit_a _ _) rfl ?_
  refine zp_nh (fun h10x eh10x => ?_)
  have k10_0 : h10x (55) = some (.inl (3, [.int (0), .int (0), .int (0), .long (0), .int (0), .int (0), .null, .ref (56), .ref (57), .null, .null, .null])) := by rw [eh10x]; exact va_up_self _ _ _
  have k10_1 := (congrFun eh10x (56)).trans ((va_up_ne _ _ (by omega)).trans k7_1)
  have k10_2 := (congrFun eh10x (57)).trans ((va_up_ne _ _ (by omega)).trans k7_2)
  have sw11 : zsm h7x h10x (zon (55)) := zsm.rf.up eh10x rfl
  refine zp_aload_n dX3_init_21 rfl ?_
  refine zp_bipush (v := nI (80)) dX3_init_22 (by decide) ?_
  refine zp_pc (pc' := 24) rfl ?_
  refine zp_newl (N := 80) dX3_init_24 (nI_pos (by decide)) (nI_clamp (by decide)) (by decide) (Nat.le_of_ble_eq_true rfl) (Nat.le_of_ble_eq_true rfl) ?_
  refine zp_nn (cells' := 3) (slots' := 728) (n' := 59) (st' := [.ref (58), .ref (55)]) rfl rfl rfl rfl ?_
  refine zp_nh (fun h13x eh13x => ?_)
  have k13_0 := (congrFun eh13x (55)).trans ((va_up_ne _ _ (by omega)).trans k10_0)
  have k13_1 := (congrFun eh13x (56)).trans ((va_up_ne _ _ (by omega)).trans k10_1)
  have k13_2 := (congrFun eh13x (57)).trans ((va_up_ne _ _ (by omega)).trans k10_2)
  have k13_3 : h13x (58) = some (.inr (80, .inr (.inl (fun _ => 0)))) := by rw [eh13x]; exact va_up_self _ _ _
  have sw14 : zsm h10x h13x (zon (58)) := zsm.rf.up eh13x rfl
  refine zp_putF (fs' := [.int (0), .int (0), .int (0), .long (0), .int (0), .int (0), .null, .ref (56), .ref (57), .ref (58), .null, .null]) dX3_init_26 pX3_17_3 rfl (by omega) k13_0 (Nat.le_of_ble_eq_true rfl) (zfit_a _ _) rfl ?_
  refine zp_nh (fun h16x eh16x => ?_)
  have k16_0 : h16x (55) = some (.inl (3, [.int (0), .int (0), .int (0), .long (0), .int (0), .int (0), .null, .ref (56), .ref (57), .ref (58), .null, .null])) := by rw [eh16x]; exact va_up_self _ _ _
  have k16_1 := (congrFun eh16x (56)).trans ((va_up_ne _ _ (by omega)).trans k13_1)
  have k16_2 := (congrFun eh16x (57)).trans ((va_up_ne _ _ (by omega)).trans k13_2)
  have k16_3 := (congrFun eh16x (58)).trans ((va_up_ne _ _ (by omega)).trans k13_3)
  have sw17 : zsm h13x h16x (zon (55)) := zsm.rf.up eh16x rfl
  refine zp_aload_n dX3_init_29 rfl ?_
  refine zp_pc (pc' := 30) rfl ?_
  refine zp_new dX3_init_30 nX3_20 (Nat.le_of_ble_eq_true rfl) (Nat.le_of_ble_eq_true rfl) ?_
  refine zp_nn (cells' := 4) (slots' := 730) (n' := 60) (st' := [.ref (59), .ref (55)]) rfl rfl rfl rfl ?_
  refine zp_nh (fun h19x eh19x => ?_)
  have k19_0 := (congrFun eh19x (55)).trans ((va_up_ne _ _ (by omega)).trans k16_0)
  have k19_1 := (congrFun eh19x (56)).trans ((va_up_ne _ _ (by omega)).trans k16_1)
  have k19_2 := (congrFun eh19x (57)).trans ((va_up_ne _ _ (by omega)).trans k16_2)
  have k19_3 := (congrFun eh19x (58)).trans ((va_up_ne _ _ (by omega)).trans k16_3)
  have k19_4 : h19x (59) = some (.inl (6, [.null, .int (0)])) := by rw [eh19x]; exact va_up_self _ _ _
  have sw20 : zsm h16x h19x (zon (59)) := zsm.rf.up eh19x rfl
  refine zp_dup dX3_init_33 rfl ?_
  refine zp_sipush (v := nI (512)) dX3_init_34 (by decide) ?_
  refine zp_pc (pc' := 37) rfl ?_
  refine zp_callI (As := [.int (nI (512))]) (k := 59) (st := [.ref (59), .ref (55)]) dX3_init_37 cX3_22 rfl (e_row (r := 59) (N := 512) (by omega) (by omega) (by omega) k19_4) (by decide) (by decide) (Nat.le_of_ble_eq_true rfl) (fun v22 h22 n22 q22 => ?_)
  obtain ⟨rfl, N22, s22, r22⟩ := q22
  rw [N22]
  refine zp_nn (cells' := 5) (slots' := 1242) (n' := 61) (st' := [.ref (59), .ref (55)]) rfl rfl rfl rfl ?_
  have s22 : zsm _ _ (zrs (59)) := s22
  have r22 := r22 rfl
  have m23 : h22 (55) = some (.inl (3, [.int (0), .int (0), .int (0), .long (0), .int (0), .int (0), .null, .ref (56), .ref (57), .ref (58), .null, .null])) := (s22 _ (by unfold zrs; omega)).trans k19_0
  have m24 : h22 (56) = some (.inr (640, .inl (fun _ => 0))) := (s22 _ (by unfold zrs; omega)).trans k19_1
  have m25 : h22 (57) = some (.inr (8, .inr (.inl (fun _ => 0)))) := (s22 _ (by unfold zrs; omega)).trans k19_2
  have m26 : h22 (58) = some (.inr (80, .inr (.inl (fun _ => 0)))) := (s22 _ (by unfold zrs; omega)).trans k19_3
  refine zp_putF (fs' := [.int (0), .int (0), .int (0), .long (0), .int (0), .int (0), .null, .ref (56), .ref (57), .ref (58), .ref (59), .null]) dX3_init_40 pX3_25_3 rfl (by omega) m23 (Nat.le_of_ble_eq_true rfl) (zfit_r _ _) rfl ?_
  refine zp_nh (fun h28x eh28x => ?_)
  have k28_0 : h28x (55) = some (.inl (3, [.int (0), .int (0), .int (0), .long (0), .int (0), .int (0), .null, .ref (56), .ref (57), .ref (58), .ref (59), .null])) := by rw [eh28x]; exact va_up_self _ _ _
  have k28_1 := (congrFun eh28x (56)).trans ((va_up_ne _ _ (by omega)).trans m24)
  have k28_2 := (congrFun eh28x (57)).trans ((va_up_ne _ _ (by omega)).trans m25)
  have k28_3 := (congrFun eh28x (58)).trans ((va_up_ne _ _ (by omega)).trans m26)
  have sw29 : zsm h22 h28x (zon (55)) := zsm.rf.up eh28x rfl
  have y30_0 := r22.keep (sw29 _ (by unfold zon; omega)) (sw29 _ (by unfold zon; omega))
  refine zp_aload_n dX3_init_43 rfl ?_
  refine zp_pc (pc' := 44) rfl ?_
  refine zp_new dX3_init_44 nX3_20 (Nat.le_of_ble_eq_true rfl) (Nat.le_of_ble_eq_true rfl) ?_
  refine zp_nn (cells' := 6) (slots' := 1244) (n' := 62) (st' := [.ref (61), .ref (55)]) rfl rfl rfl rfl ?_
  refine zp_nh (fun h31x eh31x => ?_)
  have k31_0 := (congrFun eh31x (55)).trans ((va_up_ne _ _ (by omega)).trans k28_0)
  have k31_1 := (congrFun eh31x (56)).trans ((va_up_ne _ _ (by omega)).trans k28_1)
  have k31_2 := (congrFun eh31x (57)).trans ((va_up_ne _ _ (by omega)).trans k28_2)
  have k31_3 := (congrFun eh31x (58)).trans ((va_up_ne _ _ (by omega)).trans k28_3)
  have k31_4 : h31x (61) = some (.inl (6, [.null, .int (0)])) := by rw [eh31x]; exact va_up_self _ _ _
  have sw32 : zsm h28x h31x (zon (61)) := zsm.rf.up eh31x rfl
  have y33_0 := y30_0.keep (sw32 _ (by unfold zon; omega)) (sw32 _ (by unfold zon; omega))
  refine zp_dup dX3_init_47 rfl ?_
  refine zp_bipush (v := nI (64)) dX3_init_48 (by decide) ?_
  refine zp_pc (pc' := 50) rfl ?_
  refine zp_callI (As := [.int (nI (64))]) (k := 61) (st := [.ref (61), .ref (55)]) dX3_init_50 cX3_22 rfl (e_row (r := 61) (N := 64) (by omega) (by omega) (by omega) k31_4) (by decide) (by decide) (Nat.le_of_ble_eq_true rfl) (fun v34 h34 n34 q34 => ?_)
  obtain ⟨rfl, N34, s34, r34⟩ := q34
  rw [N34]
  refine zp_nn (cells' := 7) (slots' := 1308) (n' := 63) (st' := [.ref (61), .ref (55)]) rfl rfl rfl rfl ?_
  have s34 : zsm _ _ (zrs (61)) := s34
  have r34 := r34 rfl
  have m35 : h34 (55) = some (.inl (3, [.int (0), .int (0), .int (0), .long (0), .int (0), .int (0), .null, .ref (56), .ref (57), .ref (58), .ref (59), .null])) := (s34 _ (by unfold zrs; omega)).trans k31_0
  have m36 : h34 (56) = some (.inr (640, .inl (fun _ => 0))) := (s34 _ (by unfold zrs; omega)).trans k31_1
  have m37 : h34 (57) = some (.inr (8, .inr (.inl (fun _ => 0)))) := (s34 _ (by unfold zrs; omega)).trans k31_2
  have m38 : h34 (58) = some (.inr (80, .inr (.inl (fun _ => 0)))) := (s34 _ (by unfold zrs; omega)).trans k31_3
  have y39_0 := y33_0.keep (s34 _ (by unfold zrs; omega)) (s34 _ (by unfold zrs; omega))
  refine zp_putF (fs' := [.int (0), .int (0), .int (0), .long (0), .int (0), .int (0), .null, .ref (56), .ref (57), .ref (58), .ref (59), .ref (61)]) dX3_init_53 pX3_29_3 rfl (by omega) m35 (Nat.le_of_ble_eq_true rfl) (zfit_r _ _) rfl ?_
  refine zp_nh (fun h40x eh40x => ?_)
  have k40_0 : h40x (55) = some (.inl (3, [.int (0), .int (0), .int (0), .long (0), .int (0), .int (0), .null, .ref (56), .ref (57), .ref (58), .ref (59), .ref (61)])) := by rw [eh40x]; exact va_up_self _ _ _
  have k40_1 := (congrFun eh40x (56)).trans ((va_up_ne _ _ (by omega)).trans m36)
  have k40_2 := (congrFun eh40x (57)).trans ((va_up_ne _ _ (by omega)).trans m37)
  have k40_3 := (congrFun eh40x (58)).trans ((va_up_ne _ _ (by omega)).trans m38)
  have sw41 : zsm h34 h40x (zon (55)) := zsm.rf.up eh40x rfl
  have y42_0 := y39_0.keep (sw41 _ (by unfold zon; omega)) (sw41 _ (by unfold zon; omega))
  have y42_1 := r34.keep (sw41 _ (by unfold zon; omega)) (sw41 _ (by unfold zon; omega))
  refine zp_aload_n dX3_init_56 rfl ?_
  refine zp_iload_n dX3_init_57 rfl ?_
  refine zp_pc (pc' := 58) rfl ?_
  refine zn_if_eq (tgt := 66) dX3_init_58 (by decide) (by decide) (fun c58 => ?_) (fun c58 => ?_)
  · exact absurd c58 (by decide)
  · refine zp_bipush (v := nI (8)) dX3_init_61 (by decide) ?_
    refine zp_goto (tgt := 67) dX3_init_63 (by decide) ?_
    refine zp_pc (pc' := 67) rfl ?_
    refine zp_putF (fs' := [.int (0), .int (nI (8)), .int (0), .long (0), .int (0), .int (0), .null, .ref (56), .ref (57), .ref (58), .ref (59), .ref (61)]) dX3_init_67 pX3_32_3 rfl (by omega) k40_0 (Nat.le_of_ble_eq_true rfl) (zfit_i _) rfl ?_
    refine zp_nh (fun h43x eh43x => ?_)
    have k43_0 : h43x (55) = some (.inl (3, [.int (0), .int (nI (8)), .int (0), .long (0), .int (0), .int (0), .null, .ref (56), .ref (57), .ref (58), .ref (59), .ref (61)])) := by rw [eh43x]; exact va_up_self _ _ _
    have k43_1 := (congrFun eh43x (56)).trans ((va_up_ne _ _ (by omega)).trans k40_1)
    have k43_2 := (congrFun eh43x (57)).trans ((va_up_ne _ _ (by omega)).trans k40_2)
    have k43_3 := (congrFun eh43x (58)).trans ((va_up_ne _ _ (by omega)).trans k40_3)
    have sw44 : zsm h40x h43x (zon (55)) := zsm.rf.up eh43x rfl
    have y45_0 := y42_0.keep (sw44 _ (by unfold zon; omega)) (sw44 _ (by unfold zon; omega))
    have y45_1 := y42_1.keep (sw44 _ (by unfold zon; omega)) (sw44 _ (by unfold zon; omega))
    refine zp_aload_n dX3_init_70 rfl ?_
    refine zp_bipush (v := nI (8)) dX3_init_71 (by decide) ?_
    refine zp_aload_n dX3_init_73 rfl ?_
    refine zp_get dX3_init_74 gX3_32_3 k43_0 rfl ?_
    refine zn_imul dX3_init_77 ?_
    refine zp_putF (fs' := [.int (0), .int (nI (8)), .int (nI ((8) * (8))), .long (0), .int (0), .int (0), .null, .ref (56), .ref (57), .ref (58), .ref (59), .ref (61)]) dX3_init_78 pX3_36_3 rfl (by omega) k43_0 (Nat.le_of_ble_eq_true rfl) (zfit_i _) rfl ?_
    refine zp_nh (fun h46x eh46x => ?_)
    have k46_0 : h46x (55) = some (.inl (3, [.int (0), .int (nI (8)), .int (nI ((8) * (8))), .long (0), .int (0), .int (0), .null, .ref (56), .ref (57), .ref (58), .ref (59), .ref (61)])) := by rw [eh46x]; exact va_up_self _ _ _
    have k46_1 := (congrFun eh46x (56)).trans ((va_up_ne _ _ (by omega)).trans k43_1)
    have k46_2 := (congrFun eh46x (57)).trans ((va_up_ne _ _ (by omega)).trans k43_2)
    have k46_3 := (congrFun eh46x (58)).trans ((va_up_ne _ _ (by omega)).trans k43_3)
    have sw47 : zsm h43x h46x (zon (55)) := zsm.rf.up eh46x rfl
    have y48_0 := y45_0.keep (sw47 _ (by unfold zon; omega)) (sw47 _ (by unfold zon; omega))
    have y48_1 := y45_1.keep (sw47 _ (by unfold zon; omega)) (sw47 _ (by unfold zon; omega))
    refine zp_aload_n dX3_init_81 rfl ?_
    refine zp_ldc2 dX3_init_82 kcX3_39 ?_
    refine zp_bipush (v := nI (64)) dX3_init_85 (by decide) ?_
    refine zp_aload_n dX3_init_87 rfl ?_
    refine zp_get dX3_init_88 gX3_36_3 k46_0 rfl ?_
    refine zp_pc (pc' := 91) rfl ?_
    refine zn_isub dX3_init_91 (by omega) ?_
    refine zp_pc (pc' := 92) rfl ?_
    refine zp_lushr dX3_init_92 ?_
    refine zp_l (y := zmask true) (by decide) ?_
    refine zp_putF (fs' := [.int (0), .int (nI (8)), .int (nI ((8) * (8))), .long (zmask true), .int (0), .int (0), .null, .ref (56), .ref (57), .ref (58), .ref (59), .ref (61)]) dX3_init_93 pX3_41_3 rfl (by omega) k46_0 (Nat.le_of_ble_eq_true rfl) (zfit_l _) rfl ?_
    refine zp_nh (fun h49x eh49x => ?_)
    have k49_0 : h49x (55) = some (.inl (3, [.int (0), .int (nI (8)), .int (nI ((8) * (8))), .long (zmask true), .int (0), .int (0), .null, .ref (56), .ref (57), .ref (58), .ref (59), .ref (61)])) := by rw [eh49x]; exact va_up_self _ _ _
    have k49_1 := (congrFun eh49x (56)).trans ((va_up_ne _ _ (by omega)).trans k46_1)
    have k49_2 := (congrFun eh49x (57)).trans ((va_up_ne _ _ (by omega)).trans k46_2)
    have k49_3 := (congrFun eh49x (58)).trans ((va_up_ne _ _ (by omega)).trans k46_3)
    have sw50 : zsm h46x h49x (zon (55)) := zsm.rf.up eh49x rfl
    have y51_0 := y48_0.keep (sw50 _ (by unfold zon; omega)) (sw50 _ (by unfold zon; omega))
    have y51_1 := y48_1.keep (sw50 _ (by unfold zon; omega)) (sw50 _ (by unfold zon; omega))
    refine zp_aload_n dX3_init_96 rfl ?_
    refine zp_bipush (v := nI (8)) dX3_init_97 (by decide) ?_
    refine zp_aload_n dX3_init_99 rfl ?_
    refine zp_get dX3_init_100 gX3_32_3 k49_0 rfl ?_
    refine zn_imul dX3_init_103 ?_
    refine zp_putF (fs' := [.int (nI ((8) * (8))), .int (nI (8)), .int (nI ((8) * (8))), .long (zmask true), .int (0), .int (0), .null, .ref (56), .ref (57), .ref (58), .ref (59), .ref (61)]) dX3_init_104 pX3_45_3 rfl (by omega) k49_0 (Nat.le_of_ble_eq_true rfl) (zfit_i _) rfl ?_
    refine zp_nh (fun h52x eh52x => ?_)
    have k52_0 : h52x (55) = some (.inl (3, [.int (nI ((8) * (8))), .int (nI (8)), .int (nI ((8) * (8))), .long (zmask true), .int (0), .int (0), .null, .ref (56), .ref (57), .ref (58), .ref (59), .ref (61)])) := by rw [eh52x]; exact va_up_self _ _ _
    have k52_1 := (congrFun eh52x (56)).trans ((va_up_ne _ _ (by omega)).trans k49_1)
    have k52_2 := (congrFun eh52x (57)).trans ((va_up_ne _ _ (by omega)).trans k49_2)
    have k52_3 := (congrFun eh52x (58)).trans ((va_up_ne _ _ (by omega)).trans k49_3)
    have sw53 : zsm h49x h52x (zon (55)) := zsm.rf.up eh52x rfl
    have y54_0 := y51_0.keep (sw53 _ (by unfold zon; omega)) (sw53 _ (by unfold zon; omega))
    have y54_1 := y51_1.keep (sw53 _ (by unfold zon; omega)) (sw53 _ (by unfold zon; omega))
    refine zp_aload_n dX3_init_107 rfl ?_
    refine zp_bipush (v := nI (16)) dX3_init_108 (by decide) ?_
    refine zp_aload_n dX3_init_110 rfl ?_
    refine zp_get dX3_init_111 gX3_32_3 k52_0 rfl ?_
    refine zn_imul dX3_init_114 ?_
    refine zp_pc (pc' := 115) rfl ?_
    refine zp_putF (fs' := [.int (nI ((8) * (8))), .int (nI (8)), .int (nI ((8) * (8))), .long (zmask true), .int (nI ((16) * (8))), .int (0), .null, .ref (56), .ref (57), .ref (58), .ref (59), .ref (61)]) dX3_init_115 pX3_48_3 rfl (by omega) k52_0 (Nat.le_of_ble_eq_true rfl) (zfit_i _) rfl ?_
    refine zp_nh (fun h55x eh55x => ?_)
    have k55_0 : h55x (55) = some (.inl (3, [.int (nI ((8) * (8))), .int (nI (8)), .int (nI ((8) * (8))), .long (zmask true), .int (nI ((16) * (8))), .int (0), .null, .ref (56), .ref (57), .ref (58), .ref (59), .ref (61)])) := by rw [eh55x]; exact va_up_self _ _ _
    have k55_1 := (congrFun eh55x (56)).trans ((va_up_ne _ _ (by omega)).trans k52_1)
    have k55_2 := (congrFun eh55x (57)).trans ((va_up_ne _ _ (by omega)).trans k52_2)
    have k55_3 := (congrFun eh55x (58)).trans ((va_up_ne _ _ (by omega)).trans k52_3)
    have sw56 : zsm h52x h55x (zon (55)) := zsm.rf.up eh55x rfl
    have y57_0 := y54_0.keep (sw56 _ (by unfold zon; omega)) (sw56 _ (by unfold zon; omega))
    have y57_1 := y54_1.keep (sw56 _ (by unfold zon; omega)) (sw56 _ (by unfold zon; omega))
    refine zp_aload_n dX3_init_118 rfl ?_
    refine zp_iload_n dX3_init_119 rfl ?_
    refine zp_pc (pc' := 120) rfl ?_
    refine zn_if_eq (tgt := 128) dX3_init_120 (by decide) (by decide) (fun c120 => ?_) (fun c120 => ?_)
    · exact absurd c120 (by decide)
    · refine zp_bipush (v := nI (80)) dX3_init_123 (by decide) ?_
      refine zp_goto (tgt := 130) dX3_init_125 (by decide) ?_
      refine zp_putF (fs' := [.int (nI ((8) * (8))), .int (nI (8)), .int (nI ((8) * (8))), .long (zmask true), .int (nI ((16) * (8))), .int (nI (80)), .null, .ref (56), .ref (57), .ref (58), .ref (59), .ref (61)]) dX3_init_130 pX3_51_3 rfl (by omega) k55_0 (Nat.le_of_ble_eq_true rfl) (zfit_i _) rfl ?_
      refine zp_nh (fun h58x eh58x => ?_)
      have k58_0 : h58x (55) = some (.inl (3, [.int (nI ((8) * (8))), .int (nI (8)), .int (nI ((8) * (8))), .long (zmask true), .int (nI ((16) * (8))), .int (nI (80)), .null, .ref (56), .ref (57), .ref (58), .ref (59), .ref (61)])) := by rw [eh58x]; exact va_up_self _ _ _
      have k58_1 := (congrFun eh58x (56)).trans ((va_up_ne _ _ (by omega)).trans k55_1)
      have k58_2 := (congrFun eh58x (57)).trans ((va_up_ne _ _ (by omega)).trans k55_2)
      have k58_3 := (congrFun eh58x (58)).trans ((va_up_ne _ _ (by omega)).trans k55_3)
      have sw59 : zsm h55x h58x (zon (55)) := zsm.rf.up eh58x rfl
      have y60_0 := y57_0.keep (sw59 _ (by unfold zon; omega)) (sw59 _ (by unfold zon; omega))
      have y60_1 := y57_1.keep (sw59 _ (by unfold zon; omega)) (sw59 _ (by unfold zon; omega))
      refine zp_aload_n dX3_init_133 rfl ?_
      refine zp_iload_n dX3_init_134 rfl ?_
      refine zp_pc (pc' := 135) rfl ?_
      refine zn_if_eq (tgt := 144) dX3_init_135 (by decide) (by decide) (fun c135 => ?_) (fun c135 => ?_)
      · exact absurd c135 (by decide)
      · refine zp_gets dX3_init_138 sX3_54 ?_
        refine zp_goto (tgt := 147) dX3_init_141 (by decide) ?_
        refine zp_putF (fs' := [.int (nI ((8) * (8))), .int (nI (8)), .int (nI ((8) * (8))), .long (zmask true), .int (nI ((16) * (8))), .int (nI (80)), .ref (5), .ref (56), .ref (57), .ref (58), .ref (59), .ref (61)]) dX3_init_147 pX3_60_3 rfl (by omega) k58_0 (Nat.le_of_ble_eq_true rfl) (zfit_a _ _) rfl ?_
        refine zp_nh (fun h61x eh61x => ?_)
        have k61_0 : h61x (55) = some (.inl (3, [.int (nI ((8) * (8))), .int (nI (8)), .int (nI ((8) * (8))), .long (zmask true), .int (nI ((16) * (8))), .int (nI (80)), .ref (5), .ref (56), .ref (57), .ref (58), .ref (59), .ref (61)])) := by rw [eh61x]; exact va_up_self _ _ _
        have k61_1 := (congrFun eh61x (56)).trans ((va_up_ne _ _ (by omega)).trans k58_1)
        have k61_2 := (congrFun eh61x (57)).trans ((va_up_ne _ _ (by omega)).trans k58_2)
        have k61_3 := (congrFun eh61x (58)).trans ((va_up_ne _ _ (by omega)).trans k58_3)
        have sw62 : zsm h58x h61x (zon (55)) := zsm.rf.up eh61x rfl
        have y63_0 := y60_0.keep (sw62 _ (by unfold zon; omega)) (sw62 _ (by unfold zon; omega))
        have y63_1 := y60_1.keep (sw62 _ (by unfold zon; omega)) (sw62 _ (by unfold zon; omega))
        refine zp_pc (pc' := 150) rfl ?_
        refine zp_ret (v := none) dX3_init_150 ⟨rfl, rfl⟩ (Nat.le_of_ble_eq_true rfl) (Nat.le_of_ble_eq_true rfl) ?_
        rw [hQ]
        exact ⟨rfl, rfl, (((((((((((((((((((sw2).mono (fun i hi => by unfold zbt; unfold zon at hi; omega)).trans ((sw5).mono (fun i hi => by unfold zbt; unfold zon at hi; omega))).trans ((sw8).mono (fun i hi => by unfold zbt; unfold zon at hi; omega))).trans ((sw11).mono (fun i hi => by unfold zbt; unfold zon at hi; omega))).trans ((sw14).mono (fun i hi => by unfold zbt; unfold zon at hi; omega))).trans ((sw17).mono (fun i hi => by unfold zbt; unfold zon at hi; omega))).trans ((sw20).mono (fun i hi => by unfold zbt; unfold zon at hi; omega))).trans ((s22).mono (fun i hi => by unfold zbt; unfold zrs at hi; omega))).trans ((sw29).mono (fun i hi => by unfold zbt; unfold zon at hi; omega))).trans ((sw32).mono (fun i hi => by unfold zbt; unfold zon at hi; omega))).trans ((s34).mono (fun i hi => by unfold zbt; unfold zrs at hi; omega))).trans ((sw41).mono (fun i hi => by unfold zbt; unfold zon at hi; omega))).trans ((sw44).mono (fun i hi => by unfold zbt; unfold zon at hi; omega))).trans ((sw47).mono (fun i hi => by unfold zbt; unfold zon at hi; omega))).trans ((sw50).mono (fun i hi => by unfold zbt; unfold zon at hi; omega))).trans ((sw53).mono (fun i hi => by unfold zbt; unfold zon at hi; omega))).trans ((sw56).mono (fun i hi => by unfold zbt; unfold zon at hi; omega))).trans ((sw59).mono (fun i hi => by unfold zbt; unfold zon at hi; omega))).trans ((sw62).mono (fun i hi => by unfold zbt; unfold zon at hi; omega)), by decide, k61_0, ⟨_, k61_1⟩, ⟨_, k61_2⟩, ⟨_, k61_3⟩, ⟨_, y63_0⟩, _, y63_1⟩
