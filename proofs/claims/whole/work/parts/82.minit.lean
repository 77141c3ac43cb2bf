set_option maxRecDepth 100000 in
theorem nwX11_90 : znP RX11 90 9 [.int (0), .int (0), .int (0), .int (0), .int (0), .int (0), .int (0), .int (0), .null, .null] := ⟨_, _, _, rfl, rfl, nX11_90, (by decide +kernel)⟩
theorem zget_def {α : Type} {l : List α} {d : α} {j : Nat} (h : l.length ≤ j) : l.getD j d = d := by rw [List.getD_eq_getElem?_getD, List.getElem?_eq_none h]; rfl
theorem zfull {α : Type} {n : Nat} {V : Nat → α} {d : α} (h : ∀ j, n ≤ j → V j = d) : zfl (fun _ => d) 0 n V = V := by
  funext j
  rcases Nat.lt_or_ge j n with q | q
  · exact zfl_in0 q
  · rw [zfl_out (Or.inr (by omega)), h j q]
theorem zsh.fillL {h h' : ZH} {t N : Nat} {f f' : Nat → Int64} (e : h' = va_up h t (some (.inr (N, .inr (.inl f'))))) (hk : h t = some (.inr (N, .inr (.inl f)))) : zsh h h' :=
  zsh.up e hk (fun M f q => by injection q with q; injection q with q1 q2; cases q2) (fun M f q => by injection q with q; injection q with q1 q2; subst q1; exact ⟨_, rfl⟩)
set_option maxRecDepth 10000 in
set_option maxHeartbeats 2000000 in
theorem e_zginit {g : ZG} {h : ZH} {n : Nat} {a : Nat} (hn : n = a + 1) (ha : 64 ≤ a) (o : h a = some (.inl (9, [.int (0), .int (0), .int (0), .int (0), .int (0), .int (0), .int (0), .int (0), .null, .null]))) : zMt g mX10_init (zR 1 2 222) [.ref (a)] h n (fun v h' n' => v = none ∧ n' = a + 3 ∧ zsm h h' (zbt a (a + 2)) ∧ h' a = some (.inl (9, [.int (0), .int (0), .int (0), .int (0), .int (0), .int (0), .int (0), .int (0), .ref (a + 1), .ref (a + 2)])) ∧ zia h' (a + 1) 111 ∧ zia h' (a + 2) 111) := by
  refine zMt.of [some (.ref (a))] (by decide) rfl (Nat.le_of_ble_eq_true rfl) ?_
  obtain ⟨Qf, hQ⟩ : ∃ Qf : ZQ, Qf = (fun v h' n' => v = none ∧ n' = a + 3 ∧ zsm h h' (zbt a (a + 2)) ∧ h' a = some (.inl (9, [.int (0), .int (0), .int (0), .int (0), .int (0), .int (0), .int (0), .int (0), .ref (a + 1), .ref (a + 2)])) ∧ zia h' (a + 1) 111 ∧ zia h' (a + 2) 111) := ⟨_, rfl⟩
  rw [← hQ]
  subst hn
  refine zp_aload_n dX10_init_0 rfl ?_
  refine zp_pc (pc' := 1) rfl ?_
  refine zp_objInit dX10_init_1 cX10_1 ⟨Nat.le_of_ble_eq_true rfl, Nat.le_of_ble_eq_true rfl⟩ (Nat.le_of_ble_eq_true rfl) ?_
  refine zp_pc (pc' := 4) rfl ?_
  refine zp_aload_n dX10_init_4 rfl ?_
  refine zp_bipush (v := nI (111)) dX10_init_5 (by decide) ?_
  refine zp_pc (pc' := 7) rfl ?_
  refine zp_newi (N := 111) dX10_init_7 (nI_pos (by decide)) (nI_clamp (by decide)) (by decide) (Nat.le_of_ble_eq_true rfl) (Nat.le_of_ble_eq_true rfl) ?_
  refine zp_nn (cells' := 1) (slots' := 111) (n' := a + 2) (st' := [.ref (a + 1), .ref (a)]) rfl rfl rfl rfl ?_
  refine zp_nh (fun h1x eh1x => ?_)
  have k1_0 := (congrFun eh1x (a)).trans ((va_up_ne _ _ (by omega)).trans o)
  have k1_1 : h1x (a + 1) = some (.inr (111, .inl (fun _ => 0))) := by rw [eh1x]; exact va_up_self _ _ _
  have sw2 : zsm h h1x (zon (a + 1)) := zsm.rf.up eh1x rfl
  refine zp_putF (fs' := [.int (0), .int (0), .int (0), .int (0), .int (0), .int (0), .int (0), .int (0), .ref (a + 1), .null]) dX10_init_9 pX10_7_9 rfl (by omega) k1_0 (Nat.le_of_ble_eq_true rfl) (zfit_a _ _) rfl ?_
  refine zp_nh (fun h4x eh4x => ?_)
  have k4_0 : h4x (a) = some (.inl (9, [.int (0), .int (0), .int (0), .int (0), .int (0), .int (0), .int (0), .int (0), .ref (a + 1), .null])) := by rw [eh4x]; exact va_up_self _ _ _
  have k4_1 := (congrFun eh4x (a + 1)).trans ((va_up_ne _ _ (by omega)).trans k1_1)
  have sw5 : zsm h1x h4x (zon (a)) := zsm.rf.up eh4x rfl
  refine zp_aload_n dX10_init_12 rfl ?_
  refine zp_bipush (v := nI (111)) dX10_init_13 (by decide) ?_
  refine zp_pc (pc' := 15) rfl ?_
  refine zp_newi (N := 111) dX10_init_15 (nI_pos (by decide)) (nI_clamp (by decide)) (by decide) (Nat.le_of_ble_eq_true rfl) (Nat.le_of_ble_eq_true rfl) ?_
  refine zp_nn (cells' := 2) (slots' := 222) (n' := a + 3) (st' := [.ref (a + 2), .ref (a)]) rfl rfl rfl rfl ?_
  refine zp_nh (fun h7x eh7x => ?_)
  have k7_0 := (congrFun eh7x (a)).trans ((va_up_ne _ _ (by omega)).trans k4_0)
  have k7_1 := (congrFun eh7x (a + 1)).trans ((va_up_ne _ _ (by omega)).trans k4_1)
  have k7_2 : h7x (a + 2) = some (.inr (111, .inl (fun _ => 0))) := by rw [eh7x]; exact va_up_self _ _ _
  have sw8 : zsm h4x h7x (zon (a + 2)) := zsm.rf.up eh7x rfl
  refine zp_putF (fs' := [.int (0), .int (0), .int (0), .int (0), .int (0), .int (0), .int (0), .int (0), .ref (a + 1), .ref (a + 2)]) dX10_init_17 pX10_13_9 rfl (by omega) k7_0 (Nat.le_of_ble_eq_true rfl) (zfit_a _ _) rfl ?_
  refine zp_nh (fun h10x eh10x => ?_)
  have k10_0 : h10x (a) = some (.inl (9, [.int (0), .int (0), .int (0), .int (0), .int (0), .int (0), .int (0), .int (0), .ref (a + 1), .ref (a + 2)])) := by rw [eh10x]; exact va_up_self _ _ _
  have k10_1 := (congrFun eh10x (a + 1)).trans ((va_up_ne _ _ (by omega)).trans k7_1)
  have k10_2 := (congrFun eh10x (a + 2)).trans ((va_up_ne _ _ (by omega)).trans k7_2)
  have sw11 : zsm h7x h10x (zon (a)) := zsm.rf.up eh10x rfl
  refine zp_pc (pc' := 20) rfl ?_
  refine zp_ret (v := none) dX10_init_20 ⟨rfl, rfl⟩ (Nat.le_of_ble_eq_true rfl) (Nat.le_of_ble_eq_true rfl) ?_
  rw [hQ]
  exact ⟨rfl, rfl, ((((sw2).mono (fun i hi => by unfold zbt; unfold zon at hi; omega)).trans ((sw5).mono (fun i hi => by unfold zbt; unfold zon at hi; omega))).trans ((sw8).mono (fun i hi => by unfold zbt; unfold zon at hi; omega))).trans ((sw11).mono (fun i hi => by unfold zbt; unfold zon at hi; omega)), k10_0, ⟨_, k10_1⟩, ⟨_, k10_2⟩⟩
set_option maxRecDepth 10000 in
set_option maxHeartbeats 2000000 in
theorem E_init {g : ZG} {h : ZH} {n : Nat}  (hn : n = 65) (ht : ztab h) (o : h 64 = some (.inl (10, [.int (0), .null, .null, .null, .null, .null, .null, .null, .null, .null, .null, .null, .null, .null, .null, .null, .null, .null, .null, .null, .null, .int (0), .int (0), .int (0), .int (0), .int (0), .int (0), .int (0), .int (0), .int (0), .int (0), .int (0), .int (0), .null, .null, .null, .int (0), .null, .null, .null, .null, .null, .null, .int (0), .null, .int (0)]))) : zMt g mX11_init (zR 2 42 13040) [.ref (64)] h n (fun v h' n' => v = none ∧ n' = 107 ∧ zsm h h' (zbt 64 106) ∧ zMD 0 h' ([], [], zS0, fun _ => none)) := by
  refine zMt.of [some (.ref (64)), none, none] (by decide) rfl (Nat.le_of_ble_eq_true rfl) ?_
  obtain ⟨Qf, hQ⟩ : ∃ Qf : ZQ, Qf = (fun v h' n' => v = none ∧ n' = 107 ∧ zsm h h' (zbt 64 106) ∧ zMD 0 h' ([], [], zS0, fun _ => none)) := ⟨_, rfl⟩
  rw [← hQ]
  subst hn
  refine zp_aload_n dX11_init_0 rfl ?_
  refine zp_pc (pc' := 1) rfl ?_
  refine zp_objInit dX11_init_1 cX11_1 ⟨Nat.le_of_ble_eq_true rfl, Nat.le_of_ble_eq_true rfl⟩ (Nat.le_of_ble_eq_true rfl) ?_
  refine zp_pc (pc' := 4) rfl ?_
  refine zp_aload_n dX11_init_4 rfl ?_
  refine zp_bipush (v := nI (80)) dX11_init_5 (by decide) ?_
  refine zp_newl (N := 80) dX11_init_7 (nI_pos (by decide)) (nI_clamp (by decide)) (by decide) (Nat.le_of_ble_eq_true rfl) (Nat.le_of_ble_eq_true rfl) ?_
  refine zp_nn (cells' := 1) (slots' := 80) (n' := 66) (st' := [.ref (65), .ref (64)]) rfl rfl rfl rfl ?_
  refine zp_nh (fun h1x eh1x => ?_)
  have k1_0 := (congrFun eh1x (64)).trans ((va_up_ne _ _ (by decide)).trans o)
  have k1_1 : h1x (65) = some (.inr (80, .inr (.inl (fun _ => 0)))) := by rw [eh1x]; exact va_up_self _ _ _
  have S1 : zsm h h1x (zbt 64 106) := zsm.up zsm.rf eh1x ⟨by decide, by decide⟩
  clear eh1x o
  refine zp_putF (fs' := [.int (0), .ref (65), .null, .null, .null, .null, .null, .null, .null, .null, .null, .null, .null, .null, .null, .null, .null, .null, .null, .null, .null, .int (0), .int (0), .int (0), .int (0), .int (0), .int (0), .int (0), .int (0), .int (0), .int (0), .int (0), .int (0), .null, .null, .null, .int (0), .null, .null, .null, .null, .null, .null, .int (0), .null, .int (0)]) dX11_init_9 pX11_7_10 rfl (by omega) k1_0 (Nat.le_of_ble_eq_true rfl) (zfit_a _ _) rfl ?_
  refine zp_nh (fun h2x eh2x => ?_)
  have k2_0 : h2x (64) = some (.inl (10, [.int (0), .ref (65), .null, .null, .null, .null, .null, .null, .null, .null, .null, .null, .null, .null, .null, .null, .null, .null, .null, .null, .null, .int (0), .int (0), .int (0), .int (0), .int (0), .int (0), .int (0), .int (0), .int (0), .int (0), .int (0), .int (0), .null, .null, .null, .int (0), .null, .null, .null, .null, .null, .null, .int (0), .null, .int (0)])) := by rw [eh2x]; exact va_up_self _ _ _
  have k2_1 := (congrFun eh2x (65)).trans ((va_up_ne _ _ (by decide)).trans k1_1)
  have S2 : zsm h h2x (zbt 64 106) := zsm.up S1 eh2x ⟨by decide, by decide⟩
  clear eh2x k1_0 k1_1 S1 h1x
  refine zp_aload_n dX11_init_12 rfl ?_
  refine zp_bipush (v := nI (8)) dX11_init_13 (by decide) ?_
  refine zp_newl (N := 8) dX11_init_15 (nI_pos (by decide)) (nI_clamp (by decide)) (by decide) (Nat.le_of_ble_eq_true rfl) (Nat.le_of_ble_eq_true rfl) ?_
  refine zp_nn (cells' := 2) (slots' := 88) (n' := 67) (st' := [.ref (66), .ref (64)]) rfl rfl rfl rfl ?_
  refine zp_nh (fun h3x eh3x => ?_)
  have k3_0 := (congrFun eh3x (64)).trans ((va_up_ne _ _ (by decide)).trans k2_0)
  have k3_1 := (congrFun eh3x (65)).trans ((va_up_ne _ _ (by decide)).trans k2_1)
  have k3_2 : h3x (66) = some (.inr (8, .inr (.inl (fun _ => 0)))) := by rw [eh3x]; exact va_up_self _ _ _
  have S3 : zsm h h3x (zbt 64 106) := zsm.up S2 eh3x ⟨by decide, by decide⟩
  clear eh3x k2_0 k2_1 S2 h2x
  refine zp_putF (fs' := [.int (0), .ref (65), .ref (66), .null, .null, .null, .null, .null, .null, .null, .null, .null, .null, .null, .null, .null, .null, .null, .null, .null, .null, .int (0), .int (0), .int (0), .int (0), .int (0), .int (0), .int (0), .int (0), .int (0), .int (0), .int (0), .int (0), .null, .null, .null, .int (0), .null, .null, .null, .null, .null, .null, .int (0), .null, .int (0)]) dX11_init_17 pX11_13_10 rfl (by omega) k3_0 (Nat.le_of_ble_eq_true rfl) (zfit_a _ _) rfl ?_
  refine zp_nh (fun h4x eh4x => ?_)
  have k4_0 : h4x (64) = some (.inl (10, [.int (0), .ref (65), .ref (66), .null, .null, .null, .null, .null, .null, .null, .null, .null, .null, .null, .null, .null, .null, .null, .null, .null, .null, .int (0), .int (0), .int (0), .int (0), .int (0), .int (0), .int (0), .int (0), .int (0), .int (0), .int (0), .int (0), .null, .null, .null, .int (0), .null, .null, .null, .null, .null, .null, .int (0), .null, .int (0)])) := by rw [eh4x]; exact va_up_self _ _ _
  have k4_1 := (congrFun eh4x (65)).trans ((va_up_ne _ _ (by decide)).trans k3_1)
  have k4_2 := (congrFun eh4x (66)).trans ((va_up_ne _ _ (by decide)).trans k3_2)
  have S4 : zsm h h4x (zbt 64 106) := zsm.up S3 eh4x ⟨by decide, by decide⟩
  clear eh4x k3_0 k3_1 k3_2 S3 h3x
  refine zp_aload_n dX11_init_20 rfl ?_
  refine zp_iconst (v := nI (5)) dX11_init_21 (by decide) ?_
  refine zp_newi (N := 5) dX11_init_22 (nI_pos (by decide)) (nI_clamp (by decide)) (by decide) (Nat.le_of_ble_eq_true rfl) (Nat.le_of_ble_eq_true rfl) ?_
  refine zp_nn (cells' := 3) (slots' := 93) (n' := 68) (st' := [.ref (67), .ref (64)]) rfl rfl rfl rfl ?_
  refine zp_nh (fun h5x eh5x => ?_)
  have k5_0 := (congrFun eh5x (64)).trans ((va_up_ne _ _ (by decide)).trans k4_0)
  have k5_1 := (congrFun eh5x (65)).trans ((va_up_ne _ _ (by decide)).trans k4_1)
  have k5_2 := (congrFun eh5x (66)).trans ((va_up_ne _ _ (by decide)).trans k4_2)
  have k5_3 : h5x (67) = some (.inr (5, .inl (fun _ => 0))) := by rw [eh5x]; exact va_up_self _ _ _
  have S5 : zsm h h5x (zbt 64 106) := zsm.up S4 eh5x ⟨by decide, by decide⟩
  clear eh5x k4_0 k4_1 k4_2 S4 h4x
  refine zp_putF (fs' := [.int (0), .ref (65), .ref (66), .ref (67), .null, .null, .null, .null, .null, .null, .null, .null, .null, .null, .null, .null, .null, .null, .null, .null, .null, .int (0), .int (0), .int (0), .int (0), .int (0), .int (0), .int (0), .int (0), .int (0), .int (0), .int (0), .int (0), .null, .null, .null, .int (0), .null, .null, .null, .null, .null, .null, .int (0), .null, .int (0)]) dX11_init_24 pX11_16_10 rfl (by omega) k5_0 (Nat.le_of_ble_eq_true rfl) (zfit_a _ _) rfl ?_
  refine zp_nh (fun h6x eh6x => ?_)
  have k6_0 : h6x (64) = some (.inl (10, [.int (0), .ref (65), .ref (66), .ref (67), .null, .null, .null, .null, .null, .null, .null, .null, .null, .null, .null, .null, .null, .null, .null, .null, .null, .int (0), .int (0), .int (0), .int (0), .int (0), .int (0), .int (0), .int (0), .int (0), .int (0), .int (0), .int (0), .null, .null, .null, .int (0), .null, .null, .null, .null, .null, .null, .int (0), .null, .int (0)])) := by rw [eh6x]; exact va_up_self _ _ _
  have k6_1 := (congrFun eh6x (65)).trans ((va_up_ne _ _ (by decide)).trans k5_1)
  have k6_2 := (congrFun eh6x (66)).trans ((va_up_ne _ _ (by decide)).trans k5_2)
  have k6_3 := (congrFun eh6x (67)).trans ((va_up_ne _ _ (by decide)).trans k5_3)
  have S6 : zsm h h6x (zbt 64 106) := zsm.up S5 eh6x ⟨by decide, by decide⟩
  clear eh6x k5_0 k5_1 k5_2 k5_3 S5 h5x
  refine zp_aload_n dX11_init_27 rfl ?_
  refine zp_bipush (v := nI (16)) dX11_init_28 (by decide) ?_
  refine zp_newi (N := 16) dX11_init_30 (nI_pos (by decide)) (nI_clamp (by decide)) (by decide) (Nat.le_of_ble_eq_true rfl) (Nat.le_of_ble_eq_true rfl) ?_
  refine zp_nn (cells' := 4) (slots' := 109) (n' := 69) (st' := [.ref (68), .ref (64)]) rfl rfl rfl rfl ?_
  refine zp_nh (fun h7x eh7x => ?_)
  have k7_0 := (congrFun eh7x (64)).trans ((va_up_ne _ _ (by decide)).trans k6_0)
  have k7_1 := (congrFun eh7x (65)).trans ((va_up_ne _ _ (by decide)).trans k6_1)
  have k7_2 := (congrFun eh7x (66)).trans ((va_up_ne _ _ (by decide)).trans k6_2)
  have k7_3 := (congrFun eh7x (67)).trans ((va_up_ne _ _ (by decide)).trans k6_3)
  have k7_4 : h7x (68) = some (.inr (16, .inl (fun _ => 0))) := by rw [eh7x]; exact va_up_self _ _ _
  have S7 : zsm h h7x (zbt 64 106) := zsm.up S6 eh7x ⟨by decide, by decide⟩
  clear eh7x k6_0 k6_1 k6_2 k6_3 S6 h6x
  refine zp_putF (fs' := [.int (0), .ref (65), .ref (66), .ref (67), .ref (68), .null, .null, .null, .null, .null, .null, .null, .null, .null, .null, .null, .null, .null, .null, .null, .null, .int (0), .int (0), .int (0), .int (0), .int (0), .int (0), .int (0), .int (0), .int (0), .int (0), .int (0), .int (0), .null, .null, .null, .int (0), .null, .null, .null, .null, .null, .null, .int (0), .null, .int (0)]) dX11_init_32 pX11_20_10 rfl (by omega) k7_0 (Nat.le_of_ble_eq_true rfl) (zfit_a _ _) rfl ?_
  refine zp_nh (fun h8x eh8x => ?_)
  have k8_0 : h8x (64) = some (.inl (10, [.int (0), .ref (65), .ref (66), .ref (67), .ref (68), .null, .null, .null, .null, .null, .null, .null, .null, .null, .null, .null, .null, .null, .null, .null, .null, .int (0), .int (0), .int (0), .int (0), .int (0), .int (0), .int (0), .int (0), .int (0), .int (0), .int (0), .int (0), .null, .null, .null, .int (0), .null, .null, .null, .null, .null, .null, .int (0), .null, .int (0)])) := by rw [eh8x]; exact va_up_self _ _ _
  have k8_1 := (congrFun eh8x (65)).trans ((va_up_ne _ _ (by decide)).trans k7_1)
  have k8_2 := (congrFun eh8x (66)).trans ((va_up_ne _ _ (by decide)).trans k7_2)
  have k8_3 := (congrFun eh8x (67)).trans ((va_up_ne _ _ (by decide)).trans k7_3)
  have k8_4 := (congrFun eh8x (68)).trans ((va_up_ne _ _ (by decide)).trans k7_4)
  have S8 : zsm h h8x (zbt 64 106) := zsm.up S7 eh8x ⟨by decide, by decide⟩
  clear eh8x k7_0 k7_1 k7_2 k7_3 k7_4 S7 h7x
  refine zp_aload_n dX11_init_35 rfl ?_
  refine zp_bipush (v := nI (16)) dX11_init_36 (by decide) ?_
  refine zp_newi (N := 16) dX11_init_38 (nI_pos (by decide)) (nI_clamp (by decide)) (by decide) (Nat.le_of_ble_eq_true rfl) (Nat.le_of_ble_eq_true rfl) ?_
  refine zp_nn (cells' := 5) (slots' := 125) (n' := 70) (st' := [.ref (69), .ref (64)]) rfl rfl rfl rfl ?_
  refine zp_nh (fun h9x eh9x => ?_)
  have k9_0 := (congrFun eh9x (64)).trans ((va_up_ne _ _ (by decide)).trans k8_0)
  have k9_1 := (congrFun eh9x (65)).trans ((va_up_ne _ _ (by decide)).trans k8_1)
  have k9_2 := (congrFun eh9x (66)).trans ((va_up_ne _ _ (by decide)).trans k8_2)
  have k9_3 := (congrFun eh9x (67)).trans ((va_up_ne _ _ (by decide)).trans k8_3)
  have k9_4 := (congrFun eh9x (68)).trans ((va_up_ne _ _ (by decide)).trans k8_4)
  have k9_5 : h9x (69) = some (.inr (16, .inl (fun _ => 0))) := by rw [eh9x]; exact va_up_self _ _ _
  have S9 : zsm h h9x (zbt 64 106) := zsm.up S8 eh9x ⟨by decide, by decide⟩
  clear eh9x k8_0 k8_1 k8_2 k8_3 k8_4 S8 h8x
  refine zp_putF (fs' := [.int (0), .ref (65), .ref (66), .ref (67), .ref (68), .ref (69), .null, .null, .null, .null, .null, .null, .null, .null, .null, .null, .null, .null, .null, .null, .null, .int (0), .int (0), .int (0), .int (0), .int (0), .int (0), .int (0), .int (0), .int (0), .int (0), .int (0), .int (0), .null, .null, .null, .int (0), .null, .null, .null, .null, .null, .null, .int (0), .null, .int (0)]) dX11_init_40 pX11_23_10 rfl (by omega) k9_0 (Nat.le_of_ble_eq_true rfl) (zfit_a _ _) rfl ?_
  refine zp_nh (fun h10x eh10x => ?_)
  have k10_0 : h10x (64) = some (.inl (10, [.int (0), .ref (65), .ref (66), .ref (67), .ref (68), .ref (69), .null, .null, .null, .null, .null, .null, .null, .null, .null, .null, .null, .null, .null, .null, .null, .int (0), .int (0), .int (0), .int (0), .int (0), .int (0), .int (0), .int (0), .int (0), .int (0), .int (0), .int (0), .null, .null, .null, .int (0), .null, .null, .null, .null, .null, .null, .int (0), .null, .int (0)])) := by rw [eh10x]; exact va_up_self _ _ _
  have k10_1 := (congrFun eh10x (65)).trans ((va_up_ne _ _ (by decide)).trans k9_1)
  have k10_2 := (congrFun eh10x (66)).trans ((va_up_ne _ _ (by decide)).trans k9_2)
  have k10_3 := (congrFun eh10x (67)).trans ((va_up_ne _ _ (by decide)).trans k9_3)
  have k10_4 := (congrFun eh10x (68)).trans ((va_up_ne _ _ (by decide)).trans k9_4)
  have k10_5 := (congrFun eh10x (69)).trans ((va_up_ne _ _ (by decide)).trans k9_5)
  have S10 : zsm h h10x (zbt 64 106) := zsm.up S9 eh10x ⟨by decide, by decide⟩
  clear eh10x k9_0 k9_1 k9_2 k9_3 k9_4 k9_5 S9 h9x
  refine zp_aload_n dX11_init_43 rfl ?_
  refine zp_sipush (v := nI (1200)) dX11_init_44 (by decide) ?_
  refine zp_newi (N := 1200) dX11_init_47 (nI_pos (by decide)) (nI_clamp (by decide)) (by decide) (Nat.le_of_ble_eq_true rfl) (Nat.le_of_ble_eq_true rfl) ?_
  refine zp_nn (cells' := 6) (slots' := 1325) (n' := 71) (st' := [.ref (70), .ref (64)]) rfl rfl rfl rfl ?_
  refine zp_nh (fun h11x eh11x => ?_)
  have k11_0 := (congrFun eh11x (64)).trans ((va_up_ne _ _ (by decide)).trans k10_0)
  have k11_1 := (congrFun eh11x (65)).trans ((va_up_ne _ _ (by decide)).trans k10_1)
  have k11_2 := (congrFun eh11x (66)).trans ((va_up_ne _ _ (by decide)).trans k10_2)
  have k11_3 := (congrFun eh11x (67)).trans ((va_up_ne _ _ (by decide)).trans k10_3)
  have k11_4 := (congrFun eh11x (68)).trans ((va_up_ne _ _ (by decide)).trans k10_4)
  have k11_5 := (congrFun eh11x (69)).trans ((va_up_ne _ _ (by decide)).trans k10_5)
  have k11_6 : h11x (70) = some (.inr (1200, .inl (fun _ => 0))) := by rw [eh11x]; exact va_up_self _ _ _
  have S11 : zsm h h11x (zbt 64 106) := zsm.up S10 eh11x ⟨by decide, by decide⟩
  clear eh11x k10_0 k10_1 k10_2 k10_3 k10_4 k10_5 S10 h10x
  refine zp_putF (fs' := [.int (0), .ref (65), .ref (66), .ref (67), .ref (68), .ref (69), .ref (70), .null, .null, .null, .null, .null, .null, .null, .null, .null, .null, .null, .null, .null, .null, .int (0), .int (0), .int (0), .int (0), .int (0), .int (0), .int (0), .int (0), .int (0), .int (0), .int (0), .int (0), .null, .null, .null, .int (0), .null, .null, .null, .null, .null, .null, .int (0), .null, .int (0)]) dX11_init_49 pX11_26_10 rfl (by omega) k11_0 (Nat.le_of_ble_eq_true rfl) (zfit_a _ _) rfl ?_
  refine zp_nh (fun h12x eh12x => ?_)
  have k12_0 : h12x (64) = some (.inl (10, [.int (0), .ref (65), .ref (66), .ref (67), .ref (68), .ref (69), .ref (70), .null, .null, .null, .null, .null, .null, .null, .null, .null, .null, .null, .null, .null, .null, .int (0), .int (0), .int (0), .int (0), .int (0), .int (0), .int (0), .int (0), .int (0), .int (0), .int (0), .int (0), .null, .null, .null, .int (0), .null, .null, .null, .null, .null, .null, .int (0), .null, .int (0)])) := by rw [eh12x]; exact va_up_self _ _ _
  have k12_1 := (congrFun eh12x (65)).trans ((va_up_ne _ _ (by decide)).trans k11_1)
  have k12_2 := (congrFun eh12x (66)).trans ((va_up_ne _ _ (by decide)).trans k11_2)
  have k12_3 := (congrFun eh12x (67)).trans ((va_up_ne _ _ (by decide)).trans k11_3)
  have k12_4 := (congrFun eh12x (68)).trans ((va_up_ne _ _ (by decide)).trans k11_4)
  have k12_5 := (congrFun eh12x (69)).trans ((va_up_ne _ _ (by decide)).trans k11_5)
  have k12_6 := (congrFun eh12x (70)).trans ((va_up_ne _ _ (by decide)).trans k11_6)
  have S12 : zsm h h12x (zbt 64 106) := zsm.up S11 eh12x ⟨by decide, by decide⟩
  clear eh12x k11_0 k11_1 k11_2 k11_3 k11_4 k11_5 k11_6 S11 h11x
  refine zp_aload_n dX11_init_52 rfl ?_
  refine zp_bipush (v := nI (80)) dX11_init_53 (by decide) ?_
  refine zp_newl (N := 80) dX11_init_55 (nI_pos (by decide)) (nI_clamp (by decide)) (by decide) (Nat.le_of_ble_eq_true rfl) (Nat.le_of_ble_eq_true rfl) ?_
  refine zp_nn (cells' := 7) (slots' := 1405) (n' := 72) (st' := [.ref (71), .ref (64)]) rfl rfl rfl rfl ?_
  refine zp_nh (fun h13x eh13x => ?_)
  have k13_0 := (congrFun eh13x (64)).trans ((va_up_ne _ _ (by decide)).trans k12_0)
  have k13_1 := (congrFun eh13x (65)).trans ((va_up_ne _ _ (by decide)).trans k12_1)
  have k13_2 := (congrFun eh13x (66)).trans ((va_up_ne _ _ (by decide)).trans k12_2)
  have k13_3 := (congrFun eh13x (67)).trans ((va_up_ne _ _ (by decide)).trans k12_3)
  have k13_4 := (congrFun eh13x (68)).trans ((va_up_ne _ _ (by decide)).trans k12_4)
  have k13_5 := (congrFun eh13x (69)).trans ((va_up_ne _ _ (by decide)).trans k12_5)
  have k13_6 := (congrFun eh13x (70)).trans ((va_up_ne _ _ (by decide)).trans k12_6)
  have k13_7 : h13x (71) = some (.inr (80, .inr (.inl (fun _ => 0)))) := by rw [eh13x]; exact va_up_self _ _ _
  have S13 : zsm h h13x (zbt 64 106) := zsm.up S12 eh13x ⟨by decide, by decide⟩
  clear eh13x k12_0 k12_1 k12_2 k12_3 k12_4 k12_5 k12_6 S12 h12x
  refine zp_putF (fs' := [.int (0), .ref (65), .ref (66), .ref (67), .ref (68), .ref (69), .ref (70), .ref (71), .null, .null, .null, .null, .null, .null, .null, .null, .null, .null, .null, .null, .null, .int (0), .int (0), .int (0), .int (0), .int (0), .int (0), .int (0), .int (0), .int (0), .int (0), .int (0), .int (0), .null, .null, .null, .int (0), .null, .null, .null, .null, .null, .null, .int (0), .null, .int (0)]) dX11_init_57 pX11_29_10 rfl (by omega) k13_0 (Nat.le_of_ble_eq_true rfl) (zfit_a _ _) rfl ?_
  refine zp_nh (fun h14x eh14x => ?_)
  have k14_0 : h14x (64) = some (.inl (10, [.int (0), .ref (65), .ref (66), .ref (67), .ref (68), .ref (69), .ref (70), .ref (71), .null, .null, .null, .null, .null, .null, .null, .null, .null, .null, .null, .null, .null, .int (0), .int (0), .int (0), .int (0), .int (0), .int (0), .int (0), .int (0), .int (0), .int (0), .int (0), .int (0), .null, .null, .null, .int (0), .null, .null, .null, .null, .null, .null, .int (0), .null, .int (0)])) := by rw [eh14x]; exact va_up_self _ _ _
  have k14_1 := (congrFun eh14x (65)).trans ((va_up_ne _ _ (by decide)).trans k13_1)
  have k14_2 := (congrFun eh14x (66)).trans ((va_up_ne _ _ (by decide)).trans k13_2)
  have k14_3 := (congrFun eh14x (67)).trans ((va_up_ne _ _ (by decide)).trans k13_3)
  have k14_4 := (congrFun eh14x (68)).trans ((va_up_ne _ _ (by decide)).trans k13_4)
  have k14_5 := (congrFun eh14x (69)).trans ((va_up_ne _ _ (by decide)).trans k13_5)
  have k14_6 := (congrFun eh14x (70)).trans ((va_up_ne _ _ (by decide)).trans k13_6)
  have k14_7 := (congrFun eh14x (71)).trans ((va_up_ne _ _ (by decide)).trans k13_7)
  have S14 : zsm h h14x (zbt 64 106) := zsm.up S13 eh14x ⟨by decide, by decide⟩
  clear eh14x k13_0 k13_1 k13_2 k13_3 k13_4 k13_5 k13_6 k13_7 S13 h13x
  refine zp_aload_n dX11_init_60 rfl ?_
  refine zp_bipush (v := nI (8)) dX11_init_61 (by decide) ?_
  refine zp_newl (N := 8) dX11_init_63 (nI_pos (by decide)) (nI_clamp (by decide)) (by decide) (Nat.le_of_ble_eq_true rfl) (Nat.le_of_ble_eq_true rfl) ?_
  refine zp_nn (cells' := 8) (slots' := 1413) (n' := 73) (st' := [.ref (72), .ref (64)]) rfl rfl rfl rfl ?_
  refine zp_nh (fun h15x eh15x => ?_)
  have k15_0 := (congrFun eh15x (64)).trans ((va_up_ne _ _ (by decide)).trans k14_0)
  have k15_1 := (congrFun eh15x (65)).trans ((va_up_ne _ _ (by decide)).trans k14_1)
  have k15_2 := (congrFun eh15x (66)).trans ((va_up_ne _ _ (by decide)).trans k14_2)
  have k15_3 := (congrFun eh15x (67)).trans ((va_up_ne _ _ (by decide)).trans k14_3)
  have k15_4 := (congrFun eh15x (68)).trans ((va_up_ne _ _ (by decide)).trans k14_4)
  have k15_5 := (congrFun eh15x (69)).trans ((va_up_ne _ _ (by decide)).trans k14_5)
  have k15_6 := (congrFun eh15x (70)).trans ((va_up_ne _ _ (by decide)).trans k14_6)
  have k15_7 := (congrFun eh15x (71)).trans ((va_up_ne _ _ (by decide)).trans k14_7)
  have k15_8 : h15x (72) = some (.inr (8, .inr (.inl (fun _ => 0)))) := by rw [eh15x]; exact va_up_self _ _ _
  have S15 : zsm h h15x (zbt 64 106) := zsm.up S14 eh15x ⟨by decide, by decide⟩
  clear eh15x k14_0 k14_1 k14_2 k14_3 k14_4 k14_5 k14_6 k14_7 S14 h14x
  refine zp_putF (fs' := [.int (0), .ref (65), .ref (66), .ref (67), .ref (68), .ref (69), .ref (70), .ref (71), .ref (72), .null, .null, .null, .null, .null, .null, .null, .null, .null, .null, .null, .null, .int (0), .int (0), .int (0), .int (0), .int (0), .int (0), .int (0), .int (0), .int (0), .int (0), .int (0), .int (0), .null, .null, .null, .int (0), .null, .null, .null, .null, .null, .null, .int (0), .null, .int (0)]) dX11_init_65 pX11_32_10 rfl (by omega) k15_0 (Nat.le_of_ble_eq_true rfl) (zfit_a _ _) rfl ?_
  refine zp_nh (fun h16x eh16x => ?_)
  have k16_0 : h16x (64) = some (.inl (10, [.int (0), .ref (65), .ref (66), .ref (67), .ref (68), .ref (69), .ref (70), .ref (71), .ref (72), .null, .null, .null, .null, .null, .null, .null, .null, .null, .null, .null, .null, .int (0), .int (0), .int (0), .int (0), .int (0), .int (0), .int (0), .int (0), .int (0), .int (0), .int (0), .int (0), .null, .null, .null, .int (0), .null, .null, .null, .null, .null, .null, .int (0), .null, .int (0)])) := by rw [eh16x]; exact va_up_self _ _ _
  have k16_1 := (congrFun eh16x (65)).trans ((va_up_ne _ _ (by decide)).trans k15_1)
  have k16_2 := (congrFun eh16x (66)).trans ((va_up_ne _ _ (by decide)).trans k15_2)
  have k16_3 := (congrFun eh16x (67)).trans ((va_up_ne _ _ (by decide)).trans k15_3)
  have k16_4 := (congrFun eh16x (68)).trans ((va_up_ne _ _ (by decide)).trans k15_4)
  have k16_5 := (congrFun eh16x (69)).trans ((va_up_ne _ _ (by decide)).trans k15_5)
  have k16_6 := (congrFun eh16x (70)).trans ((va_up_ne _ _ (by decide)).trans k15_6)
  have k16_7 := (congrFun eh16x (71)).trans ((va_up_ne _ _ (by decide)).trans k15_7)
  have k16_8 := (congrFun eh16x (72)).trans ((va_up_ne _ _ (by decide)).trans k15_8)
  have S16 : zsm h h16x (zbt 64 106) := zsm.up S15 eh16x ⟨by decide, by decide⟩
  clear eh16x k15_0 k15_1 k15_2 k15_3 k15_4 k15_5 k15_6 k15_7 k15_8 S15 h15x
  refine zp_aload_n dX11_init_68 rfl ?_
  refine zp_bipush (v := nI (8)) dX11_init_69 (by decide) ?_
  refine zp_newl (N := 8) dX11_init_71 (nI_pos (by decide)) (nI_clamp (by decide)) (by decide) (Nat.le_of_ble_eq_true rfl) (Nat.le_of_ble_eq_true rfl) ?_
  refine zp_nn (cells' := 9) (slots' := 1421) (n' := 74) (st' := [.ref (73), .ref (64)]) rfl rfl rfl rfl ?_
  refine zp_nh (fun h17x eh17x => ?_)
  have k17_0 := (congrFun eh17x (64)).trans ((va_up_ne _ _ (by decide)).trans k16_0)
  have k17_1 := (congrFun eh17x (65)).trans ((va_up_ne _ _ (by decide)).trans k16_1)
  have k17_2 := (congrFun eh17x (66)).trans ((va_up_ne _ _ (by decide)).trans k16_2)
  have k17_3 := (congrFun eh17x (67)).trans ((va_up_ne _ _ (by decide)).trans k16_3)
  have k17_4 := (congrFun eh17x (68)).trans ((va_up_ne _ _ (by decide)).trans k16_4)
  have k17_5 := (congrFun eh17x (69)).trans ((va_up_ne _ _ (by decide)).trans k16_5)
  have k17_6 := (congrFun eh17x (70)).trans ((va_up_ne _ _ (by decide)).trans k16_6)
  have k17_7 := (congrFun eh17x (71)).trans ((va_up_ne _ _ (by decide)).trans k16_7)
  have k17_8 := (congrFun eh17x (72)).trans ((va_up_ne _ _ (by decide)).trans k16_8)
  have k17_9 : h17x (73) = some (.inr (8, .inr (.inl (fun _ => 0)))) := by rw [eh17x]; exact va_up_self _ _ _
  have S17 : zsm h h17x (zbt 64 106) := zsm.up S16 eh17x ⟨by decide, by decide⟩
  clear eh17x k16_0 k16_1 k16_2 k16_3 k16_4 k16_5 k16_6 k16_7 k16_8 S16 h16x
  refine zp_putF (fs' := [.int (0), .ref (65), .ref (66), .ref (67), .ref (68), .ref (69), .ref (70), .ref (71), .ref (72), .ref (73), .null, .null, .null, .null, .null, .null, .null, .null, .null, .null, .null, .int (0), .int (0), .int (0), .int (0), .int (0), .int (0), .int (0), .int (0), .int (0), .int (0), .int (0), .int (0), .null, .null, .null, .int (0), .null, .null, .null, .null, .null, .null, .int (0), .null, .int (0)]) dX11_init_73 pX11_35_10 rfl (by omega) k17_0 (Nat.le_of_ble_eq_true rfl) (zfit_a _ _) rfl ?_
  refine zp_nh (fun h18x eh18x => ?_)
  have k18_0 : h18x (64) = some (.inl (10, [.int (0), .ref (65), .ref (66), .ref (67), .ref (68), .ref (69), .ref (70), .ref (71), .ref (72), .ref (73), .null, .null, .null, .null, .null, .null, .null, .null, .null, .null, .null, .int (0), .int (0), .int (0), .int (0), .int (0), .int (0), .int (0), .int (0), .int (0), .int (0), .int (0), .int (0), .null, .null, .null, .int (0), .null, .null, .null, .null, .null, .null, .int (0), .null, .int (0)])) := by rw [eh18x]; exact va_up_self _ _ _
  have k18_1 := (congrFun eh18x (65)).trans ((va_up_ne _ _ (by decide)).trans k17_1)
  have k18_2 := (congrFun eh18x (66)).trans ((va_up_ne _ _ (by decide)).trans k17_2)
  have k18_3 := (congrFun eh18x (67)).trans ((va_up_ne _ _ (by decide)).trans k17_3)
  have k18_4 := (congrFun eh18x (68)).trans ((va_up_ne _ _ (by decide)).trans k17_4)
  have k18_5 := (congrFun eh18x (69)).trans ((va_up_ne _ _ (by decide)).trans k17_5)
  have k18_6 := (congrFun eh18x (70)).trans ((va_up_ne _ _ (by decide)).trans k17_6)
  have k18_7 := (congrFun eh18x (71)).trans ((va_up_ne _ _ (by decide)).trans k17_7)
  have k18_8 := (congrFun eh18x (72)).trans ((va_up_ne _ _ (by decide)).trans k17_8)
  have k18_9 := (congrFun eh18x (73)).trans ((va_up_ne _ _ (by decide)).trans k17_9)
  have S18 : zsm h h18x (zbt 64 106) := zsm.up S17 eh18x ⟨by decide, by decide⟩
  clear eh18x k17_0 k17_1 k17_2 k17_3 k17_4 k17_5 k17_6 k17_7 k17_8 k17_9 S17 h17x
  refine zp_aload_n dX11_init_76 rfl ?_
  refine zp_bipush (v := nI (64)) dX11_init_77 (by decide) ?_
  refine zp_newi (N := 64) dX11_init_79 (nI_pos (by decide)) (nI_clamp (by decide)) (by decide) (Nat.le_of_ble_eq_true rfl) (Nat.le_of_ble_eq_true rfl) ?_
  refine zp_nn (cells' := 10) (slots' := 1485) (n' := 75) (st' := [.ref (74), .ref (64)]) rfl rfl rfl rfl ?_
  refine zp_nh (fun h19x eh19x => ?_)
  have k19_0 := (congrFun eh19x (64)).trans ((va_up_ne _ _ (by decide)).trans k18_0)
  have k19_1 := (congrFun eh19x (65)).trans ((va_up_ne _ _ (by decide)).trans k18_1)
  have k19_2 := (congrFun eh19x (66)).trans ((va_up_ne _ _ (by decide)).trans k18_2)
  have k19_3 := (congrFun eh19x (67)).trans ((va_up_ne _ _ (by decide)).trans k18_3)
  have k19_4 := (congrFun eh19x (68)).trans ((va_up_ne _ _ (by decide)).trans k18_4)
  have k19_5 := (congrFun eh19x (69)).trans ((va_up_ne _ _ (by decide)).trans k18_5)
  have k19_6 := (congrFun eh19x (70)).trans ((va_up_ne _ _ (by decide)).trans k18_6)
  have k19_7 := (congrFun eh19x (71)).trans ((va_up_ne _ _ (by decide)).trans k18_7)
  have k19_8 := (congrFun eh19x (72)).trans ((va_up_ne _ _ (by decide)).trans k18_8)
  have k19_9 := (congrFun eh19x (73)).trans ((va_up_ne _ _ (by decide)).trans k18_9)
  have k19_10 : h19x (74) = some (.inr (64, .inl (fun _ => 0))) := by rw [eh19x]; exact va_up_self _ _ _
  have S19 : zsm h h19x (zbt 64 106) := zsm.up S18 eh19x ⟨by decide, by decide⟩
  clear eh19x k18_0 k18_1 k18_2 k18_3 k18_4 k18_5 k18_6 k18_7 k18_8 k18_9 S18 h18x
  refine zp_putF (fs' := [.int (0), .ref (65), .ref (66), .ref (67), .ref (68), .ref (69), .ref (70), .ref (71), .ref (72), .ref (73), .ref (74), .null, .null, .null, .null, .null, .null, .null, .null, .null, .null, .int (0), .int (0), .int (0), .int (0), .int (0), .int (0), .int (0), .int (0), .int (0), .int (0), .int (0), .int (0), .null, .null, .null, .int (0), .null, .null, .null, .null, .null, .null, .int (0), .null, .int (0)]) dX11_init_81 pX11_38_10 rfl (by omega) k19_0 (Nat.le_of_ble_eq_true rfl) (zfit_a _ _) rfl ?_
  refine zp_nh (fun h20x eh20x => ?_)
  have k20_0 : h20x (64) = some (.inl (10, [.int (0), .ref (65), .ref (66), .ref (67), .ref (68), .ref (69), .ref (70), .ref (71), .ref (72), .ref (73), .ref (74), .null, .null, .null, .null, .null, .null, .null, .null, .null, .null, .int (0), .int (0), .int (0), .int (0), .int (0), .int (0), .int (0), .int (0), .int (0), .int (0), .int (0), .int (0), .null, .null, .null, .int (0), .null, .null, .null, .null, .null, .null, .int (0), .null, .int (0)])) := by rw [eh20x]; exact va_up_self _ _ _
  have k20_1 := (congrFun eh20x (65)).trans ((va_up_ne _ _ (by decide)).trans k19_1)
  have k20_2 := (congrFun eh20x (66)).trans ((va_up_ne _ _ (by decide)).trans k19_2)
  have k20_3 := (congrFun eh20x (67)).trans ((va_up_ne _ _ (by decide)).trans k19_3)
  have k20_4 := (congrFun eh20x (68)).trans ((va_up_ne _ _ (by decide)).trans k19_4)
  have k20_5 := (congrFun eh20x (69)).trans ((va_up_ne _ _ (by decide)).trans k19_5)
  have k20_6 := (congrFun eh20x (70)).trans ((va_up_ne _ _ (by decide)).trans k19_6)
  have k20_7 := (congrFun eh20x (71)).trans ((va_up_ne _ _ (by decide)).trans k19_7)
  have k20_8 := (congrFun eh20x (72)).trans ((va_up_ne _ _ (by decide)).trans k19_8)
  have k20_9 := (congrFun eh20x (73)).trans ((va_up_ne _ _ (by decide)).trans k19_9)
  have k20_10 := (congrFun eh20x (74)).trans ((va_up_ne _ _ (by decide)).trans k19_10)
  have S20 : zsm h h20x (zbt 64 106) := zsm.up S19 eh20x ⟨by decide, by decide⟩
  clear eh20x k19_0 k19_1 k19_2 k19_3 k19_4 k19_5 k19_6 k19_7 k19_8 k19_9 k19_10 S19 h19x
  refine zp_aload_n dX11_init_84 rfl ?_
  refine zp_sipush (v := nI (1000)) dX11_init_85 (by decide) ?_
  refine zp_newi (N := 1000) dX11_init_88 (nI_pos (by decide)) (nI_clamp (by decide)) (by decide) (Nat.le_of_ble_eq_true rfl) (Nat.le_of_ble_eq_true rfl) ?_
  refine zp_nn (cells' := 11) (slots' := 2485) (n' := 76) (st' := [.ref (75), .ref (64)]) rfl rfl rfl rfl ?_
  refine zp_nh (fun h21x eh21x => ?_)
  have k21_0 := (congrFun eh21x (64)).trans ((va_up_ne _ _ (by decide)).trans k20_0)
  have k21_1 := (congrFun eh21x (65)).trans ((va_up_ne _ _ (by decide)).trans k20_1)
  have k21_2 := (congrFun eh21x (66)).trans ((va_up_ne _ _ (by decide)).trans k20_2)
  have k21_3 := (congrFun eh21x (67)).trans ((va_up_ne _ _ (by decide)).trans k20_3)
  have k21_4 := (congrFun eh21x (68)).trans ((va_up_ne _ _ (by decide)).trans k20_4)
  have k21_5 := (congrFun eh21x (69)).trans ((va_up_ne _ _ (by decide)).trans k20_5)
  have k21_6 := (congrFun eh21x (70)).trans ((va_up_ne _ _ (by decide)).trans k20_6)
  have k21_7 := (congrFun eh21x (71)).trans ((va_up_ne _ _ (by decide)).trans k20_7)
  have k21_8 := (congrFun eh21x (72)).trans ((va_up_ne _ _ (by decide)).trans k20_8)
  have k21_9 := (congrFun eh21x (73)).trans ((va_up_ne _ _ (by decide)).trans k20_9)
  have k21_10 := (congrFun eh21x (74)).trans ((va_up_ne _ _ (by decide)).trans k20_10)
  have k21_11 : h21x (75) = some (.inr (1000, .inl (fun _ => 0))) := by rw [eh21x]; exact va_up_self _ _ _
  have S21 : zsm h h21x (zbt 64 106) := zsm.up S20 eh21x ⟨by decide, by decide⟩
  clear eh21x k20_0 k20_1 k20_2 k20_3 k20_4 k20_5 k20_6 k20_7 k20_8 k20_9 k20_10 S20 h20x
  refine zp_putF (fs' := [.int (0), .ref (65), .ref (66), .ref (67), .ref (68), .ref (69), .ref (70), .ref (71), .ref (72), .ref (73), .ref (74), .ref (75), .null, .null, .null, .null, .null, .null, .null, .null, .null, .int (0), .int (0), .int (0), .int (0), .int (0), .int (0), .int (0), .int (0), .int (0), .int (0), .int (0), .int (0), .null, .null, .null, .int (0), .null, .null, .null, .null, .null, .null, .int (0), .null, .int (0)]) dX11_init_90 pX11_41_10 rfl (by omega) k21_0 (Nat.le_of_ble_eq_true rfl) (zfit_a _ _) rfl ?_
  refine zp_nh (fun h22x eh22x => ?_)
  have k22_0 : h22x (64) = some (.inl (10, [.int (0), .ref (65), .ref (66), .ref (67), .ref (68), .ref (69), .ref (70), .ref (71), .ref (72), .ref (73), .ref (74), .ref (75), .null, .null, .null, .null, .null, .null, .null, .null, .null, .int (0), .int (0), .int (0), .int (0), .int (0), .int (0), .int (0), .int (0), .int (0), .int (0), .int (0), .int (0), .null, .null, .null, .int (0), .null, .null, .null, .null, .null, .null, .int (0), .null, .int (0)])) := by rw [eh22x]; exact va_up_self _ _ _
  have k22_1 := (congrFun eh22x (65)).trans ((va_up_ne _ _ (by decide)).trans k21_1)
  have k22_2 := (congrFun eh22x (66)).trans ((va_up_ne _ _ (by decide)).trans k21_2)
  have k22_3 := (congrFun eh22x (67)).trans ((va_up_ne _ _ (by decide)).trans k21_3)
  have k22_4 := (congrFun eh22x (68)).trans ((va_up_ne _ _ (by decide)).trans k21_4)
  have k22_5 := (congrFun eh22x (69)).trans ((va_up_ne _ _ (by decide)).trans k21_5)
  have k22_6 := (congrFun eh22x (70)).trans ((va_up_ne _ _ (by decide)).trans k21_6)
  have k22_7 := (congrFun eh22x (71)).trans ((va_up_ne _ _ (by decide)).trans k21_7)
  have k22_8 := (congrFun eh22x (72)).trans ((va_up_ne _ _ (by decide)).trans k21_8)
  have k22_9 := (congrFun eh22x (73)).trans ((va_up_ne _ _ (by decide)).trans k21_9)
  have k22_10 := (congrFun eh22x (74)).trans ((va_up_ne _ _ (by decide)).trans k21_10)
  have k22_11 := (congrFun eh22x (75)).trans ((va_up_ne _ _ (by decide)).trans k21_11)
  have S22 : zsm h h22x (zbt 64 106) := zsm.up S21 eh22x ⟨by decide, by decide⟩
  clear eh22x k21_0 k21_1 k21_2 k21_3 k21_4 k21_5 k21_6 k21_7 k21_8 k21_9 k21_10 k21_11 S21 h21x
  refine zp_aload_n dX11_init_93 rfl ?_
  refine zp_sipush (v := nI (1000)) dX11_init_94 (by decide) ?_
  refine zp_newi (N := 1000) dX11_init_97 (nI_pos (by decide)) (nI_clamp (by decide)) (by decide) (Nat.le_of_ble_eq_true rfl) (Nat.le_of_ble_eq_true rfl) ?_
  refine zp_nn (cells' := 12) (slots' := 3485) (n' := 77) (st' := [.ref (76), .ref (64)]) rfl rfl rfl rfl ?_
  refine zp_nh (fun h23x eh23x => ?_)
  have k23_0 := (congrFun eh23x (64)).trans ((va_up_ne _ _ (by decide)).trans k22_0)
  have k23_1 := (congrFun eh23x (65)).trans ((va_up_ne _ _ (by decide)).trans k22_1)
  have k23_2 := (congrFun eh23x (66)).trans ((va_up_ne _ _ (by decide)).trans k22_2)
  have k23_3 := (congrFun eh23x (67)).trans ((va_up_ne _ _ (by decide)).trans k22_3)
  have k23_4 := (congrFun eh23x (68)).trans ((va_up_ne _ _ (by decide)).trans k22_4)
  have k23_5 := (congrFun eh23x (69)).trans ((va_up_ne _ _ (by decide)).trans k22_5)
  have k23_6 := (congrFun eh23x (70)).trans ((va_up_ne _ _ (by decide)).trans k22_6)
  have k23_7 := (congrFun eh23x (71)).trans ((va_up_ne _ _ (by decide)).trans k22_7)
  have k23_8 := (congrFun eh23x (72)).trans ((va_up_ne _ _ (by decide)).trans k22_8)
  have k23_9 := (congrFun eh23x (73)).trans ((va_up_ne _ _ (by decide)).trans k22_9)
  have k23_10 := (congrFun eh23x (74)).trans ((va_up_ne _ _ (by decide)).trans k22_10)
  have k23_11 := (congrFun eh23x (75)).trans ((va_up_ne _ _ (by decide)).trans k22_11)
  have k23_12 : h23x (76) = some (.inr (1000, .inl (fun _ => 0))) := by rw [eh23x]; exact va_up_self _ _ _
  have S23 : zsm h h23x (zbt 64 106) := zsm.up S22 eh23x ⟨by decide, by decide⟩
  clear eh23x k22_0 k22_1 k22_2 k22_3 k22_4 k22_5 k22_6 k22_7 k22_8 k22_9 k22_10 k22_11 S22 h22x
  refine zp_putF (fs' := [.int (0), .ref (65), .ref (66), .ref (67), .ref (68), .ref (69), .ref (70), .ref (71), .ref (72), .ref (73), .ref (74), .ref (75), .ref (76), .null, .null, .null, .null, .null, .null, .null, .null, .int (0), .int (0), .int (0), .int (0), .int (0), .int (0), .int (0), .int (0), .int (0), .int (0), .int (0), .int (0), .null, .null, .null, .int (0), .null, .null, .null, .null, .null, .null, .int (0), .null, .int (0)]) dX11_init_99 pX11_44_10 rfl (by omega) k23_0 (Nat.le_of_ble_eq_true rfl) (zfit_a _ _) rfl ?_
  refine zp_nh (fun h24x eh24x => ?_)
  have k24_0 : h24x (64) = some (.inl (10, [.int (0), .ref (65), .ref (66), .ref (67), .ref (68), .ref (69), .ref (70), .ref (71), .ref (72), .ref (73), .ref (74), .ref (75), .ref (76), .null, .null, .null, .null, .null, .null, .null, .null, .int (0), .int (0), .int (0), .int (0), .int (0), .int (0), .int (0), .int (0), .int (0), .int (0), .int (0), .int (0), .null, .null, .null, .int (0), .null, .null, .null, .null, .null, .null, .int (0), .null, .int (0)])) := by rw [eh24x]; exact va_up_self _ _ _
  have k24_1 := (congrFun eh24x (65)).trans ((va_up_ne _ _ (by decide)).trans k23_1)
  have k24_2 := (congrFun eh24x (66)).trans ((va_up_ne _ _ (by decide)).trans k23_2)
  have k24_3 := (congrFun eh24x (67)).trans ((va_up_ne _ _ (by decide)).trans k23_3)
  have k24_4 := (congrFun eh24x (68)).trans ((va_up_ne _ _ (by decide)).trans k23_4)
  have k24_5 := (congrFun eh24x (69)).trans ((va_up_ne _ _ (by decide)).trans k23_5)
  have k24_6 := (congrFun eh24x (70)).trans ((va_up_ne _ _ (by decide)).trans k23_6)
  have k24_7 := (congrFun eh24x (71)).trans ((va_up_ne _ _ (by decide)).trans k23_7)
  have k24_8 := (congrFun eh24x (72)).trans ((va_up_ne _ _ (by decide)).trans k23_8)
  have k24_9 := (congrFun eh24x (73)).trans ((va_up_ne _ _ (by decide)).trans k23_9)
  have k24_10 := (congrFun eh24x (74)).trans ((va_up_ne _ _ (by decide)).trans k23_10)
  have k24_11 := (congrFun eh24x (75)).trans ((va_up_ne _ _ (by decide)).trans k23_11)
  have k24_12 := (congrFun eh24x (76)).trans ((va_up_ne _ _ (by decide)).trans k23_12)
  have S24 : zsm h h24x (zbt 64 106) := zsm.up S23 eh24x ⟨by decide, by decide⟩
  clear eh24x k23_0 k23_1 k23_2 k23_3 k23_4 k23_5 k23_6 k23_7 k23_8 k23_9 k23_10 k23_11 k23_12 S23 h23x
  refine zp_aload_n dX11_init_102 rfl ?_
  refine zp_sipush (v := nI (256)) dX11_init_103 (by decide) ?_
  refine zp_newi (N := 256) dX11_init_106 (nI_pos (by decide)) (nI_clamp (by decide)) (by decide) (Nat.le_of_ble_eq_true rfl) (Nat.le_of_ble_eq_true rfl) ?_
  refine zp_nn (cells' := 13) (slots' := 3741) (n' := 78) (st' := [.ref (77), .ref (64)]) rfl rfl rfl rfl ?_
  refine zp_nh (fun h25x eh25x => ?_)
  have k25_0 := (congrFun eh25x (64)).trans ((va_up_ne _ _ (by decide)).trans k24_0)
  have k25_1 := (congrFun eh25x (65)).trans ((va_up_ne _ _ (by decide)).trans k24_1)
  have k25_2 := (congrFun eh25x (66)).trans ((va_up_ne _ _ (by decide)).trans k24_2)
  have k25_3 := (congrFun eh25x (67)).trans ((va_up_ne _ _ (by decide)).trans k24_3)
  have k25_4 := (congrFun eh25x (68)).trans ((va_up_ne _ _ (by decide)).trans k24_4)
  have k25_5 := (congrFun eh25x (69)).trans ((va_up_ne _ _ (by decide)).trans k24_5)
  have k25_6 := (congrFun eh25x (70)).trans ((va_up_ne _ _ (by decide)).trans k24_6)
  have k25_7 := (congrFun eh25x (71)).trans ((va_up_ne _ _ (by decide)).trans k24_7)
  have k25_8 := (congrFun eh25x (72)).trans ((va_up_ne _ _ (by decide)).trans k24_8)
  have k25_9 := (congrFun eh25x (73)).trans ((va_up_ne _ _ (by decide)).trans k24_9)
  have k25_10 := (congrFun eh25x (74)).trans ((va_up_ne _ _ (by decide)).trans k24_10)
  have k25_11 := (congrFun eh25x (75)).trans ((va_up_ne _ _ (by decide)).trans k24_11)
  have k25_12 := (congrFun eh25x (76)).trans ((va_up_ne _ _ (by decide)).trans k24_12)
  have k25_13 : h25x (77) = some (.inr (256, .inl (fun _ => 0))) := by rw [eh25x]; exact va_up_self _ _ _
  have S25 : zsm h h25x (zbt 64 106) := zsm.up S24 eh25x ⟨by decide, by decide⟩
  clear eh25x k24_0 k24_1 k24_2 k24_3 k24_4 k24_5 k24_6 k24_7 k24_8 k24_9 k24_10 k24_11 k24_12 S24 h24x
  refine zp_putF (fs' := [.int (0), .ref (65), .ref (66), .ref (67), .ref (68), .ref (69), .ref (70), .ref (71), .ref (72), .ref (73), .ref (74), .ref (75), .ref (76), .ref (77), .null, .null, .null, .null, .null, .null, .null, .int (0), .int (0), .int (0), .int (0), .int (0), .int (0), .int (0), .int (0), .int (0), .int (0), .int (0), .int (0), .null, .null, .null, .int (0), .null, .null, .null, .null, .null, .null, .int (0), .null, .int (0)]) dX11_init_108 pX11_47_10 rfl (by omega) k25_0 (Nat.le_of_ble_eq_true rfl) (zfit_a _ _) rfl ?_
  refine zp_nh (fun h26x eh26x => ?_)
  have k26_0 : h26x (64) = some (.inl (10, [.int (0), .ref (65), .ref (66), .ref (67), .ref (68), .ref (69), .ref (70), .ref (71), .ref (72), .ref (73), .ref (74), .ref (75), .ref (76), .ref (77), .null, .null, .null, .null, .null, .null, .null, .int (0), .int (0), .int (0), .int (0), .int (0), .int (0), .int (0), .int (0), .int (0), .int (0), .int (0), .int (0), .null, .null, .null, .int (0), .null, .null, .null, .null, .null, .null, .int (0), .null, .int (0)])) := by rw [eh26x]; exact va_up_self _ _ _
  have k26_1 := (congrFun eh26x (65)).trans ((va_up_ne _ _ (by decide)).trans k25_1)
  have k26_2 := (congrFun eh26x (66)).trans ((va_up_ne _ _ (by decide)).trans k25_2)
  have k26_3 := (congrFun eh26x (67)).trans ((va_up_ne _ _ (by decide)).trans k25_3)
  have k26_4 := (congrFun eh26x (68)).trans ((va_up_ne _ _ (by decide)).trans k25_4)
  have k26_5 := (congrFun eh26x (69)).trans ((va_up_ne _ _ (by decide)).trans k25_5)
  have k26_6 := (congrFun eh26x (70)).trans ((va_up_ne _ _ (by decide)).trans k25_6)
  have k26_7 := (congrFun eh26x (71)).trans ((va_up_ne _ _ (by decide)).trans k25_7)
  have k26_8 := (congrFun eh26x (72)).trans ((va_up_ne _ _ (by decide)).trans k25_8)
  have k26_9 := (congrFun eh26x (73)).trans ((va_up_ne _ _ (by decide)).trans k25_9)
  have k26_10 := (congrFun eh26x (74)).trans ((va_up_ne _ _ (by decide)).trans k25_10)
  have k26_11 := (congrFun eh26x (75)).trans ((va_up_ne _ _ (by decide)).trans k25_11)
  have k26_12 := (congrFun eh26x (76)).trans ((va_up_ne _ _ (by decide)).trans k25_12)
  have k26_13 := (congrFun eh26x (77)).trans ((va_up_ne _ _ (by decide)).trans k25_13)
  have S26 : zsm h h26x (zbt 64 106) := zsm.up S25 eh26x ⟨by decide, by decide⟩
  clear eh26x k25_0 k25_1 k25_2 k25_3 k25_4 k25_5 k25_6 k25_7 k25_8 k25_9 k25_10 k25_11 k25_12 k25_13 S25 h25x
  refine zp_aload_n dX11_init_111 rfl ?_
  refine zp_sipush (v := nI (240)) dX11_init_112 (by decide) ?_
  refine zp_newi (N := 240) dX11_init_115 (nI_pos (by decide)) (nI_clamp (by decide)) (by decide) (Nat.le_of_ble_eq_true rfl) (Nat.le_of_ble_eq_true rfl) ?_
  refine zp_nn (cells' := 14) (slots' := 3981) (n' := 79) (st' := [.ref (78), .ref (64)]) rfl rfl rfl rfl ?_
  refine zp_nh (fun h27x eh27x => ?_)
  have k27_0 := (congrFun eh27x (64)).trans ((va_up_ne _ _ (by decide)).trans k26_0)
  have k27_1 := (congrFun eh27x (65)).trans ((va_up_ne _ _ (by decide)).trans k26_1)
  have k27_2 := (congrFun eh27x (66)).trans ((va_up_ne _ _ (by decide)).trans k26_2)
  have k27_3 := (congrFun eh27x (67)).trans ((va_up_ne _ _ (by decide)).trans k26_3)
  have k27_4 := (congrFun eh27x (68)).trans ((va_up_ne _ _ (by decide)).trans k26_4)
  have k27_5 := (congrFun eh27x (69)).trans ((va_up_ne _ _ (by decide)).trans k26_5)
  have k27_6 := (congrFun eh27x (70)).trans ((va_up_ne _ _ (by decide)).trans k26_6)
  have k27_7 := (congrFun eh27x (71)).trans ((va_up_ne _ _ (by decide)).trans k26_7)
  have k27_8 := (congrFun eh27x (72)).trans ((va_up_ne _ _ (by decide)).trans k26_8)
  have k27_9 := (congrFun eh27x (73)).trans ((va_up_ne _ _ (by decide)).trans k26_9)
  have k27_10 := (congrFun eh27x (74)).trans ((va_up_ne _ _ (by decide)).trans k26_10)
  have k27_11 := (congrFun eh27x (75)).trans ((va_up_ne _ _ (by decide)).trans k26_11)
  have k27_12 := (congrFun eh27x (76)).trans ((va_up_ne _ _ (by decide)).trans k26_12)
  have k27_13 := (congrFun eh27x (77)).trans ((va_up_ne _ _ (by decide)).trans k26_13)
  have k27_14 : h27x (78) = some (.inr (240, .inl (fun _ => 0))) := by rw [eh27x]; exact va_up_self _ _ _
  have S27 : zsm h h27x (zbt 64 106) := zsm.up S26 eh27x ⟨by decide, by decide⟩
  clear eh27x k26_0 k26_1 k26_2 k26_3 k26_4 k26_5 k26_6 k26_7 k26_8 k26_9 k26_10 k26_11 k26_12 k26_13 S26 h26x
  refine zp_putF (fs' := [.int (0), .ref (65), .ref (66), .ref (67), .ref (68), .ref (69), .ref (70), .ref (71), .ref (72), .ref (73), .ref (74), .ref (75), .ref (76), .ref (77), .ref (78), .null, .null, .null, .null, .null, .null, .int (0), .int (0), .int (0), .int (0), .int (0), .int (0), .int (0), .int (0), .int (0), .int (0), .int (0), .int (0), .null, .null, .null, .int (0), .null, .null, .null, .null, .null, .null, .int (0), .null, .int (0)]) dX11_init_117 pX11_50_10 rfl (by omega) k27_0 (Nat.le_of_ble_eq_true rfl) (zfit_a _ _) rfl ?_
  refine zp_nh (fun h28x eh28x => ?_)
  have k28_0 : h28x (64) = some (.inl (10, [.int (0), .ref (65), .ref (66), .ref (67), .ref (68), .ref (69), .ref (70), .ref (71), .ref (72), .ref (73), .ref (74), .ref (75), .ref (76), .ref (77), .ref (78), .null, .null, .null, .null, .null, .null, .int (0), .int (0), .int (0), .int (0), .int (0), .int (0), .int (0), .int (0), .int (0), .int (0), .int (0), .int (0), .null, .null, .null, .int (0), .null, .null, .null, .null, .null, .null, .int (0), .null, .int (0)])) := by rw [eh28x]; exact va_up_self _ _ _
  have k28_1 := (congrFun eh28x (65)).trans ((va_up_ne _ _ (by decide)).trans k27_1)
  have k28_2 := (congrFun eh28x (66)).trans ((va_up_ne _ _ (by decide)).trans k27_2)
  have k28_3 := (congrFun eh28x (67)).trans ((va_up_ne _ _ (by decide)).trans k27_3)
  have k28_4 := (congrFun eh28x (68)).trans ((va_up_ne _ _ (by decide)).trans k27_4)
  have k28_5 := (congrFun eh28x (69)).trans ((va_up_ne _ _ (by decide)).trans k27_5)
  have k28_6 := (congrFun eh28x (70)).trans ((va_up_ne _ _ (by decide)).trans k27_6)
  have k28_7 := (congrFun eh28x (71)).trans ((va_up_ne _ _ (by decide)).trans k27_7)
  have k28_8 := (congrFun eh28x (72)).trans ((va_up_ne _ _ (by decide)).trans k27_8)
  have k28_9 := (congrFun eh28x (73)).trans ((va_up_ne _ _ (by decide)).trans k27_9)
  have k28_10 := (congrFun eh28x (74)).trans ((va_up_ne _ _ (by decide)).trans k27_10)
  have k28_11 := (congrFun eh28x (75)).trans ((va_up_ne _ _ (by decide)).trans k27_11)
  have k28_12 := (congrFun eh28x (76)).trans ((va_up_ne _ _ (by decide)).trans k27_12)
  have k28_13 := (congrFun eh28x (77)).trans ((va_up_ne _ _ (by decide)).trans k27_13)
  have k28_14 := (congrFun eh28x (78)).trans ((va_up_ne _ _ (by decide)).trans k27_14)
  have S28 : zsm h h28x (zbt 64 106) := zsm.up S27 eh28x ⟨by decide, by decide⟩
  clear eh28x k27_0 k27_1 k27_2 k27_3 k27_4 k27_5 k27_6 k27_7 k27_8 k27_9 k27_10 k27_11 k27_12 k27_13 k27_14 S27 h27x
  refine zp_aload_n dX11_init_120 rfl ?_
  refine zp_bipush (v := nI (16)) dX11_init_121 (by decide) ?_
  refine zp_newi (N := 16) dX11_init_123 (nI_pos (by decide)) (nI_clamp (by decide)) (by decide) (Nat.le_of_ble_eq_true rfl) (Nat.le_of_ble_eq_true rfl) ?_
  refine zp_nn (cells' := 15) (slots' := 3997) (n' := 80) (st' := [.ref (79), .ref (64)]) rfl rfl rfl rfl ?_
  refine zp_nh (fun h29x eh29x => ?_)
  have k29_0 := (congrFun eh29x (64)).trans ((va_up_ne _ _ (by decide)).trans k28_0)
  have k29_1 := (congrFun eh29x (65)).trans ((va_up_ne _ _ (by decide)).trans k28_1)
  have k29_2 := (congrFun eh29x (66)).trans ((va_up_ne _ _ (by decide)).trans k28_2)
  have k29_3 := (congrFun eh29x (67)).trans ((va_up_ne _ _ (by decide)).trans k28_3)
  have k29_4 := (congrFun eh29x (68)).trans ((va_up_ne _ _ (by decide)).trans k28_4)
  have k29_5 := (congrFun eh29x (69)).trans ((va_up_ne _ _ (by decide)).trans k28_5)
  have k29_6 := (congrFun eh29x (70)).trans ((va_up_ne _ _ (by decide)).trans k28_6)
  have k29_7 := (congrFun eh29x (71)).trans ((va_up_ne _ _ (by decide)).trans k28_7)
  have k29_8 := (congrFun eh29x (72)).trans ((va_up_ne _ _ (by decide)).trans k28_8)
  have k29_9 := (congrFun eh29x (73)).trans ((va_up_ne _ _ (by decide)).trans k28_9)
  have k29_10 := (congrFun eh29x (74)).trans ((va_up_ne _ _ (by decide)).trans k28_10)
  have k29_11 := (congrFun eh29x (75)).trans ((va_up_ne _ _ (by decide)).trans k28_11)
  have k29_12 := (congrFun eh29x (76)).trans ((va_up_ne _ _ (by decide)).trans k28_12)
  have k29_13 := (congrFun eh29x (77)).trans ((va_up_ne _ _ (by decide)).trans k28_13)
  have k29_14 := (congrFun eh29x (78)).trans ((va_up_ne _ _ (by decide)).trans k28_14)
  have k29_15 : h29x (79) = some (.inr (16, .inl (fun _ => 0))) := by rw [eh29x]; exact va_up_self _ _ _
  have S29 : zsm h h29x (zbt 64 106) := zsm.up S28 eh29x ⟨by decide, by decide⟩
  clear eh29x k28_0 k28_1 k28_2 k28_3 k28_4 k28_5 k28_6 k28_7 k28_8 k28_9 k28_10 k28_11 k28_12 k28_13 k28_14 S28 h28x
  refine zp_putF (fs' := [.int (0), .ref (65), .ref (66), .ref (67), .ref (68), .ref (69), .ref (70), .ref (71), .ref (72), .ref (73), .ref (74), .ref (75), .ref (76), .ref (77), .ref (78), .ref (79), .null, .null, .null, .null, .null, .int (0), .int (0), .int (0), .int (0), .int (0), .int (0), .int (0), .int (0), .int (0), .int (0), .int (0), .int (0), .null, .null, .null, .int (0), .null, .null, .null, .null, .null, .null, .int (0), .null, .int (0)]) dX11_init_125 pX11_53_10 rfl (by omega) k29_0 (Nat.le_of_ble_eq_true rfl) (zfit_a _ _) rfl ?_
  refine zp_nh (fun h30x eh30x => ?_)
  have k30_0 : h30x (64) = some (.inl (10, [.int (0), .ref (65), .ref (66), .ref (67), .ref (68), .ref (69), .ref (70), .ref (71), .ref (72), .ref (73), .ref (74), .ref (75), .ref (76), .ref (77), .ref (78), .ref (79), .null, .null, .null, .null, .null, .int (0), .int (0), .int (0), .int (0), .int (0), .int (0), .int (0), .int (0), .int (0), .int (0), .int (0), .int (0), .null, .null, .null, .int (0), .null, .null, .null, .null, .null, .null, .int (0), .null, .int (0)])) := by rw [eh30x]; exact va_up_self _ _ _
  have k30_1 := (congrFun eh30x (65)).trans ((va_up_ne _ _ (by decide)).trans k29_1)
  have k30_2 := (congrFun eh30x (66)).trans ((va_up_ne _ _ (by decide)).trans k29_2)
  have k30_3 := (congrFun eh30x (67)).trans ((va_up_ne _ _ (by decide)).trans k29_3)
  have k30_4 := (congrFun eh30x (68)).trans ((va_up_ne _ _ (by decide)).trans k29_4)
  have k30_5 := (congrFun eh30x (69)).trans ((va_up_ne _ _ (by decide)).trans k29_5)
  have k30_6 := (congrFun eh30x (70)).trans ((va_up_ne _ _ (by decide)).trans k29_6)
  have k30_7 := (congrFun eh30x (71)).trans ((va_up_ne _ _ (by decide)).trans k29_7)
  have k30_8 := (congrFun eh30x (72)).trans ((va_up_ne _ _ (by decide)).trans k29_8)
  have k30_9 := (congrFun eh30x (73)).trans ((va_up_ne _ _ (by decide)).trans k29_9)
  have k30_10 := (congrFun eh30x (74)).trans ((va_up_ne _ _ (by decide)).trans k29_10)
  have k30_11 := (congrFun eh30x (75)).trans ((va_up_ne _ _ (by decide)).trans k29_11)
  have k30_12 := (congrFun eh30x (76)).trans ((va_up_ne _ _ (by decide)).trans k29_12)
  have k30_13 := (congrFun eh30x (77)).trans ((va_up_ne _ _ (by decide)).trans k29_13)
  have k30_14 := (congrFun eh30x (78)).trans ((va_up_ne _ _ (by decide)).trans k29_14)
  have k30_15 := (congrFun eh30x (79)).trans ((va_up_ne _ _ (by decide)).trans k29_15)
  have S30 : zsm h h30x (zbt 64 106) := zsm.up S29 eh30x ⟨by decide, by decide⟩
  clear eh30x k29_0 k29_1 k29_2 k29_3 k29_4 k29_5 k29_6 k29_7 k29_8 k29_9 k29_10 k29_11 k29_12 k29_13 k29_14 k29_15 S29 h29x
  refine zp_aload_n dX11_init_128 rfl ?_
  refine zp_bipush (v := nI (16)) dX11_init_129 (by decide) ?_
  refine zp_newi (N := 16) dX11_init_131 (nI_pos (by decide)) (nI_clamp (by decide)) (by decide) (Nat.le_of_ble_eq_true rfl) (Nat.le_of_ble_eq_true rfl) ?_
  refine zp_nn (cells' := 16) (slots' := 4013) (n' := 81) (st' := [.ref (80), .ref (64)]) rfl rfl rfl rfl ?_
  refine zp_nh (fun h31x eh31x => ?_)
  have k31_0 := (congrFun eh31x (64)).trans ((va_up_ne _ _ (by decide)).trans k30_0)
  have k31_1 := (congrFun eh31x (65)).trans ((va_up_ne _ _ (by decide)).trans k30_1)
  have k31_2 := (congrFun eh31x (66)).trans ((va_up_ne _ _ (by decide)).trans k30_2)
  have k31_3 := (congrFun eh31x (67)).trans ((va_up_ne _ _ (by decide)).trans k30_3)
  have k31_4 := (congrFun eh31x (68)).trans ((va_up_ne _ _ (by decide)).trans k30_4)
  have k31_5 := (congrFun eh31x (69)).trans ((va_up_ne _ _ (by decide)).trans k30_5)
  have k31_6 := (congrFun eh31x (70)).trans ((va_up_ne _ _ (by decide)).trans k30_6)
  have k31_7 := (congrFun eh31x (71)).trans ((va_up_ne _ _ (by decide)).trans k30_7)
  have k31_8 := (congrFun eh31x (72)).trans ((va_up_ne _ _ (by decide)).trans k30_8)
  have k31_9 := (congrFun eh31x (73)).trans ((va_up_ne _ _ (by decide)).trans k30_9)
  have k31_10 := (congrFun eh31x (74)).trans ((va_up_ne _ _ (by decide)).trans k30_10)
  have k31_11 := (congrFun eh31x (75)).trans ((va_up_ne _ _ (by decide)).trans k30_11)
  have k31_12 := (congrFun eh31x (76)).trans ((va_up_ne _ _ (by decide)).trans k30_12)
  have k31_13 := (congrFun eh31x (77)).trans ((va_up_ne _ _ (by decide)).trans k30_13)
  have k31_14 := (congrFun eh31x (78)).trans ((va_up_ne _ _ (by decide)).trans k30_14)
  have k31_15 := (congrFun eh31x (79)).trans ((va_up_ne _ _ (by decide)).trans k30_15)
  have k31_16 : h31x (80) = some (.inr (16, .inl (fun _ => 0))) := by rw [eh31x]; exact va_up_self _ _ _
  have S31 : zsm h h31x (zbt 64 106) := zsm.up S30 eh31x ⟨by decide, by decide⟩
  clear eh31x k30_0 k30_1 k30_2 k30_3 k30_4 k30_5 k30_6 k30_7 k30_8 k30_9 k30_10 k30_11 k30_12 k30_13 k30_14 k30_15 S30 h30x
  refine zp_putF (fs' := [.int (0), .ref (65), .ref (66), .ref (67), .ref (68), .ref (69), .ref (70), .ref (71), .ref (72), .ref (73), .ref (74), .ref (75), .ref (76), .ref (77), .ref (78), .ref (79), .ref (80), .null, .null, .null, .null, .int (0), .int (0), .int (0), .int (0), .int (0), .int (0), .int (0), .int (0), .int (0), .int (0), .int (0), .int (0), .null, .null, .null, .int (0), .null, .null, .null, .null, .null, .null, .int (0), .null, .int (0)]) dX11_init_133 pX11_56_10 rfl (by omega) k31_0 (Nat.le_of_ble_eq_true rfl) (zfit_a _ _) rfl ?_
  refine zp_nh (fun h32x eh32x => ?_)
  have k32_0 : h32x (64) = some (.inl (10, [.int (0), .ref (65), .ref (66), .ref (67), .ref (68), .ref (69), .ref (70), .ref (71), .ref (72), .ref (73), .ref (74), .ref (75), .ref (76), .ref (77), .ref (78), .ref (79), .ref (80), .null, .null, .null, .null, .int (0), .int (0), .int (0), .int (0), .int (0), .int (0), .int (0), .int (0), .int (0), .int (0), .int (0), .int (0), .null, .null, .null, .int (0), .null, .null, .null, .null, .null, .null, .int (0), .null, .int (0)])) := by rw [eh32x]; exact va_up_self _ _ _
  have k32_1 := (congrFun eh32x (65)).trans ((va_up_ne _ _ (by decide)).trans k31_1)
  have k32_2 := (congrFun eh32x (66)).trans ((va_up_ne _ _ (by decide)).trans k31_2)
  have k32_3 := (congrFun eh32x (67)).trans ((va_up_ne _ _ (by decide)).trans k31_3)
  have k32_4 := (congrFun eh32x (68)).trans ((va_up_ne _ _ (by decide)).trans k31_4)
  have k32_5 := (congrFun eh32x (69)).trans ((va_up_ne _ _ (by decide)).trans k31_5)
  have k32_6 := (congrFun eh32x (70)).trans ((va_up_ne _ _ (by decide)).trans k31_6)
  have k32_7 := (congrFun eh32x (71)).trans ((va_up_ne _ _ (by decide)).trans k31_7)
  have k32_8 := (congrFun eh32x (72)).trans ((va_up_ne _ _ (by decide)).trans k31_8)
  have k32_9 := (congrFun eh32x (73)).trans ((va_up_ne _ _ (by decide)).trans k31_9)
  have k32_10 := (congrFun eh32x (74)).trans ((va_up_ne _ _ (by decide)).trans k31_10)
  have k32_11 := (congrFun eh32x (75)).trans ((va_up_ne _ _ (by decide)).trans k31_11)
  have k32_12 := (congrFun eh32x (76)).trans ((va_up_ne _ _ (by decide)).trans k31_12)
  have k32_13 := (congrFun eh32x (77)).trans ((va_up_ne _ _ (by decide)).trans k31_13)
  have k32_14 := (congrFun eh32x (78)).trans ((va_up_ne _ _ (by decide)).trans k31_14)
  have k32_15 := (congrFun eh32x (79)).trans ((va_up_ne _ _ (by decide)).trans k31_15)
  have k32_16 := (congrFun eh32x (80)).trans ((va_up_ne _ _ (by decide)).trans k31_16)
  have S32 : zsm h h32x (zbt 64 106) := zsm.up S31 eh32x ⟨by decide, by decide⟩
  clear eh32x k31_0 k31_1 k31_2 k31_3 k31_4 k31_5 k31_6 k31_7 k31_8 k31_9 k31_10 k31_11 k31_12 k31_13 k31_14 k31_15 k31_16 S31 h31x
  refine zp_aload_n dX11_init_136 rfl ?_
  refine zp_sipush (v := nI (1000)) dX11_init_137 (by decide) ?_
  refine zp_newi (N := 1000) dX11_init_140 (nI_pos (by decide)) (nI_clamp (by decide)) (by decide) (Nat.le_of_ble_eq_true rfl) (Nat.le_of_ble_eq_true rfl) ?_
  refine zp_nn (cells' := 17) (slots' := 5013) (n' := 82) (st' := [.ref (81), .ref (64)]) rfl rfl rfl rfl ?_
  refine zp_nh (fun h33x eh33x => ?_)
  have k33_0 := (congrFun eh33x (64)).trans ((va_up_ne _ _ (by decide)).trans k32_0)
  have k33_1 := (congrFun eh33x (65)).trans ((va_up_ne _ _ (by decide)).trans k32_1)
  have k33_2 := (congrFun eh33x (66)).trans ((va_up_ne _ _ (by decide)).trans k32_2)
  have k33_3 := (congrFun eh33x (67)).trans ((va_up_ne _ _ (by decide)).trans k32_3)
  have k33_4 := (congrFun eh33x (68)).trans ((va_up_ne _ _ (by decide)).trans k32_4)
  have k33_5 := (congrFun eh33x (69)).trans ((va_up_ne _ _ (by decide)).trans k32_5)
  have k33_6 := (congrFun eh33x (70)).trans ((va_up_ne _ _ (by decide)).trans k32_6)
  have k33_7 := (congrFun eh33x (71)).trans ((va_up_ne _ _ (by decide)).trans k32_7)
  have k33_8 := (congrFun eh33x (72)).trans ((va_up_ne _ _ (by decide)).trans k32_8)
  have k33_9 := (congrFun eh33x (73)).trans ((va_up_ne _ _ (by decide)).trans k32_9)
  have k33_10 := (congrFun eh33x (74)).trans ((va_up_ne _ _ (by decide)).trans k32_10)
  have k33_11 := (congrFun eh33x (75)).trans ((va_up_ne _ _ (by decide)).trans k32_11)
  have k33_12 := (congrFun eh33x (76)).trans ((va_up_ne _ _ (by decide)).trans k32_12)
  have k33_13 := (congrFun eh33x (77)).trans ((va_up_ne _ _ (by decide)).trans k32_13)
  have k33_14 := (congrFun eh33x (78)).trans ((va_up_ne _ _ (by decide)).trans k32_14)
  have k33_15 := (congrFun eh33x (79)).trans ((va_up_ne _ _ (by decide)).trans k32_15)
  have k33_16 := (congrFun eh33x (80)).trans ((va_up_ne _ _ (by decide)).trans k32_16)
  have k33_17 : h33x (81) = some (.inr (1000, .inl (fun _ => 0))) := by rw [eh33x]; exact va_up_self _ _ _
  have S33 : zsm h h33x (zbt 64 106) := zsm.up S32 eh33x ⟨by decide, by decide⟩
  clear eh33x k32_0 k32_1 k32_2 k32_3 k32_4 k32_5 k32_6 k32_7 k32_8 k32_9 k32_10 k32_11 k32_12 k32_13 k32_14 k32_15 k32_16 S32 h32x
  refine zp_putF (fs' := [.int (0), .ref (65), .ref (66), .ref (67), .ref (68), .ref (69), .ref (70), .ref (71), .ref (72), .ref (73), .ref (74), .ref (75), .ref (76), .ref (77), .ref (78), .ref (79), .ref (80), .ref (81), .null, .null, .null, .int (0), .int (0), .int (0), .int (0), .int (0), .int (0), .int (0), .int (0), .int (0), .int (0), .int (0), .int (0), .null, .null, .null, .int (0), .null, .null, .null, .null, .null, .null, .int (0), .null, .int (0)]) dX11_init_142 pX11_59_10 rfl (by omega) k33_0 (Nat.le_of_ble_eq_true rfl) (zfit_a _ _) rfl ?_
  refine zp_nh (fun h34x eh34x => ?_)
  have k34_0 : h34x (64) = some (.inl (10, [.int (0), .ref (65), .ref (66), .ref (67), .ref (68), .ref (69), .ref (70), .ref (71), .ref (72), .ref (73), .ref (74), .ref (75), .ref (76), .ref (77), .ref (78), .ref (79), .ref (80), .ref (81), .null, .null, .null, .int (0), .int (0), .int (0), .int (0), .int (0), .int (0), .int (0), .int (0), .int (0), .int (0), .int (0), .int (0), .null, .null, .null, .int (0), .null, .null, .null, .null, .null, .null, .int (0), .null, .int (0)])) := by rw [eh34x]; exact va_up_self _ _ _
  have k34_1 := (congrFun eh34x (65)).trans ((va_up_ne _ _ (by decide)).trans k33_1)
  have k34_2 := (congrFun eh34x (66)).trans ((va_up_ne _ _ (by decide)).trans k33_2)
  have k34_3 := (congrFun eh34x (67)).trans ((va_up_ne _ _ (by decide)).trans k33_3)
  have k34_4 := (congrFun eh34x (68)).trans ((va_up_ne _ _ (by decide)).trans k33_4)
  have k34_5 := (congrFun eh34x (69)).trans ((va_up_ne _ _ (by decide)).trans k33_5)
  have k34_6 := (congrFun eh34x (70)).trans ((va_up_ne _ _ (by decide)).trans k33_6)
  have k34_7 := (congrFun eh34x (71)).trans ((va_up_ne _ _ (by decide)).trans k33_7)
  have k34_8 := (congrFun eh34x (72)).trans ((va_up_ne _ _ (by decide)).trans k33_8)
  have k34_9 := (congrFun eh34x (73)).trans ((va_up_ne _ _ (by decide)).trans k33_9)
  have k34_10 := (congrFun eh34x (74)).trans ((va_up_ne _ _ (by decide)).trans k33_10)
  have k34_11 := (congrFun eh34x (75)).trans ((va_up_ne _ _ (by decide)).trans k33_11)
  have k34_12 := (congrFun eh34x (76)).trans ((va_up_ne _ _ (by decide)).trans k33_12)
  have k34_13 := (congrFun eh34x (77)).trans ((va_up_ne _ _ (by decide)).trans k33_13)
  have k34_14 := (congrFun eh34x (78)).trans ((va_up_ne _ _ (by decide)).trans k33_14)
  have k34_15 := (congrFun eh34x (79)).trans ((va_up_ne _ _ (by decide)).trans k33_15)
  have k34_16 := (congrFun eh34x (80)).trans ((va_up_ne _ _ (by decide)).trans k33_16)
  have k34_17 := (congrFun eh34x (81)).trans ((va_up_ne _ _ (by decide)).trans k33_17)
  have S34 : zsm h h34x (zbt 64 106) := zsm.up S33 eh34x ⟨by decide, by decide⟩
  clear eh34x k33_0 k33_1 k33_2 k33_3 k33_4 k33_5 k33_6 k33_7 k33_8 k33_9 k33_10 k33_11 k33_12 k33_13 k33_14 k33_15 k33_16 k33_17 S33 h33x
  refine zp_aload_n dX11_init_145 rfl ?_
  refine zp_bipush (v := nI (32)) dX11_init_146 (by decide) ?_
  refine zp_newi (N := 32) dX11_init_148 (nI_pos (by decide)) (nI_clamp (by decide)) (by decide) (Nat.le_of_ble_eq_true rfl) (Nat.le_of_ble_eq_true rfl) ?_
  refine zp_nn (cells' := 18) (slots' := 5045) (n' := 83) (st' := [.ref (82), .ref (64)]) rfl rfl rfl rfl ?_
  refine zp_nh (fun h35x eh35x => ?_)
  have k35_0 := (congrFun eh35x (64)).trans ((va_up_ne _ _ (by decide)).trans k34_0)
  have k35_1 := (congrFun eh35x (65)).trans ((va_up_ne _ _ (by decide)).trans k34_1)
  have k35_2 := (congrFun eh35x (66)).trans ((va_up_ne _ _ (by decide)).trans k34_2)
  have k35_3 := (congrFun eh35x (67)).trans ((va_up_ne _ _ (by decide)).trans k34_3)
  have k35_4 := (congrFun eh35x (68)).trans ((va_up_ne _ _ (by decide)).trans k34_4)
  have k35_5 := (congrFun eh35x (69)).trans ((va_up_ne _ _ (by decide)).trans k34_5)
  have k35_6 := (congrFun eh35x (70)).trans ((va_up_ne _ _ (by decide)).trans k34_6)
  have k35_7 := (congrFun eh35x (71)).trans ((va_up_ne _ _ (by decide)).trans k34_7)
  have k35_8 := (congrFun eh35x (72)).trans ((va_up_ne _ _ (by decide)).trans k34_8)
  have k35_9 := (congrFun eh35x (73)).trans ((va_up_ne _ _ (by decide)).trans k34_9)
  have k35_10 := (congrFun eh35x (74)).trans ((va_up_ne _ _ (by decide)).trans k34_10)
  have k35_11 := (congrFun eh35x (75)).trans ((va_up_ne _ _ (by decide)).trans k34_11)
  have k35_12 := (congrFun eh35x (76)).trans ((va_up_ne _ _ (by decide)).trans k34_12)
  have k35_13 := (congrFun eh35x (77)).trans ((va_up_ne _ _ (by decide)).trans k34_13)
  have k35_14 := (congrFun eh35x (78)).trans ((va_up_ne _ _ (by decide)).trans k34_14)
  have k35_15 := (congrFun eh35x (79)).trans ((va_up_ne _ _ (by decide)).trans k34_15)
  have k35_16 := (congrFun eh35x (80)).trans ((va_up_ne _ _ (by decide)).trans k34_16)
  have k35_17 := (congrFun eh35x (81)).trans ((va_up_ne _ _ (by decide)).trans k34_17)
  have k35_18 : h35x (82) = some (.inr (32, .inl (fun _ => 0))) := by rw [eh35x]; exact va_up_self _ _ _
  have S35 : zsm h h35x (zbt 64 106) := zsm.up S34 eh35x ⟨by decide, by decide⟩
  clear eh35x k34_0 k34_1 k34_2 k34_3 k34_4 k34_5 k34_6 k34_7 k34_8 k34_9 k34_10 k34_11 k34_12 k34_13 k34_14 k34_15 k34_16 k34_17 S34 h34x
  refine zp_putF (fs' := [.int (0), .ref (65), .ref (66), .ref (67), .ref (68), .ref (69), .ref (70), .ref (71), .ref (72), .ref (73), .ref (74), .ref (75), .ref (76), .ref (77), .ref (78), .ref (79), .ref (80), .ref (81), .ref (82), .null, .null, .int (0), .int (0), .int (0), .int (0), .int (0), .int (0), .int (0), .int (0), .int (0), .int (0), .int (0), .int (0), .null, .null, .null, .int (0), .null, .null, .null, .null, .null, .null, .int (0), .null, .int (0)]) dX11_init_150 pX11_62_10 rfl (by omega) k35_0 (Nat.le_of_ble_eq_true rfl) (zfit_a _ _) rfl ?_
  refine zp_nh (fun h36x eh36x => ?_)
  have k36_0 : h36x (64) = some (.inl (10, [.int (0), .ref (65), .ref (66), .ref (67), .ref (68), .ref (69), .ref (70), .ref (71), .ref (72), .ref (73), .ref (74), .ref (75), .ref (76), .ref (77), .ref (78), .ref (79), .ref (80), .ref (81), .ref (82), .null, .null, .int (0), .int (0), .int (0), .int (0), .int (0), .int (0), .int (0), .int (0), .int (0), .int (0), .int (0), .int (0), .null, .null, .null, .int (0), .null, .null, .null, .null, .null, .null, .int (0), .null, .int (0)])) := by rw [eh36x]; exact va_up_self _ _ _
  have k36_1 := (congrFun eh36x (65)).trans ((va_up_ne _ _ (by decide)).trans k35_1)
  have k36_2 := (congrFun eh36x (66)).trans ((va_up_ne _ _ (by decide)).trans k35_2)
  have k36_3 := (congrFun eh36x (67)).trans ((va_up_ne _ _ (by decide)).trans k35_3)
  have k36_4 := (congrFun eh36x (68)).trans ((va_up_ne _ _ (by decide)).trans k35_4)
  have k36_5 := (congrFun eh36x (69)).trans ((va_up_ne _ _ (by decide)).trans k35_5)
  have k36_6 := (congrFun eh36x (70)).trans ((va_up_ne _ _ (by decide)).trans k35_6)
  have k36_7 := (congrFun eh36x (71)).trans ((va_up_ne _ _ (by decide)).trans k35_7)
  have k36_8 := (congrFun eh36x (72)).trans ((va_up_ne _ _ (by decide)).trans k35_8)
  have k36_9 := (congrFun eh36x (73)).trans ((va_up_ne _ _ (by decide)).trans k35_9)
  have k36_10 := (congrFun eh36x (74)).trans ((va_up_ne _ _ (by decide)).trans k35_10)
  have k36_11 := (congrFun eh36x (75)).trans ((va_up_ne _ _ (by decide)).trans k35_11)
  have k36_12 := (congrFun eh36x (76)).trans ((va_up_ne _ _ (by decide)).trans k35_12)
  have k36_13 := (congrFun eh36x (77)).trans ((va_up_ne _ _ (by decide)).trans k35_13)
  have k36_14 := (congrFun eh36x (78)).trans ((va_up_ne _ _ (by decide)).trans k35_14)
  have k36_15 := (congrFun eh36x (79)).trans ((va_up_ne _ _ (by decide)).trans k35_15)
  have k36_16 := (congrFun eh36x (80)).trans ((va_up_ne _ _ (by decide)).trans k35_16)
  have k36_17 := (congrFun eh36x (81)).trans ((va_up_ne _ _ (by decide)).trans k35_17)
  have k36_18 := (congrFun eh36x (82)).trans ((va_up_ne _ _ (by decide)).trans k35_18)
  have S36 : zsm h h36x (zbt 64 106) := zsm.up S35 eh36x ⟨by decide, by decide⟩
  clear eh36x k35_0 k35_1 k35_2 k35_3 k35_4 k35_5 k35_6 k35_7 k35_8 k35_9 k35_10 k35_11 k35_12 k35_13 k35_14 k35_15 k35_16 k35_17 k35_18 S35 h35x
  refine zp_aload_n dX11_init_153 rfl ?_
  refine zp_bipush (v := nI (48)) dX11_init_154 (by decide) ?_
  refine zp_newi (N := 48) dX11_init_156 (nI_pos (by decide)) (nI_clamp (by decide)) (by decide) (Nat.le_of_ble_eq_true rfl) (Nat.le_of_ble_eq_true rfl) ?_
  refine zp_nn (cells' := 19) (slots' := 5093) (n' := 84) (st' := [.ref (83), .ref (64)]) rfl rfl rfl rfl ?_
  refine zp_nh (fun h37x eh37x => ?_)
  have k37_0 := (congrFun eh37x (64)).trans ((va_up_ne _ _ (by decide)).trans k36_0)
  have k37_1 := (congrFun eh37x (65)).trans ((va_up_ne _ _ (by decide)).trans k36_1)
  have k37_2 := (congrFun eh37x (66)).trans ((va_up_ne _ _ (by decide)).trans k36_2)
  have k37_3 := (congrFun eh37x (67)).trans ((va_up_ne _ _ (by decide)).trans k36_3)
  have k37_4 := (congrFun eh37x (68)).trans ((va_up_ne _ _ (by decide)).trans k36_4)
  have k37_5 := (congrFun eh37x (69)).trans ((va_up_ne _ _ (by decide)).trans k36_5)
  have k37_6 := (congrFun eh37x (70)).trans ((va_up_ne _ _ (by decide)).trans k36_6)
  have k37_7 := (congrFun eh37x (71)).trans ((va_up_ne _ _ (by decide)).trans k36_7)
  have k37_8 := (congrFun eh37x (72)).trans ((va_up_ne _ _ (by decide)).trans k36_8)
  have k37_9 := (congrFun eh37x (73)).trans ((va_up_ne _ _ (by decide)).trans k36_9)
  have k37_10 := (congrFun eh37x (74)).trans ((va_up_ne _ _ (by decide)).trans k36_10)
  have k37_11 := (congrFun eh37x (75)).trans ((va_up_ne _ _ (by decide)).trans k36_11)
  have k37_12 := (congrFun eh37x (76)).trans ((va_up_ne _ _ (by decide)).trans k36_12)
  have k37_13 := (congrFun eh37x (77)).trans ((va_up_ne _ _ (by decide)).trans k36_13)
  have k37_14 := (congrFun eh37x (78)).trans ((va_up_ne _ _ (by decide)).trans k36_14)
  have k37_15 := (congrFun eh37x (79)).trans ((va_up_ne _ _ (by decide)).trans k36_15)
  have k37_16 := (congrFun eh37x (80)).trans ((va_up_ne _ _ (by decide)).trans k36_16)
  have k37_17 := (congrFun eh37x (81)).trans ((va_up_ne _ _ (by decide)).trans k36_17)
  have k37_18 := (congrFun eh37x (82)).trans ((va_up_ne _ _ (by decide)).trans k36_18)
  have k37_19 : h37x (83) = some (.inr (48, .inl (fun _ => 0))) := by rw [eh37x]; exact va_up_self _ _ _
  have S37 : zsm h h37x (zbt 64 106) := zsm.up S36 eh37x ⟨by decide, by decide⟩
  clear eh37x k36_0 k36_1 k36_2 k36_3 k36_4 k36_5 k36_6 k36_7 k36_8 k36_9 k36_10 k36_11 k36_12 k36_13 k36_14 k36_15 k36_16 k36_17 k36_18 S36 h36x
  refine zp_putF (fs' := [.int (0), .ref (65), .ref (66), .ref (67), .ref (68), .ref (69), .ref (70), .ref (71), .ref (72), .ref (73), .ref (74), .ref (75), .ref (76), .ref (77), .ref (78), .ref (79), .ref (80), .ref (81), .ref (82), .ref (83), .null, .int (0), .int (0), .int (0), .int (0), .int (0), .int (0), .int (0), .int (0), .int (0), .int (0), .int (0), .int (0), .null, .null, .null, .int (0), .null, .null, .null, .null, .null, .null, .int (0), .null, .int (0)]) dX11_init_158 pX11_65_10 rfl (by omega) k37_0 (Nat.le_of_ble_eq_true rfl) (zfit_a _ _) rfl ?_
  refine zp_nh (fun h38x eh38x => ?_)
  have k38_0 : h38x (64) = some (.inl (10, [.int (0), .ref (65), .ref (66), .ref (67), .ref (68), .ref (69), .ref (70), .ref (71), .ref (72), .ref (73), .ref (74), .ref (75), .ref (76), .ref (77), .ref (78), .ref (79), .ref (80), .ref (81), .ref (82), .ref (83), .null, .int (0), .int (0), .int (0), .int (0), .int (0), .int (0), .int (0), .int (0), .int (0), .int (0), .int (0), .int (0), .null, .null, .null, .int (0), .null, .null, .null, .null, .null, .null, .int (0), .null, .int (0)])) := by rw [eh38x]; exact va_up_self _ _ _
  have k38_1 := (congrFun eh38x (65)).trans ((va_up_ne _ _ (by decide)).trans k37_1)
  have k38_2 := (congrFun eh38x (66)).trans ((va_up_ne _ _ (by decide)).trans k37_2)
  have k38_3 := (congrFun eh38x (67)).trans ((va_up_ne _ _ (by decide)).trans k37_3)
  have k38_4 := (congrFun eh38x (68)).trans ((va_up_ne _ _ (by decide)).trans k37_4)
  have k38_5 := (congrFun eh38x (69)).trans ((va_up_ne _ _ (by decide)).trans k37_5)
  have k38_6 := (congrFun eh38x (70)).trans ((va_up_ne _ _ (by decide)).trans k37_6)
  have k38_7 := (congrFun eh38x (71)).trans ((va_up_ne _ _ (by decide)).trans k37_7)
  have k38_8 := (congrFun eh38x (72)).trans ((va_up_ne _ _ (by decide)).trans k37_8)
  have k38_9 := (congrFun eh38x (73)).trans ((va_up_ne _ _ (by decide)).trans k37_9)
  have k38_10 := (congrFun eh38x (74)).trans ((va_up_ne _ _ (by decide)).trans k37_10)
  have k38_11 := (congrFun eh38x (75)).trans ((va_up_ne _ _ (by decide)).trans k37_11)
  have k38_12 := (congrFun eh38x (76)).trans ((va_up_ne _ _ (by decide)).trans k37_12)
  have k38_13 := (congrFun eh38x (77)).trans ((va_up_ne _ _ (by decide)).trans k37_13)
  have k38_14 := (congrFun eh38x (78)).trans ((va_up_ne _ _ (by decide)).trans k37_14)
  have k38_15 := (congrFun eh38x (79)).trans ((va_up_ne _ _ (by decide)).trans k37_15)
  have k38_16 := (congrFun eh38x (80)).trans ((va_up_ne _ _ (by decide)).trans k37_16)
  have k38_17 := (congrFun eh38x (81)).trans ((va_up_ne _ _ (by decide)).trans k37_17)
  have k38_18 := (congrFun eh38x (82)).trans ((va_up_ne _ _ (by decide)).trans k37_18)
  have k38_19 := (congrFun eh38x (83)).trans ((va_up_ne _ _ (by decide)).trans k37_19)
  have S38 : zsm h h38x (zbt 64 106) := zsm.up S37 eh38x ⟨by decide, by decide⟩
  clear eh38x k37_0 k37_1 k37_2 k37_3 k37_4 k37_5 k37_6 k37_7 k37_8 k37_9 k37_10 k37_11 k37_12 k37_13 k37_14 k37_15 k37_16 k37_17 k37_18 k37_19 S37 h37x
  refine zp_aload_n dX11_init_161 rfl ?_
  refine zp_sipush (v := nI (1000)) dX11_init_162 (by decide) ?_
  refine zp_newi (N := 1000) dX11_init_165 (nI_pos (by decide)) (nI_clamp (by decide)) (by decide) (Nat.le_of_ble_eq_true rfl) (Nat.le_of_ble_eq_true rfl) ?_
  refine zp_nn (cells' := 20) (slots' := 6093) (n' := 85) (st' := [.ref (84), .ref (64)]) rfl rfl rfl rfl ?_
  refine zp_nh (fun h39x eh39x => ?_)
  have k39_0 := (congrFun eh39x (64)).trans ((va_up_ne _ _ (by decide)).trans k38_0)
  have k39_1 := (congrFun eh39x (65)).trans ((va_up_ne _ _ (by decide)).trans k38_1)
  have k39_2 := (congrFun eh39x (66)).trans ((va_up_ne _ _ (by decide)).trans k38_2)
  have k39_3 := (congrFun eh39x (67)).trans ((va_up_ne _ _ (by decide)).trans k38_3)
  have k39_4 := (congrFun eh39x (68)).trans ((va_up_ne _ _ (by decide)).trans k38_4)
  have k39_5 := (congrFun eh39x (69)).trans ((va_up_ne _ _ (by decide)).trans k38_5)
  have k39_6 := (congrFun eh39x (70)).trans ((va_up_ne _ _ (by decide)).trans k38_6)
  have k39_7 := (congrFun eh39x (71)).trans ((va_up_ne _ _ (by decide)).trans k38_7)
  have k39_8 := (congrFun eh39x (72)).trans ((va_up_ne _ _ (by decide)).trans k38_8)
  have k39_9 := (congrFun eh39x (73)).trans ((va_up_ne _ _ (by decide)).trans k38_9)
  have k39_10 := (congrFun eh39x (74)).trans ((va_up_ne _ _ (by decide)).trans k38_10)
  have k39_11 := (congrFun eh39x (75)).trans ((va_up_ne _ _ (by decide)).trans k38_11)
  have k39_12 := (congrFun eh39x (76)).trans ((va_up_ne _ _ (by decide)).trans k38_12)
  have k39_13 := (congrFun eh39x (77)).trans ((va_up_ne _ _ (by decide)).trans k38_13)
  have k39_14 := (congrFun eh39x (78)).trans ((va_up_ne _ _ (by decide)).trans k38_14)
  have k39_15 := (congrFun eh39x (79)).trans ((va_up_ne _ _ (by decide)).trans k38_15)
  have k39_16 := (congrFun eh39x (80)).trans ((va_up_ne _ _ (by decide)).trans k38_16)
  have k39_17 := (congrFun eh39x (81)).trans ((va_up_ne _ _ (by decide)).trans k38_17)
  have k39_18 := (congrFun eh39x (82)).trans ((va_up_ne _ _ (by decide)).trans k38_18)
  have k39_19 := (congrFun eh39x (83)).trans ((va_up_ne _ _ (by decide)).trans k38_19)
  have k39_20 : h39x (84) = some (.inr (1000, .inl (fun _ => 0))) := by rw [eh39x]; exact va_up_self _ _ _
  have S39 : zsm h h39x (zbt 64 106) := zsm.up S38 eh39x ⟨by decide, by decide⟩
  clear eh39x k38_0 k38_1 k38_2 k38_3 k38_4 k38_5 k38_6 k38_7 k38_8 k38_9 k38_10 k38_11 k38_12 k38_13 k38_14 k38_15 k38_16 k38_17 k38_18 k38_19 S38 h38x
  refine zp_putF (fs' := [.int (0), .ref (65), .ref (66), .ref (67), .ref (68), .ref (69), .ref (70), .ref (71), .ref (72), .ref (73), .ref (74), .ref (75), .ref (76), .ref (77), .ref (78), .ref (79), .ref (80), .ref (81), .ref (82), .ref (83), .ref (84), .int (0), .int (0), .int (0), .int (0), .int (0), .int (0), .int (0), .int (0), .int (0), .int (0), .int (0), .int (0), .null, .null, .null, .int (0), .null, .null, .null, .null, .null, .null, .int (0), .null, .int (0)]) dX11_init_167 pX11_68_10 rfl (by omega) k39_0 (Nat.le_of_ble_eq_true rfl) (zfit_a _ _) rfl ?_
  refine zp_nh (fun h40x eh40x => ?_)
  have k40_0 : h40x (64) = some (.inl (10, [.int (0), .ref (65), .ref (66), .ref (67), .ref (68), .ref (69), .ref (70), .ref (71), .ref (72), .ref (73), .ref (74), .ref (75), .ref (76), .ref (77), .ref (78), .ref (79), .ref (80), .ref (81), .ref (82), .ref (83), .ref (84), .int (0), .int (0), .int (0), .int (0), .int (0), .int (0), .int (0), .int (0), .int (0), .int (0), .int (0), .int (0), .null, .null, .null, .int (0), .null, .null, .null, .null, .null, .null, .int (0), .null, .int (0)])) := by rw [eh40x]; exact va_up_self _ _ _
  have k40_1 := (congrFun eh40x (65)).trans ((va_up_ne _ _ (by decide)).trans k39_1)
  have k40_2 := (congrFun eh40x (66)).trans ((va_up_ne _ _ (by decide)).trans k39_2)
  have k40_3 := (congrFun eh40x (67)).trans ((va_up_ne _ _ (by decide)).trans k39_3)
  have k40_4 := (congrFun eh40x (68)).trans ((va_up_ne _ _ (by decide)).trans k39_4)
  have k40_5 := (congrFun eh40x (69)).trans ((va_up_ne _ _ (by decide)).trans k39_5)
  have k40_6 := (congrFun eh40x (70)).trans ((va_up_ne _ _ (by decide)).trans k39_6)
  have k40_7 := (congrFun eh40x (71)).trans ((va_up_ne _ _ (by decide)).trans k39_7)
  have k40_8 := (congrFun eh40x (72)).trans ((va_up_ne _ _ (by decide)).trans k39_8)
  have k40_9 := (congrFun eh40x (73)).trans ((va_up_ne _ _ (by decide)).trans k39_9)
  have k40_10 := (congrFun eh40x (74)).trans ((va_up_ne _ _ (by decide)).trans k39_10)
  have k40_11 := (congrFun eh40x (75)).trans ((va_up_ne _ _ (by decide)).trans k39_11)
  have k40_12 := (congrFun eh40x (76)).trans ((va_up_ne _ _ (by decide)).trans k39_12)
  have k40_13 := (congrFun eh40x (77)).trans ((va_up_ne _ _ (by decide)).trans k39_13)
  have k40_14 := (congrFun eh40x (78)).trans ((va_up_ne _ _ (by decide)).trans k39_14)
  have k40_15 := (congrFun eh40x (79)).trans ((va_up_ne _ _ (by decide)).trans k39_15)
  have k40_16 := (congrFun eh40x (80)).trans ((va_up_ne _ _ (by decide)).trans k39_16)
  have k40_17 := (congrFun eh40x (81)).trans ((va_up_ne _ _ (by decide)).trans k39_17)
  have k40_18 := (congrFun eh40x (82)).trans ((va_up_ne _ _ (by decide)).trans k39_18)
  have k40_19 := (congrFun eh40x (83)).trans ((va_up_ne _ _ (by decide)).trans k39_19)
  have k40_20 := (congrFun eh40x (84)).trans ((va_up_ne _ _ (by decide)).trans k39_20)
  have S40 : zsm h h40x (zbt 64 106) := zsm.up S39 eh40x ⟨by decide, by decide⟩
  clear eh40x k39_0 k39_1 k39_2 k39_3 k39_4 k39_5 k39_6 k39_7 k39_8 k39_9 k39_10 k39_11 k39_12 k39_13 k39_14 k39_15 k39_16 k39_17 k39_18 k39_19 k39_20 S39 h39x
  refine zp_aload_n dX11_init_170 rfl ?_
  refine zp_iconst (v := nI (5)) dX11_init_171 (by decide) ?_
  refine zp_put (fs' := [.int (0), .ref (65), .ref (66), .ref (67), .ref (68), .ref (69), .ref (70), .ref (71), .ref (72), .ref (73), .ref (74), .ref (75), .ref (76), .ref (77), .ref (78), .ref (79), .ref (80), .ref (81), .ref (82), .ref (83), .ref (84), .int (0), .int (0), .int (nI (5)), .int (0), .int (0), .int (0), .int (0), .int (0), .int (0), .int (0), .int (0), .int (0), .null, .null, .null, .int (0), .null, .null, .null, .null, .null, .null, .int (0), .null, .int (0)]) dX11_init_172 pX11_71_10 (by omega) k40_0 (Nat.le_of_ble_eq_true rfl) (zfit_i _) rfl ?_
  refine zp_nh (fun h41x eh41x => ?_)
  have k41_0 : h41x (64) = some (.inl (10, [.int (0), .ref (65), .ref (66), .ref (67), .ref (68), .ref (69), .ref (70), .ref (71), .ref (72), .ref (73), .ref (74), .ref (75), .ref (76), .ref (77), .ref (78), .ref (79), .ref (80), .ref (81), .ref (82), .ref (83), .ref (84), .int (0), .int (0), .int (nI (5)), .int (0), .int (0), .int (0), .int (0), .int (0), .int (0), .int (0), .int (0), .int (0), .null, .null, .null, .int (0), .null, .null, .null, .null, .null, .null, .int (0), .null, .int (0)])) := by rw [eh41x]; exact va_up_self _ _ _
  have k41_1 := (congrFun eh41x (65)).trans ((va_up_ne _ _ (by decide)).trans k40_1)
  have k41_2 := (congrFun eh41x (66)).trans ((va_up_ne _ _ (by decide)).trans k40_2)
  have k41_3 := (congrFun eh41x (67)).trans ((va_up_ne _ _ (by decide)).trans k40_3)
  have k41_4 := (congrFun eh41x (68)).trans ((va_up_ne _ _ (by decide)).trans k40_4)
  have k41_5 := (congrFun eh41x (69)).trans ((va_up_ne _ _ (by decide)).trans k40_5)
  have k41_6 := (congrFun eh41x (70)).trans ((va_up_ne _ _ (by decide)).trans k40_6)
  have k41_7 := (congrFun eh41x (71)).trans ((va_up_ne _ _ (by decide)).trans k40_7)
  have k41_8 := (congrFun eh41x (72)).trans ((va_up_ne _ _ (by decide)).trans k40_8)
  have k41_9 := (congrFun eh41x (73)).trans ((va_up_ne _ _ (by decide)).trans k40_9)
  have k41_10 := (congrFun eh41x (74)).trans ((va_up_ne _ _ (by decide)).trans k40_10)
  have k41_11 := (congrFun eh41x (75)).trans ((va_up_ne _ _ (by decide)).trans k40_11)
  have k41_12 := (congrFun eh41x (76)).trans ((va_up_ne _ _ (by decide)).trans k40_12)
  have k41_13 := (congrFun eh41x (77)).trans ((va_up_ne _ _ (by decide)).trans k40_13)
  have k41_14 := (congrFun eh41x (78)).trans ((va_up_ne _ _ (by decide)).trans k40_14)
  have k41_15 := (congrFun eh41x (79)).trans ((va_up_ne _ _ (by decide)).trans k40_15)
  have k41_16 := (congrFun eh41x (80)).trans ((va_up_ne _ _ (by decide)).trans k40_16)
  have k41_17 := (congrFun eh41x (81)).trans ((va_up_ne _ _ (by decide)).trans k40_17)
  have k41_18 := (congrFun eh41x (82)).trans ((va_up_ne _ _ (by decide)).trans k40_18)
  have k41_19 := (congrFun eh41x (83)).trans ((va_up_ne _ _ (by decide)).trans k40_19)
  have k41_20 := (congrFun eh41x (84)).trans ((va_up_ne _ _ (by decide)).trans k40_20)
  have S41 : zsm h h41x (zbt 64 106) := zsm.up S40 eh41x ⟨by decide, by decide⟩
  clear eh41x k40_0 k40_1 k40_2 k40_3 k40_4 k40_5 k40_6 k40_7 k40_8 k40_9 k40_10 k40_11 k40_12 k40_13 k40_14 k40_15 k40_16 k40_17 k40_18 k40_19 k40_20 S40 h40x
  refine zp_aload_n dX11_init_175 rfl ?_
  refine zp_sipush (v := nI (512)) dX11_init_176 (by decide) ?_
  refine zp_put (fs' := [.int (0), .ref (65), .ref (66), .ref (67), .ref (68), .ref (69), .ref (70), .ref (71), .ref (72), .ref (73), .ref (74), .ref (75), .ref (76), .ref (77), .ref (78), .ref (79), .ref (80), .ref (81), .ref (82), .ref (83), .ref (84), .int (0), .int (0), .int (nI (5)), .int (nI (512)), .int (0), .int (0), .int (0), .int (0), .int (0), .int (0), .int (0), .int (0), .null, .null, .null, .int (0), .null, .null, .null, .null, .null, .null, .int (0), .null, .int (0)]) dX11_init_179 pX11_75_10 (by omega) k41_0 (Nat.le_of_ble_eq_true rfl) (zfit_i _) rfl ?_
  refine zp_nh (fun h42x eh42x => ?_)
  have k42_0 : h42x (64) = some (.inl (10, [.int (0), .ref (65), .ref (66), .ref (67), .ref (68), .ref (69), .ref (70), .ref (71), .ref (72), .ref (73), .ref (74), .ref (75), .ref (76), .ref (77), .ref (78), .ref (79), .ref (80), .ref (81), .ref (82), .ref (83), .ref (84), .int (0), .int (0), .int (nI (5)), .int (nI (512)), .int (0), .int (0), .int (0), .int (0), .int (0), .int (0), .int (0), .int (0), .null, .null, .null, .int (0), .null, .null, .null, .null, .null, .null, .int (0), .null, .int (0)])) := by rw [eh42x]; exact va_up_self _ _ _
  have k42_1 := (congrFun eh42x (65)).trans ((va_up_ne _ _ (by decide)).trans k41_1)
  have k42_2 := (congrFun eh42x (66)).trans ((va_up_ne _ _ (by decide)).trans k41_2)
  have k42_3 := (congrFun eh42x (67)).trans ((va_up_ne _ _ (by decide)).trans k41_3)
  have k42_4 := (congrFun eh42x (68)).trans ((va_up_ne _ _ (by decide)).trans k41_4)
  have k42_5 := (congrFun eh42x (69)).trans ((va_up_ne _ _ (by decide)).trans k41_5)
  have k42_6 := (congrFun eh42x (70)).trans ((va_up_ne _ _ (by decide)).trans k41_6)
  have k42_7 := (congrFun eh42x (71)).trans ((va_up_ne _ _ (by decide)).trans k41_7)
  have k42_8 := (congrFun eh42x (72)).trans ((va_up_ne _ _ (by decide)).trans k41_8)
  have k42_9 := (congrFun eh42x (73)).trans ((va_up_ne _ _ (by decide)).trans k41_9)
  have k42_10 := (congrFun eh42x (74)).trans ((va_up_ne _ _ (by decide)).trans k41_10)
  have k42_11 := (congrFun eh42x (75)).trans ((va_up_ne _ _ (by decide)).trans k41_11)
  have k42_12 := (congrFun eh42x (76)).trans ((va_up_ne _ _ (by decide)).trans k41_12)
  have k42_13 := (congrFun eh42x (77)).trans ((va_up_ne _ _ (by decide)).trans k41_13)
  have k42_14 := (congrFun eh42x (78)).trans ((va_up_ne _ _ (by decide)).trans k41_14)
  have k42_15 := (congrFun eh42x (79)).trans ((va_up_ne _ _ (by decide)).trans k41_15)
  have k42_16 := (congrFun eh42x (80)).trans ((va_up_ne _ _ (by decide)).trans k41_16)
  have k42_17 := (congrFun eh42x (81)).trans ((va_up_ne _ _ (by decide)).trans k41_17)
  have k42_18 := (congrFun eh42x (82)).trans ((va_up_ne _ _ (by decide)).trans k41_18)
  have k42_19 := (congrFun eh42x (83)).trans ((va_up_ne _ _ (by decide)).trans k41_19)
  have k42_20 := (congrFun eh42x (84)).trans ((va_up_ne _ _ (by decide)).trans k41_20)
  have S42 : zsm h h42x (zbt 64 106) := zsm.up S41 eh42x ⟨by decide, by decide⟩
  clear eh42x k41_0 k41_1 k41_2 k41_3 k41_4 k41_5 k41_6 k41_7 k41_8 k41_9 k41_10 k41_11 k41_12 k41_13 k41_14 k41_15 k41_16 k41_17 k41_18 k41_19 k41_20 S41 h41x
  refine zp_aload_n dX11_init_182 rfl ?_
  refine zp_bipush (v := nI (40)) dX11_init_183 (by decide) ?_
  refine zp_put (fs' := [.int (0), .ref (65), .ref (66), .ref (67), .ref (68), .ref (69), .ref (70), .ref (71), .ref (72), .ref (73), .ref (74), .ref (75), .ref (76), .ref (77), .ref (78), .ref (79), .ref (80), .ref (81), .ref (82), .ref (83), .ref (84), .int (0), .int (0), .int (nI (5)), .int (nI (512)), .int (nI (40)), .int (0), .int (0), .int (0), .int (0), .int (0), .int (0), .int (0), .null, .null, .null, .int (0), .null, .null, .null, .null, .null, .null, .int (0), .null, .int (0)]) dX11_init_185 pX11_78_10 (by omega) k42_0 (Nat.le_of_ble_eq_true rfl) (zfit_i _) rfl ?_
  refine zp_nh (fun h43x eh43x => ?_)
  have k43_0 : h43x (64) = some (.inl (10, [.int (0), .ref (65), .ref (66), .ref (67), .ref (68), .ref (69), .ref (70), .ref (71), .ref (72), .ref (73), .ref (74), .ref (75), .ref (76), .ref (77), .ref (78), .ref (79), .ref (80), .ref (81), .ref (82), .ref (83), .ref (84), .int (0), .int (0), .int (nI (5)), .int (nI (512)), .int (nI (40)), .int (0), .int (0), .int (0), .int (0), .int (0), .int (0), .int (0), .null, .null, .null, .int (0), .null, .null, .null, .null, .null, .null, .int (0), .null, .int (0)])) := by rw [eh43x]; exact va_up_self _ _ _
  have k43_1 := (congrFun eh43x (65)).trans ((va_up_ne _ _ (by decide)).trans k42_1)
  have k43_2 := (congrFun eh43x (66)).trans ((va_up_ne _ _ (by decide)).trans k42_2)
  have k43_3 := (congrFun eh43x (67)).trans ((va_up_ne _ _ (by decide)).trans k42_3)
  have k43_4 := (congrFun eh43x (68)).trans ((va_up_ne _ _ (by decide)).trans k42_4)
  have k43_5 := (congrFun eh43x (69)).trans ((va_up_ne _ _ (by decide)).trans k42_5)
  have k43_6 := (congrFun eh43x (70)).trans ((va_up_ne _ _ (by decide)).trans k42_6)
  have k43_7 := (congrFun eh43x (71)).trans ((va_up_ne _ _ (by decide)).trans k42_7)
  have k43_8 := (congrFun eh43x (72)).trans ((va_up_ne _ _ (by decide)).trans k42_8)
  have k43_9 := (congrFun eh43x (73)).trans ((va_up_ne _ _ (by decide)).trans k42_9)
  have k43_10 := (congrFun eh43x (74)).trans ((va_up_ne _ _ (by decide)).trans k42_10)
  have k43_11 := (congrFun eh43x (75)).trans ((va_up_ne _ _ (by decide)).trans k42_11)
  have k43_12 := (congrFun eh43x (76)).trans ((va_up_ne _ _ (by decide)).trans k42_12)
  have k43_13 := (congrFun eh43x (77)).trans ((va_up_ne _ _ (by decide)).trans k42_13)
  have k43_14 := (congrFun eh43x (78)).trans ((va_up_ne _ _ (by decide)).trans k42_14)
  have k43_15 := (congrFun eh43x (79)).trans ((va_up_ne _ _ (by decide)).trans k42_15)
  have k43_16 := (congrFun eh43x (80)).trans ((va_up_ne _ _ (by decide)).trans k42_16)
  have k43_17 := (congrFun eh43x (81)).trans ((va_up_ne _ _ (by decide)).trans k42_17)
  have k43_18 := (congrFun eh43x (82)).trans ((va_up_ne _ _ (by decide)).trans k42_18)
  have k43_19 := (congrFun eh43x (83)).trans ((va_up_ne _ _ (by decide)).trans k42_19)
  have k43_20 := (congrFun eh43x (84)).trans ((va_up_ne _ _ (by decide)).trans k42_20)
  have S43 : zsm h h43x (zbt 64 106) := zsm.up S42 eh43x ⟨by decide, by decide⟩
  clear eh43x k42_0 k42_1 k42_2 k42_3 k42_4 k42_5 k42_6 k42_7 k42_8 k42_9 k42_10 k42_11 k42_12 k42_13 k42_14 k42_15 k42_16 k42_17 k42_18 k42_19 k42_20 S42 h42x
  refine zp_aload_n dX11_init_188 rfl ?_
  refine zp_iconst (v := (-1)) dX11_init_189 (by decide) ?_
  refine zp_put (fs' := [.int (0), .ref (65), .ref (66), .ref (67), .ref (68), .ref (69), .ref (70), .ref (71), .ref (72), .ref (73), .ref (74), .ref (75), .ref (76), .ref (77), .ref (78), .ref (79), .ref (80), .ref (81), .ref (82), .ref (83), .ref (84), .int (0), .int (0), .int (nI (5)), .int (nI (512)), .int (nI (40)), .int ((-1)), .int (0), .int (0), .int (0), .int (0), .int (0), .int (0), .null, .null, .null, .int (0), .null, .null, .null, .null, .null, .null, .int (0), .null, .int (0)]) dX11_init_190 pX11_81_10 (by omega) k43_0 (Nat.le_of_ble_eq_true rfl) (zfit_i _) rfl ?_
  refine zp_nh (fun h44x eh44x => ?_)
  have k44_0 : h44x (64) = some (.inl (10, [.int (0), .ref (65), .ref (66), .ref (67), .ref (68), .ref (69), .ref (70), .ref (71), .ref (72), .ref (73), .ref (74), .ref (75), .ref (76), .ref (77), .ref (78), .ref (79), .ref (80), .ref (81), .ref (82), .ref (83), .ref (84), .int (0), .int (0), .int (nI (5)), .int (nI (512)), .int (nI (40)), .int ((-1)), .int (0), .int (0), .int (0), .int (0), .int (0), .int (0), .null, .null, .null, .int (0), .null, .null, .null, .null, .null, .null, .int (0), .null, .int (0)])) := by rw [eh44x]; exact va_up_self _ _ _
  have k44_1 := (congrFun eh44x (65)).trans ((va_up_ne _ _ (by decide)).trans k43_1)
  have k44_2 := (congrFun eh44x (66)).trans ((va_up_ne _ _ (by decide)).trans k43_2)
  have k44_3 := (congrFun eh44x (67)).trans ((va_up_ne _ _ (by decide)).trans k43_3)
  have k44_4 := (congrFun eh44x (68)).trans ((va_up_ne _ _ (by decide)).trans k43_4)
  have k44_5 := (congrFun eh44x (69)).trans ((va_up_ne _ _ (by decide)).trans k43_5)
  have k44_6 := (congrFun eh44x (70)).trans ((va_up_ne _ _ (by decide)).trans k43_6)
  have k44_7 := (congrFun eh44x (71)).trans ((va_up_ne _ _ (by decide)).trans k43_7)
  have k44_8 := (congrFun eh44x (72)).trans ((va_up_ne _ _ (by decide)).trans k43_8)
  have k44_9 := (congrFun eh44x (73)).trans ((va_up_ne _ _ (by decide)).trans k43_9)
  have k44_10 := (congrFun eh44x (74)).trans ((va_up_ne _ _ (by decide)).trans k43_10)
  have k44_11 := (congrFun eh44x (75)).trans ((va_up_ne _ _ (by decide)).trans k43_11)
  have k44_12 := (congrFun eh44x (76)).trans ((va_up_ne _ _ (by decide)).trans k43_12)
  have k44_13 := (congrFun eh44x (77)).trans ((va_up_ne _ _ (by decide)).trans k43_13)
  have k44_14 := (congrFun eh44x (78)).trans ((va_up_ne _ _ (by decide)).trans k43_14)
  have k44_15 := (congrFun eh44x (79)).trans ((va_up_ne _ _ (by decide)).trans k43_15)
  have k44_16 := (congrFun eh44x (80)).trans ((va_up_ne _ _ (by decide)).trans k43_16)
  have k44_17 := (congrFun eh44x (81)).trans ((va_up_ne _ _ (by decide)).trans k43_17)
  have k44_18 := (congrFun eh44x (82)).trans ((va_up_ne _ _ (by decide)).trans k43_18)
  have k44_19 := (congrFun eh44x (83)).trans ((va_up_ne _ _ (by decide)).trans k43_19)
  have k44_20 := (congrFun eh44x (84)).trans ((va_up_ne _ _ (by decide)).trans k43_20)
  have S44 : zsm h h44x (zbt 64 106) := zsm.up S43 eh44x ⟨by decide, by decide⟩
  clear eh44x k43_0 k43_1 k43_2 k43_3 k43_4 k43_5 k43_6 k43_7 k43_8 k43_9 k43_10 k43_11 k43_12 k43_13 k43_14 k43_15 k43_16 k43_17 k43_18 k43_19 k43_20 S43 h43x
  refine zp_aload_n dX11_init_193 rfl ?_
  refine zp_iconst (v := (-1)) dX11_init_194 (by decide) ?_
  refine zp_put (fs' := [.int (0), .ref (65), .ref (66), .ref (67), .ref (68), .ref (69), .ref (70), .ref (71), .ref (72), .ref (73), .ref (74), .ref (75), .ref (76), .ref (77), .ref (78), .ref (79), .ref (80), .ref (81), .ref (82), .ref (83), .ref (84), .int (0), .int (0), .int (nI (5)), .int (nI (512)), .int (nI (40)), .int ((-1)), .int (0), .int ((-1)), .int (0), .int (0), .int (0), .int (0), .null, .null, .null, .int (0), .null, .null, .null, .null, .null, .null, .int (0), .null, .int (0)]) dX11_init_195 pX11_84_10 (by omega) k44_0 (Nat.le_of_ble_eq_true rfl) (zfit_i _) rfl ?_
  refine zp_nh (fun h45x eh45x => ?_)
  have k45_0 : h45x (64) = some (.inl (10, [.int (0), .ref (65), .ref (66), .ref (67), .ref (68), .ref (69), .ref (70), .ref (71), .ref (72), .ref (73), .ref (74), .ref (75), .ref (76), .ref (77), .ref (78), .ref (79), .ref (80), .ref (81), .ref (82), .ref (83), .ref (84), .int (0), .int (0), .int (nI (5)), .int (nI (512)), .int (nI (40)), .int ((-1)), .int (0), .int ((-1)), .int (0), .int (0), .int (0), .int (0), .null, .null, .null, .int (0), .null, .null, .null, .null, .null, .null, .int (0), .null, .int (0)])) := by rw [eh45x]; exact va_up_self _ _ _
  have k45_1 := (congrFun eh45x (65)).trans ((va_up_ne _ _ (by decide)).trans k44_1)
  have k45_2 := (congrFun eh45x (66)).trans ((va_up_ne _ _ (by decide)).trans k44_2)
  have k45_3 := (congrFun eh45x (67)).trans ((va_up_ne _ _ (by decide)).trans k44_3)
  have k45_4 := (congrFun eh45x (68)).trans ((va_up_ne _ _ (by decide)).trans k44_4)
  have k45_5 := (congrFun eh45x (69)).trans ((va_up_ne _ _ (by decide)).trans k44_5)
  have k45_6 := (congrFun eh45x (70)).trans ((va_up_ne _ _ (by decide)).trans k44_6)
  have k45_7 := (congrFun eh45x (71)).trans ((va_up_ne _ _ (by decide)).trans k44_7)
  have k45_8 := (congrFun eh45x (72)).trans ((va_up_ne _ _ (by decide)).trans k44_8)
  have k45_9 := (congrFun eh45x (73)).trans ((va_up_ne _ _ (by decide)).trans k44_9)
  have k45_10 := (congrFun eh45x (74)).trans ((va_up_ne _ _ (by decide)).trans k44_10)
  have k45_11 := (congrFun eh45x (75)).trans ((va_up_ne _ _ (by decide)).trans k44_11)
  have k45_12 := (congrFun eh45x (76)).trans ((va_up_ne _ _ (by decide)).trans k44_12)
  have k45_13 := (congrFun eh45x (77)).trans ((va_up_ne _ _ (by decide)).trans k44_13)
  have k45_14 := (congrFun eh45x (78)).trans ((va_up_ne _ _ (by decide)).trans k44_14)
  have k45_15 := (congrFun eh45x (79)).trans ((va_up_ne _ _ (by decide)).trans k44_15)
  have k45_16 := (congrFun eh45x (80)).trans ((va_up_ne _ _ (by decide)).trans k44_16)
  have k45_17 := (congrFun eh45x (81)).trans ((va_up_ne _ _ (by decide)).trans k44_17)
  have k45_18 := (congrFun eh45x (82)).trans ((va_up_ne _ _ (by decide)).trans k44_18)
  have k45_19 := (congrFun eh45x (83)).trans ((va_up_ne _ _ (by decide)).trans k44_19)
  have k45_20 := (congrFun eh45x (84)).trans ((va_up_ne _ _ (by decide)).trans k44_20)
  have S45 : zsm h h45x (zbt 64 106) := zsm.up S44 eh45x ⟨by decide, by decide⟩
  clear eh45x k44_0 k44_1 k44_2 k44_3 k44_4 k44_5 k44_6 k44_7 k44_8 k44_9 k44_10 k44_11 k44_12 k44_13 k44_14 k44_15 k44_16 k44_17 k44_18 k44_19 k44_20 S44 h44x
  refine zp_aload_n dX11_init_198 rfl ?_
  refine zp_bipush (v := nI (100)) dX11_init_199 (by decide) ?_
  refine zp_newi (N := 100) dX11_init_201 (nI_pos (by decide)) (nI_clamp (by decide)) (by decide) (Nat.le_of_ble_eq_true rfl) (Nat.le_of_ble_eq_true rfl) ?_
  refine zp_nn (cells' := 21) (slots' := 6193) (n' := 86) (st' := [.ref (85), .ref (64)]) rfl rfl rfl rfl ?_
  refine zp_nh (fun h46x eh46x => ?_)
  have k46_0 := (congrFun eh46x (64)).trans ((va_up_ne _ _ (by decide)).trans k45_0)
  have k46_1 := (congrFun eh46x (65)).trans ((va_up_ne _ _ (by decide)).trans k45_1)
  have k46_2 := (congrFun eh46x (66)).trans ((va_up_ne _ _ (by decide)).trans k45_2)
  have k46_3 := (congrFun eh46x (67)).trans ((va_up_ne _ _ (by decide)).trans k45_3)
  have k46_4 := (congrFun eh46x (68)).trans ((va_up_ne _ _ (by decide)).trans k45_4)
  have k46_5 := (congrFun eh46x (69)).trans ((va_up_ne _ _ (by decide)).trans k45_5)
  have k46_6 := (congrFun eh46x (70)).trans ((va_up_ne _ _ (by decide)).trans k45_6)
  have k46_7 := (congrFun eh46x (71)).trans ((va_up_ne _ _ (by decide)).trans k45_7)
  have k46_8 := (congrFun eh46x (72)).trans ((va_up_ne _ _ (by decide)).trans k45_8)
  have k46_9 := (congrFun eh46x (73)).trans ((va_up_ne _ _ (by decide)).trans k45_9)
  have k46_10 := (congrFun eh46x (74)).trans ((va_up_ne _ _ (by decide)).trans k45_10)
  have k46_11 := (congrFun eh46x (75)).trans ((va_up_ne _ _ (by decide)).trans k45_11)
  have k46_12 := (congrFun eh46x (76)).trans ((va_up_ne _ _ (by decide)).trans k45_12)
  have k46_13 := (congrFun eh46x (77)).trans ((va_up_ne _ _ (by decide)).trans k45_13)
  have k46_14 := (congrFun eh46x (78)).trans ((va_up_ne _ _ (by decide)).trans k45_14)
  have k46_15 := (congrFun eh46x (79)).trans ((va_up_ne _ _ (by decide)).trans k45_15)
  have k46_16 := (congrFun eh46x (80)).trans ((va_up_ne _ _ (by decide)).trans k45_16)
  have k46_17 := (congrFun eh46x (81)).trans ((va_up_ne _ _ (by decide)).trans k45_17)
  have k46_18 := (congrFun eh46x (82)).trans ((va_up_ne _ _ (by decide)).trans k45_18)
  have k46_19 := (congrFun eh46x (83)).trans ((va_up_ne _ _ (by decide)).trans k45_19)
  have k46_20 := (congrFun eh46x (84)).trans ((va_up_ne _ _ (by decide)).trans k45_20)
  have k46_21 : h46x (85) = some (.inr (100, .inl (fun _ => 0))) := by rw [eh46x]; exact va_up_self _ _ _
  have S46 : zsm h h46x (zbt 64 106) := zsm.up S45 eh46x ⟨by decide, by decide⟩
  clear eh46x k45_0 k45_1 k45_2 k45_3 k45_4 k45_5 k45_6 k45_7 k45_8 k45_9 k45_10 k45_11 k45_12 k45_13 k45_14 k45_15 k45_16 k45_17 k45_18 k45_19 k45_20 S45 h45x
  refine zp_putF (fs' := [.int (0), .ref (65), .ref (66), .ref (67), .ref (68), .ref (69), .ref (70), .ref (71), .ref (72), .ref (73), .ref (74), .ref (75), .ref (76), .ref (77), .ref (78), .ref (79), .ref (80), .ref (81), .ref (82), .ref (83), .ref (84), .int (0), .int (0), .int (nI (5)), .int (nI (512)), .int (nI (40)), .int ((-1)), .int (0), .int ((-1)), .int (0), .int (0), .int (0), .int (0), .ref (85), .null, .null, .int (0), .null, .null, .null, .null, .null, .null, .int (0), .null, .int (0)]) dX11_init_203 pX11_87_10 rfl (by omega) k46_0 (Nat.le_of_ble_eq_true rfl) (zfit_a _ _) rfl ?_
  refine zp_nh (fun h47x eh47x => ?_)
  have k47_0 : h47x (64) = some (.inl (10, [.int (0), .ref (65), .ref (66), .ref (67), .ref (68), .ref (69), .ref (70), .ref (71), .ref (72), .ref (73), .ref (74), .ref (75), .ref (76), .ref (77), .ref (78), .ref (79), .ref (80), .ref (81), .ref (82), .ref (83), .ref (84), .int (0), .int (0), .int (nI (5)), .int (nI (512)), .int (nI (40)), .int ((-1)), .int (0), .int ((-1)), .int (0), .int (0), .int (0), .int (0), .ref (85), .null, .null, .int (0), .null, .null, .null, .null, .null, .null, .int (0), .null, .int (0)])) := by rw [eh47x]; exact va_up_self _ _ _
  have k47_1 := (congrFun eh47x (65)).trans ((va_up_ne _ _ (by decide)).trans k46_1)
  have k47_2 := (congrFun eh47x (66)).trans ((va_up_ne _ _ (by decide)).trans k46_2)
  have k47_3 := (congrFun eh47x (67)).trans ((va_up_ne _ _ (by decide)).trans k46_3)
  have k47_4 := (congrFun eh47x (68)).trans ((va_up_ne _ _ (by decide)).trans k46_4)
  have k47_5 := (congrFun eh47x (69)).trans ((va_up_ne _ _ (by decide)).trans k46_5)
  have k47_6 := (congrFun eh47x (70)).trans ((va_up_ne _ _ (by decide)).trans k46_6)
  have k47_7 := (congrFun eh47x (71)).trans ((va_up_ne _ _ (by decide)).trans k46_7)
  have k47_8 := (congrFun eh47x (72)).trans ((va_up_ne _ _ (by decide)).trans k46_8)
  have k47_9 := (congrFun eh47x (73)).trans ((va_up_ne _ _ (by decide)).trans k46_9)
  have k47_10 := (congrFun eh47x (74)).trans ((va_up_ne _ _ (by decide)).trans k46_10)
  have k47_11 := (congrFun eh47x (75)).trans ((va_up_ne _ _ (by decide)).trans k46_11)
  have k47_12 := (congrFun eh47x (76)).trans ((va_up_ne _ _ (by decide)).trans k46_12)
  have k47_13 := (congrFun eh47x (77)).trans ((va_up_ne _ _ (by decide)).trans k46_13)
  have k47_14 := (congrFun eh47x (78)).trans ((va_up_ne _ _ (by decide)).trans k46_14)
  have k47_15 := (congrFun eh47x (79)).trans ((va_up_ne _ _ (by decide)).trans k46_15)
  have k47_16 := (congrFun eh47x (80)).trans ((va_up_ne _ _ (by decide)).trans k46_16)
  have k47_17 := (congrFun eh47x (81)).trans ((va_up_ne _ _ (by decide)).trans k46_17)
  have k47_18 := (congrFun eh47x (82)).trans ((va_up_ne _ _ (by decide)).trans k46_18)
  have k47_19 := (congrFun eh47x (83)).trans ((va_up_ne _ _ (by decide)).trans k46_19)
  have k47_20 := (congrFun eh47x (84)).trans ((va_up_ne _ _ (by decide)).trans k46_20)
  have k47_21 := (congrFun eh47x (85)).trans ((va_up_ne _ _ (by decide)).trans k46_21)
  have S47 : zsm h h47x (zbt 64 106) := zsm.up S46 eh47x ⟨by decide, by decide⟩
  clear eh47x k46_0 k46_1 k46_2 k46_3 k46_4 k46_5 k46_6 k46_7 k46_8 k46_9 k46_10 k46_11 k46_12 k46_13 k46_14 k46_15 k46_16 k46_17 k46_18 k46_19 k46_20 k46_21 S46 h46x
  refine zp_aload_n dX11_init_206 rfl ?_
  refine zp_iconst (v := nI (4)) dX11_init_207 (by decide) ?_
  refine zp_newq (b := true) (N := 4) dX11_init_208 nX11_90 zao_true (nI_pos (by decide)) (nI_clamp (by decide)) (by decide) (Nat.le_of_ble_eq_true rfl) (Nat.le_of_ble_eq_true rfl) ?_
  refine zp_nn (cells' := 22) (slots' := 6197) (n' := 87) (st' := [.ref (86), .ref (64)]) rfl rfl rfl rfl ?_
  refine zp_nh (fun h48x eh48x => ?_)
  have k48_0 := (congrFun eh48x (64)).trans ((va_up_ne _ _ (by decide)).trans k47_0)
  have k48_1 := (congrFun eh48x (65)).trans ((va_up_ne _ _ (by decide)).trans k47_1)
  have k48_2 := (congrFun eh48x (66)).trans ((va_up_ne _ _ (by decide)).trans k47_2)
  have k48_3 := (congrFun eh48x (67)).trans ((va_up_ne _ _ (by decide)).trans k47_3)
  have k48_4 := (congrFun eh48x (68)).trans ((va_up_ne _ _ (by decide)).trans k47_4)
  have k48_5 := (congrFun eh48x (69)).trans ((va_up_ne _ _ (by decide)).trans k47_5)
  have k48_6 := (congrFun eh48x (70)).trans ((va_up_ne _ _ (by decide)).trans k47_6)
  have k48_7 := (congrFun eh48x (71)).trans ((va_up_ne _ _ (by decide)).trans k47_7)
  have k48_8 := (congrFun eh48x (72)).trans ((va_up_ne _ _ (by decide)).trans k47_8)
  have k48_9 := (congrFun eh48x (73)).trans ((va_up_ne _ _ (by decide)).trans k47_9)
  have k48_10 := (congrFun eh48x (74)).trans ((va_up_ne _ _ (by decide)).trans k47_10)
  have k48_11 := (congrFun eh48x (75)).trans ((va_up_ne _ _ (by decide)).trans k47_11)
  have k48_12 := (congrFun eh48x (76)).trans ((va_up_ne _ _ (by decide)).trans k47_12)
  have k48_13 := (congrFun eh48x (77)).trans ((va_up_ne _ _ (by decide)).trans k47_13)
  have k48_14 := (congrFun eh48x (78)).trans ((va_up_ne _ _ (by decide)).trans k47_14)
  have k48_15 := (congrFun eh48x (79)).trans ((va_up_ne _ _ (by decide)).trans k47_15)
  have k48_16 := (congrFun eh48x (80)).trans ((va_up_ne _ _ (by decide)).trans k47_16)
  have k48_17 := (congrFun eh48x (81)).trans ((va_up_ne _ _ (by decide)).trans k47_17)
  have k48_18 := (congrFun eh48x (82)).trans ((va_up_ne _ _ (by decide)).trans k47_18)
  have k48_19 := (congrFun eh48x (83)).trans ((va_up_ne _ _ (by decide)).trans k47_19)
  have k48_20 := (congrFun eh48x (84)).trans ((va_up_ne _ _ (by decide)).trans k47_20)
  have k48_21 := (congrFun eh48x (85)).trans ((va_up_ne _ _ (by decide)).trans k47_21)
  have k48_22 : h48x (86) = some (.inr (4, .inr (.inr (true, fun _ => none)))) := by rw [eh48x]; exact va_up_self _ _ _
  have S48 : zsm h h48x (zbt 64 106) := zsm.up S47 eh48x ⟨by decide, by decide⟩
  clear eh48x k47_0 k47_1 k47_2 k47_3 k47_4 k47_5 k47_6 k47_7 k47_8 k47_9 k47_10 k47_11 k47_12 k47_13 k47_14 k47_15 k47_16 k47_17 k47_18 k47_19 k47_20 k47_21 S47 h47x
  refine zp_putF (fs' := [.int (0), .ref (65), .ref (66), .ref (67), .ref (68), .ref (69), .ref (70), .ref (71), .ref (72), .ref (73), .ref (74), .ref (75), .ref (76), .ref (77), .ref (78), .ref (79), .ref (80), .ref (81), .ref (82), .ref (83), .ref (84), .int (0), .int (0), .int (nI (5)), .int (nI (512)), .int (nI (40)), .int ((-1)), .int (0), .int ((-1)), .int (0), .int (0), .int (0), .int (0), .ref (85), .ref (86), .null, .int (0), .null, .null, .null, .null, .null, .null, .int (0), .null, .int (0)]) dX11_init_211 pX11_92_10 rfl (by omega) k48_0 (Nat.le_of_ble_eq_true rfl) (zfit_a _ _) rfl ?_
  refine zp_nh (fun h49x eh49x => ?_)
  have k49_0 : h49x (64) = some (.inl (10, [.int (0), .ref (65), .ref (66), .ref (67), .ref (68), .ref (69), .ref (70), .ref (71), .ref (72), .ref (73), .ref (74), .ref (75), .ref (76), .ref (77), .ref (78), .ref (79), .ref (80), .ref (81), .ref (82), .ref (83), .ref (84), .int (0), .int (0), .int (nI (5)), .int (nI (512)), .int (nI (40)), .int ((-1)), .int (0), .int ((-1)), .int (0), .int (0), .int (0), .int (0), .ref (85), .ref (86), .null, .int (0), .null, .null, .null, .null, .null, .null, .int (0), .null, .int (0)])) := by rw [eh49x]; exact va_up_self _ _ _
  have k49_1 := (congrFun eh49x (65)).trans ((va_up_ne _ _ (by decide)).trans k48_1)
  have k49_2 := (congrFun eh49x (66)).trans ((va_up_ne _ _ (by decide)).trans k48_2)
  have k49_3 := (congrFun eh49x (67)).trans ((va_up_ne _ _ (by decide)).trans k48_3)
  have k49_4 := (congrFun eh49x (68)).trans ((va_up_ne _ _ (by decide)).trans k48_4)
  have k49_5 := (congrFun eh49x (69)).trans ((va_up_ne _ _ (by decide)).trans k48_5)
  have k49_6 := (congrFun eh49x (70)).trans ((va_up_ne _ _ (by decide)).trans k48_6)
  have k49_7 := (congrFun eh49x (71)).trans ((va_up_ne _ _ (by decide)).trans k48_7)
  have k49_8 := (congrFun eh49x (72)).trans ((va_up_ne _ _ (by decide)).trans k48_8)
  have k49_9 := (congrFun eh49x (73)).trans ((va_up_ne _ _ (by decide)).trans k48_9)
  have k49_10 := (congrFun eh49x (74)).trans ((va_up_ne _ _ (by decide)).trans k48_10)
  have k49_11 := (congrFun eh49x (75)).trans ((va_up_ne _ _ (by decide)).trans k48_11)
  have k49_12 := (congrFun eh49x (76)).trans ((va_up_ne _ _ (by decide)).trans k48_12)
  have k49_13 := (congrFun eh49x (77)).trans ((va_up_ne _ _ (by decide)).trans k48_13)
  have k49_14 := (congrFun eh49x (78)).trans ((va_up_ne _ _ (by decide)).trans k48_14)
  have k49_15 := (congrFun eh49x (79)).trans ((va_up_ne _ _ (by decide)).trans k48_15)
  have k49_16 := (congrFun eh49x (80)).trans ((va_up_ne _ _ (by decide)).trans k48_16)
  have k49_17 := (congrFun eh49x (81)).trans ((va_up_ne _ _ (by decide)).trans k48_17)
  have k49_18 := (congrFun eh49x (82)).trans ((va_up_ne _ _ (by decide)).trans k48_18)
  have k49_19 := (congrFun eh49x (83)).trans ((va_up_ne _ _ (by decide)).trans k48_19)
  have k49_20 := (congrFun eh49x (84)).trans ((va_up_ne _ _ (by decide)).trans k48_20)
  have k49_21 := (congrFun eh49x (85)).trans ((va_up_ne _ _ (by decide)).trans k48_21)
  have k49_22 := (congrFun eh49x (86)).trans ((va_up_ne _ _ (by decide)).trans k48_22)
  have S49 : zsm h h49x (zbt 64 106) := zsm.up S48 eh49x ⟨by decide, by decide⟩
  clear eh49x k48_0 k48_1 k48_2 k48_3 k48_4 k48_5 k48_6 k48_7 k48_8 k48_9 k48_10 k48_11 k48_12 k48_13 k48_14 k48_15 k48_16 k48_17 k48_18 k48_19 k48_20 k48_21 k48_22 S48 h48x
  refine zp_aload_n dX11_init_214 rfl ?_
  refine zp_sipush (v := nI (1000)) dX11_init_215 (by decide) ?_
  refine zp_newi (N := 1000) dX11_init_218 (nI_pos (by decide)) (nI_clamp (by decide)) (by decide) (Nat.le_of_ble_eq_true rfl) (Nat.le_of_ble_eq_true rfl) ?_
  refine zp_nn (cells' := 23) (slots' := 7197) (n' := 88) (st' := [.ref (87), .ref (64)]) rfl rfl rfl rfl ?_
  refine zp_nh (fun h50x eh50x => ?_)
  have k50_0 := (congrFun eh50x (64)).trans ((va_up_ne _ _ (by decide)).trans k49_0)
  have k50_1 := (congrFun eh50x (65)).trans ((va_up_ne _ _ (by decide)).trans k49_1)
  have k50_2 := (congrFun eh50x (66)).trans ((va_up_ne _ _ (by decide)).trans k49_2)
  have k50_3 := (congrFun eh50x (67)).trans ((va_up_ne _ _ (by decide)).trans k49_3)
  have k50_4 := (congrFun eh50x (68)).trans ((va_up_ne _ _ (by decide)).trans k49_4)
  have k50_5 := (congrFun eh50x (69)).trans ((va_up_ne _ _ (by decide)).trans k49_5)
  have k50_6 := (congrFun eh50x (70)).trans ((va_up_ne _ _ (by decide)).trans k49_6)
  have k50_7 := (congrFun eh50x (71)).trans ((va_up_ne _ _ (by decide)).trans k49_7)
  have k50_8 := (congrFun eh50x (72)).trans ((va_up_ne _ _ (by decide)).trans k49_8)
  have k50_9 := (congrFun eh50x (73)).trans ((va_up_ne _ _ (by decide)).trans k49_9)
  have k50_10 := (congrFun eh50x (74)).trans ((va_up_ne _ _ (by decide)).trans k49_10)
  have k50_11 := (congrFun eh50x (75)).trans ((va_up_ne _ _ (by decide)).trans k49_11)
  have k50_12 := (congrFun eh50x (76)).trans ((va_up_ne _ _ (by decide)).trans k49_12)
  have k50_13 := (congrFun eh50x (77)).trans ((va_up_ne _ _ (by decide)).trans k49_13)
  have k50_14 := (congrFun eh50x (78)).trans ((va_up_ne _ _ (by decide)).trans k49_14)
  have k50_15 := (congrFun eh50x (79)).trans ((va_up_ne _ _ (by decide)).trans k49_15)
  have k50_16 := (congrFun eh50x (80)).trans ((va_up_ne _ _ (by decide)).trans k49_16)
  have k50_17 := (congrFun eh50x (81)).trans ((va_up_ne _ _ (by decide)).trans k49_17)
  have k50_18 := (congrFun eh50x (82)).trans ((va_up_ne _ _ (by decide)).trans k49_18)
  have k50_19 := (congrFun eh50x (83)).trans ((va_up_ne _ _ (by decide)).trans k49_19)
  have k50_20 := (congrFun eh50x (84)).trans ((va_up_ne _ _ (by decide)).trans k49_20)
  have k50_21 := (congrFun eh50x (85)).trans ((va_up_ne _ _ (by decide)).trans k49_21)
  have k50_22 := (congrFun eh50x (86)).trans ((va_up_ne _ _ (by decide)).trans k49_22)
  have k50_23 : h50x (87) = some (.inr (1000, .inl (fun _ => 0))) := by rw [eh50x]; exact va_up_self _ _ _
  have S50 : zsm h h50x (zbt 64 106) := zsm.up S49 eh50x ⟨by decide, by decide⟩
  clear eh50x k49_0 k49_1 k49_2 k49_3 k49_4 k49_5 k49_6 k49_7 k49_8 k49_9 k49_10 k49_11 k49_12 k49_13 k49_14 k49_15 k49_16 k49_17 k49_18 k49_19 k49_20 k49_21 k49_22 S49 h49x
  refine zp_putF (fs' := [.int (0), .ref (65), .ref (66), .ref (67), .ref (68), .ref (69), .ref (70), .ref (71), .ref (72), .ref (73), .ref (74), .ref (75), .ref (76), .ref (77), .ref (78), .ref (79), .ref (80), .ref (81), .ref (82), .ref (83), .ref (84), .int (0), .int (0), .int (nI (5)), .int (nI (512)), .int (nI (40)), .int ((-1)), .int (0), .int ((-1)), .int (0), .int (0), .int (0), .int (0), .ref (85), .ref (86), .ref (87), .int (0), .null, .null, .null, .null, .null, .null, .int (0), .null, .int (0)]) dX11_init_220 pX11_96_10 rfl (by omega) k50_0 (Nat.le_of_ble_eq_true rfl) (zfit_a _ _) rfl ?_
  refine zp_nh (fun h51x eh51x => ?_)
  have k51_0 : h51x (64) = some (.inl (10, [.int (0), .ref (65), .ref (66), .ref (67), .ref (68), .ref (69), .ref (70), .ref (71), .ref (72), .ref (73), .ref (74), .ref (75), .ref (76), .ref (77), .ref (78), .ref (79), .ref (80), .ref (81), .ref (82), .ref (83), .ref (84), .int (0), .int (0), .int (nI (5)), .int (nI (512)), .int (nI (40)), .int ((-1)), .int (0), .int ((-1)), .int (0), .int (0), .int (0), .int (0), .ref (85), .ref (86), .ref (87), .int (0), .null, .null, .null, .null, .null, .null, .int (0), .null, .int (0)])) := by rw [eh51x]; exact va_up_self _ _ _
  have k51_1 := (congrFun eh51x (65)).trans ((va_up_ne _ _ (by decide)).trans k50_1)
  have k51_2 := (congrFun eh51x (66)).trans ((va_up_ne _ _ (by decide)).trans k50_2)
  have k51_3 := (congrFun eh51x (67)).trans ((va_up_ne _ _ (by decide)).trans k50_3)
  have k51_4 := (congrFun eh51x (68)).trans ((va_up_ne _ _ (by decide)).trans k50_4)
  have k51_5 := (congrFun eh51x (69)).trans ((va_up_ne _ _ (by decide)).trans k50_5)
  have k51_6 := (congrFun eh51x (70)).trans ((va_up_ne _ _ (by decide)).trans k50_6)
  have k51_7 := (congrFun eh51x (71)).trans ((va_up_ne _ _ (by decide)).trans k50_7)
  have k51_8 := (congrFun eh51x (72)).trans ((va_up_ne _ _ (by decide)).trans k50_8)
  have k51_9 := (congrFun eh51x (73)).trans ((va_up_ne _ _ (by decide)).trans k50_9)
  have k51_10 := (congrFun eh51x (74)).trans ((va_up_ne _ _ (by decide)).trans k50_10)
  have k51_11 := (congrFun eh51x (75)).trans ((va_up_ne _ _ (by decide)).trans k50_11)
  have k51_12 := (congrFun eh51x (76)).trans ((va_up_ne _ _ (by decide)).trans k50_12)
  have k51_13 := (congrFun eh51x (77)).trans ((va_up_ne _ _ (by decide)).trans k50_13)
  have k51_14 := (congrFun eh51x (78)).trans ((va_up_ne _ _ (by decide)).trans k50_14)
  have k51_15 := (congrFun eh51x (79)).trans ((va_up_ne _ _ (by decide)).trans k50_15)
  have k51_16 := (congrFun eh51x (80)).trans ((va_up_ne _ _ (by decide)).trans k50_16)
  have k51_17 := (congrFun eh51x (81)).trans ((va_up_ne _ _ (by decide)).trans k50_17)
  have k51_18 := (congrFun eh51x (82)).trans ((va_up_ne _ _ (by decide)).trans k50_18)
  have k51_19 := (congrFun eh51x (83)).trans ((va_up_ne _ _ (by decide)).trans k50_19)
  have k51_20 := (congrFun eh51x (84)).trans ((va_up_ne _ _ (by decide)).trans k50_20)
  have k51_21 := (congrFun eh51x (85)).trans ((va_up_ne _ _ (by decide)).trans k50_21)
  have k51_22 := (congrFun eh51x (86)).trans ((va_up_ne _ _ (by decide)).trans k50_22)
  have k51_23 := (congrFun eh51x (87)).trans ((va_up_ne _ _ (by decide)).trans k50_23)
  have S51 : zsm h h51x (zbt 64 106) := zsm.up S50 eh51x ⟨by decide, by decide⟩
  clear eh51x k50_0 k50_1 k50_2 k50_3 k50_4 k50_5 k50_6 k50_7 k50_8 k50_9 k50_10 k50_11 k50_12 k50_13 k50_14 k50_15 k50_16 k50_17 k50_18 k50_19 k50_20 k50_21 k50_22 k50_23 S50 h50x
  refine zp_aload_n dX11_init_223 rfl ?_
  refine zp_iconst (v := nI (4)) dX11_init_224 (by decide) ?_
  refine zp_newi (N := 4) dX11_init_225 (nI_pos (by decide)) (nI_clamp (by decide)) (by decide) (Nat.le_of_ble_eq_true rfl) (Nat.le_of_ble_eq_true rfl) ?_
  refine zp_nn (cells' := 24) (slots' := 7201) (n' := 89) (st' := [.ref (88), .ref (64)]) rfl rfl rfl rfl ?_
  refine zp_nh (fun h52x eh52x => ?_)
  have k52_0 := (congrFun eh52x (64)).trans ((va_up_ne _ _ (by decide)).trans k51_0)
  have k52_1 := (congrFun eh52x (65)).trans ((va_up_ne _ _ (by decide)).trans k51_1)
  have k52_2 := (congrFun eh52x (66)).trans ((va_up_ne _ _ (by decide)).trans k51_2)
  have k52_3 := (congrFun eh52x (67)).trans ((va_up_ne _ _ (by decide)).trans k51_3)
  have k52_4 := (congrFun eh52x (68)).trans ((va_up_ne _ _ (by decide)).trans k51_4)
  have k52_5 := (congrFun eh52x (69)).trans ((va_up_ne _ _ (by decide)).trans k51_5)
  have k52_6 := (congrFun eh52x (70)).trans ((va_up_ne _ _ (by decide)).trans k51_6)
  have k52_7 := (congrFun eh52x (71)).trans ((va_up_ne _ _ (by decide)).trans k51_7)
  have k52_8 := (congrFun eh52x (72)).trans ((va_up_ne _ _ (by decide)).trans k51_8)
  have k52_9 := (congrFun eh52x (73)).trans ((va_up_ne _ _ (by decide)).trans k51_9)
  have k52_10 := (congrFun eh52x (74)).trans ((va_up_ne _ _ (by decide)).trans k51_10)
  have k52_11 := (congrFun eh52x (75)).trans ((va_up_ne _ _ (by decide)).trans k51_11)
  have k52_12 := (congrFun eh52x (76)).trans ((va_up_ne _ _ (by decide)).trans k51_12)
  have k52_13 := (congrFun eh52x (77)).trans ((va_up_ne _ _ (by decide)).trans k51_13)
  have k52_14 := (congrFun eh52x (78)).trans ((va_up_ne _ _ (by decide)).trans k51_14)
  have k52_15 := (congrFun eh52x (79)).trans ((va_up_ne _ _ (by decide)).trans k51_15)
  have k52_16 := (congrFun eh52x (80)).trans ((va_up_ne _ _ (by decide)).trans k51_16)
  have k52_17 := (congrFun eh52x (81)).trans ((va_up_ne _ _ (by decide)).trans k51_17)
  have k52_18 := (congrFun eh52x (82)).trans ((va_up_ne _ _ (by decide)).trans k51_18)
  have k52_19 := (congrFun eh52x (83)).trans ((va_up_ne _ _ (by decide)).trans k51_19)
  have k52_20 := (congrFun eh52x (84)).trans ((va_up_ne _ _ (by decide)).trans k51_20)
  have k52_21 := (congrFun eh52x (85)).trans ((va_up_ne _ _ (by decide)).trans k51_21)
  have k52_22 := (congrFun eh52x (86)).trans ((va_up_ne _ _ (by decide)).trans k51_22)
  have k52_23 := (congrFun eh52x (87)).trans ((va_up_ne _ _ (by decide)).trans k51_23)
  have k52_24 : h52x (88) = some (.inr (4, .inl (fun _ => 0))) := by rw [eh52x]; exact va_up_self _ _ _
  have S52 : zsm h h52x (zbt 64 106) := zsm.up S51 eh52x ⟨by decide, by decide⟩
  clear eh52x k51_0 k51_1 k51_2 k51_3 k51_4 k51_5 k51_6 k51_7 k51_8 k51_9 k51_10 k51_11 k51_12 k51_13 k51_14 k51_15 k51_16 k51_17 k51_18 k51_19 k51_20 k51_21 k51_22 k51_23 S51 h51x
  refine zp_putF (fs' := [.int (0), .ref (65), .ref (66), .ref (67), .ref (68), .ref (69), .ref (70), .ref (71), .ref (72), .ref (73), .ref (74), .ref (75), .ref (76), .ref (77), .ref (78), .ref (79), .ref (80), .ref (81), .ref (82), .ref (83), .ref (84), .int (0), .int (0), .int (nI (5)), .int (nI (512)), .int (nI (40)), .int ((-1)), .int (0), .int ((-1)), .int (0), .int (0), .int (0), .int (0), .ref (85), .ref (86), .ref (87), .int (0), .ref (88), .null, .null, .null, .null, .null, .int (0), .null, .int (0)]) dX11_init_227 pX11_99_10 rfl (by omega) k52_0 (Nat.le_of_ble_eq_true rfl) (zfit_a _ _) rfl ?_
  refine zp_nh (fun h53x eh53x => ?_)
  have k53_0 : h53x (64) = some (.inl (10, [.int (0), .ref (65), .ref (66), .ref (67), .ref (68), .ref (69), .ref (70), .ref (71), .ref (72), .ref (73), .ref (74), .ref (75), .ref (76), .ref (77), .ref (78), .ref (79), .ref (80), .ref (81), .ref (82), .ref (83), .ref (84), .int (0), .int (0), .int (nI (5)), .int (nI (512)), .int (nI (40)), .int ((-1)), .int (0), .int ((-1)), .int (0), .int (0), .int (0), .int (0), .ref (85), .ref (86), .ref (87), .int (0), .ref (88), .null, .null, .null, .null, .null, .int (0), .null, .int (0)])) := by rw [eh53x]; exact va_up_self _ _ _
  have k53_1 := (congrFun eh53x (65)).trans ((va_up_ne _ _ (by decide)).trans k52_1)
  have k53_2 := (congrFun eh53x (66)).trans ((va_up_ne _ _ (by decide)).trans k52_2)
  have k53_3 := (congrFun eh53x (67)).trans ((va_up_ne _ _ (by decide)).trans k52_3)
  have k53_4 := (congrFun eh53x (68)).trans ((va_up_ne _ _ (by decide)).trans k52_4)
  have k53_5 := (congrFun eh53x (69)).trans ((va_up_ne _ _ (by decide)).trans k52_5)
  have k53_6 := (congrFun eh53x (70)).trans ((va_up_ne _ _ (by decide)).trans k52_6)
  have k53_7 := (congrFun eh53x (71)).trans ((va_up_ne _ _ (by decide)).trans k52_7)
  have k53_8 := (congrFun eh53x (72)).trans ((va_up_ne _ _ (by decide)).trans k52_8)
  have k53_9 := (congrFun eh53x (73)).trans ((va_up_ne _ _ (by decide)).trans k52_9)
  have k53_10 := (congrFun eh53x (74)).trans ((va_up_ne _ _ (by decide)).trans k52_10)
  have k53_11 := (congrFun eh53x (75)).trans ((va_up_ne _ _ (by decide)).trans k52_11)
  have k53_12 := (congrFun eh53x (76)).trans ((va_up_ne _ _ (by decide)).trans k52_12)
  have k53_13 := (congrFun eh53x (77)).trans ((va_up_ne _ _ (by decide)).trans k52_13)
  have k53_14 := (congrFun eh53x (78)).trans ((va_up_ne _ _ (by decide)).trans k52_14)
  have k53_15 := (congrFun eh53x (79)).trans ((va_up_ne _ _ (by decide)).trans k52_15)
  have k53_16 := (congrFun eh53x (80)).trans ((va_up_ne _ _ (by decide)).trans k52_16)
  have k53_17 := (congrFun eh53x (81)).trans ((va_up_ne _ _ (by decide)).trans k52_17)
  have k53_18 := (congrFun eh53x (82)).trans ((va_up_ne _ _ (by decide)).trans k52_18)
  have k53_19 := (congrFun eh53x (83)).trans ((va_up_ne _ _ (by decide)).trans k52_19)
  have k53_20 := (congrFun eh53x (84)).trans ((va_up_ne _ _ (by decide)).trans k52_20)
  have k53_21 := (congrFun eh53x (85)).trans ((va_up_ne _ _ (by decide)).trans k52_21)
  have k53_22 := (congrFun eh53x (86)).trans ((va_up_ne _ _ (by decide)).trans k52_22)
  have k53_23 := (congrFun eh53x (87)).trans ((va_up_ne _ _ (by decide)).trans k52_23)
  have k53_24 := (congrFun eh53x (88)).trans ((va_up_ne _ _ (by decide)).trans k52_24)
  have S53 : zsm h h53x (zbt 64 106) := zsm.up S52 eh53x ⟨by decide, by decide⟩
  clear eh53x k52_0 k52_1 k52_2 k52_3 k52_4 k52_5 k52_6 k52_7 k52_8 k52_9 k52_10 k52_11 k52_12 k52_13 k52_14 k52_15 k52_16 k52_17 k52_18 k52_19 k52_20 k52_21 k52_22 k52_23 k52_24 S52 h52x
  refine zp_aload_n dX11_init_230 rfl ?_
  refine zp_bipush (v := nI (111)) dX11_init_231 (by decide) ?_
  refine zp_newi (N := 111) dX11_init_233 (nI_pos (by decide)) (nI_clamp (by decide)) (by decide) (Nat.le_of_ble_eq_true rfl) (Nat.le_of_ble_eq_true rfl) ?_
  refine zp_nn (cells' := 25) (slots' := 7312) (n' := 90) (st' := [.ref (89), .ref (64)]) rfl rfl rfl rfl ?_
  refine zp_nh (fun h54x eh54x => ?_)
  have k54_0 := (congrFun eh54x (64)).trans ((va_up_ne _ _ (by decide)).trans k53_0)
  have k54_1 := (congrFun eh54x (65)).trans ((va_up_ne _ _ (by decide)).trans k53_1)
  have k54_2 := (congrFun eh54x (66)).trans ((va_up_ne _ _ (by decide)).trans k53_2)
  have k54_3 := (congrFun eh54x (67)).trans ((va_up_ne _ _ (by decide)).trans k53_3)
  have k54_4 := (congrFun eh54x (68)).trans ((va_up_ne _ _ (by decide)).trans k53_4)
  have k54_5 := (congrFun eh54x (69)).trans ((va_up_ne _ _ (by decide)).trans k53_5)
  have k54_6 := (congrFun eh54x (70)).trans ((va_up_ne _ _ (by decide)).trans k53_6)
  have k54_7 := (congrFun eh54x (71)).trans ((va_up_ne _ _ (by decide)).trans k53_7)
  have k54_8 := (congrFun eh54x (72)).trans ((va_up_ne _ _ (by decide)).trans k53_8)
  have k54_9 := (congrFun eh54x (73)).trans ((va_up_ne _ _ (by decide)).trans k53_9)
  have k54_10 := (congrFun eh54x (74)).trans ((va_up_ne _ _ (by decide)).trans k53_10)
  have k54_11 := (congrFun eh54x (75)).trans ((va_up_ne _ _ (by decide)).trans k53_11)
  have k54_12 := (congrFun eh54x (76)).trans ((va_up_ne _ _ (by decide)).trans k53_12)
  have k54_13 := (congrFun eh54x (77)).trans ((va_up_ne _ _ (by decide)).trans k53_13)
  have k54_14 := (congrFun eh54x (78)).trans ((va_up_ne _ _ (by decide)).trans k53_14)
  have k54_15 := (congrFun eh54x (79)).trans ((va_up_ne _ _ (by decide)).trans k53_15)
  have k54_16 := (congrFun eh54x (80)).trans ((va_up_ne _ _ (by decide)).trans k53_16)
  have k54_17 := (congrFun eh54x (81)).trans ((va_up_ne _ _ (by decide)).trans k53_17)
  have k54_18 := (congrFun eh54x (82)).trans ((va_up_ne _ _ (by decide)).trans k53_18)
  have k54_19 := (congrFun eh54x (83)).trans ((va_up_ne _ _ (by decide)).trans k53_19)
  have k54_20 := (congrFun eh54x (84)).trans ((va_up_ne _ _ (by decide)).trans k53_20)
  have k54_21 := (congrFun eh54x (85)).trans ((va_up_ne _ _ (by decide)).trans k53_21)
  have k54_22 := (congrFun eh54x (86)).trans ((va_up_ne _ _ (by decide)).trans k53_22)
  have k54_23 := (congrFun eh54x (87)).trans ((va_up_ne _ _ (by decide)).trans k53_23)
  have k54_24 := (congrFun eh54x (88)).trans ((va_up_ne _ _ (by decide)).trans k53_24)
  have k54_25 : h54x (89) = some (.inr (111, .inl (fun _ => 0))) := by rw [eh54x]; exact va_up_self _ _ _
  have S54 : zsm h h54x (zbt 64 106) := zsm.up S53 eh54x ⟨by decide, by decide⟩
  clear eh54x k53_0 k53_1 k53_2 k53_3 k53_4 k53_5 k53_6 k53_7 k53_8 k53_9 k53_10 k53_11 k53_12 k53_13 k53_14 k53_15 k53_16 k53_17 k53_18 k53_19 k53_20 k53_21 k53_22 k53_23 k53_24 S53 h53x
  refine zp_putF (fs' := [.int (0), .ref (65), .ref (66), .ref (67), .ref (68), .ref (69), .ref (70), .ref (71), .ref (72), .ref (73), .ref (74), .ref (75), .ref (76), .ref (77), .ref (78), .ref (79), .ref (80), .ref (81), .ref (82), .ref (83), .ref (84), .int (0), .int (0), .int (nI (5)), .int (nI (512)), .int (nI (40)), .int ((-1)), .int (0), .int ((-1)), .int (0), .int (0), .int (0), .int (0), .ref (85), .ref (86), .ref (87), .int (0), .ref (88), .ref (89), .null, .null, .null, .null, .int (0), .null, .int (0)]) dX11_init_235 pX11_102_10 rfl (by omega) k54_0 (Nat.le_of_ble_eq_true rfl) (zfit_a _ _) rfl ?_
  refine zp_nh (fun h55x eh55x => ?_)
  have k55_0 : h55x (64) = some (.inl (10, [.int (0), .ref (65), .ref (66), .ref (67), .ref (68), .ref (69), .ref (70), .ref (71), .ref (72), .ref (73), .ref (74), .ref (75), .ref (76), .ref (77), .ref (78), .ref (79), .ref (80), .ref (81), .ref (82), .ref (83), .ref (84), .int (0), .int (0), .int (nI (5)), .int (nI (512)), .int (nI (40)), .int ((-1)), .int (0), .int ((-1)), .int (0), .int (0), .int (0), .int (0), .ref (85), .ref (86), .ref (87), .int (0), .ref (88), .ref (89), .null, .null, .null, .null, .int (0), .null, .int (0)])) := by rw [eh55x]; exact va_up_self _ _ _
  have k55_1 := (congrFun eh55x (65)).trans ((va_up_ne _ _ (by decide)).trans k54_1)
  have k55_2 := (congrFun eh55x (66)).trans ((va_up_ne _ _ (by decide)).trans k54_2)
  have k55_3 := (congrFun eh55x (67)).trans ((va_up_ne _ _ (by decide)).trans k54_3)
  have k55_4 := (congrFun eh55x (68)).trans ((va_up_ne _ _ (by decide)).trans k54_4)
  have k55_5 := (congrFun eh55x (69)).trans ((va_up_ne _ _ (by decide)).trans k54_5)
  have k55_6 := (congrFun eh55x (70)).trans ((va_up_ne _ _ (by decide)).trans k54_6)
  have k55_7 := (congrFun eh55x (71)).trans ((va_up_ne _ _ (by decide)).trans k54_7)
  have k55_8 := (congrFun eh55x (72)).trans ((va_up_ne _ _ (by decide)).trans k54_8)
  have k55_9 := (congrFun eh55x (73)).trans ((va_up_ne _ _ (by decide)).trans k54_9)
  have k55_10 := (congrFun eh55x (74)).trans ((va_up_ne _ _ (by decide)).trans k54_10)
  have k55_11 := (congrFun eh55x (75)).trans ((va_up_ne _ _ (by decide)).trans k54_11)
  have k55_12 := (congrFun eh55x (76)).trans ((va_up_ne _ _ (by decide)).trans k54_12)
  have k55_13 := (congrFun eh55x (77)).trans ((va_up_ne _ _ (by decide)).trans k54_13)
  have k55_14 := (congrFun eh55x (78)).trans ((va_up_ne _ _ (by decide)).trans k54_14)
  have k55_15 := (congrFun eh55x (79)).trans ((va_up_ne _ _ (by decide)).trans k54_15)
  have k55_16 := (congrFun eh55x (80)).trans ((va_up_ne _ _ (by decide)).trans k54_16)
  have k55_17 := (congrFun eh55x (81)).trans ((va_up_ne _ _ (by decide)).trans k54_17)
  have k55_18 := (congrFun eh55x (82)).trans ((va_up_ne _ _ (by decide)).trans k54_18)
  have k55_19 := (congrFun eh55x (83)).trans ((va_up_ne _ _ (by decide)).trans k54_19)
  have k55_20 := (congrFun eh55x (84)).trans ((va_up_ne _ _ (by decide)).trans k54_20)
  have k55_21 := (congrFun eh55x (85)).trans ((va_up_ne _ _ (by decide)).trans k54_21)
  have k55_22 := (congrFun eh55x (86)).trans ((va_up_ne _ _ (by decide)).trans k54_22)
  have k55_23 := (congrFun eh55x (87)).trans ((va_up_ne _ _ (by decide)).trans k54_23)
  have k55_24 := (congrFun eh55x (88)).trans ((va_up_ne _ _ (by decide)).trans k54_24)
  have k55_25 := (congrFun eh55x (89)).trans ((va_up_ne _ _ (by decide)).trans k54_25)
  have S55 : zsm h h55x (zbt 64 106) := zsm.up S54 eh55x ⟨by decide, by decide⟩
  clear eh55x k54_0 k54_1 k54_2 k54_3 k54_4 k54_5 k54_6 k54_7 k54_8 k54_9 k54_10 k54_11 k54_12 k54_13 k54_14 k54_15 k54_16 k54_17 k54_18 k54_19 k54_20 k54_21 k54_22 k54_23 k54_24 k54_25 S54 h54x
  refine zp_aload_n dX11_init_238 rfl ?_
  refine zp_sipush (v := nI (400)) dX11_init_239 (by decide) ?_
  refine zp_newi (N := 400) dX11_init_242 (nI_pos (by decide)) (nI_clamp (by decide)) (by decide) (Nat.le_of_ble_eq_true rfl) (Nat.le_of_ble_eq_true rfl) ?_
  refine zp_nn (cells' := 26) (slots' := 7712) (n' := 91) (st' := [.ref (90), .ref (64)]) rfl rfl rfl rfl ?_
  refine zp_nh (fun h56x eh56x => ?_)
  have k56_0 := (congrFun eh56x (64)).trans ((va_up_ne _ _ (by decide)).trans k55_0)
  have k56_1 := (congrFun eh56x (65)).trans ((va_up_ne _ _ (by decide)).trans k55_1)
  have k56_2 := (congrFun eh56x (66)).trans ((va_up_ne _ _ (by decide)).trans k55_2)
  have k56_3 := (congrFun eh56x (67)).trans ((va_up_ne _ _ (by decide)).trans k55_3)
  have k56_4 := (congrFun eh56x (68)).trans ((va_up_ne _ _ (by decide)).trans k55_4)
  have k56_5 := (congrFun eh56x (69)).trans ((va_up_ne _ _ (by decide)).trans k55_5)
  have k56_6 := (congrFun eh56x (70)).trans ((va_up_ne _ _ (by decide)).trans k55_6)
  have k56_7 := (congrFun eh56x (71)).trans ((va_up_ne _ _ (by decide)).trans k55_7)
  have k56_8 := (congrFun eh56x (72)).trans ((va_up_ne _ _ (by decide)).trans k55_8)
  have k56_9 := (congrFun eh56x (73)).trans ((va_up_ne _ _ (by decide)).trans k55_9)
  have k56_10 := (congrFun eh56x (74)).trans ((va_up_ne _ _ (by decide)).trans k55_10)
  have k56_11 := (congrFun eh56x (75)).trans ((va_up_ne _ _ (by decide)).trans k55_11)
  have k56_12 := (congrFun eh56x (76)).trans ((va_up_ne _ _ (by decide)).trans k55_12)
  have k56_13 := (congrFun eh56x (77)).trans ((va_up_ne _ _ (by decide)).trans k55_13)
  have k56_14 := (congrFun eh56x (78)).trans ((va_up_ne _ _ (by decide)).trans k55_14)
  have k56_15 := (congrFun eh56x (79)).trans ((va_up_ne _ _ (by decide)).trans k55_15)
  have k56_16 := (congrFun eh56x (80)).trans ((va_up_ne _ _ (by decide)).trans k55_16)
  have k56_17 := (congrFun eh56x (81)).trans ((va_up_ne _ _ (by decide)).trans k55_17)
  have k56_18 := (congrFun eh56x (82)).trans ((va_up_ne _ _ (by decide)).trans k55_18)
  have k56_19 := (congrFun eh56x (83)).trans ((va_up_ne _ _ (by decide)).trans k55_19)
  have k56_20 := (congrFun eh56x (84)).trans ((va_up_ne _ _ (by decide)).trans k55_20)
  have k56_21 := (congrFun eh56x (85)).trans ((va_up_ne _ _ (by decide)).trans k55_21)
  have k56_22 := (congrFun eh56x (86)).trans ((va_up_ne _ _ (by decide)).trans k55_22)
  have k56_23 := (congrFun eh56x (87)).trans ((va_up_ne _ _ (by decide)).trans k55_23)
  have k56_24 := (congrFun eh56x (88)).trans ((va_up_ne _ _ (by decide)).trans k55_24)
  have k56_25 := (congrFun eh56x (89)).trans ((va_up_ne _ _ (by decide)).trans k55_25)
  have k56_26 : h56x (90) = some (.inr (400, .inl (fun _ => 0))) := by rw [eh56x]; exact va_up_self _ _ _
  have S56 : zsm h h56x (zbt 64 106) := zsm.up S55 eh56x ⟨by decide, by decide⟩
  clear eh56x k55_0 k55_1 k55_2 k55_3 k55_4 k55_5 k55_6 k55_7 k55_8 k55_9 k55_10 k55_11 k55_12 k55_13 k55_14 k55_15 k55_16 k55_17 k55_18 k55_19 k55_20 k55_21 k55_22 k55_23 k55_24 k55_25 S55 h55x
  refine zp_putF (fs' := [.int (0), .ref (65), .ref (66), .ref (67), .ref (68), .ref (69), .ref (70), .ref (71), .ref (72), .ref (73), .ref (74), .ref (75), .ref (76), .ref (77), .ref (78), .ref (79), .ref (80), .ref (81), .ref (82), .ref (83), .ref (84), .int (0), .int (0), .int (nI (5)), .int (nI (512)), .int (nI (40)), .int ((-1)), .int (0), .int ((-1)), .int (0), .int (0), .int (0), .int (0), .ref (85), .ref (86), .ref (87), .int (0), .ref (88), .ref (89), .ref (90), .null, .null, .null, .int (0), .null, .int (0)]) dX11_init_244 pX11_105_10 rfl (by omega) k56_0 (Nat.le_of_ble_eq_true rfl) (zfit_a _ _) rfl ?_
  refine zp_nh (fun h57x eh57x => ?_)
  have k57_0 : h57x (64) = some (.inl (10, [.int (0), .ref (65), .ref (66), .ref (67), .ref (68), .ref (69), .ref (70), .ref (71), .ref (72), .ref (73), .ref (74), .ref (75), .ref (76), .ref (77), .ref (78), .ref (79), .ref (80), .ref (81), .ref (82), .ref (83), .ref (84), .int (0), .int (0), .int (nI (5)), .int (nI (512)), .int (nI (40)), .int ((-1)), .int (0), .int ((-1)), .int (0), .int (0), .int (0), .int (0), .ref (85), .ref (86), .ref (87), .int (0), .ref (88), .ref (89), .ref (90), .null, .null, .null, .int (0), .null, .int (0)])) := by rw [eh57x]; exact va_up_self _ _ _
  have k57_1 := (congrFun eh57x (65)).trans ((va_up_ne _ _ (by decide)).trans k56_1)
  have k57_2 := (congrFun eh57x (66)).trans ((va_up_ne _ _ (by decide)).trans k56_2)
  have k57_3 := (congrFun eh57x (67)).trans ((va_up_ne _ _ (by decide)).trans k56_3)
  have k57_4 := (congrFun eh57x (68)).trans ((va_up_ne _ _ (by decide)).trans k56_4)
  have k57_5 := (congrFun eh57x (69)).trans ((va_up_ne _ _ (by decide)).trans k56_5)
  have k57_6 := (congrFun eh57x (70)).trans ((va_up_ne _ _ (by decide)).trans k56_6)
  have k57_7 := (congrFun eh57x (71)).trans ((va_up_ne _ _ (by decide)).trans k56_7)
  have k57_8 := (congrFun eh57x (72)).trans ((va_up_ne _ _ (by decide)).trans k56_8)
  have k57_9 := (congrFun eh57x (73)).trans ((va_up_ne _ _ (by decide)).trans k56_9)
  have k57_10 := (congrFun eh57x (74)).trans ((va_up_ne _ _ (by decide)).trans k56_10)
  have k57_11 := (congrFun eh57x (75)).trans ((va_up_ne _ _ (by decide)).trans k56_11)
  have k57_12 := (congrFun eh57x (76)).trans ((va_up_ne _ _ (by decide)).trans k56_12)
  have k57_13 := (congrFun eh57x (77)).trans ((va_up_ne _ _ (by decide)).trans k56_13)
  have k57_14 := (congrFun eh57x (78)).trans ((va_up_ne _ _ (by decide)).trans k56_14)
  have k57_15 := (congrFun eh57x (79)).trans ((va_up_ne _ _ (by decide)).trans k56_15)
  have k57_16 := (congrFun eh57x (80)).trans ((va_up_ne _ _ (by decide)).trans k56_16)
  have k57_17 := (congrFun eh57x (81)).trans ((va_up_ne _ _ (by decide)).trans k56_17)
  have k57_18 := (congrFun eh57x (82)).trans ((va_up_ne _ _ (by decide)).trans k56_18)
  have k57_19 := (congrFun eh57x (83)).trans ((va_up_ne _ _ (by decide)).trans k56_19)
  have k57_20 := (congrFun eh57x (84)).trans ((va_up_ne _ _ (by decide)).trans k56_20)
  have k57_21 := (congrFun eh57x (85)).trans ((va_up_ne _ _ (by decide)).trans k56_21)
  have k57_22 := (congrFun eh57x (86)).trans ((va_up_ne _ _ (by decide)).trans k56_22)
  have k57_23 := (congrFun eh57x (87)).trans ((va_up_ne _ _ (by decide)).trans k56_23)
  have k57_24 := (congrFun eh57x (88)).trans ((va_up_ne _ _ (by decide)).trans k56_24)
  have k57_25 := (congrFun eh57x (89)).trans ((va_up_ne _ _ (by decide)).trans k56_25)
  have k57_26 := (congrFun eh57x (90)).trans ((va_up_ne _ _ (by decide)).trans k56_26)
  have S57 : zsm h h57x (zbt 64 106) := zsm.up S56 eh57x ⟨by decide, by decide⟩
  clear eh57x k56_0 k56_1 k56_2 k56_3 k56_4 k56_5 k56_6 k56_7 k56_8 k56_9 k56_10 k56_11 k56_12 k56_13 k56_14 k56_15 k56_16 k56_17 k56_18 k56_19 k56_20 k56_21 k56_22 k56_23 k56_24 k56_25 k56_26 S56 h56x
  refine zp_aload_n dX11_init_247 rfl ?_
  refine zp_bipush (v := nI (16)) dX11_init_248 (by decide) ?_
  refine zp_newi (N := 16) dX11_init_250 (nI_pos (by decide)) (nI_clamp (by decide)) (by decide) (Nat.le_of_ble_eq_true rfl) (Nat.le_of_ble_eq_true rfl) ?_
  refine zp_nn (cells' := 27) (slots' := 7728) (n' := 92) (st' := [.ref (91), .ref (64)]) rfl rfl rfl rfl ?_
  refine zp_nh (fun h58x eh58x => ?_)
  have k58_0 := (congrFun eh58x (64)).trans ((va_up_ne _ _ (by decide)).trans k57_0)
  have k58_1 := (congrFun eh58x (65)).trans ((va_up_ne _ _ (by decide)).trans k57_1)
  have k58_2 := (congrFun eh58x (66)).trans ((va_up_ne _ _ (by decide)).trans k57_2)
  have k58_3 := (congrFun eh58x (67)).trans ((va_up_ne _ _ (by decide)).trans k57_3)
  have k58_4 := (congrFun eh58x (68)).trans ((va_up_ne _ _ (by decide)).trans k57_4)
  have k58_5 := (congrFun eh58x (69)).trans ((va_up_ne _ _ (by decide)).trans k57_5)
  have k58_6 := (congrFun eh58x (70)).trans ((va_up_ne _ _ (by decide)).trans k57_6)
  have k58_7 := (congrFun eh58x (71)).trans ((va_up_ne _ _ (by decide)).trans k57_7)
  have k58_8 := (congrFun eh58x (72)).trans ((va_up_ne _ _ (by decide)).trans k57_8)
  have k58_9 := (congrFun eh58x (73)).trans ((va_up_ne _ _ (by decide)).trans k57_9)
  have k58_10 := (congrFun eh58x (74)).trans ((va_up_ne _ _ (by decide)).trans k57_10)
  have k58_11 := (congrFun eh58x (75)).trans ((va_up_ne _ _ (by decide)).trans k57_11)
  have k58_12 := (congrFun eh58x (76)).trans ((va_up_ne _ _ (by decide)).trans k57_12)
  have k58_13 := (congrFun eh58x (77)).trans ((va_up_ne _ _ (by decide)).trans k57_13)
  have k58_14 := (congrFun eh58x (78)).trans ((va_up_ne _ _ (by decide)).trans k57_14)
  have k58_15 := (congrFun eh58x (79)).trans ((va_up_ne _ _ (by decide)).trans k57_15)
  have k58_16 := (congrFun eh58x (80)).trans ((va_up_ne _ _ (by decide)).trans k57_16)
  have k58_17 := (congrFun eh58x (81)).trans ((va_up_ne _ _ (by decide)).trans k57_17)
  have k58_18 := (congrFun eh58x (82)).trans ((va_up_ne _ _ (by decide)).trans k57_18)
  have k58_19 := (congrFun eh58x (83)).trans ((va_up_ne _ _ (by decide)).trans k57_19)
  have k58_20 := (congrFun eh58x (84)).trans ((va_up_ne _ _ (by decide)).trans k57_20)
  have k58_21 := (congrFun eh58x (85)).trans ((va_up_ne _ _ (by decide)).trans k57_21)
  have k58_22 := (congrFun eh58x (86)).trans ((va_up_ne _ _ (by decide)).trans k57_22)
  have k58_23 := (congrFun eh58x (87)).trans ((va_up_ne _ _ (by decide)).trans k57_23)
  have k58_24 := (congrFun eh58x (88)).trans ((va_up_ne _ _ (by decide)).trans k57_24)
  have k58_25 := (congrFun eh58x (89)).trans ((va_up_ne _ _ (by decide)).trans k57_25)
  have k58_26 := (congrFun eh58x (90)).trans ((va_up_ne _ _ (by decide)).trans k57_26)
  have k58_27 : h58x (91) = some (.inr (16, .inl (fun _ => 0))) := by rw [eh58x]; exact va_up_self _ _ _
  have S58 : zsm h h58x (zbt 64 106) := zsm.up S57 eh58x ⟨by decide, by decide⟩
  clear eh58x k57_0 k57_1 k57_2 k57_3 k57_4 k57_5 k57_6 k57_7 k57_8 k57_9 k57_10 k57_11 k57_12 k57_13 k57_14 k57_15 k57_16 k57_17 k57_18 k57_19 k57_20 k57_21 k57_22 k57_23 k57_24 k57_25 k57_26 S57 h57x
  refine zp_putF (fs' := [.int (0), .ref (65), .ref (66), .ref (67), .ref (68), .ref (69), .ref (70), .ref (71), .ref (72), .ref (73), .ref (74), .ref (75), .ref (76), .ref (77), .ref (78), .ref (79), .ref (80), .ref (81), .ref (82), .ref (83), .ref (84), .int (0), .int (0), .int (nI (5)), .int (nI (512)), .int (nI (40)), .int ((-1)), .int (0), .int ((-1)), .int (0), .int (0), .int (0), .int (0), .ref (85), .ref (86), .ref (87), .int (0), .ref (88), .ref (89), .ref (90), .ref (91), .null, .null, .int (0), .null, .int (0)]) dX11_init_252 pX11_108_10 rfl (by omega) k58_0 (Nat.le_of_ble_eq_true rfl) (zfit_a _ _) rfl ?_
  refine zp_nh (fun h59x eh59x => ?_)
  have k59_0 : h59x (64) = some (.inl (10, [.int (0), .ref (65), .ref (66), .ref (67), .ref (68), .ref (69), .ref (70), .ref (71), .ref (72), .ref (73), .ref (74), .ref (75), .ref (76), .ref (77), .ref (78), .ref (79), .ref (80), .ref (81), .ref (82), .ref (83), .ref (84), .int (0), .int (0), .int (nI (5)), .int (nI (512)), .int (nI (40)), .int ((-1)), .int (0), .int ((-1)), .int (0), .int (0), .int (0), .int (0), .ref (85), .ref (86), .ref (87), .int (0), .ref (88), .ref (89), .ref (90), .ref (91), .null, .null, .int (0), .null, .int (0)])) := by rw [eh59x]; exact va_up_self _ _ _
  have k59_1 := (congrFun eh59x (65)).trans ((va_up_ne _ _ (by decide)).trans k58_1)
  have k59_2 := (congrFun eh59x (66)).trans ((va_up_ne _ _ (by decide)).trans k58_2)
  have k59_3 := (congrFun eh59x (67)).trans ((va_up_ne _ _ (by decide)).trans k58_3)
  have k59_4 := (congrFun eh59x (68)).trans ((va_up_ne _ _ (by decide)).trans k58_4)
  have k59_5 := (congrFun eh59x (69)).trans ((va_up_ne _ _ (by decide)).trans k58_5)
  have k59_6 := (congrFun eh59x (70)).trans ((va_up_ne _ _ (by decide)).trans k58_6)
  have k59_7 := (congrFun eh59x (71)).trans ((va_up_ne _ _ (by decide)).trans k58_7)
  have k59_8 := (congrFun eh59x (72)).trans ((va_up_ne _ _ (by decide)).trans k58_8)
  have k59_9 := (congrFun eh59x (73)).trans ((va_up_ne _ _ (by decide)).trans k58_9)
  have k59_10 := (congrFun eh59x (74)).trans ((va_up_ne _ _ (by decide)).trans k58_10)
  have k59_11 := (congrFun eh59x (75)).trans ((va_up_ne _ _ (by decide)).trans k58_11)
  have k59_12 := (congrFun eh59x (76)).trans ((va_up_ne _ _ (by decide)).trans k58_12)
  have k59_13 := (congrFun eh59x (77)).trans ((va_up_ne _ _ (by decide)).trans k58_13)
  have k59_14 := (congrFun eh59x (78)).trans ((va_up_ne _ _ (by decide)).trans k58_14)
  have k59_15 := (congrFun eh59x (79)).trans ((va_up_ne _ _ (by decide)).trans k58_15)
  have k59_16 := (congrFun eh59x (80)).trans ((va_up_ne _ _ (by decide)).trans k58_16)
  have k59_17 := (congrFun eh59x (81)).trans ((va_up_ne _ _ (by decide)).trans k58_17)
  have k59_18 := (congrFun eh59x (82)).trans ((va_up_ne _ _ (by decide)).trans k58_18)
  have k59_19 := (congrFun eh59x (83)).trans ((va_up_ne _ _ (by decide)).trans k58_19)
  have k59_20 := (congrFun eh59x (84)).trans ((va_up_ne _ _ (by decide)).trans k58_20)
  have k59_21 := (congrFun eh59x (85)).trans ((va_up_ne _ _ (by decide)).trans k58_21)
  have k59_22 := (congrFun eh59x (86)).trans ((va_up_ne _ _ (by decide)).trans k58_22)
  have k59_23 := (congrFun eh59x (87)).trans ((va_up_ne _ _ (by decide)).trans k58_23)
  have k59_24 := (congrFun eh59x (88)).trans ((va_up_ne _ _ (by decide)).trans k58_24)
  have k59_25 := (congrFun eh59x (89)).trans ((va_up_ne _ _ (by decide)).trans k58_25)
  have k59_26 := (congrFun eh59x (90)).trans ((va_up_ne _ _ (by decide)).trans k58_26)
  have k59_27 := (congrFun eh59x (91)).trans ((va_up_ne _ _ (by decide)).trans k58_27)
  have S59 : zsm h h59x (zbt 64 106) := zsm.up S58 eh59x ⟨by decide, by decide⟩
  clear eh59x k58_0 k58_1 k58_2 k58_3 k58_4 k58_5 k58_6 k58_7 k58_8 k58_9 k58_10 k58_11 k58_12 k58_13 k58_14 k58_15 k58_16 k58_17 k58_18 k58_19 k58_20 k58_21 k58_22 k58_23 k58_24 k58_25 k58_26 k58_27 S58 h58x
  refine zp_aload_n dX11_init_255 rfl ?_
  refine zp_bipush (v := nI (48)) dX11_init_256 (by decide) ?_
  refine zp_newi (N := 48) dX11_init_258 (nI_pos (by decide)) (nI_clamp (by decide)) (by decide) (Nat.le_of_ble_eq_true rfl) (Nat.le_of_ble_eq_true rfl) ?_
  refine zp_nn (cells' := 28) (slots' := 7776) (n' := 93) (st' := [.ref (92), .ref (64)]) rfl rfl rfl rfl ?_
  refine zp_nh (fun h60x eh60x => ?_)
  have k60_0 := (congrFun eh60x (64)).trans ((va_up_ne _ _ (by decide)).trans k59_0)
  have k60_1 := (congrFun eh60x (65)).trans ((va_up_ne _ _ (by decide)).trans k59_1)
  have k60_2 := (congrFun eh60x (66)).trans ((va_up_ne _ _ (by decide)).trans k59_2)
  have k60_3 := (congrFun eh60x (67)).trans ((va_up_ne _ _ (by decide)).trans k59_3)
  have k60_4 := (congrFun eh60x (68)).trans ((va_up_ne _ _ (by decide)).trans k59_4)
  have k60_5 := (congrFun eh60x (69)).trans ((va_up_ne _ _ (by decide)).trans k59_5)
  have k60_6 := (congrFun eh60x (70)).trans ((va_up_ne _ _ (by decide)).trans k59_6)
  have k60_7 := (congrFun eh60x (71)).trans ((va_up_ne _ _ (by decide)).trans k59_7)
  have k60_8 := (congrFun eh60x (72)).trans ((va_up_ne _ _ (by decide)).trans k59_8)
  have k60_9 := (congrFun eh60x (73)).trans ((va_up_ne _ _ (by decide)).trans k59_9)
  have k60_10 := (congrFun eh60x (74)).trans ((va_up_ne _ _ (by decide)).trans k59_10)
  have k60_11 := (congrFun eh60x (75)).trans ((va_up_ne _ _ (by decide)).trans k59_11)
  have k60_12 := (congrFun eh60x (76)).trans ((va_up_ne _ _ (by decide)).trans k59_12)
  have k60_13 := (congrFun eh60x (77)).trans ((va_up_ne _ _ (by decide)).trans k59_13)
  have k60_14 := (congrFun eh60x (78)).trans ((va_up_ne _ _ (by decide)).trans k59_14)
  have k60_15 := (congrFun eh60x (79)).trans ((va_up_ne _ _ (by decide)).trans k59_15)
  have k60_16 := (congrFun eh60x (80)).trans ((va_up_ne _ _ (by decide)).trans k59_16)
  have k60_17 := (congrFun eh60x (81)).trans ((va_up_ne _ _ (by decide)).trans k59_17)
  have k60_18 := (congrFun eh60x (82)).trans ((va_up_ne _ _ (by decide)).trans k59_18)
  have k60_19 := (congrFun eh60x (83)).trans ((va_up_ne _ _ (by decide)).trans k59_19)
  have k60_20 := (congrFun eh60x (84)).trans ((va_up_ne _ _ (by decide)).trans k59_20)
  have k60_21 := (congrFun eh60x (85)).trans ((va_up_ne _ _ (by decide)).trans k59_21)
  have k60_22 := (congrFun eh60x (86)).trans ((va_up_ne _ _ (by decide)).trans k59_22)
  have k60_23 := (congrFun eh60x (87)).trans ((va_up_ne _ _ (by decide)).trans k59_23)
  have k60_24 := (congrFun eh60x (88)).trans ((va_up_ne _ _ (by decide)).trans k59_24)
  have k60_25 := (congrFun eh60x (89)).trans ((va_up_ne _ _ (by decide)).trans k59_25)
  have k60_26 := (congrFun eh60x (90)).trans ((va_up_ne _ _ (by decide)).trans k59_26)
  have k60_27 := (congrFun eh60x (91)).trans ((va_up_ne _ _ (by decide)).trans k59_27)
  have k60_28 : h60x (92) = some (.inr (48, .inl (fun _ => 0))) := by rw [eh60x]; exact va_up_self _ _ _
  have S60 : zsm h h60x (zbt 64 106) := zsm.up S59 eh60x ⟨by decide, by decide⟩
  clear eh60x k59_0 k59_1 k59_2 k59_3 k59_4 k59_5 k59_6 k59_7 k59_8 k59_9 k59_10 k59_11 k59_12 k59_13 k59_14 k59_15 k59_16 k59_17 k59_18 k59_19 k59_20 k59_21 k59_22 k59_23 k59_24 k59_25 k59_26 k59_27 S59 h59x
  refine zp_putF (fs' := [.int (0), .ref (65), .ref (66), .ref (67), .ref (68), .ref (69), .ref (70), .ref (71), .ref (72), .ref (73), .ref (74), .ref (75), .ref (76), .ref (77), .ref (78), .ref (79), .ref (80), .ref (81), .ref (82), .ref (83), .ref (84), .int (0), .int (0), .int (nI (5)), .int (nI (512)), .int (nI (40)), .int ((-1)), .int (0), .int ((-1)), .int (0), .int (0), .int (0), .int (0), .ref (85), .ref (86), .ref (87), .int (0), .ref (88), .ref (89), .ref (90), .ref (91), .ref (92), .null, .int (0), .null, .int (0)]) dX11_init_260 pX11_111_10 rfl (by omega) k60_0 (Nat.le_of_ble_eq_true rfl) (zfit_a _ _) rfl ?_
  refine zp_nh (fun h61x eh61x => ?_)
  have k61_0 : h61x (64) = some (.inl (10, [.int (0), .ref (65), .ref (66), .ref (67), .ref (68), .ref (69), .ref (70), .ref (71), .ref (72), .ref (73), .ref (74), .ref (75), .ref (76), .ref (77), .ref (78), .ref (79), .ref (80), .ref (81), .ref (82), .ref (83), .ref (84), .int (0), .int (0), .int (nI (5)), .int (nI (512)), .int (nI (40)), .int ((-1)), .int (0), .int ((-1)), .int (0), .int (0), .int (0), .int (0), .ref (85), .ref (86), .ref (87), .int (0), .ref (88), .ref (89), .ref (90), .ref (91), .ref (92), .null, .int (0), .null, .int (0)])) := by rw [eh61x]; exact va_up_self _ _ _
  have k61_1 := (congrFun eh61x (65)).trans ((va_up_ne _ _ (by decide)).trans k60_1)
  have k61_2 := (congrFun eh61x (66)).trans ((va_up_ne _ _ (by decide)).trans k60_2)
  have k61_3 := (congrFun eh61x (67)).trans ((va_up_ne _ _ (by decide)).trans k60_3)
  have k61_4 := (congrFun eh61x (68)).trans ((va_up_ne _ _ (by decide)).trans k60_4)
  have k61_5 := (congrFun eh61x (69)).trans ((va_up_ne _ _ (by decide)).trans k60_5)
  have k61_6 := (congrFun eh61x (70)).trans ((va_up_ne _ _ (by decide)).trans k60_6)
  have k61_7 := (congrFun eh61x (71)).trans ((va_up_ne _ _ (by decide)).trans k60_7)
  have k61_8 := (congrFun eh61x (72)).trans ((va_up_ne _ _ (by decide)).trans k60_8)
  have k61_9 := (congrFun eh61x (73)).trans ((va_up_ne _ _ (by decide)).trans k60_9)
  have k61_10 := (congrFun eh61x (74)).trans ((va_up_ne _ _ (by decide)).trans k60_10)
  have k61_11 := (congrFun eh61x (75)).trans ((va_up_ne _ _ (by decide)).trans k60_11)
  have k61_12 := (congrFun eh61x (76)).trans ((va_up_ne _ _ (by decide)).trans k60_12)
  have k61_13 := (congrFun eh61x (77)).trans ((va_up_ne _ _ (by decide)).trans k60_13)
  have k61_14 := (congrFun eh61x (78)).trans ((va_up_ne _ _ (by decide)).trans k60_14)
  have k61_15 := (congrFun eh61x (79)).trans ((va_up_ne _ _ (by decide)).trans k60_15)
  have k61_16 := (congrFun eh61x (80)).trans ((va_up_ne _ _ (by decide)).trans k60_16)
  have k61_17 := (congrFun eh61x (81)).trans ((va_up_ne _ _ (by decide)).trans k60_17)
  have k61_18 := (congrFun eh61x (82)).trans ((va_up_ne _ _ (by decide)).trans k60_18)
  have k61_19 := (congrFun eh61x (83)).trans ((va_up_ne _ _ (by decide)).trans k60_19)
  have k61_20 := (congrFun eh61x (84)).trans ((va_up_ne _ _ (by decide)).trans k60_20)
  have k61_21 := (congrFun eh61x (85)).trans ((va_up_ne _ _ (by decide)).trans k60_21)
  have k61_22 := (congrFun eh61x (86)).trans ((va_up_ne _ _ (by decide)).trans k60_22)
  have k61_23 := (congrFun eh61x (87)).trans ((va_up_ne _ _ (by decide)).trans k60_23)
  have k61_24 := (congrFun eh61x (88)).trans ((va_up_ne _ _ (by decide)).trans k60_24)
  have k61_25 := (congrFun eh61x (89)).trans ((va_up_ne _ _ (by decide)).trans k60_25)
  have k61_26 := (congrFun eh61x (90)).trans ((va_up_ne _ _ (by decide)).trans k60_26)
  have k61_27 := (congrFun eh61x (91)).trans ((va_up_ne _ _ (by decide)).trans k60_27)
  have k61_28 := (congrFun eh61x (92)).trans ((va_up_ne _ _ (by decide)).trans k60_28)
  have S61 : zsm h h61x (zbt 64 106) := zsm.up S60 eh61x ⟨by decide, by decide⟩
  clear eh61x k60_0 k60_1 k60_2 k60_3 k60_4 k60_5 k60_6 k60_7 k60_8 k60_9 k60_10 k60_11 k60_12 k60_13 k60_14 k60_15 k60_16 k60_17 k60_18 k60_19 k60_20 k60_21 k60_22 k60_23 k60_24 k60_25 k60_26 k60_27 k60_28 S60 h60x
  refine zp_aload_n dX11_init_263 rfl ?_
  refine zp_sipush (v := nI (240)) dX11_init_264 (by decide) ?_
  refine zp_newi (N := 240) dX11_init_267 (nI_pos (by decide)) (nI_clamp (by decide)) (by decide) (Nat.le_of_ble_eq_true rfl) (Nat.le_of_ble_eq_true rfl) ?_
  refine zp_nn (cells' := 29) (slots' := 8016) (n' := 94) (st' := [.ref (93), .ref (64)]) rfl rfl rfl rfl ?_
  refine zp_nh (fun h62x eh62x => ?_)
  have k62_0 := (congrFun eh62x (64)).trans ((va_up_ne _ _ (by decide)).trans k61_0)
  have k62_1 := (congrFun eh62x (65)).trans ((va_up_ne _ _ (by decide)).trans k61_1)
  have k62_2 := (congrFun eh62x (66)).trans ((va_up_ne _ _ (by decide)).trans k61_2)
  have k62_3 := (congrFun eh62x (67)).trans ((va_up_ne _ _ (by decide)).trans k61_3)
  have k62_4 := (congrFun eh62x (68)).trans ((va_up_ne _ _ (by decide)).trans k61_4)
  have k62_5 := (congrFun eh62x (69)).trans ((va_up_ne _ _ (by decide)).trans k61_5)
  have k62_6 := (congrFun eh62x (70)).trans ((va_up_ne _ _ (by decide)).trans k61_6)
  have k62_7 := (congrFun eh62x (71)).trans ((va_up_ne _ _ (by decide)).trans k61_7)
  have k62_8 := (congrFun eh62x (72)).trans ((va_up_ne _ _ (by decide)).trans k61_8)
  have k62_9 := (congrFun eh62x (73)).trans ((va_up_ne _ _ (by decide)).trans k61_9)
  have k62_10 := (congrFun eh62x (74)).trans ((va_up_ne _ _ (by decide)).trans k61_10)
  have k62_11 := (congrFun eh62x (75)).trans ((va_up_ne _ _ (by decide)).trans k61_11)
  have k62_12 := (congrFun eh62x (76)).trans ((va_up_ne _ _ (by decide)).trans k61_12)
  have k62_13 := (congrFun eh62x (77)).trans ((va_up_ne _ _ (by decide)).trans k61_13)
  have k62_14 := (congrFun eh62x (78)).trans ((va_up_ne _ _ (by decide)).trans k61_14)
  have k62_15 := (congrFun eh62x (79)).trans ((va_up_ne _ _ (by decide)).trans k61_15)
  have k62_16 := (congrFun eh62x (80)).trans ((va_up_ne _ _ (by decide)).trans k61_16)
  have k62_17 := (congrFun eh62x (81)).trans ((va_up_ne _ _ (by decide)).trans k61_17)
  have k62_18 := (congrFun eh62x (82)).trans ((va_up_ne _ _ (by decide)).trans k61_18)
  have k62_19 := (congrFun eh62x (83)).trans ((va_up_ne _ _ (by decide)).trans k61_19)
  have k62_20 := (congrFun eh62x (84)).trans ((va_up_ne _ _ (by decide)).trans k61_20)
  have k62_21 := (congrFun eh62x (85)).trans ((va_up_ne _ _ (by decide)).trans k61_21)
  have k62_22 := (congrFun eh62x (86)).trans ((va_up_ne _ _ (by decide)).trans k61_22)
  have k62_23 := (congrFun eh62x (87)).trans ((va_up_ne _ _ (by decide)).trans k61_23)
  have k62_24 := (congrFun eh62x (88)).trans ((va_up_ne _ _ (by decide)).trans k61_24)
  have k62_25 := (congrFun eh62x (89)).trans ((va_up_ne _ _ (by decide)).trans k61_25)
  have k62_26 := (congrFun eh62x (90)).trans ((va_up_ne _ _ (by decide)).trans k61_26)
  have k62_27 := (congrFun eh62x (91)).trans ((va_up_ne _ _ (by decide)).trans k61_27)
  have k62_28 := (congrFun eh62x (92)).trans ((va_up_ne _ _ (by decide)).trans k61_28)
  have k62_29 : h62x (93) = some (.inr (240, .inl (fun _ => 0))) := by rw [eh62x]; exact va_up_self _ _ _
  have S62 : zsm h h62x (zbt 64 106) := zsm.up S61 eh62x ⟨by decide, by decide⟩
  clear eh62x k61_0 k61_1 k61_2 k61_3 k61_4 k61_5 k61_6 k61_7 k61_8 k61_9 k61_10 k61_11 k61_12 k61_13 k61_14 k61_15 k61_16 k61_17 k61_18 k61_19 k61_20 k61_21 k61_22 k61_23 k61_24 k61_25 k61_26 k61_27 k61_28 S61 h61x
  refine zp_putF (fs' := [.int (0), .ref (65), .ref (66), .ref (67), .ref (68), .ref (69), .ref (70), .ref (71), .ref (72), .ref (73), .ref (74), .ref (75), .ref (76), .ref (77), .ref (78), .ref (79), .ref (80), .ref (81), .ref (82), .ref (83), .ref (84), .int (0), .int (0), .int (nI (5)), .int (nI (512)), .int (nI (40)), .int ((-1)), .int (0), .int ((-1)), .int (0), .int (0), .int (0), .int (0), .ref (85), .ref (86), .ref (87), .int (0), .ref (88), .ref (89), .ref (90), .ref (91), .ref (92), .ref (93), .int (0), .null, .int (0)]) dX11_init_269 pX11_114_10 rfl (by omega) k62_0 (Nat.le_of_ble_eq_true rfl) (zfit_a _ _) rfl ?_
  refine zp_nh (fun h63x eh63x => ?_)
  have k63_0 : h63x (64) = some (.inl (10, [.int (0), .ref (65), .ref (66), .ref (67), .ref (68), .ref (69), .ref (70), .ref (71), .ref (72), .ref (73), .ref (74), .ref (75), .ref (76), .ref (77), .ref (78), .ref (79), .ref (80), .ref (81), .ref (82), .ref (83), .ref (84), .int (0), .int (0), .int (nI (5)), .int (nI (512)), .int (nI (40)), .int ((-1)), .int (0), .int ((-1)), .int (0), .int (0), .int (0), .int (0), .ref (85), .ref (86), .ref (87), .int (0), .ref (88), .ref (89), .ref (90), .ref (91), .ref (92), .ref (93), .int (0), .null, .int (0)])) := by rw [eh63x]; exact va_up_self _ _ _
  have k63_1 := (congrFun eh63x (65)).trans ((va_up_ne _ _ (by decide)).trans k62_1)
  have k63_2 := (congrFun eh63x (66)).trans ((va_up_ne _ _ (by decide)).trans k62_2)
  have k63_3 := (congrFun eh63x (67)).trans ((va_up_ne _ _ (by decide)).trans k62_3)
  have k63_4 := (congrFun eh63x (68)).trans ((va_up_ne _ _ (by decide)).trans k62_4)
  have k63_5 := (congrFun eh63x (69)).trans ((va_up_ne _ _ (by decide)).trans k62_5)
  have k63_6 := (congrFun eh63x (70)).trans ((va_up_ne _ _ (by decide)).trans k62_6)
  have k63_7 := (congrFun eh63x (71)).trans ((va_up_ne _ _ (by decide)).trans k62_7)
  have k63_8 := (congrFun eh63x (72)).trans ((va_up_ne _ _ (by decide)).trans k62_8)
  have k63_9 := (congrFun eh63x (73)).trans ((va_up_ne _ _ (by decide)).trans k62_9)
  have k63_10 := (congrFun eh63x (74)).trans ((va_up_ne _ _ (by decide)).trans k62_10)
  have k63_11 := (congrFun eh63x (75)).trans ((va_up_ne _ _ (by decide)).trans k62_11)
  have k63_12 := (congrFun eh63x (76)).trans ((va_up_ne _ _ (by decide)).trans k62_12)
  have k63_13 := (congrFun eh63x (77)).trans ((va_up_ne _ _ (by decide)).trans k62_13)
  have k63_14 := (congrFun eh63x (78)).trans ((va_up_ne _ _ (by decide)).trans k62_14)
  have k63_15 := (congrFun eh63x (79)).trans ((va_up_ne _ _ (by decide)).trans k62_15)
  have k63_16 := (congrFun eh63x (80)).trans ((va_up_ne _ _ (by decide)).trans k62_16)
  have k63_17 := (congrFun eh63x (81)).trans ((va_up_ne _ _ (by decide)).trans k62_17)
  have k63_18 := (congrFun eh63x (82)).trans ((va_up_ne _ _ (by decide)).trans k62_18)
  have k63_19 := (congrFun eh63x (83)).trans ((va_up_ne _ _ (by decide)).trans k62_19)
  have k63_20 := (congrFun eh63x (84)).trans ((va_up_ne _ _ (by decide)).trans k62_20)
  have k63_21 := (congrFun eh63x (85)).trans ((va_up_ne _ _ (by decide)).trans k62_21)
  have k63_22 := (congrFun eh63x (86)).trans ((va_up_ne _ _ (by decide)).trans k62_22)
  have k63_23 := (congrFun eh63x (87)).trans ((va_up_ne _ _ (by decide)).trans k62_23)
  have k63_24 := (congrFun eh63x (88)).trans ((va_up_ne _ _ (by decide)).trans k62_24)
  have k63_25 := (congrFun eh63x (89)).trans ((va_up_ne _ _ (by decide)).trans k62_25)
  have k63_26 := (congrFun eh63x (90)).trans ((va_up_ne _ _ (by decide)).trans k62_26)
  have k63_27 := (congrFun eh63x (91)).trans ((va_up_ne _ _ (by decide)).trans k62_27)
  have k63_28 := (congrFun eh63x (92)).trans ((va_up_ne _ _ (by decide)).trans k62_28)
  have k63_29 := (congrFun eh63x (93)).trans ((va_up_ne _ _ (by decide)).trans k62_29)
  have S63 : zsm h h63x (zbt 64 106) := zsm.up S62 eh63x ⟨by decide, by decide⟩
  clear eh63x k62_0 k62_1 k62_2 k62_3 k62_4 k62_5 k62_6 k62_7 k62_8 k62_9 k62_10 k62_11 k62_12 k62_13 k62_14 k62_15 k62_16 k62_17 k62_18 k62_19 k62_20 k62_21 k62_22 k62_23 k62_24 k62_25 k62_26 k62_27 k62_28 k62_29 S62 h62x
  refine zp_aload_n dX11_init_272 rfl ?_
  refine zp_sipush (v := nI (4096)) dX11_init_273 (by decide) ?_
  refine zp_newi (N := 4096) dX11_init_276 (nI_pos (by decide)) (nI_clamp (by decide)) (by decide) (Nat.le_of_ble_eq_true rfl) (Nat.le_of_ble_eq_true rfl) ?_
  refine zp_nn (cells' := 30) (slots' := 12112) (n' := 95) (st' := [.ref (94), .ref (64)]) rfl rfl rfl rfl ?_
  refine zp_nh (fun h64x eh64x => ?_)
  have k64_0 := (congrFun eh64x (64)).trans ((va_up_ne _ _ (by decide)).trans k63_0)
  have k64_1 := (congrFun eh64x (65)).trans ((va_up_ne _ _ (by decide)).trans k63_1)
  have k64_2 := (congrFun eh64x (66)).trans ((va_up_ne _ _ (by decide)).trans k63_2)
  have k64_3 := (congrFun eh64x (67)).trans ((va_up_ne _ _ (by decide)).trans k63_3)
  have k64_4 := (congrFun eh64x (68)).trans ((va_up_ne _ _ (by decide)).trans k63_4)
  have k64_5 := (congrFun eh64x (69)).trans ((va_up_ne _ _ (by decide)).trans k63_5)
  have k64_6 := (congrFun eh64x (70)).trans ((va_up_ne _ _ (by decide)).trans k63_6)
  have k64_7 := (congrFun eh64x (71)).trans ((va_up_ne _ _ (by decide)).trans k63_7)
  have k64_8 := (congrFun eh64x (72)).trans ((va_up_ne _ _ (by decide)).trans k63_8)
  have k64_9 := (congrFun eh64x (73)).trans ((va_up_ne _ _ (by decide)).trans k63_9)
  have k64_10 := (congrFun eh64x (74)).trans ((va_up_ne _ _ (by decide)).trans k63_10)
  have k64_11 := (congrFun eh64x (75)).trans ((va_up_ne _ _ (by decide)).trans k63_11)
  have k64_12 := (congrFun eh64x (76)).trans ((va_up_ne _ _ (by decide)).trans k63_12)
  have k64_13 := (congrFun eh64x (77)).trans ((va_up_ne _ _ (by decide)).trans k63_13)
  have k64_14 := (congrFun eh64x (78)).trans ((va_up_ne _ _ (by decide)).trans k63_14)
  have k64_15 := (congrFun eh64x (79)).trans ((va_up_ne _ _ (by decide)).trans k63_15)
  have k64_16 := (congrFun eh64x (80)).trans ((va_up_ne _ _ (by decide)).trans k63_16)
  have k64_17 := (congrFun eh64x (81)).trans ((va_up_ne _ _ (by decide)).trans k63_17)
  have k64_18 := (congrFun eh64x (82)).trans ((va_up_ne _ _ (by decide)).trans k63_18)
  have k64_19 := (congrFun eh64x (83)).trans ((va_up_ne _ _ (by decide)).trans k63_19)
  have k64_20 := (congrFun eh64x (84)).trans ((va_up_ne _ _ (by decide)).trans k63_20)
  have k64_21 := (congrFun eh64x (85)).trans ((va_up_ne _ _ (by decide)).trans k63_21)
  have k64_22 := (congrFun eh64x (86)).trans ((va_up_ne _ _ (by decide)).trans k63_22)
  have k64_23 := (congrFun eh64x (87)).trans ((va_up_ne _ _ (by decide)).trans k63_23)
  have k64_24 := (congrFun eh64x (88)).trans ((va_up_ne _ _ (by decide)).trans k63_24)
  have k64_25 := (congrFun eh64x (89)).trans ((va_up_ne _ _ (by decide)).trans k63_25)
  have k64_26 := (congrFun eh64x (90)).trans ((va_up_ne _ _ (by decide)).trans k63_26)
  have k64_27 := (congrFun eh64x (91)).trans ((va_up_ne _ _ (by decide)).trans k63_27)
  have k64_28 := (congrFun eh64x (92)).trans ((va_up_ne _ _ (by decide)).trans k63_28)
  have k64_29 := (congrFun eh64x (93)).trans ((va_up_ne _ _ (by decide)).trans k63_29)
  have k64_30 : h64x (94) = some (.inr (4096, .inl (fun _ => 0))) := by rw [eh64x]; exact va_up_self _ _ _
  have S64 : zsm h h64x (zbt 64 106) := zsm.up S63 eh64x ⟨by decide, by decide⟩
  clear eh64x k63_0 k63_1 k63_2 k63_3 k63_4 k63_5 k63_6 k63_7 k63_8 k63_9 k63_10 k63_11 k63_12 k63_13 k63_14 k63_15 k63_16 k63_17 k63_18 k63_19 k63_20 k63_21 k63_22 k63_23 k63_24 k63_25 k63_26 k63_27 k63_28 k63_29 S63 h63x
  refine zp_putF (fs' := [.int (0), .ref (65), .ref (66), .ref (67), .ref (68), .ref (69), .ref (70), .ref (71), .ref (72), .ref (73), .ref (74), .ref (75), .ref (76), .ref (77), .ref (78), .ref (79), .ref (80), .ref (81), .ref (82), .ref (83), .ref (84), .int (0), .int (0), .int (nI (5)), .int (nI (512)), .int (nI (40)), .int ((-1)), .int (0), .int ((-1)), .int (0), .int (0), .int (0), .int (0), .ref (85), .ref (86), .ref (87), .int (0), .ref (88), .ref (89), .ref (90), .ref (91), .ref (92), .ref (93), .int (0), .ref (94), .int (0)]) dX11_init_278 pX11_117_10 rfl (by omega) k64_0 (Nat.le_of_ble_eq_true rfl) (zfit_a _ _) rfl ?_
  refine zp_nh (fun h65x eh65x => ?_)
  have k65_0 : h65x (64) = some (.inl (10, [.int (0), .ref (65), .ref (66), .ref (67), .ref (68), .ref (69), .ref (70), .ref (71), .ref (72), .ref (73), .ref (74), .ref (75), .ref (76), .ref (77), .ref (78), .ref (79), .ref (80), .ref (81), .ref (82), .ref (83), .ref (84), .int (0), .int (0), .int (nI (5)), .int (nI (512)), .int (nI (40)), .int ((-1)), .int (0), .int ((-1)), .int (0), .int (0), .int (0), .int (0), .ref (85), .ref (86), .ref (87), .int (0), .ref (88), .ref (89), .ref (90), .ref (91), .ref (92), .ref (93), .int (0), .ref (94), .int (0)])) := by rw [eh65x]; exact va_up_self _ _ _
  have k65_1 := (congrFun eh65x (65)).trans ((va_up_ne _ _ (by decide)).trans k64_1)
  have k65_2 := (congrFun eh65x (66)).trans ((va_up_ne _ _ (by decide)).trans k64_2)
  have k65_3 := (congrFun eh65x (67)).trans ((va_up_ne _ _ (by decide)).trans k64_3)
  have k65_4 := (congrFun eh65x (68)).trans ((va_up_ne _ _ (by decide)).trans k64_4)
  have k65_5 := (congrFun eh65x (69)).trans ((va_up_ne _ _ (by decide)).trans k64_5)
  have k65_6 := (congrFun eh65x (70)).trans ((va_up_ne _ _ (by decide)).trans k64_6)
  have k65_7 := (congrFun eh65x (71)).trans ((va_up_ne _ _ (by decide)).trans k64_7)
  have k65_8 := (congrFun eh65x (72)).trans ((va_up_ne _ _ (by decide)).trans k64_8)
  have k65_9 := (congrFun eh65x (73)).trans ((va_up_ne _ _ (by decide)).trans k64_9)
  have k65_10 := (congrFun eh65x (74)).trans ((va_up_ne _ _ (by decide)).trans k64_10)
  have k65_11 := (congrFun eh65x (75)).trans ((va_up_ne _ _ (by decide)).trans k64_11)
  have k65_12 := (congrFun eh65x (76)).trans ((va_up_ne _ _ (by decide)).trans k64_12)
  have k65_13 := (congrFun eh65x (77)).trans ((va_up_ne _ _ (by decide)).trans k64_13)
  have k65_14 := (congrFun eh65x (78)).trans ((va_up_ne _ _ (by decide)).trans k64_14)
  have k65_15 := (congrFun eh65x (79)).trans ((va_up_ne _ _ (by decide)).trans k64_15)
  have k65_16 := (congrFun eh65x (80)).trans ((va_up_ne _ _ (by decide)).trans k64_16)
  have k65_17 := (congrFun eh65x (81)).trans ((va_up_ne _ _ (by decide)).trans k64_17)
  have k65_18 := (congrFun eh65x (82)).trans ((va_up_ne _ _ (by decide)).trans k64_18)
  have k65_19 := (congrFun eh65x (83)).trans ((va_up_ne _ _ (by decide)).trans k64_19)
  have k65_20 := (congrFun eh65x (84)).trans ((va_up_ne _ _ (by decide)).trans k64_20)
  have k65_21 := (congrFun eh65x (85)).trans ((va_up_ne _ _ (by decide)).trans k64_21)
  have k65_22 := (congrFun eh65x (86)).trans ((va_up_ne _ _ (by decide)).trans k64_22)
  have k65_23 := (congrFun eh65x (87)).trans ((va_up_ne _ _ (by decide)).trans k64_23)
  have k65_24 := (congrFun eh65x (88)).trans ((va_up_ne _ _ (by decide)).trans k64_24)
  have k65_25 := (congrFun eh65x (89)).trans ((va_up_ne _ _ (by decide)).trans k64_25)
  have k65_26 := (congrFun eh65x (90)).trans ((va_up_ne _ _ (by decide)).trans k64_26)
  have k65_27 := (congrFun eh65x (91)).trans ((va_up_ne _ _ (by decide)).trans k64_27)
  have k65_28 := (congrFun eh65x (92)).trans ((va_up_ne _ _ (by decide)).trans k64_28)
  have k65_29 := (congrFun eh65x (93)).trans ((va_up_ne _ _ (by decide)).trans k64_29)
  have k65_30 := (congrFun eh65x (94)).trans ((va_up_ne _ _ (by decide)).trans k64_30)
  have S65 : zsm h h65x (zbt 64 106) := zsm.up S64 eh65x ⟨by decide, by decide⟩
  clear eh65x k64_0 k64_1 k64_2 k64_3 k64_4 k64_5 k64_6 k64_7 k64_8 k64_9 k64_10 k64_11 k64_12 k64_13 k64_14 k64_15 k64_16 k64_17 k64_18 k64_19 k64_20 k64_21 k64_22 k64_23 k64_24 k64_25 k64_26 k64_27 k64_28 k64_29 k64_30 S64 h64x
  refine zp_pc (pc' := 281) rfl ?_
  refine zp_iconst (v := nI (0)) dX11_init_281 (by decide) ?_
  refine zp_istore_n (ls' := [some (.ref (64)), some (.int (nI (0))), none]) dX11_init_282 (by decide) rfl ?_
  refine zp_pc (pc' := 283) rfl ?_
  refine zp_iload_n dX11_init_283 rfl ?_
  refine zp_iconst (v := nI (4)) dX11_init_284 (by decide) ?_
  refine zp_pc (pc' := 285) rfl ?_
  refine zn_icmp_ge (tgt := 307) dX11_init_285 (by decide) (by decide) (by decide) (fun c => absurd c (by decide)) (fun _ => ?_)
  refine zp_aload_n dX11_init_288 rfl ?_
  refine zp_get dX11_init_289 gX11_92_10 k65_0 rfl ?_
  refine zp_iload_n dX11_init_292 rfl ?_
  refine zp_pc (pc' := 293) rfl ?_
  refine zp_new dX11_init_293 nwX11_90 (Nat.le_of_ble_eq_true rfl) (Nat.le_of_ble_eq_true rfl) ?_
  refine zp_nn (cells' := 31) (slots' := 12122) (n' := 96) (st' := [.ref (95), .int (nI (0)), .ref (86)]) rfl rfl rfl rfl ?_
  refine zp_nh (fun h66x eh66x => ?_)
  have k66_0 := (congrFun eh66x (64)).trans ((va_up_ne _ _ (by decide)).trans k65_0)
  have k66_1 := (congrFun eh66x (65)).trans ((va_up_ne _ _ (by decide)).trans k65_1)
  have k66_2 := (congrFun eh66x (66)).trans ((va_up_ne _ _ (by decide)).trans k65_2)
  have k66_3 := (congrFun eh66x (67)).trans ((va_up_ne _ _ (by decide)).trans k65_3)
  have k66_4 := (congrFun eh66x (68)).trans ((va_up_ne _ _ (by decide)).trans k65_4)
  have k66_5 := (congrFun eh66x (69)).trans ((va_up_ne _ _ (by decide)).trans k65_5)
  have k66_6 := (congrFun eh66x (70)).trans ((va_up_ne _ _ (by decide)).trans k65_6)
  have k66_7 := (congrFun eh66x (71)).trans ((va_up_ne _ _ (by decide)).trans k65_7)
  have k66_8 := (congrFun eh66x (72)).trans ((va_up_ne _ _ (by decide)).trans k65_8)
  have k66_9 := (congrFun eh66x (73)).trans ((va_up_ne _ _ (by decide)).trans k65_9)
  have k66_10 := (congrFun eh66x (74)).trans ((va_up_ne _ _ (by decide)).trans k65_10)
  have k66_11 := (congrFun eh66x (75)).trans ((va_up_ne _ _ (by decide)).trans k65_11)
  have k66_12 := (congrFun eh66x (76)).trans ((va_up_ne _ _ (by decide)).trans k65_12)
  have k66_13 := (congrFun eh66x (77)).trans ((va_up_ne _ _ (by decide)).trans k65_13)
  have k66_14 := (congrFun eh66x (78)).trans ((va_up_ne _ _ (by decide)).trans k65_14)
  have k66_15 := (congrFun eh66x (79)).trans ((va_up_ne _ _ (by decide)).trans k65_15)
  have k66_16 := (congrFun eh66x (80)).trans ((va_up_ne _ _ (by decide)).trans k65_16)
  have k66_17 := (congrFun eh66x (81)).trans ((va_up_ne _ _ (by decide)).trans k65_17)
  have k66_18 := (congrFun eh66x (82)).trans ((va_up_ne _ _ (by decide)).trans k65_18)
  have k66_19 := (congrFun eh66x (83)).trans ((va_up_ne _ _ (by decide)).trans k65_19)
  have k66_20 := (congrFun eh66x (84)).trans ((va_up_ne _ _ (by decide)).trans k65_20)
  have k66_21 := (congrFun eh66x (85)).trans ((va_up_ne _ _ (by decide)).trans k65_21)
  have k66_22 := (congrFun eh66x (86)).trans ((va_up_ne _ _ (by decide)).trans k65_22)
  have k66_23 := (congrFun eh66x (87)).trans ((va_up_ne _ _ (by decide)).trans k65_23)
  have k66_24 := (congrFun eh66x (88)).trans ((va_up_ne _ _ (by decide)).trans k65_24)
  have k66_25 := (congrFun eh66x (89)).trans ((va_up_ne _ _ (by decide)).trans k65_25)
  have k66_26 := (congrFun eh66x (90)).trans ((va_up_ne _ _ (by decide)).trans k65_26)
  have k66_27 := (congrFun eh66x (91)).trans ((va_up_ne _ _ (by decide)).trans k65_27)
  have k66_28 := (congrFun eh66x (92)).trans ((va_up_ne _ _ (by decide)).trans k65_28)
  have k66_29 := (congrFun eh66x (93)).trans ((va_up_ne _ _ (by decide)).trans k65_29)
  have k66_30 := (congrFun eh66x (94)).trans ((va_up_ne _ _ (by decide)).trans k65_30)
  have k66_31 : h66x (95) = some (.inl (9, [.int (0), .int (0), .int (0), .int (0), .int (0), .int (0), .int (0), .int (0), .null, .null])) := by rw [eh66x]; exact va_up_self _ _ _
  have S66 : zsm h h66x (zbt 64 106) := zsm.up S65 eh66x ⟨by decide, by decide⟩
  clear eh66x k65_0 k65_1 k65_2 k65_3 k65_4 k65_5 k65_6 k65_7 k65_8 k65_9 k65_10 k65_11 k65_12 k65_13 k65_14 k65_15 k65_16 k65_17 k65_18 k65_19 k65_20 k65_21 k65_22 k65_23 k65_24 k65_25 k65_26 k65_27 k65_28 k65_29 k65_30 S65 h65x
  refine zp_dup dX11_init_296 rfl ?_
  refine zp_pc (pc' := 297) rfl ?_
  refine zp_callIN (As := []) (k := 95) (st := [.ref (95), .int (nI (0)), .ref (86)]) dX11_init_297 cX11_120 rfl (e_zginit (a := 95) rfl (by decide) k66_31) (by decide) (by decide) (Nat.le_of_ble_eq_true rfl) (fun v67 h67 n67 q67 => ?_)
  obtain ⟨rfl, N67, s67, o67, i67, j67⟩ := q67
  rw [N67]
  refine zp_nn (cells' := 33) (slots' := 12344) (n' := 98) (st' := [.ref (95), .int (nI (0)), .ref (86)]) rfl rfl rfl rfl ?_
  have s67 : zsm _ _ (zbt 95 97) := s67
  clear k66_31
  have m67_0 : h67 (64) = some (.inl (10, [.int (0), .ref (65), .ref (66), .ref (67), .ref (68), .ref (69), .ref (70), .ref (71), .ref (72), .ref (73), .ref (74), .ref (75), .ref (76), .ref (77), .ref (78), .ref (79), .ref (80), .ref (81), .ref (82), .ref (83), .ref (84), .int (0), .int (0), .int (nI (5)), .int (nI (512)), .int (nI (40)), .int ((-1)), .int (0), .int ((-1)), .int (0), .int (0), .int (0), .int (0), .ref (85), .ref (86), .ref (87), .int (0), .ref (88), .ref (89), .ref (90), .ref (91), .ref (92), .ref (93), .int (0), .ref (94), .int (0)])) := (s67 _ (fun q => absurd q (by unfold zbt; decide))).trans k66_0
  have m67_1 : h67 (65) = some (.inr (80, .inr (.inl (fun _ => 0)))) := (s67 _ (fun q => absurd q (by unfold zbt; decide))).trans k66_1
  have m67_2 : h67 (66) = some (.inr (8, .inr (.inl (fun _ => 0)))) := (s67 _ (fun q => absurd q (by unfold zbt; decide))).trans k66_2
  have m67_3 : h67 (67) = some (.inr (5, .inl (fun _ => 0))) := (s67 _ (fun q => absurd q (by unfold zbt; decide))).trans k66_3
  have m67_4 : h67 (68) = some (.inr (16, .inl (fun _ => 0))) := (s67 _ (fun q => absurd q (by unfold zbt; decide))).trans k66_4
  have m67_5 : h67 (69) = some (.inr (16, .inl (fun _ => 0))) := (s67 _ (fun q => absurd q (by unfold zbt; decide))).trans k66_5
  have m67_6 : h67 (70) = some (.inr (1200, .inl (fun _ => 0))) := (s67 _ (fun q => absurd q (by unfold zbt; decide))).trans k66_6
  have m67_7 : h67 (71) = some (.inr (80, .inr (.inl (fun _ => 0)))) := (s67 _ (fun q => absurd q (by unfold zbt; decide))).trans k66_7
  have m67_8 : h67 (72) = some (.inr (8, .inr (.inl (fun _ => 0)))) := (s67 _ (fun q => absurd q (by unfold zbt; decide))).trans k66_8
  have m67_9 : h67 (73) = some (.inr (8, .inr (.inl (fun _ => 0)))) := (s67 _ (fun q => absurd q (by unfold zbt; decide))).trans k66_9
  have m67_10 : h67 (74) = some (.inr (64, .inl (fun _ => 0))) := (s67 _ (fun q => absurd q (by unfold zbt; decide))).trans k66_10
  have m67_11 : h67 (75) = some (.inr (1000, .inl (fun _ => 0))) := (s67 _ (fun q => absurd q (by unfold zbt; decide))).trans k66_11
  have m67_12 : h67 (76) = some (.inr (1000, .inl (fun _ => 0))) := (s67 _ (fun q => absurd q (by unfold zbt; decide))).trans k66_12
  have m67_13 : h67 (77) = some (.inr (256, .inl (fun _ => 0))) := (s67 _ (fun q => absurd q (by unfold zbt; decide))).trans k66_13
  have m67_14 : h67 (78) = some (.inr (240, .inl (fun _ => 0))) := (s67 _ (fun q => absurd q (by unfold zbt; decide))).trans k66_14
  have m67_15 : h67 (79) = some (.inr (16, .inl (fun _ => 0))) := (s67 _ (fun q => absurd q (by unfold zbt; decide))).trans k66_15
  have m67_16 : h67 (80) = some (.inr (16, .inl (fun _ => 0))) := (s67 _ (fun q => absurd q (by unfold zbt; decide))).trans k66_16
  have m67_17 : h67 (81) = some (.inr (1000, .inl (fun _ => 0))) := (s67 _ (fun q => absurd q (by unfold zbt; decide))).trans k66_17
  have m67_18 : h67 (82) = some (.inr (32, .inl (fun _ => 0))) := (s67 _ (fun q => absurd q (by unfold zbt; decide))).trans k66_18
  have m67_19 : h67 (83) = some (.inr (48, .inl (fun _ => 0))) := (s67 _ (fun q => absurd q (by unfold zbt; decide))).trans k66_19
  have m67_20 : h67 (84) = some (.inr (1000, .inl (fun _ => 0))) := (s67 _ (fun q => absurd q (by unfold zbt; decide))).trans k66_20
  have m67_21 : h67 (85) = some (.inr (100, .inl (fun _ => 0))) := (s67 _ (fun q => absurd q (by unfold zbt; decide))).trans k66_21
  have m67_22 : h67 (86) = some (.inr (4, .inr (.inr (true, (fun _ => none))))) := (s67 _ (fun q => absurd q (by unfold zbt; decide))).trans k66_22
  have m67_23 : h67 (87) = some (.inr (1000, .inl (fun _ => 0))) := (s67 _ (fun q => absurd q (by unfold zbt; decide))).trans k66_23
  have m67_24 : h67 (88) = some (.inr (4, .inl (fun _ => 0))) := (s67 _ (fun q => absurd q (by unfold zbt; decide))).trans k66_24
  have m67_25 : h67 (89) = some (.inr (111, .inl (fun _ => 0))) := (s67 _ (fun q => absurd q (by unfold zbt; decide))).trans k66_25
  have m67_26 : h67 (90) = some (.inr (400, .inl (fun _ => 0))) := (s67 _ (fun q => absurd q (by unfold zbt; decide))).trans k66_26
  have m67_27 : h67 (91) = some (.inr (16, .inl (fun _ => 0))) := (s67 _ (fun q => absurd q (by unfold zbt; decide))).trans k66_27
  have m67_28 : h67 (92) = some (.inr (48, .inl (fun _ => 0))) := (s67 _ (fun q => absurd q (by unfold zbt; decide))).trans k66_28
  have m67_29 : h67 (93) = some (.inr (240, .inl (fun _ => 0))) := (s67 _ (fun q => absurd q (by unfold zbt; decide))).trans k66_29
  have m67_30 : h67 (94) = some (.inr (4096, .inl (fun _ => 0))) := (s67 _ (fun q => absurd q (by unfold zbt; decide))).trans k66_30
  have S67 : zsm h h67 (zbt 64 106) := S66.trans (s67.mono (fun i hi => by unfold zbt at hi ⊢; omega))
  clear k66_0 k66_1 k66_2 k66_3 k66_4 k66_5 k66_6 k66_7 k66_8 k66_9 k66_10 k66_11 k66_12 k66_13 k66_14 k66_15 k66_16 k66_17 k66_18 k66_19 k66_20 k66_21 k66_22 k66_23 k66_24 k66_25 k66_26 k66_27 k66_28 k66_29 k66_30 S66 s67
  have o67 : h67 95 = some (.inl (9, [.int (0), .int (0), .int (0), .int (0), .int (0), .int (0), .int (0), .int (0), .ref (96), .ref (97)])) := o67
  obtain ⟨f96, e96⟩ := i67
  have e96 : h67 96 = some (.inr (111, .inl f96)) := e96
  obtain ⟨f97, e97⟩ := j67
  have e97 : h67 97 = some (.inr (111, .inl f97)) := e97
  refine zp_aast (q0 := (RX10, TX10, 10)) dX11_init_300 (by decide) m67_22 (by unfold vp_in; decide) o67 rfl (Or.inl rfl) ?_
  refine zp_nh (fun h68x eh68x => ?_)
  have k68_0 := (congrFun eh68x (64)).trans ((va_up_ne _ _ (by decide)).trans m67_0)
  have k68_1 := (congrFun eh68x (65)).trans ((va_up_ne _ _ (by decide)).trans m67_1)
  have k68_2 := (congrFun eh68x (66)).trans ((va_up_ne _ _ (by decide)).trans m67_2)
  have k68_3 := (congrFun eh68x (67)).trans ((va_up_ne _ _ (by decide)).trans m67_3)
  have k68_4 := (congrFun eh68x (68)).trans ((va_up_ne _ _ (by decide)).trans m67_4)
  have k68_5 := (congrFun eh68x (69)).trans ((va_up_ne _ _ (by decide)).trans m67_5)
  have k68_6 := (congrFun eh68x (70)).trans ((va_up_ne _ _ (by decide)).trans m67_6)
  have k68_7 := (congrFun eh68x (71)).trans ((va_up_ne _ _ (by decide)).trans m67_7)
  have k68_8 := (congrFun eh68x (72)).trans ((va_up_ne _ _ (by decide)).trans m67_8)
  have k68_9 := (congrFun eh68x (73)).trans ((va_up_ne _ _ (by decide)).trans m67_9)
  have k68_10 := (congrFun eh68x (74)).trans ((va_up_ne _ _ (by decide)).trans m67_10)
  have k68_11 := (congrFun eh68x (75)).trans ((va_up_ne _ _ (by decide)).trans m67_11)
  have k68_12 := (congrFun eh68x (76)).trans ((va_up_ne _ _ (by decide)).trans m67_12)
  have k68_13 := (congrFun eh68x (77)).trans ((va_up_ne _ _ (by decide)).trans m67_13)
  have k68_14 := (congrFun eh68x (78)).trans ((va_up_ne _ _ (by decide)).trans m67_14)
  have k68_15 := (congrFun eh68x (79)).trans ((va_up_ne _ _ (by decide)).trans m67_15)
  have k68_16 := (congrFun eh68x (80)).trans ((va_up_ne _ _ (by decide)).trans m67_16)
  have k68_17 := (congrFun eh68x (81)).trans ((va_up_ne _ _ (by decide)).trans m67_17)
  have k68_18 := (congrFun eh68x (82)).trans ((va_up_ne _ _ (by decide)).trans m67_18)
  have k68_19 := (congrFun eh68x (83)).trans ((va_up_ne _ _ (by decide)).trans m67_19)
  have k68_20 := (congrFun eh68x (84)).trans ((va_up_ne _ _ (by decide)).trans m67_20)
  have k68_21 := (congrFun eh68x (85)).trans ((va_up_ne _ _ (by decide)).trans m67_21)
  have k68_22 : h68x (86) = some (.inr (4, .inr (.inr (true, (va_up (fun _ => none) ((nI (0)).toNatClampNeg) (some 95)))))) := by rw [eh68x]; exact va_up_self _ _ _
  have k68_23 := (congrFun eh68x (87)).trans ((va_up_ne _ _ (by decide)).trans m67_23)
  have k68_24 := (congrFun eh68x (88)).trans ((va_up_ne _ _ (by decide)).trans m67_24)
  have k68_25 := (congrFun eh68x (89)).trans ((va_up_ne _ _ (by decide)).trans m67_25)
  have k68_26 := (congrFun eh68x (90)).trans ((va_up_ne _ _ (by decide)).trans m67_26)
  have k68_27 := (congrFun eh68x (91)).trans ((va_up_ne _ _ (by decide)).trans m67_27)
  have k68_28 := (congrFun eh68x (92)).trans ((va_up_ne _ _ (by decide)).trans m67_28)
  have k68_29 := (congrFun eh68x (93)).trans ((va_up_ne _ _ (by decide)).trans m67_29)
  have k68_30 := (congrFun eh68x (94)).trans ((va_up_ne _ _ (by decide)).trans m67_30)
  have k68_31 := (congrFun eh68x (95)).trans ((va_up_ne _ _ (by decide)).trans o67)
  have k68_32 := (congrFun eh68x (96)).trans ((va_up_ne _ _ (by decide)).trans e96)
  have k68_33 := (congrFun eh68x (97)).trans ((va_up_ne _ _ (by decide)).trans e97)
  have S68 : zsm h h68x (zbt 64 106) := zsm.up S67 eh68x ⟨by decide, by decide⟩
  clear eh68x m67_0 m67_1 m67_2 m67_3 m67_4 m67_5 m67_6 m67_7 m67_8 m67_9 m67_10 m67_11 m67_12 m67_13 m67_14 m67_15 m67_16 m67_17 m67_18 m67_19 m67_20 m67_21 m67_22 m67_23 m67_24 m67_25 m67_26 m67_27 m67_28 m67_29 m67_30 o67 e96 e97 S67
  refine zn_iinc 1 (ls' := [some (.ref (64)), some (.int (nI (0 + 1))), none]) dX11_init_301 (by decide) (by decide) rfl rfl ?_
  refine zp_goto (tgt := 283) dX11_init_304 (by decide) ?_
  refine zp_pc (pc' := 283) rfl ?_
  refine zp_iload_n dX11_init_283 rfl ?_
  refine zp_iconst (v := nI (4)) dX11_init_284 (by decide) ?_
  refine zp_pc (pc' := 285) rfl ?_
  refine zn_icmp_ge (tgt := 307) dX11_init_285 (by decide) (by decide) (by decide) (fun c => absurd c (by decide)) (fun _ => ?_)
  refine zp_aload_n dX11_init_288 rfl ?_
  refine zp_get dX11_init_289 gX11_92_10 k68_0 rfl ?_
  refine zp_iload_n dX11_init_292 rfl ?_
  refine zp_pc (pc' := 293) rfl ?_
  refine zp_new dX11_init_293 nwX11_90 (Nat.le_of_ble_eq_true rfl) (Nat.le_of_ble_eq_true rfl) ?_
  refine zp_nn (cells' := 34) (slots' := 12354) (n' := 99) (st' := [.ref (98), .int (nI (0 + 1)), .ref (86)]) rfl rfl rfl rfl ?_
  refine zp_nh (fun h69x eh69x => ?_)
  have k69_0 := (congrFun eh69x (64)).trans ((va_up_ne _ _ (by decide)).trans k68_0)
  have k69_1 := (congrFun eh69x (65)).trans ((va_up_ne _ _ (by decide)).trans k68_1)
  have k69_2 := (congrFun eh69x (66)).trans ((va_up_ne _ _ (by decide)).trans k68_2)
  have k69_3 := (congrFun eh69x (67)).trans ((va_up_ne _ _ (by decide)).trans k68_3)
  have k69_4 := (congrFun eh69x (68)).trans ((va_up_ne _ _ (by decide)).trans k68_4)
  have k69_5 := (congrFun eh69x (69)).trans ((va_up_ne _ _ (by decide)).trans k68_5)
  have k69_6 := (congrFun eh69x (70)).trans ((va_up_ne _ _ (by decide)).trans k68_6)
  have k69_7 := (congrFun eh69x (71)).trans ((va_up_ne _ _ (by decide)).trans k68_7)
  have k69_8 := (congrFun eh69x (72)).trans ((va_up_ne _ _ (by decide)).trans k68_8)
  have k69_9 := (congrFun eh69x (73)).trans ((va_up_ne _ _ (by decide)).trans k68_9)
  have k69_10 := (congrFun eh69x (74)).trans ((va_up_ne _ _ (by decide)).trans k68_10)
  have k69_11 := (congrFun eh69x (75)).trans ((va_up_ne _ _ (by decide)).trans k68_11)
  have k69_12 := (congrFun eh69x (76)).trans ((va_up_ne _ _ (by decide)).trans k68_12)
  have k69_13 := (congrFun eh69x (77)).trans ((va_up_ne _ _ (by decide)).trans k68_13)
  have k69_14 := (congrFun eh69x (78)).trans ((va_up_ne _ _ (by decide)).trans k68_14)
  have k69_15 := (congrFun eh69x (79)).trans ((va_up_ne _ _ (by decide)).trans k68_15)
  have k69_16 := (congrFun eh69x (80)).trans ((va_up_ne _ _ (by decide)).trans k68_16)
  have k69_17 := (congrFun eh69x (81)).trans ((va_up_ne _ _ (by decide)).trans k68_17)
  have k69_18 := (congrFun eh69x (82)).trans ((va_up_ne _ _ (by decide)).trans k68_18)
  have k69_19 := (congrFun eh69x (83)).trans ((va_up_ne _ _ (by decide)).trans k68_19)
  have k69_20 := (congrFun eh69x (84)).trans ((va_up_ne _ _ (by decide)).trans k68_20)
  have k69_21 := (congrFun eh69x (85)).trans ((va_up_ne _ _ (by decide)).trans k68_21)
  have k69_22 := (congrFun eh69x (86)).trans ((va_up_ne _ _ (by decide)).trans k68_22)
  have k69_23 := (congrFun eh69x (87)).trans ((va_up_ne _ _ (by decide)).trans k68_23)
  have k69_24 := (congrFun eh69x (88)).trans ((va_up_ne _ _ (by decide)).trans k68_24)
  have k69_25 := (congrFun eh69x (89)).trans ((va_up_ne _ _ (by decide)).trans k68_25)
  have k69_26 := (congrFun eh69x (90)).trans ((va_up_ne _ _ (by decide)).trans k68_26)
  have k69_27 := (congrFun eh69x (91)).trans ((va_up_ne _ _ (by decide)).trans k68_27)
  have k69_28 := (congrFun eh69x (92)).trans ((va_up_ne _ _ (by decide)).trans k68_28)
  have k69_29 := (congrFun eh69x (93)).trans ((va_up_ne _ _ (by decide)).trans k68_29)
  have k69_30 := (congrFun eh69x (94)).trans ((va_up_ne _ _ (by decide)).trans k68_30)
  have k69_31 := (congrFun eh69x (95)).trans ((va_up_ne _ _ (by decide)).trans k68_31)
  have k69_32 := (congrFun eh69x (96)).trans ((va_up_ne _ _ (by decide)).trans k68_32)
  have k69_33 := (congrFun eh69x (97)).trans ((va_up_ne _ _ (by decide)).trans k68_33)
  have k69_34 : h69x (98) = some (.inl (9, [.int (0), .int (0), .int (0), .int (0), .int (0), .int (0), .int (0), .int (0), .null, .null])) := by rw [eh69x]; exact va_up_self _ _ _
  have S69 : zsm h h69x (zbt 64 106) := zsm.up S68 eh69x ⟨by decide, by decide⟩
  clear eh69x k68_0 k68_1 k68_2 k68_3 k68_4 k68_5 k68_6 k68_7 k68_8 k68_9 k68_10 k68_11 k68_12 k68_13 k68_14 k68_15 k68_16 k68_17 k68_18 k68_19 k68_20 k68_21 k68_22 k68_23 k68_24 k68_25 k68_26 k68_27 k68_28 k68_29 k68_30 k68_31 k68_32 k68_33 S68 h68x
  refine zp_dup dX11_init_296 rfl ?_
  refine zp_pc (pc' := 297) rfl ?_
  refine zp_callIN (As := []) (k := 98) (st := [.ref (98), .int (nI (0 + 1)), .ref (86)]) dX11_init_297 cX11_120 rfl (e_zginit (a := 98) rfl (by decide) k69_34) (by decide) (by decide) (Nat.le_of_ble_eq_true rfl) (fun v70 h70 n70 q70 => ?_)
  obtain ⟨rfl, N70, s70, o70, i70, j70⟩ := q70
  rw [N70]
  refine zp_nn (cells' := 36) (slots' := 12576) (n' := 101) (st' := [.ref (98), .int (nI (0 + 1)), .ref (86)]) rfl rfl rfl rfl ?_
  have s70 : zsm _ _ (zbt 98 100) := s70
  clear k69_34
  have m70_0 : h70 (64) = some (.inl (10, [.int (0), .ref (65), .ref (66), .ref (67), .ref (68), .ref (69), .ref (70), .ref (71), .ref (72), .ref (73), .ref (74), .ref (75), .ref (76), .ref (77), .ref (78), .ref (79), .ref (80), .ref (81), .ref (82), .ref (83), .ref (84), .int (0), .int (0), .int (nI (5)), .int (nI (512)), .int (nI (40)), .int ((-1)), .int (0), .int ((-1)), .int (0), .int (0), .int (0), .int (0), .ref (85), .ref (86), .ref (87), .int (0), .ref (88), .ref (89), .ref (90), .ref (91), .ref (92), .ref (93), .int (0), .ref (94), .int (0)])) := (s70 _ (fun q => absurd q (by unfold zbt; decide))).trans k69_0
  have m70_1 : h70 (65) = some (.inr (80, .inr (.inl (fun _ => 0)))) := (s70 _ (fun q => absurd q (by unfold zbt; decide))).trans k69_1
  have m70_2 : h70 (66) = some (.inr (8, .inr (.inl (fun _ => 0)))) := (s70 _ (fun q => absurd q (by unfold zbt; decide))).trans k69_2
  have m70_3 : h70 (67) = some (.inr (5, .inl (fun _ => 0))) := (s70 _ (fun q => absurd q (by unfold zbt; decide))).trans k69_3
  have m70_4 : h70 (68) = some (.inr (16, .inl (fun _ => 0))) := (s70 _ (fun q => absurd q (by unfold zbt; decide))).trans k69_4
  have m70_5 : h70 (69) = some (.inr (16, .inl (fun _ => 0))) := (s70 _ (fun q => absurd q (by unfold zbt; decide))).trans k69_5
  have m70_6 : h70 (70) = some (.inr (1200, .inl (fun _ => 0))) := (s70 _ (fun q => absurd q (by unfold zbt; decide))).trans k69_6
  have m70_7 : h70 (71) = some (.inr (80, .inr (.inl (fun _ => 0)))) := (s70 _ (fun q => absurd q (by unfold zbt; decide))).trans k69_7
  have m70_8 : h70 (72) = some (.inr (8, .inr (.inl (fun _ => 0)))) := (s70 _ (fun q => absurd q (by unfold zbt; decide))).trans k69_8
  have m70_9 : h70 (73) = some (.inr (8, .inr (.inl (fun _ => 0)))) := (s70 _ (fun q => absurd q (by unfold zbt; decide))).trans k69_9
  have m70_10 : h70 (74) = some (.inr (64, .inl (fun _ => 0))) := (s70 _ (fun q => absurd q (by unfold zbt; decide))).trans k69_10
  have m70_11 : h70 (75) = some (.inr (1000, .inl (fun _ => 0))) := (s70 _ (fun q => absurd q (by unfold zbt; decide))).trans k69_11
  have m70_12 : h70 (76) = some (.inr (1000, .inl (fun _ => 0))) := (s70 _ (fun q => absurd q (by unfold zbt; decide))).trans k69_12
  have m70_13 : h70 (77) = some (.inr (256, .inl (fun _ => 0))) := (s70 _ (fun q => absurd q (by unfold zbt; decide))).trans k69_13
  have m70_14 : h70 (78) = some (.inr (240, .inl (fun _ => 0))) := (s70 _ (fun q => absurd q (by unfold zbt; decide))).trans k69_14
  have m70_15 : h70 (79) = some (.inr (16, .inl (fun _ => 0))) := (s70 _ (fun q => absurd q (by unfold zbt; decide))).trans k69_15
  have m70_16 : h70 (80) = some (.inr (16, .inl (fun _ => 0))) := (s70 _ (fun q => absurd q (by unfold zbt; decide))).trans k69_16
  have m70_17 : h70 (81) = some (.inr (1000, .inl (fun _ => 0))) := (s70 _ (fun q => absurd q (by unfold zbt; decide))).trans k69_17
  have m70_18 : h70 (82) = some (.inr (32, .inl (fun _ => 0))) := (s70 _ (fun q => absurd q (by unfold zbt; decide))).trans k69_18
  have m70_19 : h70 (83) = some (.inr (48, .inl (fun _ => 0))) := (s70 _ (fun q => absurd q (by unfold zbt; decide))).trans k69_19
  have m70_20 : h70 (84) = some (.inr (1000, .inl (fun _ => 0))) := (s70 _ (fun q => absurd q (by unfold zbt; decide))).trans k69_20
  have m70_21 : h70 (85) = some (.inr (100, .inl (fun _ => 0))) := (s70 _ (fun q => absurd q (by unfold zbt; decide))).trans k69_21
  have m70_22 : h70 (86) = some (.inr (4, .inr (.inr (true, (va_up (fun _ => none) ((nI (0)).toNatClampNeg) (some 95)))))) := (s70 _ (fun q => absurd q (by unfold zbt; decide))).trans k69_22
  have m70_23 : h70 (87) = some (.inr (1000, .inl (fun _ => 0))) := (s70 _ (fun q => absurd q (by unfold zbt; decide))).trans k69_23
  have m70_24 : h70 (88) = some (.inr (4, .inl (fun _ => 0))) := (s70 _ (fun q => absurd q (by unfold zbt; decide))).trans k69_24
  have m70_25 : h70 (89) = some (.inr (111, .inl (fun _ => 0))) := (s70 _ (fun q => absurd q (by unfold zbt; decide))).trans k69_25
  have m70_26 : h70 (90) = some (.inr (400, .inl (fun _ => 0))) := (s70 _ (fun q => absurd q (by unfold zbt; decide))).trans k69_26
  have m70_27 : h70 (91) = some (.inr (16, .inl (fun _ => 0))) := (s70 _ (fun q => absurd q (by unfold zbt; decide))).trans k69_27
  have m70_28 : h70 (92) = some (.inr (48, .inl (fun _ => 0))) := (s70 _ (fun q => absurd q (by unfold zbt; decide))).trans k69_28
  have m70_29 : h70 (93) = some (.inr (240, .inl (fun _ => 0))) := (s70 _ (fun q => absurd q (by unfold zbt; decide))).trans k69_29
  have m70_30 : h70 (94) = some (.inr (4096, .inl (fun _ => 0))) := (s70 _ (fun q => absurd q (by unfold zbt; decide))).trans k69_30
  have m70_31 : h70 (95) = some (.inl (9, [.int (0), .int (0), .int (0), .int (0), .int (0), .int (0), .int (0), .int (0), .ref (96), .ref (97)])) := (s70 _ (fun q => absurd q (by unfold zbt; decide))).trans k69_31
  have m70_32 : h70 (96) = some (.inr (111, .inl f96)) := (s70 _ (fun q => absurd q (by unfold zbt; decide))).trans k69_32
  have m70_33 : h70 (97) = some (.inr (111, .inl f97)) := (s70 _ (fun q => absurd q (by unfold zbt; decide))).trans k69_33
  have S70 : zsm h h70 (zbt 64 106) := S69.trans (s70.mono (fun i hi => by unfold zbt at hi ⊢; omega))
  clear k69_0 k69_1 k69_2 k69_3 k69_4 k69_5 k69_6 k69_7 k69_8 k69_9 k69_10 k69_11 k69_12 k69_13 k69_14 k69_15 k69_16 k69_17 k69_18 k69_19 k69_20 k69_21 k69_22 k69_23 k69_24 k69_25 k69_26 k69_27 k69_28 k69_29 k69_30 k69_31 k69_32 k69_33 S69 s70
  have o70 : h70 98 = some (.inl (9, [.int (0), .int (0), .int (0), .int (0), .int (0), .int (0), .int (0), .int (0), .ref (99), .ref (100)])) := o70
  obtain ⟨f99, e99⟩ := i70
  have e99 : h70 99 = some (.inr (111, .inl f99)) := e99
  obtain ⟨f100, e100⟩ := j70
  have e100 : h70 100 = some (.inr (111, .inl f100)) := e100
  refine zp_aast (q0 := (RX10, TX10, 10)) dX11_init_300 (by decide) m70_22 (by unfold vp_in; decide) o70 rfl (Or.inl rfl) ?_
  refine zp_nh (fun h71x eh71x => ?_)
  have k71_0 := (congrFun eh71x (64)).trans ((va_up_ne _ _ (by decide)).trans m70_0)
  have k71_1 := (congrFun eh71x (65)).trans ((va_up_ne _ _ (by decide)).trans m70_1)
  have k71_2 := (congrFun eh71x (66)).trans ((va_up_ne _ _ (by decide)).trans m70_2)
  have k71_3 := (congrFun eh71x (67)).trans ((va_up_ne _ _ (by decide)).trans m70_3)
  have k71_4 := (congrFun eh71x (68)).trans ((va_up_ne _ _ (by decide)).trans m70_4)
  have k71_5 := (congrFun eh71x (69)).trans ((va_up_ne _ _ (by decide)).trans m70_5)
  have k71_6 := (congrFun eh71x (70)).trans ((va_up_ne _ _ (by decide)).trans m70_6)
  have k71_7 := (congrFun eh71x (71)).trans ((va_up_ne _ _ (by decide)).trans m70_7)
  have k71_8 := (congrFun eh71x (72)).trans ((va_up_ne _ _ (by decide)).trans m70_8)
  have k71_9 := (congrFun eh71x (73)).trans ((va_up_ne _ _ (by decide)).trans m70_9)
  have k71_10 := (congrFun eh71x (74)).trans ((va_up_ne _ _ (by decide)).trans m70_10)
  have k71_11 := (congrFun eh71x (75)).trans ((va_up_ne _ _ (by decide)).trans m70_11)
  have k71_12 := (congrFun eh71x (76)).trans ((va_up_ne _ _ (by decide)).trans m70_12)
  have k71_13 := (congrFun eh71x (77)).trans ((va_up_ne _ _ (by decide)).trans m70_13)
  have k71_14 := (congrFun eh71x (78)).trans ((va_up_ne _ _ (by decide)).trans m70_14)
  have k71_15 := (congrFun eh71x (79)).trans ((va_up_ne _ _ (by decide)).trans m70_15)
  have k71_16 := (congrFun eh71x (80)).trans ((va_up_ne _ _ (by decide)).trans m70_16)
  have k71_17 := (congrFun eh71x (81)).trans ((va_up_ne _ _ (by decide)).trans m70_17)
  have k71_18 := (congrFun eh71x (82)).trans ((va_up_ne _ _ (by decide)).trans m70_18)
  have k71_19 := (congrFun eh71x (83)).trans ((va_up_ne _ _ (by decide)).trans m70_19)
  have k71_20 := (congrFun eh71x (84)).trans ((va_up_ne _ _ (by decide)).trans m70_20)
  have k71_21 := (congrFun eh71x (85)).trans ((va_up_ne _ _ (by decide)).trans m70_21)
  have k71_22 : h71x (86) = some (.inr (4, .inr (.inr (true, (va_up (va_up (fun _ => none) ((nI (0)).toNatClampNeg) (some 95)) ((nI (1)).toNatClampNeg) (some 98)))))) := by rw [eh71x]; exact va_up_self _ _ _
  have k71_23 := (congrFun eh71x (87)).trans ((va_up_ne _ _ (by decide)).trans m70_23)
  have k71_24 := (congrFun eh71x (88)).trans ((va_up_ne _ _ (by decide)).trans m70_24)
  have k71_25 := (congrFun eh71x (89)).trans ((va_up_ne _ _ (by decide)).trans m70_25)
  have k71_26 := (congrFun eh71x (90)).trans ((va_up_ne _ _ (by decide)).trans m70_26)
  have k71_27 := (congrFun eh71x (91)).trans ((va_up_ne _ _ (by decide)).trans m70_27)
  have k71_28 := (congrFun eh71x (92)).trans ((va_up_ne _ _ (by decide)).trans m70_28)
  have k71_29 := (congrFun eh71x (93)).trans ((va_up_ne _ _ (by decide)).trans m70_29)
  have k71_30 := (congrFun eh71x (94)).trans ((va_up_ne _ _ (by decide)).trans m70_30)
  have k71_31 := (congrFun eh71x (95)).trans ((va_up_ne _ _ (by decide)).trans m70_31)
  have k71_32 := (congrFun eh71x (96)).trans ((va_up_ne _ _ (by decide)).trans m70_32)
  have k71_33 := (congrFun eh71x (97)).trans ((va_up_ne _ _ (by decide)).trans m70_33)
  have k71_34 := (congrFun eh71x (98)).trans ((va_up_ne _ _ (by decide)).trans o70)
  have k71_35 := (congrFun eh71x (99)).trans ((va_up_ne _ _ (by decide)).trans e99)
  have k71_36 := (congrFun eh71x (100)).trans ((va_up_ne _ _ (by decide)).trans e100)
  have S71 : zsm h h71x (zbt 64 106) := zsm.up S70 eh71x ⟨by decide, by decide⟩
  clear eh71x m70_0 m70_1 m70_2 m70_3 m70_4 m70_5 m70_6 m70_7 m70_8 m70_9 m70_10 m70_11 m70_12 m70_13 m70_14 m70_15 m70_16 m70_17 m70_18 m70_19 m70_20 m70_21 m70_22 m70_23 m70_24 m70_25 m70_26 m70_27 m70_28 m70_29 m70_30 m70_31 m70_32 m70_33 o70 e99 e100 S70
  refine zn_iinc 1 (ls' := [some (.ref (64)), some (.int (nI (0 + 1 + 1))), none]) dX11_init_301 (by decide) (by decide) rfl rfl ?_
  refine zp_goto (tgt := 283) dX11_init_304 (by decide) ?_
  refine zp_pc (pc' := 283) rfl ?_
  refine zp_iload_n dX11_init_283 rfl ?_
  refine zp_iconst (v := nI (4)) dX11_init_284 (by decide) ?_
  refine zp_pc (pc' := 285) rfl ?_
  refine zn_icmp_ge (tgt := 307) dX11_init_285 (by decide) (by decide) (by decide) (fun c => absurd c (by decide)) (fun _ => ?_)
  refine zp_aload_n dX11_init_288 rfl ?_
  refine zp_get dX11_init_289 gX11_92_10 k71_0 rfl ?_
  refine zp_iload_n dX11_init_292 rfl ?_
  refine zp_pc (pc' := 293) rfl ?_
  refine zp_new dX11_init_293 nwX11_90 (Nat.le_of_ble_eq_true rfl) (Nat.le_of_ble_eq_true rfl) ?_
  refine zp_nn (cells' := 37) (slots' := 12586) (n' := 102) (st' := [.ref (101), .int (nI (0 + 1 + 1)), .ref (86)]) rfl rfl rfl rfl ?_
  refine zp_nh (fun h72x eh72x => ?_)
  have k72_0 := (congrFun eh72x (64)).trans ((va_up_ne _ _ (by decide)).trans k71_0)
  have k72_1 := (congrFun eh72x (65)).trans ((va_up_ne _ _ (by decide)).trans k71_1)
  have k72_2 := (congrFun eh72x (66)).trans ((va_up_ne _ _ (by decide)).trans k71_2)
  have k72_3 := (congrFun eh72x (67)).trans ((va_up_ne _ _ (by decide)).trans k71_3)
  have k72_4 := (congrFun eh72x (68)).trans ((va_up_ne _ _ (by decide)).trans k71_4)
  have k72_5 := (congrFun eh72x (69)).trans ((va_up_ne _ _ (by decide)).trans k71_5)
  have k72_6 := (congrFun eh72x (70)).trans ((va_up_ne _ _ (by decide)).trans k71_6)
  have k72_7 := (congrFun eh72x (71)).trans ((va_up_ne _ _ (by decide)).trans k71_7)
  have k72_8 := (congrFun eh72x (72)).trans ((va_up_ne _ _ (by decide)).trans k71_8)
  have k72_9 := (congrFun eh72x (73)).trans ((va_up_ne _ _ (by decide)).trans k71_9)
  have k72_10 := (congrFun eh72x (74)).trans ((va_up_ne _ _ (by decide)).trans k71_10)
  have k72_11 := (congrFun eh72x (75)).trans ((va_up_ne _ _ (by decide)).trans k71_11)
  have k72_12 := (congrFun eh72x (76)).trans ((va_up_ne _ _ (by decide)).trans k71_12)
  have k72_13 := (congrFun eh72x (77)).trans ((va_up_ne _ _ (by decide)).trans k71_13)
  have k72_14 := (congrFun eh72x (78)).trans ((va_up_ne _ _ (by decide)).trans k71_14)
  have k72_15 := (congrFun eh72x (79)).trans ((va_up_ne _ _ (by decide)).trans k71_15)
  have k72_16 := (congrFun eh72x (80)).trans ((va_up_ne _ _ (by decide)).trans k71_16)
  have k72_17 := (congrFun eh72x (81)).trans ((va_up_ne _ _ (by decide)).trans k71_17)
  have k72_18 := (congrFun eh72x (82)).trans ((va_up_ne _ _ (by decide)).trans k71_18)
  have k72_19 := (congrFun eh72x (83)).trans ((va_up_ne _ _ (by decide)).trans k71_19)
  have k72_20 := (congrFun eh72x (84)).trans ((va_up_ne _ _ (by decide)).trans k71_20)
  have k72_21 := (congrFun eh72x (85)).trans ((va_up_ne _ _ (by decide)).trans k71_21)
  have k72_22 := (congrFun eh72x (86)).trans ((va_up_ne _ _ (by decide)).trans k71_22)
  have k72_23 := (congrFun eh72x (87)).trans ((va_up_ne _ _ (by decide)).trans k71_23)
  have k72_24 := (congrFun eh72x (88)).trans ((va_up_ne _ _ (by decide)).trans k71_24)
  have k72_25 := (congrFun eh72x (89)).trans ((va_up_ne _ _ (by decide)).trans k71_25)
  have k72_26 := (congrFun eh72x (90)).trans ((va_up_ne _ _ (by decide)).trans k71_26)
  have k72_27 := (congrFun eh72x (91)).trans ((va_up_ne _ _ (by decide)).trans k71_27)
  have k72_28 := (congrFun eh72x (92)).trans ((va_up_ne _ _ (by decide)).trans k71_28)
  have k72_29 := (congrFun eh72x (93)).trans ((va_up_ne _ _ (by decide)).trans k71_29)
  have k72_30 := (congrFun eh72x (94)).trans ((va_up_ne _ _ (by decide)).trans k71_30)
  have k72_31 := (congrFun eh72x (95)).trans ((va_up_ne _ _ (by decide)).trans k71_31)
  have k72_32 := (congrFun eh72x (96)).trans ((va_up_ne _ _ (by decide)).trans k71_32)
  have k72_33 := (congrFun eh72x (97)).trans ((va_up_ne _ _ (by decide)).trans k71_33)
  have k72_34 := (congrFun eh72x (98)).trans ((va_up_ne _ _ (by decide)).trans k71_34)
  have k72_35 := (congrFun eh72x (99)).trans ((va_up_ne _ _ (by decide)).trans k71_35)
  have k72_36 := (congrFun eh72x (100)).trans ((va_up_ne _ _ (by decide)).trans k71_36)
  have k72_37 : h72x (101) = some (.inl (9, [.int (0), .int (0), .int (0), .int (0), .int (0), .int (0), .int (0), .int (0), .null, .null])) := by rw [eh72x]; exact va_up_self _ _ _
  have S72 : zsm h h72x (zbt 64 106) := zsm.up S71 eh72x ⟨by decide, by decide⟩
  clear eh72x k71_0 k71_1 k71_2 k71_3 k71_4 k71_5 k71_6 k71_7 k71_8 k71_9 k71_10 k71_11 k71_12 k71_13 k71_14 k71_15 k71_16 k71_17 k71_18 k71_19 k71_20 k71_21 k71_22 k71_23 k71_24 k71_25 k71_26 k71_27 k71_28 k71_29 k71_30 k71_31 k71_32 k71_33 k71_34 k71_35 k71_36 S71 h71x
  refine zp_dup dX11_init_296 rfl ?_
  refine zp_pc (pc' := 297) rfl ?_
  refine zp_callIN (As := []) (k := 101) (st := [.ref (101), .int (nI (0 + 1 + 1)), .ref (86)]) dX11_init_297 cX11_120 rfl (e_zginit (a := 101) rfl (by decide) k72_37) (by decide) (by decide) (Nat.le_of_ble_eq_true rfl) (fun v73 h73 n73 q73 => ?_)
  obtain ⟨rfl, N73, s73, o73, i73, j73⟩ := q73
  rw [N73]
  refine zp_nn (cells' := 39) (slots' := 12808) (n' := 104) (st' := [.ref (101), .int (nI (0 + 1 + 1)), .ref (86)]) rfl rfl rfl rfl ?_
  have s73 : zsm _ _ (zbt 101 103) := s73
  clear k72_37
  have m73_0 : h73 (64) = some (.inl (10, [.int (0), .ref (65), .ref (66), .ref (67), .ref (68), .ref (69), .ref (70), .ref (71), .ref (72), .ref (73), .ref (74), .ref (75), .ref (76), .ref (77), .ref (78), .ref (79), .ref (80), .ref (81), .ref (82), .ref (83), .ref (84), .int (0), .int (0), .int (nI (5)), .int (nI (512)), .int (nI (40)), .int ((-1)), .int (0), .int ((-1)), .int (0), .int (0), .int (0), .int (0), .ref (85), .ref (86), .ref (87), .int (0), .ref (88), .ref (89), .ref (90), .ref (91), .ref (92), .ref (93), .int (0), .ref (94), .int (0)])) := (s73 _ (fun q => absurd q (by unfold zbt; decide))).trans k72_0
  have m73_1 : h73 (65) = some (.inr (80, .inr (.inl (fun _ => 0)))) := (s73 _ (fun q => absurd q (by unfold zbt; decide))).trans k72_1
  have m73_2 : h73 (66) = some (.inr (8, .inr (.inl (fun _ => 0)))) := (s73 _ (fun q => absurd q (by unfold zbt; decide))).trans k72_2
  have m73_3 : h73 (67) = some (.inr (5, .inl (fun _ => 0))) := (s73 _ (fun q => absurd q (by unfold zbt; decide))).trans k72_3
  have m73_4 : h73 (68) = some (.inr (16, .inl (fun _ => 0))) := (s73 _ (fun q => absurd q (by unfold zbt; decide))).trans k72_4
  have m73_5 : h73 (69) = some (.inr (16, .inl (fun _ => 0))) := (s73 _ (fun q => absurd q (by unfold zbt; decide))).trans k72_5
  have m73_6 : h73 (70) = some (.inr (1200, .inl (fun _ => 0))) := (s73 _ (fun q => absurd q (by unfold zbt; decide))).trans k72_6
  have m73_7 : h73 (71) = some (.inr (80, .inr (.inl (fun _ => 0)))) := (s73 _ (fun q => absurd q (by unfold zbt; decide))).trans k72_7
  have m73_8 : h73 (72) = some (.inr (8, .inr (.inl (fun _ => 0)))) := (s73 _ (fun q => absurd q (by unfold zbt; decide))).trans k72_8
  have m73_9 : h73 (73) = some (.inr (8, .inr (.inl (fun _ => 0)))) := (s73 _ (fun q => absurd q (by unfold zbt; decide))).trans k72_9
  have m73_10 : h73 (74) = some (.inr (64, .inl (fun _ => 0))) := (s73 _ (fun q => absurd q (by unfold zbt; decide))).trans k72_10
  have m73_11 : h73 (75) = some (.inr (1000, .inl (fun _ => 0))) := (s73 _ (fun q => absurd q (by unfold zbt; decide))).trans k72_11
  have m73_12 : h73 (76) = some (.inr (1000, .inl (fun _ => 0))) := (s73 _ (fun q => absurd q (by unfold zbt; decide))).trans k72_12
  have m73_13 : h73 (77) = some (.inr (256, .inl (fun _ => 0))) := (s73 _ (fun q => absurd q (by unfold zbt; decide))).trans k72_13
  have m73_14 : h73 (78) = some (.inr (240, .inl (fun _ => 0))) := (s73 _ (fun q => absurd q (by unfold zbt; decide))).trans k72_14
  have m73_15 : h73 (79) = some (.inr (16, .inl (fun _ => 0))) := (s73 _ (fun q => absurd q (by unfold zbt; decide))).trans k72_15
  have m73_16 : h73 (80) = some (.inr (16, .inl (fun _ => 0))) := (s73 _ (fun q => absurd q (by unfold zbt; decide))).trans k72_16
  have m73_17 : h73 (81) = some (.inr (1000, .inl (fun _ => 0))) := (s73 _ (fun q => absurd q (by unfold zbt; decide))).trans k72_17
  have m73_18 : h73 (82) = some (.inr (32, .inl (fun _ => 0))) := (s73 _ (fun q => absurd q (by unfold zbt; decide))).trans k72_18
  have m73_19 : h73 (83) = some (.inr (48, .inl (fun _ => 0))) := (s73 _ (fun q => absurd q (by unfold zbt; decide))).trans k72_19
  have m73_20 : h73 (84) = some (.inr (1000, .inl (fun _ => 0))) := (s73 _ (fun q => absurd q (by unfold zbt; decide))).trans k72_20
  have m73_21 : h73 (85) = some (.inr (100, .inl (fun _ => 0))) := (s73 _ (fun q => absurd q (by unfold zbt; decide))).trans k72_21
  have m73_22 : h73 (86) = some (.inr (4, .inr (.inr (true, (va_up (va_up (fun _ => none) ((nI (0)).toNatClampNeg) (some 95)) ((nI (1)).toNatClampNeg) (some 98)))))) := (s73 _ (fun q => absurd q (by unfold zbt; decide))).trans k72_22
  have m73_23 : h73 (87) = some (.inr (1000, .inl (fun _ => 0))) := (s73 _ (fun q => absurd q (by unfold zbt; decide))).trans k72_23
  have m73_24 : h73 (88) = some (.inr (4, .inl (fun _ => 0))) := (s73 _ (fun q => absurd q (by unfold zbt; decide))).trans k72_24
  have m73_25 : h73 (89) = some (.inr (111, .inl (fun _ => 0))) := (s73 _ (fun q => absurd q (by unfold zbt; decide))).trans k72_25
  have m73_26 : h73 (90) = some (.inr (400, .inl (fun _ => 0))) := (s73 _ (fun q => absurd q (by unfold zbt; decide))).trans k72_26
  have m73_27 : h73 (91) = some (.inr (16, .inl (fun _ => 0))) := (s73 _ (fun q => absurd q (by unfold zbt; decide))).trans k72_27
  have m73_28 : h73 (92) = some (.inr (48, .inl (fun _ => 0))) := (s73 _ (fun q => absurd q (by unfold zbt; decide))).trans k72_28
  have m73_29 : h73 (93) = some (.inr (240, .inl (fun _ => 0))) := (s73 _ (fun q => absurd q (by unfold zbt; decide))).trans k72_29
  have m73_30 : h73 (94) = some (.inr (4096, .inl (fun _ => 0))) := (s73 _ (fun q => absurd q (by unfold zbt; decide))).trans k72_30
  have m73_31 : h73 (95) = some (.inl (9, [.int (0), .int (0), .int (0), .int (0), .int (0), .int (0), .int (0), .int (0), .ref (96), .ref (97)])) := (s73 _ (fun q => absurd q (by unfold zbt; decide))).trans k72_31
  have m73_32 : h73 (96) = some (.inr (111, .inl f96)) := (s73 _ (fun q => absurd q (by unfold zbt; decide))).trans k72_32
  have m73_33 : h73 (97) = some (.inr (111, .inl f97)) := (s73 _ (fun q => absurd q (by unfold zbt; decide))).trans k72_33
  have m73_34 : h73 (98) = some (.inl (9, [.int (0), .int (0), .int (0), .int (0), .int (0), .int (0), .int (0), .int (0), .ref (99), .ref (100)])) := (s73 _ (fun q => absurd q (by unfold zbt; decide))).trans k72_34
  have m73_35 : h73 (99) = some (.inr (111, .inl f99)) := (s73 _ (fun q => absurd q (by unfold zbt; decide))).trans k72_35
  have m73_36 : h73 (100) = some (.inr (111, .inl f100)) := (s73 _ (fun q => absurd q (by unfold zbt; decide))).trans k72_36
  have S73 : zsm h h73 (zbt 64 106) := S72.trans (s73.mono (fun i hi => by unfold zbt at hi ⊢; omega))
  clear k72_0 k72_1 k72_2 k72_3 k72_4 k72_5 k72_6 k72_7 k72_8 k72_9 k72_10 k72_11 k72_12 k72_13 k72_14 k72_15 k72_16 k72_17 k72_18 k72_19 k72_20 k72_21 k72_22 k72_23 k72_24 k72_25 k72_26 k72_27 k72_28 k72_29 k72_30 k72_31 k72_32 k72_33 k72_34 k72_35 k72_36 S72 s73
  have o73 : h73 101 = some (.inl (9, [.int (0), .int (0), .int (0), .int (0), .int (0), .int (0), .int (0), .int (0), .ref (102), .ref (103)])) := o73
  obtain ⟨f102, e102⟩ := i73
  have e102 : h73 102 = some (.inr (111, .inl f102)) := e102
  obtain ⟨f103, e103⟩ := j73
  have e103 : h73 103 = some (.inr (111, .inl f103)) := e103
  refine zp_aast (q0 := (RX10, TX10, 10)) dX11_init_300 (by decide) m73_22 (by unfold vp_in; decide) o73 rfl (Or.inl rfl) ?_
  refine zp_nh (fun h74x eh74x => ?_)
  have k74_0 := (congrFun eh74x (64)).trans ((va_up_ne _ _ (by decide)).trans m73_0)
  have k74_1 := (congrFun eh74x (65)).trans ((va_up_ne _ _ (by decide)).trans m73_1)
  have k74_2 := (congrFun eh74x (66)).trans ((va_up_ne _ _ (by decide)).trans m73_2)
  have k74_3 := (congrFun eh74x (67)).trans ((va_up_ne _ _ (by decide)).trans m73_3)
  have k74_4 := (congrFun eh74x (68)).trans ((va_up_ne _ _ (by decide)).trans m73_4)
  have k74_5 := (congrFun eh74x (69)).trans ((va_up_ne _ _ (by decide)).trans m73_5)
  have k74_6 := (congrFun eh74x (70)).trans ((va_up_ne _ _ (by decide)).trans m73_6)
  have k74_7 := (congrFun eh74x (71)).trans ((va_up_ne _ _ (by decide)).trans m73_7)
  have k74_8 := (congrFun eh74x (72)).trans ((va_up_ne _ _ (by decide)).trans m73_8)
  have k74_9 := (congrFun eh74x (73)).trans ((va_up_ne _ _ (by decide)).trans m73_9)
  have k74_10 := (congrFun eh74x (74)).trans ((va_up_ne _ _ (by decide)).trans m73_10)
  have k74_11 := (congrFun eh74x (75)).trans ((va_up_ne _ _ (by decide)).trans m73_11)
  have k74_12 := (congrFun eh74x (76)).trans ((va_up_ne _ _ (by decide)).trans m73_12)
  have k74_13 := (congrFun eh74x (77)).trans ((va_up_ne _ _ (by decide)).trans m73_13)
  have k74_14 := (congrFun eh74x (78)).trans ((va_up_ne _ _ (by decide)).trans m73_14)
  have k74_15 := (congrFun eh74x (79)).trans ((va_up_ne _ _ (by decide)).trans m73_15)
  have k74_16 := (congrFun eh74x (80)).trans ((va_up_ne _ _ (by decide)).trans m73_16)
  have k74_17 := (congrFun eh74x (81)).trans ((va_up_ne _ _ (by decide)).trans m73_17)
  have k74_18 := (congrFun eh74x (82)).trans ((va_up_ne _ _ (by decide)).trans m73_18)
  have k74_19 := (congrFun eh74x (83)).trans ((va_up_ne _ _ (by decide)).trans m73_19)
  have k74_20 := (congrFun eh74x (84)).trans ((va_up_ne _ _ (by decide)).trans m73_20)
  have k74_21 := (congrFun eh74x (85)).trans ((va_up_ne _ _ (by decide)).trans m73_21)
  have k74_22 : h74x (86) = some (.inr (4, .inr (.inr (true, (va_up (va_up (va_up (fun _ => none) ((nI (0)).toNatClampNeg) (some 95)) ((nI (1)).toNatClampNeg) (some 98)) ((nI (2)).toNatClampNeg) (some 101)))))) := by rw [eh74x]; exact va_up_self _ _ _
  have k74_23 := (congrFun eh74x (87)).trans ((va_up_ne _ _ (by decide)).trans m73_23)
  have k74_24 := (congrFun eh74x (88)).trans ((va_up_ne _ _ (by decide)).trans m73_24)
  have k74_25 := (congrFun eh74x (89)).trans ((va_up_ne _ _ (by decide)).trans m73_25)
  have k74_26 := (congrFun eh74x (90)).trans ((va_up_ne _ _ (by decide)).trans m73_26)
  have k74_27 := (congrFun eh74x (91)).trans ((va_up_ne _ _ (by decide)).trans m73_27)
  have k74_28 := (congrFun eh74x (92)).trans ((va_up_ne _ _ (by decide)).trans m73_28)
  have k74_29 := (congrFun eh74x (93)).trans ((va_up_ne _ _ (by decide)).trans m73_29)
  have k74_30 := (congrFun eh74x (94)).trans ((va_up_ne _ _ (by decide)).trans m73_30)
  have k74_31 := (congrFun eh74x (95)).trans ((va_up_ne _ _ (by decide)).trans m73_31)
  have k74_32 := (congrFun eh74x (96)).trans ((va_up_ne _ _ (by decide)).trans m73_32)
  have k74_33 := (congrFun eh74x (97)).trans ((va_up_ne _ _ (by decide)).trans m73_33)
  have k74_34 := (congrFun eh74x (98)).trans ((va_up_ne _ _ (by decide)).trans m73_34)
  have k74_35 := (congrFun eh74x (99)).trans ((va_up_ne _ _ (by decide)).trans m73_35)
  have k74_36 := (congrFun eh74x (100)).trans ((va_up_ne _ _ (by decide)).trans m73_36)
  have k74_37 := (congrFun eh74x (101)).trans ((va_up_ne _ _ (by decide)).trans o73)
  have k74_38 := (congrFun eh74x (102)).trans ((va_up_ne _ _ (by decide)).trans e102)
  have k74_39 := (congrFun eh74x (103)).trans ((va_up_ne _ _ (by decide)).trans e103)
  have S74 : zsm h h74x (zbt 64 106) := zsm.up S73 eh74x ⟨by decide, by decide⟩
  clear eh74x m73_0 m73_1 m73_2 m73_3 m73_4 m73_5 m73_6 m73_7 m73_8 m73_9 m73_10 m73_11 m73_12 m73_13 m73_14 m73_15 m73_16 m73_17 m73_18 m73_19 m73_20 m73_21 m73_22 m73_23 m73_24 m73_25 m73_26 m73_27 m73_28 m73_29 m73_30 m73_31 m73_32 m73_33 m73_34 m73_35 m73_36 o73 e102 e103 S73
  refine zn_iinc 1 (ls' := [some (.ref (64)), some (.int (nI (0 + 1 + 1 + 1))), none]) dX11_init_301 (by decide) (by decide) rfl rfl ?_
  refine zp_goto (tgt := 283) dX11_init_304 (by decide) ?_
  refine zp_pc (pc' := 283) rfl ?_
  refine zp_iload_n dX11_init_283 rfl ?_
  refine zp_iconst (v := nI (4)) dX11_init_284 (by decide) ?_
  refine zp_pc (pc' := 285) rfl ?_
  refine zn_icmp_ge (tgt := 307) dX11_init_285 (by decide) (by decide) (by decide) (fun c => absurd c (by decide)) (fun _ => ?_)
  refine zp_aload_n dX11_init_288 rfl ?_
  refine zp_get dX11_init_289 gX11_92_10 k74_0 rfl ?_
  refine zp_iload_n dX11_init_292 rfl ?_
  refine zp_pc (pc' := 293) rfl ?_
  refine zp_new dX11_init_293 nwX11_90 (Nat.le_of_ble_eq_true rfl) (Nat.le_of_ble_eq_true rfl) ?_
  refine zp_nn (cells' := 40) (slots' := 12818) (n' := 105) (st' := [.ref (104), .int (nI (0 + 1 + 1 + 1)), .ref (86)]) rfl rfl rfl rfl ?_
  refine zp_nh (fun h75x eh75x => ?_)
  have k75_0 := (congrFun eh75x (64)).trans ((va_up_ne _ _ (by decide)).trans k74_0)
  have k75_1 := (congrFun eh75x (65)).trans ((va_up_ne _ _ (by decide)).trans k74_1)
  have k75_2 := (congrFun eh75x (66)).trans ((va_up_ne _ _ (by decide)).trans k74_2)
  have k75_3 := (congrFun eh75x (67)).trans ((va_up_ne _ _ (by decide)).trans k74_3)
  have k75_4 := (congrFun eh75x (68)).trans ((va_up_ne _ _ (by decide)).trans k74_4)
  have k75_5 := (congrFun eh75x (69)).trans ((va_up_ne _ _ (by decide)).trans k74_5)
  have k75_6 := (congrFun eh75x (70)).trans ((va_up_ne _ _ (by decide)).trans k74_6)
  have k75_7 := (congrFun eh75x (71)).trans ((va_up_ne _ _ (by decide)).trans k74_7)
  have k75_8 := (congrFun eh75x (72)).trans ((va_up_ne _ _ (by decide)).trans k74_8)
  have k75_9 := (congrFun eh75x (73)).trans ((va_up_ne _ _ (by decide)).trans k74_9)
  have k75_10 := (congrFun eh75x (74)).trans ((va_up_ne _ _ (by decide)).trans k74_10)
  have k75_11 := (congrFun eh75x (75)).trans ((va_up_ne _ _ (by decide)).trans k74_11)
  have k75_12 := (congrFun eh75x (76)).trans ((va_up_ne _ _ (by decide)).trans k74_12)
  have k75_13 := (congrFun eh75x (77)).trans ((va_up_ne _ _ (by decide)).trans k74_13)
  have k75_14 := (congrFun eh75x (78)).trans ((va_up_ne _ _ (by decide)).trans k74_14)
  have k75_15 := (congrFun eh75x (79)).trans ((va_up_ne _ _ (by decide)).trans k74_15)
  have k75_16 := (congrFun eh75x (80)).trans ((va_up_ne _ _ (by decide)).trans k74_16)
  have k75_17 := (congrFun eh75x (81)).trans ((va_up_ne _ _ (by decide)).trans k74_17)
  have k75_18 := (congrFun eh75x (82)).trans ((va_up_ne _ _ (by decide)).trans k74_18)
  have k75_19 := (congrFun eh75x (83)).trans ((va_up_ne _ _ (by decide)).trans k74_19)
  have k75_20 := (congrFun eh75x (84)).trans ((va_up_ne _ _ (by decide)).trans k74_20)
  have k75_21 := (congrFun eh75x (85)).trans ((va_up_ne _ _ (by decide)).trans k74_21)
  have k75_22 := (congrFun eh75x (86)).trans ((va_up_ne _ _ (by decide)).trans k74_22)
  have k75_23 := (congrFun eh75x (87)).trans ((va_up_ne _ _ (by decide)).trans k74_23)
  have k75_24 := (congrFun eh75x (88)).trans ((va_up_ne _ _ (by decide)).trans k74_24)
  have k75_25 := (congrFun eh75x (89)).trans ((va_up_ne _ _ (by decide)).trans k74_25)
  have k75_26 := (congrFun eh75x (90)).trans ((va_up_ne _ _ (by decide)).trans k74_26)
  have k75_27 := (congrFun eh75x (91)).trans ((va_up_ne _ _ (by decide)).trans k74_27)
  have k75_28 := (congrFun eh75x (92)).trans ((va_up_ne _ _ (by decide)).trans k74_28)
  have k75_29 := (congrFun eh75x (93)).trans ((va_up_ne _ _ (by decide)).trans k74_29)
  have k75_30 := (congrFun eh75x (94)).trans ((va_up_ne _ _ (by decide)).trans k74_30)
  have k75_31 := (congrFun eh75x (95)).trans ((va_up_ne _ _ (by decide)).trans k74_31)
  have k75_32 := (congrFun eh75x (96)).trans ((va_up_ne _ _ (by decide)).trans k74_32)
  have k75_33 := (congrFun eh75x (97)).trans ((va_up_ne _ _ (by decide)).trans k74_33)
  have k75_34 := (congrFun eh75x (98)).trans ((va_up_ne _ _ (by decide)).trans k74_34)
  have k75_35 := (congrFun eh75x (99)).trans ((va_up_ne _ _ (by decide)).trans k74_35)
  have k75_36 := (congrFun eh75x (100)).trans ((va_up_ne _ _ (by decide)).trans k74_36)
  have k75_37 := (congrFun eh75x (101)).trans ((va_up_ne _ _ (by decide)).trans k74_37)
  have k75_38 := (congrFun eh75x (102)).trans ((va_up_ne _ _ (by decide)).trans k74_38)
  have k75_39 := (congrFun eh75x (103)).trans ((va_up_ne _ _ (by decide)).trans k74_39)
  have k75_40 : h75x (104) = some (.inl (9, [.int (0), .int (0), .int (0), .int (0), .int (0), .int (0), .int (0), .int (0), .null, .null])) := by rw [eh75x]; exact va_up_self _ _ _
  have S75 : zsm h h75x (zbt 64 106) := zsm.up S74 eh75x ⟨by decide, by decide⟩
  clear eh75x k74_0 k74_1 k74_2 k74_3 k74_4 k74_5 k74_6 k74_7 k74_8 k74_9 k74_10 k74_11 k74_12 k74_13 k74_14 k74_15 k74_16 k74_17 k74_18 k74_19 k74_20 k74_21 k74_22 k74_23 k74_24 k74_25 k74_26 k74_27 k74_28 k74_29 k74_30 k74_31 k74_32 k74_33 k74_34 k74_35 k74_36 k74_37 k74_38 k74_39 S74 h74x
  refine zp_dup dX11_init_296 rfl ?_
  refine zp_pc (pc' := 297) rfl ?_
  refine zp_callIN (As := []) (k := 104) (st := [.ref (104), .int (nI (0 + 1 + 1 + 1)), .ref (86)]) dX11_init_297 cX11_120 rfl (e_zginit (a := 104) rfl (by decide) k75_40) (by decide) (by decide) (Nat.le_of_ble_eq_true rfl) (fun v76 h76 n76 q76 => ?_)
  obtain ⟨rfl, N76, s76, o76, i76, j76⟩ := q76
  rw [N76]
  refine zp_nn (cells' := 42) (slots' := 13040) (n' := 107) (st' := [.ref (104), .int (nI (0 + 1 + 1 + 1)), .ref (86)]) rfl rfl rfl rfl ?_
  have s76 : zsm _ _ (zbt 104 106) := s76
  clear k75_40
  have m76_0 : h76 (64) = some (.inl (10, [.int (0), .ref (65), .ref (66), .ref (67), .ref (68), .ref (69), .ref (70), .ref (71), .ref (72), .ref (73), .ref (74), .ref (75), .ref (76), .ref (77), .ref (78), .ref (79), .ref (80), .ref (81), .ref (82), .ref (83), .ref (84), .int (0), .int (0), .int (nI (5)), .int (nI (512)), .int (nI (40)), .int ((-1)), .int (0), .int ((-1)), .int (0), .int (0), .int (0), .int (0), .ref (85), .ref (86), .ref (87), .int (0), .ref (88), .ref (89), .ref (90), .ref (91), .ref (92), .ref (93), .int (0), .ref (94), .int (0)])) := (s76 _ (fun q => absurd q (by unfold zbt; decide))).trans k75_0
  have m76_1 : h76 (65) = some (.inr (80, .inr (.inl (fun _ => 0)))) := (s76 _ (fun q => absurd q (by unfold zbt; decide))).trans k75_1
  have m76_2 : h76 (66) = some (.inr (8, .inr (.inl (fun _ => 0)))) := (s76 _ (fun q => absurd q (by unfold zbt; decide))).trans k75_2
  have m76_3 : h76 (67) = some (.inr (5, .inl (fun _ => 0))) := (s76 _ (fun q => absurd q (by unfold zbt; decide))).trans k75_3
  have m76_4 : h76 (68) = some (.inr (16, .inl (fun _ => 0))) := (s76 _ (fun q => absurd q (by unfold zbt; decide))).trans k75_4
  have m76_5 : h76 (69) = some (.inr (16, .inl (fun _ => 0))) := (s76 _ (fun q => absurd q (by unfold zbt; decide))).trans k75_5
  have m76_6 : h76 (70) = some (.inr (1200, .inl (fun _ => 0))) := (s76 _ (fun q => absurd q (by unfold zbt; decide))).trans k75_6
  have m76_7 : h76 (71) = some (.inr (80, .inr (.inl (fun _ => 0)))) := (s76 _ (fun q => absurd q (by unfold zbt; decide))).trans k75_7
  have m76_8 : h76 (72) = some (.inr (8, .inr (.inl (fun _ => 0)))) := (s76 _ (fun q => absurd q (by unfold zbt; decide))).trans k75_8
  have m76_9 : h76 (73) = some (.inr (8, .inr (.inl (fun _ => 0)))) := (s76 _ (fun q => absurd q (by unfold zbt; decide))).trans k75_9
  have m76_10 : h76 (74) = some (.inr (64, .inl (fun _ => 0))) := (s76 _ (fun q => absurd q (by unfold zbt; decide))).trans k75_10
  have m76_11 : h76 (75) = some (.inr (1000, .inl (fun _ => 0))) := (s76 _ (fun q => absurd q (by unfold zbt; decide))).trans k75_11
  have m76_12 : h76 (76) = some (.inr (1000, .inl (fun _ => 0))) := (s76 _ (fun q => absurd q (by unfold zbt; decide))).trans k75_12
  have m76_13 : h76 (77) = some (.inr (256, .inl (fun _ => 0))) := (s76 _ (fun q => absurd q (by unfold zbt; decide))).trans k75_13
  have m76_14 : h76 (78) = some (.inr (240, .inl (fun _ => 0))) := (s76 _ (fun q => absurd q (by unfold zbt; decide))).trans k75_14
  have m76_15 : h76 (79) = some (.inr (16, .inl (fun _ => 0))) := (s76 _ (fun q => absurd q (by unfold zbt; decide))).trans k75_15
  have m76_16 : h76 (80) = some (.inr (16, .inl (fun _ => 0))) := (s76 _ (fun q => absurd q (by unfold zbt; decide))).trans k75_16
  have m76_17 : h76 (81) = some (.inr (1000, .inl (fun _ => 0))) := (s76 _ (fun q => absurd q (by unfold zbt; decide))).trans k75_17
  have m76_18 : h76 (82) = some (.inr (32, .inl (fun _ => 0))) := (s76 _ (fun q => absurd q (by unfold zbt; decide))).trans k75_18
  have m76_19 : h76 (83) = some (.inr (48, .inl (fun _ => 0))) := (s76 _ (fun q => absurd q (by unfold zbt; decide))).trans k75_19
  have m76_20 : h76 (84) = some (.inr (1000, .inl (fun _ => 0))) := (s76 _ (fun q => absurd q (by unfold zbt; decide))).trans k75_20
  have m76_21 : h76 (85) = some (.inr (100, .inl (fun _ => 0))) := (s76 _ (fun q => absurd q (by unfold zbt; decide))).trans k75_21
  have m76_22 : h76 (86) = some (.inr (4, .inr (.inr (true, (va_up (va_up (va_up (fun _ => none) ((nI (0)).toNatClampNeg) (some 95)) ((nI (1)).toNatClampNeg) (some 98)) ((nI (2)).toNatClampNeg) (some 101)))))) := (s76 _ (fun q => absurd q (by unfold zbt; decide))).trans k75_22
  have m76_23 : h76 (87) = some (.inr (1000, .inl (fun _ => 0))) := (s76 _ (fun q => absurd q (by unfold zbt; decide))).trans k75_23
  have m76_24 : h76 (88) = some (.inr (4, .inl (fun _ => 0))) := (s76 _ (fun q => absurd q (by unfold zbt; decide))).trans k75_24
  have m76_25 : h76 (89) = some (.inr (111, .inl (fun _ => 0))) := (s76 _ (fun q => absurd q (by unfold zbt; decide))).trans k75_25
  have m76_26 : h76 (90) = some (.inr (400, .inl (fun _ => 0))) := (s76 _ (fun q => absurd q (by unfold zbt; decide))).trans k75_26
  have m76_27 : h76 (91) = some (.inr (16, .inl (fun _ => 0))) := (s76 _ (fun q => absurd q (by unfold zbt; decide))).trans k75_27
  have m76_28 : h76 (92) = some (.inr (48, .inl (fun _ => 0))) := (s76 _ (fun q => absurd q (by unfold zbt; decide))).trans k75_28
  have m76_29 : h76 (93) = some (.inr (240, .inl (fun _ => 0))) := (s76 _ (fun q => absurd q (by unfold zbt; decide))).trans k75_29
  have m76_30 : h76 (94) = some (.inr (4096, .inl (fun _ => 0))) := (s76 _ (fun q => absurd q (by unfold zbt; decide))).trans k75_30
  have m76_31 : h76 (95) = some (.inl (9, [.int (0), .int (0), .int (0), .int (0), .int (0), .int (0), .int (0), .int (0), .ref (96), .ref (97)])) := (s76 _ (fun q => absurd q (by unfold zbt; decide))).trans k75_31
  have m76_32 : h76 (96) = some (.inr (111, .inl f96)) := (s76 _ (fun q => absurd q (by unfold zbt; decide))).trans k75_32
  have m76_33 : h76 (97) = some (.inr (111, .inl f97)) := (s76 _ (fun q => absurd q (by unfold zbt; decide))).trans k75_33
  have m76_34 : h76 (98) = some (.inl (9, [.int (0), .int (0), .int (0), .int (0), .int (0), .int (0), .int (0), .int (0), .ref (99), .ref (100)])) := (s76 _ (fun q => absurd q (by unfold zbt; decide))).trans k75_34
  have m76_35 : h76 (99) = some (.inr (111, .inl f99)) := (s76 _ (fun q => absurd q (by unfold zbt; decide))).trans k75_35
  have m76_36 : h76 (100) = some (.inr (111, .inl f100)) := (s76 _ (fun q => absurd q (by unfold zbt; decide))).trans k75_36
  have m76_37 : h76 (101) = some (.inl (9, [.int (0), .int (0), .int (0), .int (0), .int (0), .int (0), .int (0), .int (0), .ref (102), .ref (103)])) := (s76 _ (fun q => absurd q (by unfold zbt; decide))).trans k75_37
  have m76_38 : h76 (102) = some (.inr (111, .inl f102)) := (s76 _ (fun q => absurd q (by unfold zbt; decide))).trans k75_38
  have m76_39 : h76 (103) = some (.inr (111, .inl f103)) := (s76 _ (fun q => absurd q (by unfold zbt; decide))).trans k75_39
  have S76 : zsm h h76 (zbt 64 106) := S75.trans (s76.mono (fun i hi => by unfold zbt at hi ⊢; omega))
  clear k75_0 k75_1 k75_2 k75_3 k75_4 k75_5 k75_6 k75_7 k75_8 k75_9 k75_10 k75_11 k75_12 k75_13 k75_14 k75_15 k75_16 k75_17 k75_18 k75_19 k75_20 k75_21 k75_22 k75_23 k75_24 k75_25 k75_26 k75_27 k75_28 k75_29 k75_30 k75_31 k75_32 k75_33 k75_34 k75_35 k75_36 k75_37 k75_38 k75_39 S75 s76
  have o76 : h76 104 = some (.inl (9, [.int (0), .int (0), .int (0), .int (0), .int (0), .int (0), .int (0), .int (0), .ref (105), .ref (106)])) := o76
  obtain ⟨f105, e105⟩ := i76
  have e105 : h76 105 = some (.inr (111, .inl f105)) := e105
  obtain ⟨f106, e106⟩ := j76
  have e106 : h76 106 = some (.inr (111, .inl f106)) := e106
  refine zp_aast (q0 := (RX10, TX10, 10)) dX11_init_300 (by decide) m76_22 (by unfold vp_in; decide) o76 rfl (Or.inl rfl) ?_
  refine zp_nh (fun h77x eh77x => ?_)
  have k77_0 := (congrFun eh77x (64)).trans ((va_up_ne _ _ (by decide)).trans m76_0)
  have k77_1 := (congrFun eh77x (65)).trans ((va_up_ne _ _ (by decide)).trans m76_1)
  have k77_2 := (congrFun eh77x (66)).trans ((va_up_ne _ _ (by decide)).trans m76_2)
  have k77_3 := (congrFun eh77x (67)).trans ((va_up_ne _ _ (by decide)).trans m76_3)
  have k77_4 := (congrFun eh77x (68)).trans ((va_up_ne _ _ (by decide)).trans m76_4)
  have k77_5 := (congrFun eh77x (69)).trans ((va_up_ne _ _ (by decide)).trans m76_5)
  have k77_6 := (congrFun eh77x (70)).trans ((va_up_ne _ _ (by decide)).trans m76_6)
  have k77_7 := (congrFun eh77x (71)).trans ((va_up_ne _ _ (by decide)).trans m76_7)
  have k77_8 := (congrFun eh77x (72)).trans ((va_up_ne _ _ (by decide)).trans m76_8)
  have k77_9 := (congrFun eh77x (73)).trans ((va_up_ne _ _ (by decide)).trans m76_9)
  have k77_10 := (congrFun eh77x (74)).trans ((va_up_ne _ _ (by decide)).trans m76_10)
  have k77_11 := (congrFun eh77x (75)).trans ((va_up_ne _ _ (by decide)).trans m76_11)
  have k77_12 := (congrFun eh77x (76)).trans ((va_up_ne _ _ (by decide)).trans m76_12)
  have k77_13 := (congrFun eh77x (77)).trans ((va_up_ne _ _ (by decide)).trans m76_13)
  have k77_14 := (congrFun eh77x (78)).trans ((va_up_ne _ _ (by decide)).trans m76_14)
  have k77_15 := (congrFun eh77x (79)).trans ((va_up_ne _ _ (by decide)).trans m76_15)
  have k77_16 := (congrFun eh77x (80)).trans ((va_up_ne _ _ (by decide)).trans m76_16)
  have k77_17 := (congrFun eh77x (81)).trans ((va_up_ne _ _ (by decide)).trans m76_17)
  have k77_18 := (congrFun eh77x (82)).trans ((va_up_ne _ _ (by decide)).trans m76_18)
  have k77_19 := (congrFun eh77x (83)).trans ((va_up_ne _ _ (by decide)).trans m76_19)
  have k77_20 := (congrFun eh77x (84)).trans ((va_up_ne _ _ (by decide)).trans m76_20)
  have k77_21 := (congrFun eh77x (85)).trans ((va_up_ne _ _ (by decide)).trans m76_21)
  have k77_22 : h77x (86) = some (.inr (4, .inr (.inr (true, (va_up (va_up (va_up (va_up (fun _ => none) ((nI (0)).toNatClampNeg) (some 95)) ((nI (1)).toNatClampNeg) (some 98)) ((nI (2)).toNatClampNeg) (some 101)) ((nI (3)).toNatClampNeg) (some 104)))))) := by rw [eh77x]; exact va_up_self _ _ _
  have k77_23 := (congrFun eh77x (87)).trans ((va_up_ne _ _ (by decide)).trans m76_23)
  have k77_24 := (congrFun eh77x (88)).trans ((va_up_ne _ _ (by decide)).trans m76_24)
  have k77_25 := (congrFun eh77x (89)).trans ((va_up_ne _ _ (by decide)).trans m76_25)
  have k77_26 := (congrFun eh77x (90)).trans ((va_up_ne _ _ (by decide)).trans m76_26)
  have k77_27 := (congrFun eh77x (91)).trans ((va_up_ne _ _ (by decide)).trans m76_27)
  have k77_28 := (congrFun eh77x (92)).trans ((va_up_ne _ _ (by decide)).trans m76_28)
  have k77_29 := (congrFun eh77x (93)).trans ((va_up_ne _ _ (by decide)).trans m76_29)
  have k77_30 := (congrFun eh77x (94)).trans ((va_up_ne _ _ (by decide)).trans m76_30)
  have k77_31 := (congrFun eh77x (95)).trans ((va_up_ne _ _ (by decide)).trans m76_31)
  have k77_32 := (congrFun eh77x (96)).trans ((va_up_ne _ _ (by decide)).trans m76_32)
  have k77_33 := (congrFun eh77x (97)).trans ((va_up_ne _ _ (by decide)).trans m76_33)
  have k77_34 := (congrFun eh77x (98)).trans ((va_up_ne _ _ (by decide)).trans m76_34)
  have k77_35 := (congrFun eh77x (99)).trans ((va_up_ne _ _ (by decide)).trans m76_35)
  have k77_36 := (congrFun eh77x (100)).trans ((va_up_ne _ _ (by decide)).trans m76_36)
  have k77_37 := (congrFun eh77x (101)).trans ((va_up_ne _ _ (by decide)).trans m76_37)
  have k77_38 := (congrFun eh77x (102)).trans ((va_up_ne _ _ (by decide)).trans m76_38)
  have k77_39 := (congrFun eh77x (103)).trans ((va_up_ne _ _ (by decide)).trans m76_39)
  have k77_40 := (congrFun eh77x (104)).trans ((va_up_ne _ _ (by decide)).trans o76)
  have k77_41 := (congrFun eh77x (105)).trans ((va_up_ne _ _ (by decide)).trans e105)
  have k77_42 := (congrFun eh77x (106)).trans ((va_up_ne _ _ (by decide)).trans e106)
  have S77 : zsm h h77x (zbt 64 106) := zsm.up S76 eh77x ⟨by decide, by decide⟩
  clear eh77x m76_0 m76_1 m76_2 m76_3 m76_4 m76_5 m76_6 m76_7 m76_8 m76_9 m76_10 m76_11 m76_12 m76_13 m76_14 m76_15 m76_16 m76_17 m76_18 m76_19 m76_20 m76_21 m76_22 m76_23 m76_24 m76_25 m76_26 m76_27 m76_28 m76_29 m76_30 m76_31 m76_32 m76_33 m76_34 m76_35 m76_36 m76_37 m76_38 m76_39 o76 e105 e106 S76
  refine zn_iinc 1 (ls' := [some (.ref (64)), some (.int (nI (0 + 1 + 1 + 1 + 1))), none]) dX11_init_301 (by decide) (by decide) rfl rfl ?_
  refine zp_goto (tgt := 283) dX11_init_304 (by decide) ?_
  refine zp_pc (pc' := 283) rfl ?_
  refine zp_iload_n dX11_init_283 rfl ?_
  refine zp_iconst (v := nI (4)) dX11_init_284 (by decide) ?_
  refine zp_pc (pc' := 285) rfl ?_
  refine zn_icmp_ge (tgt := 307) dX11_init_285 (by decide) (by decide) (by decide) (fun _ => ?_) (fun c => absurd c (by decide))
  have S0 : zsm h h77x (zbt 64 106) := S77
  refine zp_iconst (v := nI (0)) dX11_init_307 (by decide) ?_
  refine zp_istore_n (ls' := [some (.ref (64)), some (.int (nI (0))), none]) dX11_init_308 (by decide) rfl ?_
  refine zp_iconst (v := nI (2)) dX11_init_309 (by decide) ?_
  refine zp_istore_n (ls' := [some (.ref (64)), some (.int (nI (0))), some (.int (nI (2)))]) dX11_init_310 (by decide) rfl ?_
  refine zp_pc (pc' := 311) rfl ?_
  obtain ⟨cn0, cn1⟩ := zcnt_ends
  refine zp_ls (ls' := [some (.ref (64)), some (.int (nI (zcnt 2))), some (.int (nI (2)))]) (by rw [cn0]) ?_
  have o64 : h77x 64 = some (.inl (10, [.int (0), .ref (65), .ref (66), .ref (67), .ref (68), .ref (69), .ref (70), .ref (71), .ref (72), .ref (73), .ref (74), .ref (75), .ref (76), .ref (77), .ref (78), .ref (79), .ref (80), .ref (81), .ref (82), .ref (83), .ref (84), .int (nI (0)), .int (nI (zbi false)), .int (nI (5)), .int (nI (512)), .int (nI (40)), .int ((-1)), .int (nI (0)), .int ((-1)), .int (0), .int (0), .int (nI (0)), .int (nI (0)), .ref (85), .ref (86), .ref (87), .int (nI (0)), .ref (88), .ref (89), .ref (90), .ref (91), .ref (92), .ref (93), .int (nI (0)), .ref (94), .int (nI (0))])) := k77_0
  have lp : ∀ (m : Nat) (p : Nat) (h1 : ZH), m = 410 - p → 2 ≤ p → p ≤ 410 → zsm h77x h1 (zb3 65 69) → zsh h77x h1 → h1 65 = some (.inr (80, .inr (.inl (zfl (fun _ => 0) 0 (zcnt p) (fun j => zt_ROUND.getD j 0))))) → h1 66 = some (.inr (8, .inr (.inl (zfl (fun _ => 0) 0 (min (zcnt p) 8) (fun j => zt_FIRST.getD j 0))))) → zP g mX11_init (zR 2 42 13040) Qf 42 13040 311 [some (.ref (64)), some (.int (nI (zcnt p))), some (.int (nI (p)))] [] h1 107 := by
    intro m
    induction m using Nat.strongRecOn with
    | _ m ih =>
      intro p h1 hm1 hp2 hp4 s1 z1 e5 e6
      have o1 : h1 64 = some (.inl (10, [.int (0), .ref (65), .ref (66), .ref (67), .ref (68), .ref (69), .ref (70), .ref (71), .ref (72), .ref (73), .ref (74), .ref (75), .ref (76), .ref (77), .ref (78), .ref (79), .ref (80), .ref (81), .ref (82), .ref (83), .ref (84), .int (nI (0)), .int (nI (zbi false)), .int (nI (5)), .int (nI (512)), .int (nI (40)), .int ((-1)), .int (nI (0)), .int ((-1)), .int (0), .int (0), .int (nI (0)), .int (nI (0)), .ref (85), .ref (86), .ref (87), .int (nI (0)), .ref (88), .ref (89), .ref (90), .ref (91), .ref (92), .ref (93), .int (nI (0)), .ref (94), .int (nI (0))])) := (s1 _ (by unfold zb3; omega)).trans o64
      have cp : zcnt p ≤ 80 := by rcases Nat.lt_or_ge p 410 with q | q; have := (zcnt_tab p q hp2).1; omega; rw [show p = 410 by omega, cn1]; exact Nat.le_refl _
      refine zp_iload_n dX11_init_311 rfl ?_
      refine zp_bipush (v := nI (80)) dX11_init_312 (by decide) ?_
      refine zp_pc (pc' := 314) rfl ?_
      refine zn_icmp_ge (tgt := 366) dX11_init_314 (by decide) (by omega) (by omega) (fun c314 => ?_) (fun c314 => ?_)
      · have e410 : p = 410 := Nat.le_antisymm hp4 (Nat.not_lt.mp (fun q => by have := (zcnt_tab p q hp2).1; omega))
        subst e410
        rw [cn1] at e5 e6
        have b7 : h1 77 = some (.inr (256, .inl (fun _ => 0))) := (s1 _ (by unfold zb3; omega)).trans k77_13
        refine zp_iconst (v := nI (0)) dX11_init_366 (by decide) ?_
        refine zp_istore_n (ls' := [some (.ref (64)), some (.int (nI (zcnt 410))), some (.int (nI (0)))]) dX11_init_367 (by decide) rfl ?_
        refine zp_pc (pc' := 368) rfl ?_
        have lp1001 : zP g mX11_init (zR 2 42 13040) Qf 42 13040 391 [some (.ref (64)), some (.int (nI (zcnt 410))), some (.int (nI (256)))] [] (va_up h1 (77) (some (.inr (256, .inl (zfl (fun _ => 0) (0) (256) (fun j => zt_BOX.getD j 0)))))) 107 → ∀ (m k1001 : Nat), m = (256) - k1001 → k1001 ≤ (256) → zP g mX11_init (zR 2 42 13040) Qf 42 13040 368 [some (.ref (64)), some (.int (nI (zcnt 410))), some (.int (nI (k1001)))] [] (va_up h1 (77) (some (.inr (256, .inl (zfl (fun _ => 0) (0) (k1001) (fun j => zt_BOX.getD j 0)))))) 107 := by
          intro kk m
          induction m using Nat.strongRecOn with
          | _ m ih =>
            intro k1001 hm1001 hk1001
            refine zp_nh (fun hX1001 eX1001 => ?_)
            have k1002_0 := (congrFun eX1001 (64)).trans ((va_up_ne _ _ (by omega)).trans o1)
            have k1002_1 : hX1001 (77) = some (.inr (256, .inl (zfl (fun _ => 0) (0) (k1001) (fun j => zt_BOX.getD j 0)))) := by rw [eX1001]; exact va_up_self _ _ _
            refine zp_iload_n dX11_init_368 rfl ?_
            refine zp_sipush (v := nI (256)) dX11_init_369 (by decide) ?_
            refine zp_pc (pc' := 372) rfl ?_
            refine zn_icmp_ge (tgt := 391) dX11_init_372 (by decide) (by omega) (by omega) (fun c372 => ?_) (fun c372 => ?_)
            · have e1001 : k1001 = (256) := by omega
              subst e1001
              rw [eX1001]
              exact kk
            · refine zp_aload_n dX11_init_375 rfl ?_
              refine zp_get dX11_init_376 gX11_47_10 k1002_0 rfl ?_
              refine zp_iload_n dX11_init_379 rfl ?_
              refine zp_iload_n dX11_init_380 rfl ?_
              refine zp_pc (pc' := 381) rfl ?_
              refine zp_callS (As := [.int (nI (k1001))]) (st := [.int (nI (k1001)), .ref (77)]) dX11_init_381 cX11_129 rfl (e_boxed (b := k1001) (by omega)) (by decide) (by decide) (Nat.le_of_ble_eq_true rfl) (fun v1003 h1003 n1003 q1003 => ?_)
              obtain ⟨rfl, H1003, N1003⟩ := q1003
              rw [N1003, H1003]
              refine zp_nrm (cells' := 42) (slots' := 13040) (st' := [.int (nI (zbn k1001)), .int (nI (k1001)), .ref (77)]) rfl rfl rfl ?_
              refine zp_i (y := zt_BOX.getD k1001 0) (zbox_at (by omega)).symm ?_
              refine zn_iast dX11_init_384 (by omega) k1002_1 (by omega) (by omega) ?_
              refine zp_nh (fun h1004x eh1004x => ?_)
              have k1004_0 := (congrFun eh1004x (64)).trans ((va_up_ne _ _ (by omega)).trans k1002_0)
              have k1004_1 : h1004x (77) = some (.inr (256, .inl (va_up (zfl (fun _ => 0) (0) (k1001) (fun j => zt_BOX.getD j 0)) (k1001) (zt_BOX.getD k1001 0)))) := by rw [eh1004x]; exact va_up_self _ _ _
              have sw1005 : zsm hX1001 h1004x (zon (77)) := zsm.rf.up eh1004x rfl
              have zw1005 : zsh hX1001 h1004x := zsh.fill eh1004x k1002_1
              refine zp_pc (pc' := 385) rfl ?_
              refine zn_iinc 1 (ls' := [some (.ref (64)), some (.int (nI (zcnt 410))), some (.int (nI (k1001 + 1)))]) dX11_init_385 (by decide) (by decide) rfl rfl ?_
              refine zp_goto (tgt := 368) dX11_init_388 (by decide) ?_
              refine zp_pc (pc' := 368) rfl ?_
              rw [zfl_step eX1001 eh1004x (by omega) rfl]
              exact ih ((256) - (k1001 + 1)) (by omega) (k1001 + 1) rfl (by omega)
        suffices K1001 : zP g mX11_init (zR 2 42 13040) Qf 42 13040 391 [some (.ref (64)), some (.int (nI (zcnt 410))), some (.int (nI (256)))] [] (va_up h1 (77) (some (.inr (256, .inl (zfl (fun _ => 0) (0) (256) (fun j => zt_BOX.getD j 0)))))) 107 by
          have q := lp1001 K1001 ((256) - 0) 0 rfl (Nat.zero_le _)
          rw [zfl_0, zup_same b7] at q
          exact q
        refine zp_nh (fun hY1001 eY1001 => ?_)
        have k1006_0 := (congrFun eY1001 (64)).trans ((va_up_ne _ _ (by omega)).trans o1)
        have k1006_1 : hY1001 (77) = some (.inr (256, .inl (zfl (fun _ => 0) (0) (256) (fun j => zt_BOX.getD j 0)))) := by rw [eY1001]; exact va_up_self _ _ _
        have sf1007 := (zsm.fill eY1001)
        have zf1007 := zsh.fill eY1001 b7
        refine zp_pc (pc' := 391) rfl ?_
        have bX : hY1001 77 = some (.inr (256, .inl (fun j => zt_BOX.getD j 0))) := k1006_1.trans (by rw [show zfl (fun _ => 0) 0 256 (fun j => zt_BOX.getD j 0) = (fun j => zt_BOX.getD j 0 : Nat → Int32) from zfull (fun j hj => zget_def (Nat.le_trans (show zt_BOX.length ≤ 256 by decide) hj))])
        have cX : hY1001 65 = some (.inr (80, .inr (.inl (fun j => zt_ROUND.getD j 0)))) := (sf1007 65 (by unfold zon; omega)).trans (e5.trans (by rw [show zfl (fun _ => 0) 0 80 (fun j => zt_ROUND.getD j 0) = (fun j => zt_ROUND.getD j 0 : Nat → Int64) from zfull (fun j hj => zget_def (Nat.le_trans (show zt_ROUND.length ≤ 80 by decide) hj))]))
        have qX : hY1001 66 = some (.inr (8, .inr (.inl (fun j => zt_FIRST.getD j 0)))) := (sf1007 66 (by unfold zon; omega)).trans (e6.trans (by rw [show min 80 8 = 8 from rfl, show zfl (fun _ => 0) 0 8 (fun j => zt_FIRST.getD j 0) = (fun j => zt_FIRST.getD j 0 : Nat → Int64) from zfull (fun j hj => zget_def (Nat.le_trans (show zt_FIRST.length ≤ 8 by decide) hj))]))
        have tX : ztab hY1001 := (ht.sm S0 (fun i hi => by unfold zbt at hi; omega)).sm ((s1.mono (fun i hi => by unfold zbt; unfold zb3 at hi; omega)).trans (sf1007.mono (fun i hi => by unfold zbt; unfold zon at hi; omega)) : zsm h77x hY1001 (zbt 64 106)) (fun i hi => by unfold zbt at hi; omega)
        have MT : zmtl hY1001 := ⟨tX, cX, qX, ⟨_, ((sf1007 70 (by unfold zon; omega)).trans (s1 70 (by unfold zb3; omega))).trans k77_6⟩, ⟨_, ((sf1007 71 (by unfold zon; omega)).trans (s1 71 (by unfold zb3; omega))).trans k77_7⟩, ⟨_, ((sf1007 72 (by unfold zon; omega)).trans (s1 72 (by unfold zb3; omega))).trans k77_8⟩, ⟨_, ((sf1007 73 (by unfold zon; omega)).trans (s1 73 (by unfold zb3; omega))).trans k77_9⟩, ⟨_, ((sf1007 74 (by unfold zon; omega)).trans (s1 74 (by unfold zb3; omega))).trans k77_10⟩⟩
        have MC : zmcl hY1001 := ⟨bX, ⟨_, ((sf1007 78 (by unfold zon; omega)).trans (s1 78 (by unfold zb3; omega))).trans k77_14⟩, ⟨_, ((sf1007 79 (by unfold zon; omega)).trans (s1 79 (by unfold zb3; omega))).trans k77_15⟩⟩
        have MW9 : zmw hY1001 := ⟨MT, ⟨_, ((sf1007 75 (by unfold zon; omega)).trans (s1 75 (by unfold zb3; omega))).trans k77_11⟩, ⟨_, ((sf1007 76 (by unfold zon; omega)).trans (s1 76 (by unfold zb3; omega))).trans k77_12⟩, MC, ⟨_, ((sf1007 80 (by unfold zon; omega)).trans (s1 80 (by unfold zb3; omega))).trans k77_16⟩, ⟨_, ((sf1007 81 (by unfold zon; omega)).trans (s1 81 (by unfold zb3; omega))).trans k77_17⟩, ⟨_, ((sf1007 82 (by unfold zon; omega)).trans (s1 82 (by unfold zb3; omega))).trans k77_18⟩, ⟨_, ((sf1007 83 (by unfold zon; omega)).trans (s1 83 (by unfold zb3; omega))).trans k77_19⟩, ⟨_, ((sf1007 87 (by unfold zon; omega)).trans (s1 87 (by unfold zb3; omega))).trans k77_23⟩, ⟨_, ((sf1007 88 (by unfold zon; omega)).trans (s1 88 (by unfold zb3; omega))).trans k77_24⟩, ⟨_, ((sf1007 89 (by unfold zon; omega)).trans (s1 89 (by unfold zb3; omega))).trans k77_25⟩, ⟨_, ((sf1007 90 (by unfold zon; omega)).trans (s1 90 (by unfold zb3; omega))).trans k77_26⟩, ⟨_, ((sf1007 91 (by unfold zon; omega)).trans (s1 91 (by unfold zb3; omega))).trans k77_27⟩, ⟨_, ((sf1007 92 (by unfold zon; omega)).trans (s1 92 (by unfold zb3; omega))).trans k77_28⟩⟩
        have G0 : zmg hY1001 95 0 none := ⟨0, 0, 0, 0, 0, 0, 0, ((sf1007 95 (by unfold zon; omega)).trans (s1 95 (by unfold zb3; omega))).trans k77_31, ⟨_, ((sf1007 96 (by unfold zon; omega)).trans (s1 96 (by unfold zb3; omega))).trans k77_32⟩, ⟨_, ((sf1007 97 (by unfold zon; omega)).trans (s1 97 (by unfold zb3; omega))).trans k77_33⟩⟩
        have G1 : zmg hY1001 98 0 none := ⟨0, 0, 0, 0, 0, 0, 0, ((sf1007 98 (by unfold zon; omega)).trans (s1 98 (by unfold zb3; omega))).trans k77_34, ⟨_, ((sf1007 99 (by unfold zon; omega)).trans (s1 99 (by unfold zb3; omega))).trans k77_35⟩, ⟨_, ((sf1007 100 (by unfold zon; omega)).trans (s1 100 (by unfold zb3; omega))).trans k77_36⟩⟩
        have G2 : zmg hY1001 101 0 none := ⟨0, 0, 0, 0, 0, 0, 0, ((sf1007 101 (by unfold zon; omega)).trans (s1 101 (by unfold zb3; omega))).trans k77_37, ⟨_, ((sf1007 102 (by unfold zon; omega)).trans (s1 102 (by unfold zb3; omega))).trans k77_38⟩, ⟨_, ((sf1007 103 (by unfold zon; omega)).trans (s1 103 (by unfold zb3; omega))).trans k77_39⟩⟩
        have G3 : zmg hY1001 104 0 none := ⟨0, 0, 0, 0, 0, 0, 0, ((sf1007 104 (by unfold zon; omega)).trans (s1 104 (by unfold zb3; omega))).trans k77_40, ⟨_, ((sf1007 105 (by unfold zon; omega)).trans (s1 105 (by unfold zb3; omega))).trans k77_41⟩, ⟨_, ((sf1007 106 (by unfold zon; omega)).trans (s1 106 (by unfold zb3; omega))).trans k77_42⟩⟩
        have AA : hY1001 86 = _ := ((sf1007 86 (by unfold zon; omega)).trans (s1 86 (by unfold zb3; omega))).trans k77_22
        have SA : zsm h hY1001 (zbt 64 106) := (S0.trans (s1.mono (fun i hi => by unfold zbt; unfold zb3 at hi; omega))).trans (sf1007.mono (fun i hi => by unfold zbt; unfold zon at hi; omega))
        refine zp_ret (v := none) dX11_init_391 ⟨rfl, rfl⟩ (Nat.le_of_ble_eq_true rfl) (Nat.le_of_ble_eq_true rfl) ?_
        rw [hQ]
        exact ⟨rfl, rfl, SA, ⟨0, 0, 0, 0, k1006_0, fun q => absurd rfl q⟩, MW9, zar.nil ⟨_, ((sf1007 84 (by unfold zon; omega)).trans (s1 84 (by unfold zb3; omega))).trans k77_20⟩ (by decide), ⟨_, ((sf1007 85 (by unfold zon; omega)).trans (s1 85 (by unfold zb3; omega))).trans k77_21⟩, ⟨_, AA, fun j hj => by
                    have : j = 0 ∨ j = 1 ∨ j = 2 ∨ j = 3 := by omega
                    rcases this with rfl | rfl | rfl | rfl <;> rfl⟩, zar.nil ⟨_, ((sf1007 93 (by unfold zon; omega)).trans (s1 93 (by unfold zb3; omega))).trans k77_29⟩ (by decide), zar.nil ⟨_, ((sf1007 94 (by unfold zon; omega)).trans (s1 94 (by unfold zb3; omega))).trans k77_30⟩ (by decide), fun j hj => by
                    have : j = 0 ∨ j = 1 ∨ j = 2 ∨ j = 3 := by omega
                    rcases this with rfl | rfl | rfl | rfl
                    · exact G0
                    · exact G1
                    · exact G2
                    · exact G3, fun _ => ⟨rfl, rfl⟩⟩
      · have p410 : p < 410 := Nat.not_le.mp (fun q => by rw [show p = 410 by omega, cn1] at c314; omega)
        obtain ⟨t1, t2, t3⟩ := zcnt_tab p p410 hp2
        refine zp_iload_n dX11_init_317 rfl ?_
        refine zp_pc (pc' := 318) rfl ?_
        refine zp_callS (As := [.int (nI (p))]) (st := []) dX11_init_318 cX11_121 rfl (e_isPrime p410 hp2) (by decide) (by decide) (Nat.le_of_ble_eq_true rfl) (fun v1008 h1008 n1008 q1008 => ?_)
        obtain ⟨rfl, H1008, N1008⟩ := q1008
        rw [N1008, H1008]
        refine zp_nrm (cells' := 42) (slots' := 13040) (st' := [.int (nI (zbi (decide (p ∈ zPr))))]) rfl rfl rfl ?_
        refine zn_if_ne (tgt := 327) dX11_init_321 (by decide) (by have := zbi_lt (decide (p ∈ zPr)); omega) (fun c321 => ?_) (fun c321 => ?_)
        · have dT : (decide (p ∈ zPr)) = true := by rcases Bool.eq_false_or_eq_true (decide (p ∈ zPr)) with q | q; exact q; rw [q] at c321; exact absurd rfl c321
          obtain ⟨u1, u2⟩ := t2 (of_decide_eq_true dT)
          have i7 : zia h1 67 5 := z1.1 _ _ ⟨_, k77_3⟩
          have i8 : zia h1 68 16 := z1.1 _ _ ⟨_, k77_4⟩
          have i9 : zia h1 69 16 := z1.1 _ _ ⟨_, k77_5⟩
          refine zp_aload_n dX11_init_327 rfl ?_
          refine zp_get dX11_init_328 gX11_7_10 o1 rfl ?_
          refine zp_iload_n dX11_init_331 rfl ?_
          refine zp_aload_n dX11_init_332 rfl ?_
          refine zp_iload_n dX11_init_333 rfl ?_
          refine zp_iconst (v := nI (3)) dX11_init_334 (by decide) ?_
          refine zp_pc (pc' := 335) rfl ?_
          refine zp_callV (As := [.int (nI (p)), .int (nI (3))]) (k := 64) (st := [.int (nI (zcnt p)), .ref (65)]) (ci := 10) dX11_init_335 cX11_125 rfl o1 rfl rfl (e_root (p := p) (pw := 3) o1 i7 i8 i9 (Or.inr rfl) (by omega)) (by decide) (by decide) (Nat.le_of_ble_eq_true rfl) (fun v1009 h1009 n1009 q1009 => ?_)
          obtain ⟨rfl, N1009, s1009, z1009⟩ := q1009
          rw [N1009]
          refine zp_nrm (cells' := 42) (slots' := 13040) (st' := [.long (lN (zrt p 3 % 2 ^ 64)), .int (nI (zcnt p)), .ref (65)]) rfl rfl rfl ?_
          have m1010 : h1009 (64) = some (.inl (10, [.int (0), .ref (65), .ref (66), .ref (67), .ref (68), .ref (69), .ref (70), .ref (71), .ref (72), .ref (73), .ref (74), .ref (75), .ref (76), .ref (77), .ref (78), .ref (79), .ref (80), .ref (81), .ref (82), .ref (83), .ref (84), .int (nI (0)), .int (nI (zbi false)), .int (nI (5)), .int (nI (512)), .int (nI (40)), .int ((-1)), .int (nI (0)), .int ((-1)), .int (0), .int (0), .int (nI (0)), .int (nI (0)), .ref (85), .ref (86), .ref (87), .int (nI (0)), .ref (88), .ref (89), .ref (90), .ref (91), .ref (92), .ref (93), .int (nI (0)), .ref (94), .int (nI (0))])) := (s1009 _ (by unfold zsr3; omega)).trans o1
          have m1011 : h1009 (65) = some (.inr (80, .inr (.inl (zfl (fun _ => 0) 0 (zcnt p) (fun j => zt_ROUND.getD j 0))))) := (s1009 _ (by unfold zsr3; omega)).trans e5
          have m1012 : h1009 (66) = some (.inr (8, .inr (.inl (zfl (fun _ => 0) 0 (min (zcnt p) 8) (fun j => zt_FIRST.getD j 0))))) := (s1009 _ (by unfold zsr3; omega)).trans e6
          refine zp_l (y := zt_ROUND.getD (zcnt p) 0) (by rw [zcube_tab _ t1, u1]) ?_
          refine zn_last dX11_init_338 (by omega) m1011 (by omega) (by omega) ?_
          refine zp_nh (fun h1013x eh1013x => ?_)
          have k1013_0 := (congrFun eh1013x (64)).trans ((va_up_ne _ _ (by omega)).trans m1010)
          have k1013_1 : h1013x (65) = some (.inr (80, .inr (.inl (va_up (zfl (fun _ => 0) 0 (zcnt p) (fun j => zt_ROUND.getD j 0)) (zcnt p) (zt_ROUND.getD (zcnt p) 0))))) := by rw [eh1013x]; exact va_up_self _ _ _
          have k1013_2 := (congrFun eh1013x (66)).trans ((va_up_ne _ _ (by omega)).trans m1012)
          refine zp_pc (pc' := 339) rfl ?_
          have c65 : h1013x 65 = some (.inr (80, .inr (.inl (zfl (fun _ => 0) 0 (zcnt (p + 1)) (fun j => zt_ROUND.getD j 0))))) := by rw [k1013_1, u2, ← zfl_up, Nat.zero_add]
          have sL : zsm h1009 h1013x (zon 65) := zsm.rf.up eh1013x rfl
          have zL : zsh h1009 h1013x := zsh.fillL eh1013x m1011
          refine zp_iload_n dX11_init_339 rfl ?_
          refine zp_bipush (v := nI (8)) dX11_init_340 (by decide) ?_
          refine zp_pc (pc' := 342) rfl ?_
          refine zn_icmp_ge (tgt := 357) dX11_init_342 (by decide) (by omega) (by omega) (fun c342 => ?_) (fun c342 => ?_)
          · refine zn_iinc 1 (ls' := [some (.ref (64)), some (.int (nI (zcnt p + 1))), some (.int (nI (p)))]) dX11_init_357 (by decide) (by decide) rfl rfl ?_
            refine zp_pc (pc' := 360) rfl ?_
            refine zp_ls (ls' := [some (.ref (64)), some (.int (nI (zcnt (p + 1)))), some (.int (nI (p)))]) (by rw [u2]) ?_
            refine zn_iinc 1 (ls' := [some (.ref (64)), some (.int (nI (zcnt (p + 1)))), some (.int (nI (p + 1)))]) dX11_init_360 (by decide) (by decide) rfl rfl ?_
            refine zp_goto (tgt := 311) dX11_init_363 (by decide) ?_
            refine zp_pc (pc' := 311) rfl ?_
            exact ih (410 - (p + 1)) (by omega) (p + 1) h1013x rfl (by omega) (by omega) (s1.trans (((s1009).mono (fun i hi => by unfold zb3; unfold zsr3 at hi; omega)).trans ((sL).mono (fun i hi => by unfold zb3; unfold zon at hi; omega)))) (z1.trans ((z1009).trans zL)) c65 (by rw [u2, show min (zcnt p + 1) 8 = min (zcnt p) 8 by omega]; exact k1013_2)
          · have j7 := z1009.1 _ _ i7
            have j8 := z1009.1 _ _ i8
            have j9 := z1009.1 _ _ i9
            have j7 := zL.1 _ _ j7
            have j8 := zL.1 _ _ j8
            have j9 := zL.1 _ _ j9
            refine zp_aload_n dX11_init_345 rfl ?_
            refine zp_get dX11_init_346 gX11_13_10 k1013_0 rfl ?_
            refine zp_iload_n dX11_init_349 rfl ?_
            refine zp_aload_n dX11_init_350 rfl ?_
            refine zp_iload_n dX11_init_351 rfl ?_
            refine zp_iconst (v := nI (2)) dX11_init_352 (by decide) ?_
            refine zp_pc (pc' := 353) rfl ?_
            refine zp_callV (As := [.int (nI (p)), .int (nI (2))]) (k := 64) (st := [.int (nI (zcnt p)), .ref (66)]) (ci := 10) dX11_init_353 cX11_125 rfl k1013_0 rfl rfl (e_root (p := p) (pw := 2) k1013_0 j7 j8 j9 (Or.inl rfl) (by omega)) (by decide) (by decide) (Nat.le_of_ble_eq_true rfl) (fun v1014 h1014 n1014 q1014 => ?_)
            obtain ⟨rfl, N1014, s1014, z1014⟩ := q1014
            rw [N1014]
            refine zp_nrm (cells' := 42) (slots' := 13040) (st' := [.long (lN (zrt p 2 % 2 ^ 64)), .int (nI (zcnt p)), .ref (66)]) rfl rfl rfl ?_
            have m1015 : h1014 (64) = some (.inl (10, [.int (0), .ref (65), .ref (66), .ref (67), .ref (68), .ref (69), .ref (70), .ref (71), .ref (72), .ref (73), .ref (74), .ref (75), .ref (76), .ref (77), .ref (78), .ref (79), .ref (80), .ref (81), .ref (82), .ref (83), .ref (84), .int (nI (0)), .int (nI (zbi false)), .int (nI (5)), .int (nI (512)), .int (nI (40)), .int ((-1)), .int (nI (0)), .int ((-1)), .int (0), .int (0), .int (nI (0)), .int (nI (0)), .ref (85), .ref (86), .ref (87), .int (nI (0)), .ref (88), .ref (89), .ref (90), .ref (91), .ref (92), .ref (93), .int (nI (0)), .ref (94), .int (nI (0))])) := (s1014 _ (by unfold zsr3; omega)).trans k1013_0
            have m1016 : h1014 (65) = some (.inr (80, .inr (.inl (zfl (fun _ => 0) 0 (zcnt (p + 1)) (fun j => zt_ROUND.getD j 0))))) := (s1014 _ (by unfold zsr3; omega)).trans c65
            have m1017 : h1014 (66) = some (.inr (8, .inr (.inl (zfl (fun _ => 0) 0 (min (zcnt p) 8) (fun j => zt_FIRST.getD j 0))))) := (s1014 _ (by unfold zsr3; omega)).trans k1013_2
            refine zp_l (y := zt_FIRST.getD (zcnt p) 0) (by rw [zsqr_tab _ (by omega), u1]) ?_
            refine zn_last dX11_init_356 (by omega) m1017 (by omega) (by omega) ?_
            refine zp_nh (fun h1018x eh1018x => ?_)
            have k1018_0 := (congrFun eh1018x (64)).trans ((va_up_ne _ _ (by omega)).trans m1015)
            have k1018_1 := (congrFun eh1018x (65)).trans ((va_up_ne _ _ (by omega)).trans m1016)
            have k1018_2 : h1018x (66) = some (.inr (8, .inr (.inl (va_up (zfl (fun _ => 0) 0 (min (zcnt p) 8) (fun j => zt_FIRST.getD j 0)) (zcnt p) (zt_FIRST.getD (zcnt p) 0))))) := by rw [eh1018x]; exact va_up_self _ _ _
            refine zp_pc (pc' := 357) rfl ?_
            have c66 : h1018x 66 = some (.inr (8, .inr (.inl (zfl (fun _ => 0) 0 (min (zcnt (p + 1)) 8) (fun j => zt_FIRST.getD j 0))))) := by rw [k1018_2, u2, show min (zcnt p + 1) 8 = zcnt p + 1 by omega, show min (zcnt p) 8 = zcnt p by omega, ← zfl_up, Nat.zero_add]
            have sM : zsm h1014 h1018x (zon 66) := zsm.rf.up eh1018x rfl
            have zM9 : zsh h1014 h1018x := zsh.fillL eh1018x m1017
            refine zn_iinc 1 (ls' := [some (.ref (64)), some (.int (nI (zcnt p + 1))), some (.int (nI (p)))]) dX11_init_357 (by decide) (by decide) rfl rfl ?_
            refine zp_pc (pc' := 360) rfl ?_
            refine zp_ls (ls' := [some (.ref (64)), some (.int (nI (zcnt (p + 1)))), some (.int (nI (p)))]) (by rw [u2]) ?_
            refine zn_iinc 1 (ls' := [some (.ref (64)), some (.int (nI (zcnt (p + 1)))), some (.int (nI (p + 1)))]) dX11_init_360 (by decide) (by decide) rfl rfl ?_
            refine zp_goto (tgt := 311) dX11_init_363 (by decide) ?_
            refine zp_pc (pc' := 311) rfl ?_
            exact ih (410 - (p + 1)) (by omega) (p + 1) h1018x rfl (by omega) (by omega) (s1.trans (((((s1009).mono (fun i hi => by unfold zb3; unfold zsr3 at hi; omega)).trans ((sL).mono (fun i hi => by unfold zb3; unfold zon at hi; omega))).trans ((s1014).mono (fun i hi => by unfold zb3; unfold zsr3 at hi; omega))).trans ((sM).mono (fun i hi => by unfold zb3; unfold zon at hi; omega)))) (z1.trans ((((z1009).trans zL).trans z1014).trans zM9)) k1018_1 c66
        · have dF : (decide (p ∈ zPr)) = false := by rcases Bool.eq_false_or_eq_true (decide (p ∈ zPr)) with q | q; rw [q] at c321; exact absurd c321 (by decide); exact q
          have u2 := t3 (of_decide_eq_false dF)
          refine zp_goto (tgt := 360) dX11_init_324 (by decide) ?_
          refine zp_pc (pc' := 360) rfl ?_
          refine zp_ls (ls' := [some (.ref (64)), some (.int (nI (zcnt (p + 1)))), some (.int (nI (p)))]) (by rw [u2]) ?_
          refine zn_iinc 1 (ls' := [some (.ref (64)), some (.int (nI (zcnt (p + 1)))), some (.int (nI (p + 1)))]) dX11_init_360 (by decide) (by decide) rfl rfl ?_
          refine zp_goto (tgt := 311) dX11_init_363 (by decide) ?_
          refine zp_pc (pc' := 311) rfl ?_
          exact ih (410 - (p + 1)) (by omega) (p + 1) h1 rfl (by omega) (by omega) s1 z1 (by rw [u2]; exact e5) (by rw [u2]; exact e6)
  exact lp _ 2 h77x rfl (by decide) (by decide) zsm.rf zsh.rf (by rw [cn0, zfl_0]; exact k77_1) (by rw [cn0, show min 0 8 = 0 from rfl, zfl_0]; exact k77_2)
