theorem zmac_lt (b : Bool) (k m : List Nat) : ∀ x ∈ zmac b k m, x < 256 := zhash_lt _ _
theorem zmacN {kd : Nat} (h : kd < 8) (h2 : 2 ≤ kd) (h4 : kd < 4) : zsd kd = 8 * zwb (zod kd) := by
  have : kd = 2 ∨ kd = 3 := by omega
  rcases this with rfl | rfl <;> rfl
theorem zmcat_get (b : Bool) (K V : List Nat) {c j : Nat} (hj : j < c * (8 * zwb b)) : (zmcat b K V c).getD j 0 = (zmv b K V (j / (8 * zwb b) + 1)).getD (j % (8 * zwb b)) 0 := by
  unfold zmcat
  exact zflat_getD _ (8 * zwb b) (by have := zwb_or b; omega) (fun k => zmac_len _ _ _) _ _ hj
theorem zmcat_lt (b : Bool) (K V : List Nat) (c : Nat) : ∀ x ∈ zmcat b K V c, x < 256 := fun x h => by
  obtain ⟨i, -, h2⟩ := List.mem_flatMap.mp h
  exact zmac_lt _ _ _ x h2
theorem zmv_lt {b : Bool} {K V : List Nat} (h : ∀ x ∈ V, x < 256) : ∀ i, ∀ x ∈ zmv b K V i, x < 256
  | 0 => h
  | _ + 1 => zmac_lt _ _ _
abbrev zsm9 (a : Nat) : Nat → Prop := fun i => i = 64 ∨ (70 ≤ i ∧ i ≤ 75) ∨ i = 87 ∨ i = a + 1 ∨ i = a + 2
abbrev zsm8 (a : Nat) : Nat → Prop := fun i => (70 ≤ i ∧ i ≤ 75) ∨ i = a + 1
abbrev zsm7 (a : Nat) : Nat → Prop := fun i => (70 ≤ i ∧ i ≤ 75) ∨ i = a + 1 ∨ i = 94
set_option maxRecDepth 10000 in
set_option maxHeartbeats 2000000 in
theorem e_zstep {g : ZG} {h : ZH} {n : Nat} {a kd st iv ct sd : Nat} {tr rs : Bool} {dr : Int32} {V C : List Nat} {th : Int32} {wt : Nat} {un : Bool} {rp wi pa be ru sa me se ta fa : Int32} {mn tp ou : Nat} (hw : zmw h) (ho : h 64 = some (.inl (10, [.int (th), .ref (65), .ref (66), .ref (67), .ref (68), .ref (69), .ref (70), .ref (71), .ref (72), .ref (73), .ref (74), .ref (75), .ref (76), .ref (77), .ref (78), .ref (79), .ref (80), .ref (81), .ref (82), .ref (83), .ref (84), .int (nI (wt)), .int (nI (zbi un)), .int (rp), .int (wi), .int (pa), .int (be), .int (ru), .int (sa), .int (me), .int (se), .int (ta), .int (fa), .ref (85), .ref (86), .ref (87), .int (nI (mn)), .ref (88), .ref (89), .ref (90), .ref (91), .ref (92), .ref (93), .int (nI (tp)), .ref (94), .int (nI (ou))]))) (hg : h a = some (.inl (9, [.int (nI (zbi tr)), .int (nI (kd)), .int (nI (st)), .int (nI (iv)), .int (nI (zbi rs)), .int (nI (ct)), .int (dr), .int (nI (sd)), .ref (a + 1), .ref (a + 2)]))) (ha : a = 95 ∨ a = 98 ∨ a = 101 ∨ a = 104) (hkd : kd < 8) (hk2 : 2 ≤ kd) (hk4 : kd < 4) (hV : zar h (a + 1) 111 V) (hC : zar h (a + 2) 111 C) (lV : V.length = 8 * zwb (zod kd)) (lC : C.length = 8 * zwb (zod kd)) : zMt g mX11_step (zR 5 0 0) [.ref (64), .ref (a)] h n (fun v h' n' => v = none ∧ n' = n ∧ zsm h h' (zsm8 a) ∧ zsh h h' ∧ zar h' (a + 1) 111 (zmac (zod kd) C V)) := by
  refine zMt.of [some (.ref (64)), some (.ref (a)), none] (by decide) rfl (Nat.le_of_ble_eq_true rfl) ?_
  obtain ⟨Qf, hQ⟩ : ∃ Qf : ZQ, Qf = (fun v h' n' => v = none ∧ n' = n ∧ zsm h h' (zsm8 a) ∧ zsh h h' ∧ zar h' (a + 1) 111 (zmac (zod kd) C V)) := ⟨_, rfl⟩
  rw [← hQ]
  have hgr := zgr_odd hk4
  have hs := zsd_le hkd
  have hsd := zmacN hkd hk2 hk4
  have hz := zwb_or (zod kd)
  refine zp_aload_n dX11_step_0 rfl ?_
  refine zp_aload_n dX11_step_1 rfl ?_
  refine zp_callV (As := []) (k := a) (st := [.ref (64)]) (ci := 9) dX11_step_2 cX11_235 rfl hg rfl rfl (e_zgreat hg hkd) (by decide) (by decide) (Nat.le_of_ble_eq_true rfl) (fun v1 h1 n1 q1 => ?_)
  obtain ⟨rfl, H1, N1⟩ := q1
  rw [N1, H1]
  refine zp_nrm (cells' := 0) (slots' := 0) (st' := [.int (nI (zbi (zgr kd))), .ref (64)]) rfl rfl rfl ?_
  refine zp_i (y := nI (zbi (zod kd))) (by rw [hgr]) ?_
  refine zp_aload_n dX11_step_5 rfl ?_
  refine zp_get dX11_step_6 gX11_243_9 hg rfl ?_
  refine zp_aload_n dX11_step_9 rfl ?_
  refine zp_get dX11_step_10 gX11_226_9 hg rfl ?_
  refine zp_aload_n dX11_step_13 rfl ?_
  refine zp_pc (pc' := 14) rfl ?_
  refine zp_callV (As := []) (k := a) (st := [.ref (a + 1), .ref (a + 2), .int (nI (zbi (zod kd))), .ref (64)]) (ci := 9) dX11_step_14 cX11_229 rfl hg rfl rfl (e_zseed hg hkd) (by decide) (by decide) (Nat.le_of_ble_eq_true rfl) (fun v2 h2 n2 q2 => ?_)
  obtain ⟨rfl, H2, N2⟩ := q2
  rw [N2, H2]
  refine zp_nrm (cells' := 0) (slots' := 0) (st' := [.int (nI (zsd kd)), .ref (a + 1), .ref (a + 2), .int (nI (zbi (zod kd))), .ref (64)]) rfl rfl rfl ?_
  refine zp_i (y := nI (V.length)) (by rw [hsd, lV]) ?_
  refine zp_callV (As := [.int (nI (zbi (zod kd))), .ref (a + 2), .ref (a + 1), .int (nI (V.length))]) (k := 64) (st := []) (ci := 10) dX11_step_17 cX11_253 rfl ho rfl rfl (e_mmacW (b := (zod kd)) hw ho hC hV (by omega) (by omega) lC (by omega)) (by decide) (by decide) (Nat.le_of_ble_eq_true rfl) (fun v3 h3 n3 q3 => ?_)
  obtain ⟨rfl, N3, s3, z3, d3⟩ := q3
  rw [N3]
  refine zp_nrm (cells' := 0) (slots' := 0) (st' := []) rfl rfl rfl ?_
  have m4 : h3 (64) = some (.inl (10, [.int (th), .ref (65), .ref (66), .ref (67), .ref (68), .ref (69), .ref (70), .ref (71), .ref (72), .ref (73), .ref (74), .ref (75), .ref (76), .ref (77), .ref (78), .ref (79), .ref (80), .ref (81), .ref (82), .ref (83), .ref (84), .int (nI (wt)), .int (nI (zbi un)), .int (rp), .int (wi), .int (pa), .int (be), .int (ru), .int (sa), .int (me), .int (se), .int (ta), .int (fa), .ref (85), .ref (86), .ref (87), .int (nI (mn)), .ref (88), .ref (89), .ref (90), .ref (91), .ref (92), .ref (93), .int (nI (tp)), .ref (94), .int (nI (ou))])) := (s3 _ (by unfold zb3; omega)).trans ho
  have m5 : h3 (a) = some (.inl (9, [.int (nI (zbi tr)), .int (nI (kd)), .int (nI (st)), .int (nI (iv)), .int (nI (zbi rs)), .int (nI (ct)), .int (dr), .int (nI (sd)), .ref (a + 1), .ref (a + 2)])) := (s3 _ (by unfold zb3; omega)).trans hg
  have lD := zmac_len (zod kd) C V
  obtain ⟨la6, lb6, lc6, lf6, ld6, le6⟩ := id d3
  obtain ⟨if7, ih7⟩ := id ((hV.keep (s3 _ (by unfold zb3; omega))).ia)
  refine zp_iconst (v := nI (0)) dX11_step_20 (by decide) ?_
  refine zp_istore_n (ls' := [some (.ref (64)), some (.ref (a)), some (.int (nI (0)))]) dX11_step_21 (by decide) rfl ?_
  refine zp_pc (pc' := 22) rfl ?_
  have lp8 : zP g mX11_step (zR 5 0 0) Qf 0 0 48 [some (.ref (64)), some (.ref (a)), some (.int (nI (zsd kd)))] [] (va_up h3 (a + 1) (some (.inr (111, .inl (zfl if7 (0) (zsd kd) (fun i => nI ((zmac (zod kd) C V).getD i 0))))))) n → ∀ (m k8 : Nat), m = (zsd kd) - k8 → k8 ≤ (zsd kd) → zP g mX11_step (zR 5 0 0) Qf 0 0 22 [some (.ref (64)), some (.ref (a)), some (.int (nI (k8)))] [] (va_up h3 (a + 1) (some (.inr (111, .inl (zfl if7 (0) (k8) (fun i => nI ((zmac (zod kd) C V).getD i 0))))))) n := by
    intro kk m
    induction m using Nat.strongRecOn with
    | _ m ih =>
      intro k8 hm8 hk8
      refine zp_nh (fun hX8 eX8 => ?_)
      have k9_0 := (congrFun eX8 (64)).trans ((va_up_ne _ _ (by omega)).trans m4)
      have k9_1 := (congrFun eX8 (a)).trans ((va_up_ne _ _ (by omega)).trans m5)
      have k9_2 := (congrFun eX8 (74)).trans ((va_up_ne _ _ (by omega)).trans ld6)
      have k9_3 : hX8 (a + 1) = some (.inr (111, .inl (zfl if7 (0) (k8) (fun i => nI ((zmac (zod kd) C V).getD i 0))))) := by rw [eX8]; exact va_up_self _ _ _
      refine zp_iload_n dX11_step_22 rfl ?_
      refine zp_aload_n dX11_step_23 rfl ?_
      refine zp_callV (As := []) (k := a) (st := [.int (nI (k8))]) (ci := 9) dX11_step_24 cX11_229 rfl k9_1 rfl rfl (e_zseed k9_1 hkd) (by decide) (by decide) (Nat.le_of_ble_eq_true rfl) (fun v10 h10 n10 q10 => ?_)
      obtain ⟨rfl, H10, N10⟩ := q10
      rw [N10, H10]
      refine zp_nrm (cells' := 0) (slots' := 0) (st' := [.int (nI (zsd kd)), .int (nI (k8))]) rfl rfl rfl ?_
      refine zp_pc (pc' := 27) rfl ?_
      refine zn_icmp_ge (tgt := 48) dX11_step_27 (by decide) (by omega) (by omega) (fun c27 => ?_) (fun c27 => ?_)
      · have e8 : k8 = (zsd kd) := by omega
        subst e8
        rw [eX8]
        exact kk
      · refine zp_aload_n dX11_step_30 rfl ?_
        refine zp_get dX11_step_31 gX11_226_9 k9_1 rfl ?_
        refine zp_iload_n dX11_step_34 rfl ?_
        refine zp_aload_n dX11_step_35 rfl ?_
        refine zp_get dX11_step_36 gX11_38_10 k9_0 rfl ?_
        refine zp_iload_n dX11_step_39 rfl ?_
        refine zp_pc (pc' := 40) rfl ?_
        refine zn_iald (j := k8) dX11_step_40 k9_2 (by omega) (by omega) ?_
        refine zp_i (y := nI ((zmac (zod kd) C V).getD k8 0)) (le6 _ (by omega)) ?_
        refine zn_iast dX11_step_41 (by omega) k9_3 (by omega) (by omega) ?_
        refine zp_nh (fun h11x eh11x => ?_)
        have k11_0 := (congrFun eh11x (64)).trans ((va_up_ne _ _ (by omega)).trans k9_0)
        have k11_1 := (congrFun eh11x (a)).trans ((va_up_ne _ _ (by omega)).trans k9_1)
        have k11_2 := (congrFun eh11x (74)).trans ((va_up_ne _ _ (by omega)).trans k9_2)
        have k11_3 : h11x (a + 1) = some (.inr (111, .inl (va_up (zfl if7 (0) (k8) (fun i => nI ((zmac (zod kd) C V).getD i 0))) (k8) (nI ((zmac (zod kd) C V).getD k8 0))))) := by rw [eh11x]; exact va_up_self _ _ _
        have sw12 : zsm hX8 h11x (zon (a + 1)) := zsm.rf.up eh11x rfl
        have zw12 : zsh hX8 h11x := zsh.fill eh11x k9_3
        refine zp_pc (pc' := 42) rfl ?_
        refine zn_iinc 1 (ls' := [some (.ref (64)), some (.ref (a)), some (.int (nI (k8 + 1)))]) dX11_step_42 (by decide) (by decide) rfl rfl ?_
        refine zp_goto (tgt := 22) dX11_step_45 (by decide) ?_
        refine zp_pc (pc' := 22) rfl ?_
        rw [zfl_step eX8 eh11x (by omega) rfl]
        exact ih ((zsd kd) - (k8 + 1)) (by omega) (k8 + 1) rfl (by omega)
  suffices K8 : zP g mX11_step (zR 5 0 0) Qf 0 0 48 [some (.ref (64)), some (.ref (a)), some (.int (nI (zsd kd)))] [] (va_up h3 (a + 1) (some (.inr (111, .inl (zfl if7 (0) (zsd kd) (fun i => nI ((zmac (zod kd) C V).getD i 0))))))) n by
    have q := lp8 K8 ((zsd kd) - 0) 0 rfl (Nat.zero_le _)
    rw [zfl_0, zup_same ih7] at q
    exact q
  refine zp_nh (fun hY8 eY8 => ?_)
  have k13_0 := (congrFun eY8 (64)).trans ((va_up_ne _ _ (by omega)).trans m4)
  have k13_1 := (congrFun eY8 (a)).trans ((va_up_ne _ _ (by omega)).trans m5)
  have k13_2 := (congrFun eY8 (74)).trans ((va_up_ne _ _ (by omega)).trans ld6)
  have k13_3 : hY8 (a + 1) = some (.inr (111, .inl (zfl if7 (0) (zsd kd) (fun i => nI ((zmac (zod kd) C V).getD i 0))))) := by rw [eY8]; exact va_up_self _ _ _
  have sf14 := (zsm.fill eY8)
  have zf14 := zsh.fill eY8 ih7
  refine zp_pc (pc' := 48) rfl ?_
  refine zp_ret (v := none) dX11_step_48 ⟨rfl, rfl⟩ (by decide) (by decide) ?_
  rw [hQ]
  exact ⟨rfl, rfl, ((s3).mono (fun i hi => by unfold zsm8; unfold zb3 at hi; omega)).trans ((sf14).mono (fun i hi => by unfold zsm8; unfold zon at hi; omega)), (z3).trans zf14, zar.mk (L := zsd kd) k13_3 (by rw [lD, hsd]) (by omega) (by decide) lc6 (fun j hj => zfl_in0 hj)⟩
set_option maxRecDepth 10000 in
set_option maxHeartbeats 2000000 in
theorem e_zmixM {g : ZG} {h : ZH} {n : Nat} {a kd st iv ct sd : Nat} {tr rs : Bool} {dr : Int32} {V C M : List Nat} {th : Int32} {wt : Nat} {un : Bool} {rp wi pa be ru sa me se ta fa : Int32} {mn tp ou : Nat} (hw : zmw h) (ho : h 64 = some (.inl (10, [.int (th), .ref (65), .ref (66), .ref (67), .ref (68), .ref (69), .ref (70), .ref (71), .ref (72), .ref (73), .ref (74), .ref (75), .ref (76), .ref (77), .ref (78), .ref (79), .ref (80), .ref (81), .ref (82), .ref (83), .ref (84), .int (nI (wt)), .int (nI (zbi un)), .int (rp), .int (wi), .int (pa), .int (be), .int (ru), .int (sa), .int (me), .int (se), .int (ta), .int (fa), .ref (85), .ref (86), .ref (87), .int (nI (mn)), .ref (88), .ref (89), .ref (90), .ref (91), .ref (92), .ref (93), .int (nI (tp)), .ref (94), .int (nI (ou))]))) (hg : h a = some (.inl (9, [.int (nI (zbi tr)), .int (nI (kd)), .int (nI (st)), .int (nI (iv)), .int (nI (zbi rs)), .int (nI (ct)), .int (dr), .int (nI (sd)), .ref (a + 1), .ref (a + 2)]))) (ha : a = 95 ∨ a = 98 ∨ a = 101 ∨ a = 104) (hkd : kd < 8) (hk2 : 2 ≤ kd) (hk4 : kd < 4) (hV : zar h (a + 1) 111 V) (hC : zar h (a + 2) 111 C) (lV : V.length = 8 * zwb (zod kd)) (lC : C.length = 8 * zwb (zod kd)) (hM : zar h 90 400 M) (lM : M.length ≤ 350) : zMt g mX11_mixMac (zR 6 0 0) [.ref (64), .ref (a), .int (nI (M.length))] h n (fun v h' n' => v = none ∧ n' = n ∧ zsm h h' (zsm9 a) ∧ zsh h h' ∧ (∃ mn', h' 64 = some (.inl (10, [.int (th), .ref (65), .ref (66), .ref (67), .ref (68), .ref (69), .ref (70), .ref (71), .ref (72), .ref (73), .ref (74), .ref (75), .ref (76), .ref (77), .ref (78), .ref (79), .ref (80), .ref (81), .ref (82), .ref (83), .ref (84), .int (nI (wt)), .int (nI (zbi un)), .int (rp), .int (wi), .int (pa), .int (be), .int (ru), .int (sa), .int (me), .int (se), .int (ta), .int (fa), .ref (85), .ref (86), .ref (87), .int (nI (mn')), .ref (88), .ref (89), .ref (90), .ref (91), .ref (92), .ref (93), .int (nI (tp)), .ref (94), .int (nI (ou))]))) ∧ zar h' (a + 1) 111 (zmix (zod kd) M (C, V)).2 ∧ zar h' (a + 2) 111 (zmix (zod kd) M (C, V)).1) := by
  refine zMt.of [some (.ref (64)), some (.ref (a)), some (.int (nI (M.length))), none, none, none] (by decide) rfl (Nat.le_of_ble_eq_true rfl) ?_
  obtain ⟨Qf, hQ⟩ : ∃ Qf : ZQ, Qf = (fun v h' n' => v = none ∧ n' = n ∧ zsm h h' (zsm9 a) ∧ zsh h h' ∧ (∃ mn', h' 64 = some (.inl (10, [.int (th), .ref (65), .ref (66), .ref (67), .ref (68), .ref (69), .ref (70), .ref (71), .ref (72), .ref (73), .ref (74), .ref (75), .ref (76), .ref (77), .ref (78), .ref (79), .ref (80), .ref (81), .ref (82), .ref (83), .ref (84), .int (nI (wt)), .int (nI (zbi un)), .int (rp), .int (wi), .int (pa), .int (be), .int (ru), .int (sa), .int (me), .int (se), .int (ta), .int (fa), .ref (85), .ref (86), .ref (87), .int (nI (mn')), .ref (88), .ref (89), .ref (90), .ref (91), .ref (92), .ref (93), .int (nI (tp)), .ref (94), .int (nI (ou))]))) ∧ zar h' (a + 1) 111 (zmix (zod kd) M (C, V)).2 ∧ zar h' (a + 2) 111 (zmix (zod kd) M (C, V)).1) := ⟨_, rfl⟩
  rw [← hQ]
  have hgr := zgr_odd hk4
  have hs := zsd_le hkd
  have hsd := zmacN hkd hk2 hk4
  have hz := zwb_or (zod kd)
  obtain ⟨R, eR⟩ : ∃ R : Nat, R = if 0 < M.length then 2 else 1 := ⟨_, rfl⟩
  have hR : R ≤ 2 := by rw [eR]; split <;> omega
  have eZ : (zmix (zod kd) M (C, V)) = zmi (zod kd) M (C, V) R := by rw [eR]; rfl
  rw [eZ] at hQ
  refine zp_aload_n dX11_mixMac_0 rfl ?_
  refine zp_callV (As := []) (k := a) (st := []) (ci := 9) dX11_mixMac_1 cX11_229 rfl hg rfl rfl (e_zseed hg hkd) (by decide) (by decide) (Nat.le_of_ble_eq_true rfl) (fun v1 h1 n1 q1 => ?_)
  obtain ⟨rfl, H1, N1⟩ := q1
  rw [N1, H1]
  refine zp_nrm (cells' := 0) (slots' := 0) (st' := [.int (nI (zsd kd))]) rfl rfl rfl ?_
  refine zp_istore_n (ls' := [some (.ref (64)), some (.ref (a)), some (.int (nI (M.length))), some (.int (nI (zsd kd))), none, none]) dX11_mixMac_4 (by decide) rfl ?_
  refine zp_iconst (v := nI (0)) dX11_mixMac_5 (by decide) ?_
  refine zp_istore (ls' := [some (.ref (64)), some (.ref (a)), some (.int (nI (M.length))), some (.int (nI (zsd kd))), some (.int (nI (0))), none]) dX11_mixMac_6 (by decide) rfl ?_
  refine zp_pc (pc' := 8) rfl ?_
  have lp : ∀ (m : Nat) (c : Nat) (h1 : ZH), m = R - c → c ≤ R → zsm h h1 (zsm9 a) → zsh h h1 → (∃ mn1, h1 64 = some (.inl (10, [.int (th), .ref (65), .ref (66), .ref (67), .ref (68), .ref (69), .ref (70), .ref (71), .ref (72), .ref (73), .ref (74), .ref (75), .ref (76), .ref (77), .ref (78), .ref (79), .ref (80), .ref (81), .ref (82), .ref (83), .ref (84), .int (nI (wt)), .int (nI (zbi un)), .int (rp), .int (wi), .int (pa), .int (be), .int (ru), .int (sa), .int (me), .int (se), .int (ta), .int (fa), .ref (85), .ref (86), .ref (87), .int (nI (mn1)), .ref (88), .ref (89), .ref (90), .ref (91), .ref (92), .ref (93), .int (nI (tp)), .ref (94), .int (nI (ou))]))) → zar h1 (a + 1) 111 (zmi (zod kd) M (C, V) c).2 → zar h1 (a + 2) 111 (zmi (zod kd) M (C, V) c).1 → zP g mX11_mixMac (zR 6 0 0) Qf 0 0 8 [some (.ref (64)), some (.ref (a)), some (.int (nI (M.length))), some (.int (nI (zsd kd))), some (.int (nI (c))), none] [] h1 n := by
    intro m
    induction m using Nat.strongRecOn with
    | _ m ih =>
      intro c h1 hm1 hc1 s1 z1 o1 V1 C1
      obtain ⟨mn1, o1⟩ := o1
      have g1 : h1 a = some (.inl (9, [.int (nI (zbi tr)), .int (nI (kd)), .int (nI (st)), .int (nI (iv)), .int (nI (zbi rs)), .int (nI (ct)), .int (dr), .int (nI (sd)), .ref (a + 1), .ref (a + 2)])) := (s1 _ (by unfold zsm9; omega)).trans hg
      have W1 := hw.sh s1 z1 (fun i q => by unfold zsm9 at q; unfold zwf; omega)
      have M1 := hM.keep (s1 90 (by unfold zsm9; omega))
      obtain ⟨l1, l2⟩ := zmi_len (b := (zod kd)) (m := M) (s := (C, V)) lC lV c
      refine zp_iload dX11_mixMac_8 rfl ?_
      refine zp_iload_n dX11_mixMac_10 rfl ?_
      refine zp_pc (pc' := 11) rfl ?_
      have jn2 : zP g mX11_mixMac (zR 6 0 0) Qf 0 0 19 [some (.ref (64)), some (.ref (a)), some (.int (nI (M.length))), some (.int (nI (zsd kd))), some (.int (nI (c))), none] [.int (nI (R)), .int (nI (c))] h1 n → zP g mX11_mixMac (zR 6 0 0) Qf 0 0 11 [some (.ref (64)), some (.ref (a)), some (.int (nI (M.length))), some (.int (nI (zsd kd))), some (.int (nI (c))), none] [.int (nI (M.length)), .int (nI (c))] h1 n := by
        intro jk2
        refine zn_if_le (tgt := 18) dX11_mixMac_11 (by decide) (by omega) (fun c11 => ?_) (fun c11 => ?_)
        · refine zp_iconst (v := nI (1)) dX11_mixMac_18 (by decide) ?_
          refine zp_pc (pc' := 19) rfl ?_
          refine zp_i (y := nI (R)) (by rw [eR, if_neg (by omega)]) ?_
          exact jk2
        · refine zp_iconst (v := nI (2)) dX11_mixMac_14 (by decide) ?_
          refine zp_goto (tgt := 19) dX11_mixMac_15 (by decide) ?_
          refine zp_pc (pc' := 19) rfl ?_
          refine zp_i (y := nI (R)) (by rw [eR, if_pos c11]) ?_
          exact jk2
      refine jn2 ?_
      refine zn_icmp_ge (tgt := 110) dX11_mixMac_19 (by decide) (by omega) (by omega) (fun c19 => ?_) (fun c19 => ?_)
      · have ec : c = R := by omega
        subst ec
        refine zp_pc (pc' := 110) rfl ?_
        refine zp_ret (v := none) dX11_mixMac_110 ⟨rfl, rfl⟩ (by decide) (by decide) ?_
        rw [hQ]
        exact ⟨rfl, rfl, s1, z1, ⟨_, o1⟩, V1, C1⟩
      · refine zp_aload_n dX11_mixMac_22 rfl ?_
        refine zp_pc (pc' := 23) rfl ?_
        refine zp_callV (As := []) (k := 64) (st := []) (ci := 10) dX11_mixMac_23 cX11_223 rfl o1 rfl rfl (e_mbegin o1) (by decide) (by decide) (Nat.le_of_ble_eq_true rfl) (fun v3 h3 n3 q3 => ?_)
        obtain ⟨rfl, N3, s3, z3, o3⟩ := q3
        rw [N3]
        refine zp_nrm (cells' := 0) (slots' := 0) (st' := []) rfl rfl rfl ?_
        have m4 : h3 (a) = some (.inl (9, [.int (nI (zbi tr)), .int (nI (kd)), .int (nI (st)), .int (nI (iv)), .int (nI (zbi rs)), .int (nI (ct)), .int (dr), .int (nI (sd)), .ref (a + 1), .ref (a + 2)])) := (s3 _ (by unfold zon; omega)).trans g1
        have W5 := zmw.sh W1 ((s3).mono (fun i hi => by unfold zwf; unfold zon at hi; omega)) (z3) (fun i hi => hi)
        have xx3 : zar h3 87 1000 [] := zar.nil W5.m87 (by decide)
        refine zp_aload_n dX11_mixMac_26 rfl ?_
        refine zp_aload_n dX11_mixMac_27 rfl ?_
        refine zp_get dX11_mixMac_28 gX11_226_9 m4 rfl ?_
        refine zp_iload_n dX11_mixMac_31 rfl ?_
        refine zp_pc (pc' := 32) rfl ?_
        refine zp_i (y := nI ((zmi (zod kd) M (C, V) c).2.length)) (by rw [hsd, l2]) ?_
        refine zp_callV (As := [.ref (a + 1), .int (nI ((zmi (zod kd) M (C, V) c).2.length))]) (k := 64) (st := []) (ci := 10) dX11_mixMac_32 cX11_233 rfl o3 rfl rfl (e_mputs (xs := []) (ys := (zmi (zod kd) M (C, V) c).2) (q := a + 1) o3 xx3 (V1).keep (s3 _ (by unfold zon; omega)) (by omega) (by simp only [List.length_append, List.length_cons, List.length_nil, List.length_singleton]; omega)) (by decide) (by decide) (Nat.le_of_ble_eq_true rfl) (fun v6 h6 n6 q6 => ?_)
        obtain ⟨rfl, N6, s6, z6, o6, x6⟩ := q6
        rw [N6]
        refine zp_nrm (cells' := 0) (slots' := 0) (st' := []) rfl rfl rfl ?_
        have m7 : h6 (a) = some (.inl (9, [.int (nI (zbi tr)), .int (nI (kd)), .int (nI (st)), .int (nI (iv)), .int (nI (zbi rs)), .int (nI (ct)), .int (dr), .int (nI (sd)), .ref (a + 1), .ref (a + 2)])) := (s6 _ (by unfold zsp; omega)).trans m4
        refine zp_aload_n dX11_mixMac_35 rfl ?_
        refine zp_iload dX11_mixMac_36 rfl ?_
        refine zp_pc (pc' := 38) rfl ?_
        refine zp_callV (As := [.int (nI (c))]) (k := 64) (st := []) (ci := 10) dX11_mixMac_38 cX11_215 rfl o6 rfl rfl (e_mput (xs := ([] ++ (zmi (zod kd) M (C, V) c).2)) (x := c) o6 x6 (by omega) (by simp only [List.length_append, List.length_cons, List.length_nil, List.length_singleton]; omega)) (by decide) (by decide) (Nat.le_of_ble_eq_true rfl) (fun v8 h8 n8 q8 => ?_)
        obtain ⟨rfl, N8, s8, z8, o8, x8⟩ := q8
        rw [N8]
        refine zp_nrm (cells' := 0) (slots' := 0) (st' := []) rfl rfl rfl ?_
        have m9 : h8 (a) = some (.inl (9, [.int (nI (zbi tr)), .int (nI (kd)), .int (nI (st)), .int (nI (iv)), .int (nI (zbi rs)), .int (nI (ct)), .int (dr), .int (nI (sd)), .ref (a + 1), .ref (a + 2)])) := (s8 _ (by unfold zsp; omega)).trans m7
        refine zp_aload_n dX11_mixMac_41 rfl ?_
        refine zp_aload_n dX11_mixMac_42 rfl ?_
        refine zp_get dX11_mixMac_43 gX11_105_10 o8 rfl ?_
        refine zp_iload_n dX11_mixMac_46 rfl ?_
        refine zp_pc (pc' := 47) rfl ?_
        refine zp_callV (As := [.ref (90), .int (nI (M.length))]) (k := 64) (st := []) (ci := 10) dX11_mixMac_47 cX11_233 rfl o8 rfl rfl (e_mputs (xs := (([] ++ (zmi (zod kd) M (C, V) c).2) ++ [c])) (ys := M) (q := 90) o8 x8 (((M1).keep (s3 _ (by unfold zon; omega))).keep (s6 _ (by unfold zsp; omega))).keep (s8 _ (by unfold zsp; omega)) (by omega) (by simp only [List.length_append, List.length_cons, List.length_nil, List.length_singleton]; omega)) (by decide) (by decide) (Nat.le_of_ble_eq_true rfl) (fun v10 h10 n10 q10 => ?_)
        obtain ⟨rfl, N10, s10, z10, o10, x10⟩ := q10
        rw [N10]
        refine zp_nrm (cells' := 0) (slots' := 0) (st' := []) rfl rfl rfl ?_
        have m11 : h10 (a) = some (.inl (9, [.int (nI (zbi tr)), .int (nI (kd)), .int (nI (st)), .int (nI (iv)), .int (nI (zbi rs)), .int (nI (ct)), .int (dr), .int (nI (sd)), .ref (a + 1), .ref (a + 2)])) := (s10 _ (by unfold zsp; omega)).trans m9
        refine zp_aload_n dX11_mixMac_50 rfl ?_
        refine zp_aload_n dX11_mixMac_51 rfl ?_
        refine zp_callV (As := []) (k := a) (st := [.ref (64)]) (ci := 9) dX11_mixMac_52 cX11_235 rfl m11 rfl rfl (e_zgreat m11 hkd) (by decide) (by decide) (Nat.le_of_ble_eq_true rfl) (fun v12 h12 n12 q12 => ?_)
        obtain ⟨rfl, H12, N12⟩ := q12
        rw [N12, H12]
        refine zp_nrm (cells' := 0) (slots' := 0) (st' := [.int (nI (zbi (zgr kd))), .ref (64)]) rfl rfl rfl ?_
        refine zp_i (y := nI (zbi (zod kd))) (by rw [hgr]) ?_
        refine zp_aload_n dX11_mixMac_55 rfl ?_
        refine zp_get dX11_mixMac_56 gX11_243_9 m11 rfl ?_
        refine zp_aload_n dX11_mixMac_59 rfl ?_
        refine zp_get dX11_mixMac_60 gX11_96_10 o10 rfl ?_
        refine zp_aload_n dX11_mixMac_63 rfl ?_
        refine zp_get dX11_mixMac_64 gX11_212_10 o10 rfl ?_
        refine zp_pc (pc' := 67) rfl ?_
        have W13 := zmw.sh W5 ((((s6).mono (fun i hi => by unfold zwf; unfold zsp at hi; omega)).trans ((s8).mono (fun i hi => by unfold zwf; unfold zsp at hi; omega))).trans ((s10).mono (fun i hi => by unfold zwf; unfold zsp at hi; omega))) (((z6).trans z8).trans z10) (fun i hi => hi)
        refine zp_callV (As := [.int (nI (zbi (zod kd))), .ref (a + 2), .ref (87), .int (nI (((([] ++ (zmi (zod kd) M (C, V) c).2) ++ [c]) ++ M).length))]) (k := 64) (st := []) (ci := 10) dX11_mixMac_67 cX11_253 rfl o10 rfl rfl (e_mmacW (b := (zod kd)) (p := 87) W13 o10 (((((C1).keep (s3 _ (by unfold zon; omega))).keep (s6 _ (by unfold zsp; omega))).keep (s8 _ (by unfold zsp; omega))).keep (s10 _ (by unfold zsp; omega))) x10 (by omega) (by omega) l1 (by simp only [List.length_append, List.length_cons, List.length_nil, List.length_singleton]; omega)) (by decide) (by decide) (Nat.le_of_ble_eq_true rfl) (fun v14 h14 n14 q14 => ?_)
        obtain ⟨rfl, N14, s14, z14, d14⟩ := q14
        rw [N14]
        refine zp_nrm (cells' := 0) (slots' := 0) (st' := []) rfl rfl rfl ?_
        have m15 : h14 (a) = some (.inl (9, [.int (nI (zbi tr)), .int (nI (kd)), .int (nI (st)), .int (nI (iv)), .int (nI (zbi rs)), .int (nI (ct)), .int (dr), .int (nI (sd)), .ref (a + 1), .ref (a + 2)])) := (s14 _ (by unfold zb3; omega)).trans m11
        have m16 : h14 (64) = some (.inl (10, [.int (th), .ref (65), .ref (66), .ref (67), .ref (68), .ref (69), .ref (70), .ref (71), .ref (72), .ref (73), .ref (74), .ref (75), .ref (76), .ref (77), .ref (78), .ref (79), .ref (80), .ref (81), .ref (82), .ref (83), .ref (84), .int (nI (wt)), .int (nI (zbi un)), .int (rp), .int (wi), .int (pa), .int (be), .int (ru), .int (sa), .int (me), .int (se), .int (ta), .int (fa), .ref (85), .ref (86), .ref (87), .int (nI (((([] ++ (zmi (zod kd) M (C, V) c).2) ++ [c]) ++ M).length)), .ref (88), .ref (89), .ref (90), .ref (91), .ref (92), .ref (93), .int (nI (tp)), .ref (94), .int (nI (ou))])) := (s14 _ (by unfold zb3; omega)).trans o10
        have dK : zar h14 74 64 (zmi (zod kd) M (C, V) (c + 1)).1 := d14
        have lK : (zmi (zod kd) M (C, V) (c + 1)).1.length = 8 * zwb (zod kd) := zmac_len _ _ _
        obtain ⟨la17, lb17, lc17, lf17, ld17, le17⟩ := id dK
        obtain ⟨if18, ih18⟩ := id (((((((C1).keep (s3 _ (by unfold zon; omega))).keep (s6 _ (by unfold zsp; omega))).keep (s8 _ (by unfold zsp; omega))).keep (s10 _ (by unfold zsp; omega))).keep (s14 _ (by unfold zb3; omega))).ia)
        refine zp_iconst (v := nI (0)) dX11_mixMac_70 (by decide) ?_
        refine zp_istore (ls' := [some (.ref (64)), some (.ref (a)), some (.int (nI (M.length))), some (.int (nI (zsd kd))), some (.int (nI (c))), some (.int (nI (0)))]) dX11_mixMac_71 (by decide) rfl ?_
        refine zp_pc (pc' := 73) rfl ?_
        have lp19 : zP g mX11_mixMac (zR 6 0 0) Qf 0 0 99 [some (.ref (64)), some (.ref (a)), some (.int (nI (M.length))), some (.int (nI (zsd kd))), some (.int (nI (c))), some (.int (nI (zsd kd)))] [] (va_up h14 (a + 2) (some (.inr (111, .inl (zfl if18 (0) (zsd kd) (fun i => nI ((zmi (zod kd) M (C, V) (c + 1)).1.getD i 0))))))) n → ∀ (m k19 : Nat), m = (zsd kd) - k19 → k19 ≤ (zsd kd) → zP g mX11_mixMac (zR 6 0 0) Qf 0 0 73 [some (.ref (64)), some (.ref (a)), some (.int (nI (M.length))), some (.int (nI (zsd kd))), some (.int (nI (c))), some (.int (nI (k19)))] [] (va_up h14 (a + 2) (some (.inr (111, .inl (zfl if18 (0) (k19) (fun i => nI ((zmi (zod kd) M (C, V) (c + 1)).1.getD i 0))))))) n := by
          intro kk m
          induction m using Nat.strongRecOn with
          | _ m ih =>
            intro k19 hm19 hk19
            refine zp_nh (fun hX19 eX19 => ?_)
            have k20_0 := (congrFun eX19 (a)).trans ((va_up_ne _ _ (by omega)).trans m15)
            have k20_1 := (congrFun eX19 (64)).trans ((va_up_ne _ _ (by omega)).trans m16)
            have k20_2 := (congrFun eX19 (74)).trans ((va_up_ne _ _ (by omega)).trans ld17)
            have k20_3 : hX19 (a + 2) = some (.inr (111, .inl (zfl if18 (0) (k19) (fun i => nI ((zmi (zod kd) M (C, V) (c + 1)).1.getD i 0))))) := by rw [eX19]; exact va_up_self _ _ _
            refine zp_iload dX11_mixMac_73 rfl ?_
            refine zp_iload_n dX11_mixMac_75 rfl ?_
            refine zp_pc (pc' := 76) rfl ?_
            refine zn_icmp_ge (tgt := 99) dX11_mixMac_76 (by decide) (by omega) (by omega) (fun c76 => ?_) (fun c76 => ?_)
            · have e19 : k19 = (zsd kd) := by omega
              subst e19
              rw [eX19]
              exact kk
            · refine zp_aload_n dX11_mixMac_79 rfl ?_
              refine zp_get dX11_mixMac_80 gX11_243_9 k20_0 rfl ?_
              refine zp_iload dX11_mixMac_83 rfl ?_
              refine zp_aload_n dX11_mixMac_85 rfl ?_
              refine zp_get dX11_mixMac_86 gX11_38_10 k20_1 rfl ?_
              refine zp_iload dX11_mixMac_89 rfl ?_
              refine zp_pc (pc' := 91) rfl ?_
              refine zn_iald (j := k19) dX11_mixMac_91 k20_2 (by omega) (by omega) ?_
              refine zp_i (y := nI ((zmi (zod kd) M (C, V) (c + 1)).1.getD k19 0)) (le17 _ (by omega)) ?_
              refine zn_iast dX11_mixMac_92 (by omega) k20_3 (by omega) (by omega) ?_
              refine zp_nh (fun h21x eh21x => ?_)
              have k21_0 := (congrFun eh21x (a)).trans ((va_up_ne _ _ (by omega)).trans k20_0)
              have k21_1 := (congrFun eh21x (64)).trans ((va_up_ne _ _ (by omega)).trans k20_1)
              have k21_2 := (congrFun eh21x (74)).trans ((va_up_ne _ _ (by omega)).trans k20_2)
              have k21_3 : h21x (a + 2) = some (.inr (111, .inl (va_up (zfl if18 (0) (k19) (fun i => nI ((zmi (zod kd) M (C, V) (c + 1)).1.getD i 0))) (k19) (nI ((zmi (zod kd) M (C, V) (c + 1)).1.getD k19 0))))) := by rw [eh21x]; exact va_up_self _ _ _
              have sw22 : zsm hX19 h21x (zon (a + 2)) := zsm.rf.up eh21x rfl
              have zw22 : zsh hX19 h21x := zsh.fill eh21x k20_3
              refine zp_pc (pc' := 93) rfl ?_
              refine zn_iinc 1 (ls' := [some (.ref (64)), some (.ref (a)), some (.int (nI (M.length))), some (.int (nI (zsd kd))), some (.int (nI (c))), some (.int (nI (k19 + 1)))]) dX11_mixMac_93 (by decide) (by decide) rfl rfl ?_
              refine zp_goto (tgt := 73) dX11_mixMac_96 (by decide) ?_
              refine zp_pc (pc' := 73) rfl ?_
              rw [zfl_step eX19 eh21x (by omega) rfl]
              exact ih ((zsd kd) - (k19 + 1)) (by omega) (k19 + 1) rfl (by omega)
        suffices K19 : zP g mX11_mixMac (zR 6 0 0) Qf 0 0 99 [some (.ref (64)), some (.ref (a)), some (.int (nI (M.length))), some (.int (nI (zsd kd))), some (.int (nI (c))), some (.int (nI (zsd kd)))] [] (va_up h14 (a + 2) (some (.inr (111, .inl (zfl if18 (0) (zsd kd) (fun i => nI ((zmi (zod kd) M (C, V) (c + 1)).1.getD i 0))))))) n by
          have q := lp19 K19 ((zsd kd) - 0) 0 rfl (Nat.zero_le _)
          rw [zfl_0, zup_same ih18] at q
          exact q
        refine zp_nh (fun hY19 eY19 => ?_)
        have k23_0 := (congrFun eY19 (a)).trans ((va_up_ne _ _ (by omega)).trans m15)
        have k23_1 := (congrFun eY19 (64)).trans ((va_up_ne _ _ (by omega)).trans m16)
        have k23_2 := (congrFun eY19 (74)).trans ((va_up_ne _ _ (by omega)).trans ld17)
        have k23_3 : hY19 (a + 2) = some (.inr (111, .inl (zfl if18 (0) (zsd kd) (fun i => nI ((zmi (zod kd) M (C, V) (c + 1)).1.getD i 0))))) := by rw [eY19]; exact va_up_self _ _ _
        have sf24 := (zsm.fill eY19)
        have zf24 := zsh.fill eY19 ih18
        refine zp_aload_n dX11_mixMac_99 rfl ?_
        refine zp_aload_n dX11_mixMac_100 rfl ?_
        refine zp_pc (pc' := 101) rfl ?_
        have C2 : zar hY19 (a + 2) 111 (zmi (zod kd) M (C, V) (c + 1)).1 := zar.mk (L := zsd kd) k23_3 (by rw [lK, hsd]) (by omega) (by decide) lc17 (fun j hj => zfl_in0 hj)
        have W25 := zmw.sh W13 (((s14).mono (fun i hi => by unfold zwf; unfold zb3 at hi; omega)).trans ((sf24).mono (fun i hi => by unfold zwf; unfold zon at hi; omega))) ((z14).trans zf24) (fun i hi => hi)
        refine zp_callV (As := [.ref (a)]) (k := 64) (st := []) (ci := 10) dX11_mixMac_101 cX11_257 rfl k23_1 rfl rfl (e_zstep W25 k23_1 k23_0 ha hkd hk2 hk4 (((((((V1).keep (s3 _ (by unfold zon; omega))).keep (s6 _ (by unfold zsp; omega))).keep (s8 _ (by unfold zsp; omega))).keep (s10 _ (by unfold zsp; omega))).keep (s14 _ (by unfold zb3; omega))).keep (sf24 _ (by unfold zon; omega))) C2 l2 lK) (by decide) (by decide) (Nat.le_of_ble_eq_true rfl) (fun v26 h26 n26 q26 => ?_)
        obtain ⟨rfl, N26, s26, z26, d26⟩ := q26
        rw [N26]
        refine zp_nrm (cells' := 0) (slots' := 0) (st' := []) rfl rfl rfl ?_
        have m27 : h26 (a) = some (.inl (9, [.int (nI (zbi tr)), .int (nI (kd)), .int (nI (st)), .int (nI (iv)), .int (nI (zbi rs)), .int (nI (ct)), .int (dr), .int (nI (sd)), .ref (a + 1), .ref (a + 2)])) := (s26 _ (by unfold zsm8; omega)).trans k23_0
        have m28 : h26 (64) = some (.inl (10, [.int (th), .ref (65), .ref (66), .ref (67), .ref (68), .ref (69), .ref (70), .ref (71), .ref (72), .ref (73), .ref (74), .ref (75), .ref (76), .ref (77), .ref (78), .ref (79), .ref (80), .ref (81), .ref (82), .ref (83), .ref (84), .int (nI (wt)), .int (nI (zbi un)), .int (rp), .int (wi), .int (pa), .int (be), .int (ru), .int (sa), .int (me), .int (se), .int (ta), .int (fa), .ref (85), .ref (86), .ref (87), .int (nI (((([] ++ (zmi (zod kd) M (C, V) c).2) ++ [c]) ++ M).length)), .ref (88), .ref (89), .ref (90), .ref (91), .ref (92), .ref (93), .int (nI (tp)), .ref (94), .int (nI (ou))])) := (s26 _ (by unfold zsm8; omega)).trans k23_1
        have m29 : h26 (74) = some (.inr (64, .inl lf17)) := (s26 _ (by unfold zsm8; omega)).trans k23_2
        have m30 : h26 (a + 2) = some (.inr (111, .inl (zfl if18 (0) (zsd kd) (fun i => nI ((zmi (zod kd) M (C, V) (c + 1)).1.getD i 0))))) := (s26 _ (by unfold zsm8; omega)).trans k23_3
        refine zn_iinc 1 (ls' := [some (.ref (64)), some (.ref (a)), some (.int (nI (M.length))), some (.int (nI (zsd kd))), some (.int (nI (c + 1))), some (.int (nI (zsd kd)))]) dX11_mixMac_104 (by decide) (by decide) rfl rfl ?_
        refine zp_goto (tgt := 8) dX11_mixMac_107 (by decide) ?_
        refine zp_pc (pc' := 8) rfl ?_
        refine zp_drop (ls' := [some (.ref (64)), some (.ref (a)), some (.int (nI (M.length))), some (.int (nI (zsd kd))), some (.int (nI (c + 1))), none]) (fun i v hv => ?_) ?_
        · rcases i with _ | _ | _ | _ | _ | _ | i <;> simp at hv ⊢ <;> exact hv
        exact ih (R - (c + 1)) (by omega) (c + 1) h26 rfl (by omega) (s1.trans ((((((((s3).mono (fun i hi => by unfold zsm9; unfold zon at hi; omega)).trans ((s6).mono (fun i hi => by unfold zsm9; unfold zsp at hi; omega))).trans ((s8).mono (fun i hi => by unfold zsm9; unfold zsp at hi; omega))).trans ((s10).mono (fun i hi => by unfold zsm9; unfold zsp at hi; omega))).trans ((s14).mono (fun i hi => by unfold zsm9; unfold zb3 at hi; omega))).trans ((sf24).mono (fun i hi => by unfold zsm9; unfold zon at hi; omega))).trans ((s26).mono (fun i hi => by unfold zsm9; unfold zsm8 at hi; omega)))) (z1.trans (((((((z3).trans z6).trans z8).trans z10).trans z14).trans zf24).trans z26)) ⟨_, m28⟩ d26 (C2.keep (s26 _ (by unfold zsm8; omega)))
  exact lp _ 0 h rfl (Nat.zero_le _) zsm.rf zsh.rf ⟨_, ho⟩ hV hC
set_option maxRecDepth 10000 in
set_option maxHeartbeats 2000000 in
theorem e_zdrawM {g : ZG} {h : ZH} {n : Nat} {a kd st iv ct sd : Nat} {tr rs : Bool} {dr : Int32} {V C A : List Nat} {k : Nat} {th : Int32} {wt : Nat} {un : Bool} {rp wi pa be ru sa me se ta fa : Int32} {mn tp ou : Nat} (hw : zmw h) (ho : h 64 = some (.inl (10, [.int (th), .ref (65), .ref (66), .ref (67), .ref (68), .ref (69), .ref (70), .ref (71), .ref (72), .ref (73), .ref (74), .ref (75), .ref (76), .ref (77), .ref (78), .ref (79), .ref (80), .ref (81), .ref (82), .ref (83), .ref (84), .int (nI (wt)), .int (nI (zbi un)), .int (rp), .int (wi), .int (pa), .int (be), .int (ru), .int (sa), .int (me), .int (se), .int (ta), .int (fa), .ref (85), .ref (86), .ref (87), .int (nI (mn)), .ref (88), .ref (89), .ref (90), .ref (91), .ref (92), .ref (93), .int (nI (tp)), .ref (94), .int (nI (ou))]))) (hg : h a = some (.inl (9, [.int (nI (zbi tr)), .int (nI (kd)), .int (nI (st)), .int (nI (iv)), .int (nI (zbi rs)), .int (nI (ct)), .int (dr), .int (nI (sd)), .ref (a + 1), .ref (a + 2)]))) (ha : a = 95 ∨ a = 98 ∨ a = 101 ∨ a = 104) (hkd : kd < 8) (hk2 : 2 ≤ kd) (hk4 : kd < 4) (hV : zar h (a + 1) 111 V) (hC : zar h (a + 2) 111 C) (lV : V.length = 8 * zwb (zod kd)) (lC : C.length = 8 * zwb (zod kd)) (hA : zar h 93 240 A) (hO : zia h 94 4096) (hk : k ≤ 4096) : zMt g mX11_drawMac (zR 7 0 0) [.ref (64), .ref (a), .int (nI (k)), .int (nI (A.length))] h n (fun v h' n' => v = none ∧ n' = n ∧ zsm h h' (zsgo a) ∧ zsh h h' ∧ (∃ mn', h' 64 = some (.inl (10, [.int (th), .ref (65), .ref (66), .ref (67), .ref (68), .ref (69), .ref (70), .ref (71), .ref (72), .ref (73), .ref (74), .ref (75), .ref (76), .ref (77), .ref (78), .ref (79), .ref (80), .ref (81), .ref (82), .ref (83), .ref (84), .int (nI (wt)), .int (nI (zbi un)), .int (rp), .int (wi), .int (pa), .int (be), .int (ru), .int (sa), .int (me), .int (se), .int (ta), .int (fa), .ref (85), .ref (86), .ref (87), .int (nI (mn')), .ref (88), .ref (89), .ref (90), .ref (91), .ref (92), .ref (93), .int (nI (tp)), .ref (94), .int (nI (ou))]))) ∧ zar h' 94 4096 (zpr kd ct k V C A).1 ∧ zar h' (a + 1) 111 (zpr kd ct k V C A).2.1 ∧ zar h' (a + 2) 111 (zpr kd ct k V C A).2.2) := by
  refine zMt.of [some (.ref (64)), some (.ref (a)), some (.int (nI (k))), some (.int (nI (A.length))), none, none, none] (by decide) rfl (Nat.le_of_ble_eq_true rfl) ?_
  obtain ⟨Qf, hQ⟩ : ∃ Qf : ZQ, Qf = (fun v h' n' => v = none ∧ n' = n ∧ zsm h h' (zsgo a) ∧ zsh h h' ∧ (∃ mn', h' 64 = some (.inl (10, [.int (th), .ref (65), .ref (66), .ref (67), .ref (68), .ref (69), .ref (70), .ref (71), .ref (72), .ref (73), .ref (74), .ref (75), .ref (76), .ref (77), .ref (78), .ref (79), .ref (80), .ref (81), .ref (82), .ref (83), .ref (84), .int (nI (wt)), .int (nI (zbi un)), .int (rp), .int (wi), .int (pa), .int (be), .int (ru), .int (sa), .int (me), .int (se), .int (ta), .int (fa), .ref (85), .ref (86), .ref (87), .int (nI (mn')), .ref (88), .ref (89), .ref (90), .ref (91), .ref (92), .ref (93), .int (nI (tp)), .ref (94), .int (nI (ou))]))) ∧ zar h' 94 4096 (zpr kd ct k V C A).1 ∧ zar h' (a + 1) 111 (zpr kd ct k V C A).2.1 ∧ zar h' (a + 2) 111 (zpr kd ct k V C A).2.2) := ⟨_, rfl⟩
  rw [← hQ]
  have hgr := zgr_odd hk4
  have hs := zsd_le hkd
  have hsd := zmacN hkd hk2 hk4
  have hz := zwb_or (zod kd)
  have lA := hA.1
  obtain ⟨s, es⟩ : ∃ s : List Nat × List Nat, s = (if 0 < A.length then zmix (zod kd) A (C, V) else (C, V)) := ⟨_, rfl⟩
  have ls : s.1.length = 8 * zwb (zod kd) ∧ s.2.length = 8 * zwb (zod kd) := by rw [es]; split; exact zmi_len (s := (C, V)) lC lV _; exact ⟨lC, lV⟩
  have ep : zpr kd ct k V C A = zpr5 (zod kd) k A s := by rw [es]; unfold zpr; rw [if_neg (by omega), if_pos hk4]
  rw [ep] at hQ
  obtain ⟨la1, lb1, lc1, lf1, ld1, le1⟩ := id hA
  obtain ⟨if2, ih2⟩ := id (hw.m90)
  refine zp_aload_n dX11_drawMac_0 rfl ?_
  refine zp_callV (As := []) (k := a) (st := []) (ci := 9) dX11_drawMac_1 cX11_229 rfl hg rfl rfl (e_zseed hg hkd) (by decide) (by decide) (Nat.le_of_ble_eq_true rfl) (fun v3 h3 n3 q3 => ?_)
  obtain ⟨rfl, H3, N3⟩ := q3
  rw [N3, H3]
  refine zp_nrm (cells' := 0) (slots' := 0) (st' := [.int (nI (zsd kd))]) rfl rfl rfl ?_
  refine zp_istore (ls' := [some (.ref (64)), some (.ref (a)), some (.int (nI (k))), some (.int (nI (A.length))), some (.int (nI (zsd kd))), none, none]) dX11_drawMac_4 (by decide) rfl ?_
  refine zp_iconst (v := nI (0)) dX11_drawMac_6 (by decide) ?_
  refine zp_istore (ls' := [some (.ref (64)), some (.ref (a)), some (.int (nI (k))), some (.int (nI (A.length))), some (.int (nI (zsd kd))), some (.int (nI (0))), none]) dX11_drawMac_7 (by decide) rfl ?_
  refine zp_pc (pc' := 9) rfl ?_
  refine zp_ls (ls' := [some (.ref (64)), some (.ref (a)), some (.int (nI (k))), some (.int (nI (A.length))), some (.int (nI (8 * zwb (zod kd)))), some (.int (nI (0))), none]) (by rw [hsd]) ?_
  have lp4 : zP g mX11_drawMac (zR 7 0 0) Qf 0 0 35 [some (.ref (64)), some (.ref (a)), some (.int (nI (k))), some (.int (nI (A.length))), some (.int (nI (8 * zwb (zod kd)))), some (.int (nI (A.length))), none] [] (va_up h (90) (some (.inr (400, .inl (zfl if2 (0) (A.length) (fun i => nI (A.getD i 0))))))) n → ∀ (m k4 : Nat), m = (A.length) - k4 → k4 ≤ (A.length) → zP g mX11_drawMac (zR 7 0 0) Qf 0 0 9 [some (.ref (64)), some (.ref (a)), some (.int (nI (k))), some (.int (nI (A.length))), some (.int (nI (8 * zwb (zod kd)))), some (.int (nI (k4))), none] [] (va_up h (90) (some (.inr (400, .inl (zfl if2 (0) (k4) (fun i => nI (A.getD i 0))))))) n := by
    intro kk m
    induction m using Nat.strongRecOn with
    | _ m ih =>
      intro k4 hm4 hk4
      refine zp_nh (fun hX4 eX4 => ?_)
      have k5_0 := (congrFun eX4 (64)).trans ((va_up_ne _ _ (by omega)).trans ho)
      have k5_1 := (congrFun eX4 (a)).trans ((va_up_ne _ _ (by omega)).trans hg)
      have k5_2 := (congrFun eX4 (93)).trans ((va_up_ne _ _ (by omega)).trans ld1)
      have k5_3 : hX4 (90) = some (.inr (400, .inl (zfl if2 (0) (k4) (fun i => nI (A.getD i 0))))) := by rw [eX4]; exact va_up_self _ _ _
      refine zp_iload dX11_drawMac_9 rfl ?_
      refine zp_iload_n dX11_drawMac_11 rfl ?_
      refine zp_pc (pc' := 12) rfl ?_
      refine zn_icmp_ge (tgt := 35) dX11_drawMac_12 (by decide) (by omega) (by omega) (fun c12 => ?_) (fun c12 => ?_)
      · have e4 : k4 = (A.length) := by omega
        subst e4
        rw [eX4]
        exact kk
      · refine zp_aload_n dX11_drawMac_15 rfl ?_
        refine zp_get dX11_drawMac_16 gX11_105_10 k5_0 rfl ?_
        refine zp_iload dX11_drawMac_19 rfl ?_
        refine zp_aload_n dX11_drawMac_21 rfl ?_
        refine zp_get dX11_drawMac_22 gX11_114_10 k5_0 rfl ?_
        refine zp_iload dX11_drawMac_25 rfl ?_
        refine zp_pc (pc' := 27) rfl ?_
        refine zn_iald (j := k4) dX11_drawMac_27 k5_2 (by omega) (by omega) ?_
        refine zp_i (y := nI (A.getD k4 0)) (le1 _ (by omega)) ?_
        refine zn_iast dX11_drawMac_28 (by omega) k5_3 (by omega) (by omega) ?_
        refine zp_nh (fun h6x eh6x => ?_)
        have k6_0 := (congrFun eh6x (64)).trans ((va_up_ne _ _ (by omega)).trans k5_0)
        have k6_1 := (congrFun eh6x (a)).trans ((va_up_ne _ _ (by omega)).trans k5_1)
        have k6_2 := (congrFun eh6x (93)).trans ((va_up_ne _ _ (by omega)).trans k5_2)
        have k6_3 : h6x (90) = some (.inr (400, .inl (va_up (zfl if2 (0) (k4) (fun i => nI (A.getD i 0))) (k4) (nI (A.getD k4 0))))) := by rw [eh6x]; exact va_up_self _ _ _
        have sw7 : zsm hX4 h6x (zon (90)) := zsm.rf.up eh6x rfl
        have zw7 : zsh hX4 h6x := zsh.fill eh6x k5_3
        refine zp_pc (pc' := 29) rfl ?_
        refine zn_iinc 1 (ls' := [some (.ref (64)), some (.ref (a)), some (.int (nI (k))), some (.int (nI (A.length))), some (.int (nI (8 * zwb (zod kd)))), some (.int (nI (k4 + 1))), none]) dX11_drawMac_29 (by decide) (by decide) rfl rfl ?_
        refine zp_goto (tgt := 9) dX11_drawMac_32 (by decide) ?_
        refine zp_pc (pc' := 9) rfl ?_
        rw [zfl_step eX4 eh6x (by omega) rfl]
        exact ih ((A.length) - (k4 + 1)) (by omega) (k4 + 1) rfl (by omega)
  suffices K4 : zP g mX11_drawMac (zR 7 0 0) Qf 0 0 35 [some (.ref (64)), some (.ref (a)), some (.int (nI (k))), some (.int (nI (A.length))), some (.int (nI (8 * zwb (zod kd)))), some (.int (nI (A.length))), none] [] (va_up h (90) (some (.inr (400, .inl (zfl if2 (0) (A.length) (fun i => nI (A.getD i 0))))))) n by
    have q := lp4 K4 ((A.length) - 0) 0 rfl (Nat.zero_le _)
    rw [zfl_0, zup_same ih2] at q
    exact q
  refine zp_nh (fun hY4 eY4 => ?_)
  have k8_0 := (congrFun eY4 (64)).trans ((va_up_ne _ _ (by omega)).trans ho)
  have k8_1 := (congrFun eY4 (a)).trans ((va_up_ne _ _ (by omega)).trans hg)
  have k8_2 := (congrFun eY4 (93)).trans ((va_up_ne _ _ (by omega)).trans ld1)
  have k8_3 : hY4 (90) = some (.inr (400, .inl (zfl if2 (0) (A.length) (fun i => nI (A.getD i 0))))) := by rw [eY4]; exact va_up_self _ _ _
  have sf9 := (zsm.fill eY4)
  have zf9 := zsh.fill eY4 ih2
  have aG : zar hY4 90 400 A := zar.mk (L := A.length) k8_3 rfl (by omega) (by decide) lc1 (fun j hj => zfl_in0 hj)
  refine zp_iload_n dX11_drawMac_35 rfl ?_
  refine zp_pc (pc' := 36) rfl ?_
  have W10 := zmw.sh hw ((sf9).mono (fun i hi => by unfold zwf; unfold zon at hi; omega)) (zf9) (fun i hi => hi)
  refine zp_drop (ls' := [some (.ref (64)), some (.ref (a)), some (.int (nI (k))), some (.int (nI (A.length))), some (.int (nI (8 * zwb (zod kd)))), none, none]) (fun i v hv => ?_) ?_
  · rcases i with _ | _ | _ | _ | _ | _ | _ | i <;> simp at hv ⊢ <;> exact hv
  have s0 : zsm h hY4 (zsgo a) := (sf9).mono (fun i hi => by unfold zsgo; unfold zon at hi; omega)
  have z0 : zsh h hY4 := zf9
  have V0 := (hV).keep (sf9 _ (by unfold zon; omega))
  have C0 := (hC).keep (sf9 _ (by unfold zon; omega))
  have O0 := (hO).keep (sf9 _ (by unfold zon; omega))
  have kt11 : ∀ (h1 : ZH), zsm h h1 (zsgo a) → zsh h h1 → (∃ mn1, h1 64 = some (.inl (10, [.int (th), .ref (65), .ref (66), .ref (67), .ref (68), .ref (69), .ref (70), .ref (71), .ref (72), .ref (73), .ref (74), .ref (75), .ref (76), .ref (77), .ref (78), .ref (79), .ref (80), .ref (81), .ref (82), .ref (83), .ref (84), .int (nI (wt)), .int (nI (zbi un)), .int (rp), .int (wi), .int (pa), .int (be), .int (ru), .int (sa), .int (me), .int (se), .int (ta), .int (fa), .ref (85), .ref (86), .ref (87), .int (nI (mn1)), .ref (88), .ref (89), .ref (90), .ref (91), .ref (92), .ref (93), .int (nI (tp)), .ref (94), .int (nI (ou))]))) → zar h1 (a + 1) 111 s.2 → zar h1 (a + 2) 111 s.1 → zia h1 94 4096 → zar h1 90 400 A → zP g mX11_drawMac (zR 7 0 0) Qf 0 0 45 [some (.ref (64)), some (.ref (a)), some (.int (nI (k))), some (.int (nI (A.length))), some (.int (nI (8 * zwb (zod kd)))), none, none] [] h1 n := by
    intro h1 s1 z1 o1 V1 C1 hO1 G1
    have W1 := hw.sh s1 z1 (fun i q => by unfold zsgo at q; unfold zwf; omega)
    obtain ⟨mn1, o1⟩ := o1
    obtain ⟨gO, hO1⟩ := hO1
    refine zp_iconst (v := nI (0)) dX11_drawMac_45 (by decide) ?_
    refine zp_istore (ls' := [some (.ref (64)), some (.ref (a)), some (.int (nI (k))), some (.int (nI (A.length))), some (.int (nI (8 * zwb (zod kd)))), some (.int (nI (0))), none]) dX11_drawMac_46 (by decide) rfl ?_
    refine zp_pc (pc' := 48) rfl ?_
    refine zp_ls (ls' := [some (.ref (64)), some (.ref (a)), some (.int (nI (k))), some (.int (nI (A.length))), some (.int (nI (8 * zwb (zod kd)))), some (.int (nI (8 * zwb (zod kd) * 0))), none]) (by rw [Nat.mul_zero]) ?_
    have lp : ∀ (m : Nat) (c : Nat) (h2 : ZH) (go : Nat → Int32), m = k - c → c ≤ k → (c = 0 ∨ 8 * zwb (zod kd) * (c - 1) < k) → zsm h1 h2 (zsm7 a) → zsh h1 h2 → h2 94 = some (.inr (4096, .inl go)) → zar h2 (a + 1) 111 (zmv (zod kd) s.1 s.2 c) → (∀ j, j < k → j < 8 * zwb (zod kd) * c → go j = nI ((zmv (zod kd) s.1 s.2 (j / (8 * zwb (zod kd)) + 1)).getD (j % (8 * zwb (zod kd))) 0)) → zP g mX11_drawMac (zR 7 0 0) Qf 0 0 48 [some (.ref (64)), some (.ref (a)), some (.int (nI (k))), some (.int (nI (A.length))), some (.int (nI (8 * zwb (zod kd)))), some (.int (nI (8 * zwb (zod kd) * c))), none] [] h2 n := by
      intro m
      induction m using Nat.strongRecOn with
      | _ m ih =>
        intro c h2 go hm2 hc2 hcc s2 z2 er V2 egr
        have o2 : h2 64 = some (.inl (10, [.int (th), .ref (65), .ref (66), .ref (67), .ref (68), .ref (69), .ref (70), .ref (71), .ref (72), .ref (73), .ref (74), .ref (75), .ref (76), .ref (77), .ref (78), .ref (79), .ref (80), .ref (81), .ref (82), .ref (83), .ref (84), .int (nI (wt)), .int (nI (zbi un)), .int (rp), .int (wi), .int (pa), .int (be), .int (ru), .int (sa), .int (me), .int (se), .int (ta), .int (fa), .ref (85), .ref (86), .ref (87), .int (nI (mn1)), .ref (88), .ref (89), .ref (90), .ref (91), .ref (92), .ref (93), .int (nI (tp)), .ref (94), .int (nI (ou))])) := (s2 _ (by unfold zsm7; omega)).trans o1
        have g2 : h2 a = some (.inl (9, [.int (nI (zbi tr)), .int (nI (kd)), .int (nI (st)), .int (nI (iv)), .int (nI (zbi rs)), .int (nI (ct)), .int (dr), .int (nI (sd)), .ref (a + 1), .ref (a + 2)])) := (s2 _ (by unfold zsm7; omega)).trans ((s1 _ (by unfold zsgo; omega)).trans hg)
        have W2 := W1.sh s2 z2 (fun i q => by unfold zsm7 at q; unfold zwf; omega)
        have C2 := C1.keep (s2 (a + 2) (by unfold zsm7; omega))
        have G2 := G1.keep (s2 90 (by unfold zsm7; omega))
        have hcB := Nat.mul_le_mul (show 8 * zwb (zod kd) ≤ 64 by omega) (show c ≤ 4096 by omega)
        have hc1 := Nat.mul_le_mul (show 1 ≤ 8 * zwb (zod kd) by omega) (Nat.le_refl c)
        rw [Nat.one_mul] at hc1
        have lv := zmv_len (b := (zod kd)) (K := s.1) ls.2
        refine zp_iload dX11_drawMac_48 rfl ?_
        refine zp_iload_n dX11_drawMac_50 rfl ?_
        refine zp_pc (pc' := 51) rfl ?_
        refine zn_icmp_ge (tgt := 111) dX11_drawMac_51 (by decide) (by omega) (by omega) (fun c51 => ?_) (fun c51 => ?_)
        · have ec : c = zcn k (8 * zwb (zod kd)) := zcn_of (by omega) (by rw [Nat.mul_comm]; omega) (hcc.imp id (fun q => by rw [Nat.mul_comm]; exact q))
          subst ec
          have mc := Nat.mul_comm (8 * zwb (zod kd)) (zcn k (8 * zwb (zod kd)))
          have O2 : zar h2 94 4096 ((zmcat (zod kd) s.1 s.2 (zcn k (8 * zwb (zod kd)))).take k) := zar.mk (L := k) er (by rw [List.length_take, zmcat_len]; omega) hk (by decide) (fun x hx => zmcat_lt _ _ _ _ x (List.mem_of_mem_take hx)) (fun j hj => by rw [ztake_get hj, zmcat_get _ _ _ (by omega)]; exact egr j hj (by omega))
          refine zp_aload_n dX11_drawMac_111 rfl ?_
          refine zp_aload_n dX11_drawMac_112 rfl ?_
          refine zp_iload_n dX11_drawMac_113 rfl ?_
          refine zp_pc (pc' := 114) rfl ?_
          refine zp_callV (As := [.ref (a), .int (nI (A.length))]) (k := 64) (st := []) (ci := 10) dX11_drawMac_114 cX11_261 rfl o2 rfl rfl (e_zmixM W2 o2 g2 ha hkd hk2 hk4 V2 C2 (lv _) ls.1 G2 (by omega)) (by decide) (by decide) (Nat.le_of_ble_eq_true rfl) (fun v12 h12 n12 q12 => ?_)
          obtain ⟨rfl, N12, s12, z12, ⟨mn3, o12⟩, v12, c12⟩ := q12
          rw [N12]
          refine zp_nrm (cells' := 0) (slots' := 0) (st' := []) rfl rfl rfl ?_
          have m13 : h12 (a) = some (.inl (9, [.int (nI (zbi tr)), .int (nI (kd)), .int (nI (st)), .int (nI (iv)), .int (nI (zbi rs)), .int (nI (ct)), .int (dr), .int (nI (sd)), .ref (a + 1), .ref (a + 2)])) := (s12 _ (by unfold zsm9; omega)).trans g2
          have m14 : h12 (94) = some (.inr (4096, .inl go)) := (s12 _ (by unfold zsm9; omega)).trans er
          refine zp_pc (pc' := 117) rfl ?_
          refine zp_ret (v := none) dX11_drawMac_117 ⟨rfl, rfl⟩ (by decide) (by decide) ?_
          rw [hQ]
          exact ⟨rfl, rfl, (s1.trans (s2.mono (fun i hi => by unfold zsgo; unfold zsm7 at hi; omega))).trans ((s12).mono (fun i hi => by unfold zsgo; unfold zsm9 at hi; omega)), (z1.trans z2).trans (z12), ⟨_, o12⟩, (O2).keep (s12 _ (by unfold zsm9; omega)), v12, c12⟩
        · refine zp_aload_n dX11_drawMac_54 rfl ?_
          refine zp_aload_n dX11_drawMac_55 rfl ?_
          refine zp_pc (pc' := 56) rfl ?_
          refine zp_callV (As := [.ref (a)]) (k := 64) (st := []) (ci := 10) dX11_drawMac_56 cX11_257 rfl o2 rfl rfl (e_zstep W2 o2 g2 ha hkd hk2 hk4 V2 C2 (lv _) ls.1) (by decide) (by decide) (Nat.le_of_ble_eq_true rfl) (fun v15 h15 n15 q15 => ?_)
          obtain ⟨rfl, N15, s15, z15, d15⟩ := q15
          rw [N15]
          refine zp_nrm (cells' := 0) (slots' := 0) (st' := []) rfl rfl rfl ?_
          have m16 : h15 (64) = some (.inl (10, [.int (th), .ref (65), .ref (66), .ref (67), .ref (68), .ref (69), .ref (70), .ref (71), .ref (72), .ref (73), .ref (74), .ref (75), .ref (76), .ref (77), .ref (78), .ref (79), .ref (80), .ref (81), .ref (82), .ref (83), .ref (84), .int (nI (wt)), .int (nI (zbi un)), .int (rp), .int (wi), .int (pa), .int (be), .int (ru), .int (sa), .int (me), .int (se), .int (ta), .int (fa), .ref (85), .ref (86), .ref (87), .int (nI (mn1)), .ref (88), .ref (89), .ref (90), .ref (91), .ref (92), .ref (93), .int (nI (tp)), .ref (94), .int (nI (ou))])) := (s15 _ (by unfold zsm8; omega)).trans o2
          have m17 : h15 (a) = some (.inl (9, [.int (nI (zbi tr)), .int (nI (kd)), .int (nI (st)), .int (nI (iv)), .int (nI (zbi rs)), .int (nI (ct)), .int (dr), .int (nI (sd)), .ref (a + 1), .ref (a + 2)])) := (s15 _ (by unfold zsm8; omega)).trans g2
          have m18 : h15 (94) = some (.inr (4096, .inl go)) := (s15 _ (by unfold zsm8; omega)).trans er
          have V3 : zar h15 (a + 1) 111 (zmv (zod kd) s.1 s.2 (c + 1)) := d15
          obtain ⟨la19, lb19, lc19, lf19, ld19, le19⟩ := id V3
          refine zp_iconst (v := nI (0)) dX11_drawMac_59 (by decide) ?_
          refine zp_istore (ls' := [some (.ref (64)), some (.ref (a)), some (.int (nI (k))), some (.int (nI (A.length))), some (.int (nI (8 * zwb (zod kd)))), some (.int (nI (8 * zwb (zod kd) * c))), some (.int (nI (0)))]) dX11_drawMac_60 (by decide) rfl ?_
          refine zp_pc (pc' := 62) rfl ?_
          have lp20 : zP g mX11_drawMac (zR 7 0 0) Qf 0 0 101 [some (.ref (64)), some (.ref (a)), some (.int (nI (k))), some (.int (nI (A.length))), some (.int (nI (8 * zwb (zod kd)))), some (.int (nI (8 * zwb (zod kd) * c))), some (.int (nI (min (8 * zwb (zod kd)) (k - 8 * zwb (zod kd) * c))))] [] (va_up h15 (94) (some (.inr (4096, .inl (zfl go (8 * zwb (zod kd) * c) (min (8 * zwb (zod kd)) (k - 8 * zwb (zod kd) * c)) (fun i => nI ((zmv (zod kd) s.1 s.2 ((8 * zwb (zod kd) * c + i) / (8 * zwb (zod kd)) + 1)).getD ((8 * zwb (zod kd) * c + i) % (8 * zwb (zod kd))) 0))))))) n → ∀ (m k20 : Nat), m = (min (8 * zwb (zod kd)) (k - 8 * zwb (zod kd) * c)) - k20 → k20 ≤ (min (8 * zwb (zod kd)) (k - 8 * zwb (zod kd) * c)) → zP g mX11_drawMac (zR 7 0 0) Qf 0 0 62 [some (.ref (64)), some (.ref (a)), some (.int (nI (k))), some (.int (nI (A.length))), some (.int (nI (8 * zwb (zod kd)))), some (.int (nI (8 * zwb (zod kd) * c))), some (.int (nI (k20)))] [] (va_up h15 (94) (some (.inr (4096, .inl (zfl go (8 * zwb (zod kd) * c) (k20) (fun i => nI ((zmv (zod kd) s.1 s.2 ((8 * zwb (zod kd) * c + i) / (8 * zwb (zod kd)) + 1)).getD ((8 * zwb (zod kd) * c + i) % (8 * zwb (zod kd))) 0))))))) n := by
            intro kk m
            induction m using Nat.strongRecOn with
            | _ m ih =>
              intro k20 hm20 hk20
              refine zp_nh (fun hX20 eX20 => ?_)
              have k21_0 := (congrFun eX20 (64)).trans ((va_up_ne _ _ (by omega)).trans m16)
              have k21_1 := (congrFun eX20 (a)).trans ((va_up_ne _ _ (by omega)).trans m17)
              have k21_2 : hX20 (94) = some (.inr (4096, .inl (zfl go (8 * zwb (zod kd) * c) (k20) (fun i => nI ((zmv (zod kd) s.1 s.2 ((8 * zwb (zod kd) * c + i) / (8 * zwb (zod kd)) + 1)).getD ((8 * zwb (zod kd) * c + i) % (8 * zwb (zod kd))) 0))))) := by rw [eX20]; exact va_up_self _ _ _
              have k21_3 := (congrFun eX20 (a + 1)).trans ((va_up_ne _ _ (by omega)).trans ld19)
              refine zp_iload dX11_drawMac_62 rfl ?_
              refine zp_iload dX11_drawMac_64 rfl ?_
              refine zp_pc (pc' := 66) rfl ?_
              refine zn_icmp_ge (tgt := 101) dX11_drawMac_66 (by decide) (by omega) (by omega) (fun c66 => ?_) (fun c66 => ?_)
              · have e20 : k20 = (min (8 * zwb (zod kd)) (k - 8 * zwb (zod kd) * c)) := by omega
                subst e20
                rw [eX20]
                exact kk
              · refine zp_iload dX11_drawMac_69 rfl ?_
                refine zp_iload dX11_drawMac_71 rfl ?_
                refine zn_iadd dX11_drawMac_73 ?_
                refine zp_iload_n dX11_drawMac_74 rfl ?_
                refine zp_pc (pc' := 75) rfl ?_
                refine zn_icmp_ge (tgt := 101) dX11_drawMac_75 (by decide) (by omega) (by omega) (fun c75 => ?_) (fun c75 => ?_)
                · have e20 : k20 = (min (8 * zwb (zod kd)) (k - 8 * zwb (zod kd) * c)) := by omega
                  subst e20
                  rw [eX20]
                  exact kk
                · refine zp_aload_n dX11_drawMac_78 rfl ?_
                  refine zp_get dX11_drawMac_79 gX11_117_10 k21_0 rfl ?_
                  refine zp_iload dX11_drawMac_82 rfl ?_
                  refine zp_iload dX11_drawMac_84 rfl ?_
                  refine zn_iadd dX11_drawMac_86 ?_
                  refine zp_aload_n dX11_drawMac_87 rfl ?_
                  refine zp_get dX11_drawMac_88 gX11_226_9 k21_1 rfl ?_
                  refine zp_iload dX11_drawMac_91 rfl ?_
                  refine zp_pc (pc' := 93) rfl ?_
                  refine zn_iald (j := k20) dX11_drawMac_93 k21_3 (by omega) (by omega) ?_
                  refine zp_i (y := nI ((zmv (zod kd) s.1 s.2 ((8 * zwb (zod kd) * c + k20) / (8 * zwb (zod kd)) + 1)).getD ((8 * zwb (zod kd) * c + k20) % (8 * zwb (zod kd))) 0)) (by rw [le19 _ (by rw [lv]; omega), Nat.mul_add_div (by omega), Nat.mul_add_mod, Nat.div_eq_of_lt (show k20 < 8 * zwb (zod kd) by omega), Nat.mod_eq_of_lt (show k20 < 8 * zwb (zod kd) by omega), Nat.add_zero]) ?_
                  refine zn_iast dX11_drawMac_94 (by omega) k21_2 (by omega) (by omega) ?_
                  refine zp_nh (fun h22x eh22x => ?_)
                  have k22_0 := (congrFun eh22x (64)).trans ((va_up_ne _ _ (by omega)).trans k21_0)
                  have k22_1 := (congrFun eh22x (a)).trans ((va_up_ne _ _ (by omega)).trans k21_1)
                  have k22_2 : h22x (94) = some (.inr (4096, .inl (va_up (zfl go (8 * zwb (zod kd) * c) (k20) (fun i => nI ((zmv (zod kd) s.1 s.2 ((8 * zwb (zod kd) * c + i) / (8 * zwb (zod kd)) + 1)).getD ((8 * zwb (zod kd) * c + i) % (8 * zwb (zod kd))) 0))) ((8 * zwb (zod kd) * c) + (k20)) (nI ((zmv (zod kd) s.1 s.2 ((8 * zwb (zod kd) * c + k20) / (8 * zwb (zod kd)) + 1)).getD ((8 * zwb (zod kd) * c + k20) % (8 * zwb (zod kd))) 0))))) := by rw [eh22x]; exact va_up_self _ _ _
                  have k22_3 := (congrFun eh22x (a + 1)).trans ((va_up_ne _ _ (by omega)).trans k21_3)
                  have sw23 : zsm hX20 h22x (zon (94)) := zsm.rf.up eh22x rfl
                  have zw23 : zsh hX20 h22x := zsh.fill eh22x k21_2
                  refine zp_pc (pc' := 95) rfl ?_
                  refine zn_iinc 1 (ls' := [some (.ref (64)), some (.ref (a)), some (.int (nI (k))), some (.int (nI (A.length))), some (.int (nI (8 * zwb (zod kd)))), some (.int (nI (8 * zwb (zod kd) * c))), some (.int (nI (k20 + 1)))]) dX11_drawMac_95 (by decide) (by decide) rfl rfl ?_
                  refine zp_goto (tgt := 62) dX11_drawMac_98 (by decide) ?_
                  refine zp_pc (pc' := 62) rfl ?_
                  rw [zfl_step eX20 eh22x (by omega) rfl]
                  exact ih ((min (8 * zwb (zod kd)) (k - 8 * zwb (zod kd) * c)) - (k20 + 1)) (by omega) (k20 + 1) rfl (by omega)
          suffices K20 : zP g mX11_drawMac (zR 7 0 0) Qf 0 0 101 [some (.ref (64)), some (.ref (a)), some (.int (nI (k))), some (.int (nI (A.length))), some (.int (nI (8 * zwb (zod kd)))), some (.int (nI (8 * zwb (zod kd) * c))), some (.int (nI (min (8 * zwb (zod kd)) (k - 8 * zwb (zod kd) * c))))] [] (va_up h15 (94) (some (.inr (4096, .inl (zfl go (8 * zwb (zod kd) * c) (min (8 * zwb (zod kd)) (k - 8 * zwb (zod kd) * c)) (fun i => nI ((zmv (zod kd) s.1 s.2 ((8 * zwb (zod kd) * c + i) / (8 * zwb (zod kd)) + 1)).getD ((8 * zwb (zod kd) * c + i) % (8 * zwb (zod kd))) 0))))))) n by
            have q := lp20 K20 ((min (8 * zwb (zod kd)) (k - 8 * zwb (zod kd) * c)) - 0) 0 rfl (Nat.zero_le _)
            rw [zfl_0, zup_same m18] at q
            exact q
          refine zp_nh (fun hY20 eY20 => ?_)
          have k24_0 := (congrFun eY20 (64)).trans ((va_up_ne _ _ (by omega)).trans m16)
          have k24_1 := (congrFun eY20 (a)).trans ((va_up_ne _ _ (by omega)).trans m17)
          have k24_2 : hY20 (94) = some (.inr (4096, .inl (zfl go (8 * zwb (zod kd) * c) (min (8 * zwb (zod kd)) (k - 8 * zwb (zod kd) * c)) (fun i => nI ((zmv (zod kd) s.1 s.2 ((8 * zwb (zod kd) * c + i) / (8 * zwb (zod kd)) + 1)).getD ((8 * zwb (zod kd) * c + i) % (8 * zwb (zod kd))) 0))))) := by rw [eY20]; exact va_up_self _ _ _
          have k24_3 := (congrFun eY20 (a + 1)).trans ((va_up_ne _ _ (by omega)).trans ld19)
          have sf25 := (zsm.fill eY20)
          have zf25 := zsh.fill eY20 m18
          refine zp_iload dX11_drawMac_101 rfl ?_
          refine zp_iload dX11_drawMac_103 rfl ?_
          refine zn_iadd dX11_drawMac_105 ?_
          refine zp_istore (ls' := [some (.ref (64)), some (.ref (a)), some (.int (nI (k))), some (.int (nI (A.length))), some (.int (nI (8 * zwb (zod kd)))), some (.int (nI ((8 * zwb (zod kd) * c) + (8 * zwb (zod kd))))), some (.int (nI (min (8 * zwb (zod kd)) (k - 8 * zwb (zod kd) * c))))]) dX11_drawMac_106 (by decide) rfl ?_
          refine zp_pc (pc' := 108) rfl ?_
          refine zp_ls (ls' := [some (.ref (64)), some (.ref (a)), some (.int (nI (k))), some (.int (nI (A.length))), some (.int (nI (8 * zwb (zod kd)))), some (.int (nI (8 * zwb (zod kd) * (c + 1)))), some (.int (nI (min (8 * zwb (zod kd)) (k - 8 * zwb (zod kd) * c))))]) (by rw [Nat.mul_add, Nat.mul_one]) ?_
          refine zp_goto (tgt := 48) dX11_drawMac_108 (by decide) ?_
          refine zp_pc (pc' := 48) rfl ?_
          refine zp_drop (ls' := [some (.ref (64)), some (.ref (a)), some (.int (nI (k))), some (.int (nI (A.length))), some (.int (nI (8 * zwb (zod kd)))), some (.int (nI (8 * zwb (zod kd) * (c + 1)))), none]) (fun i v hv => ?_) ?_
          · rcases i with _ | _ | _ | _ | _ | _ | _ | i <;> simp at hv ⊢ <;> exact hv
          refine ih (k - (c + 1)) (by omega) (c + 1) hY20 _ rfl (by omega) (Or.inr (by rw [Nat.add_sub_cancel]; omega)) (s2.trans (((s15).mono (fun i hi => by unfold zsm7; unfold zsm8 at hi; omega)).trans ((sf25).mono (fun i hi => by unfold zsm7; unfold zon at hi; omega)))) (z2.trans ((z15).trans zf25)) k24_2 (V3.keep (sf25 _ (by unfold zon; omega))) (fun j hj hj2 => ?_)
          rw [Nat.mul_add, Nat.mul_one] at hj2
          rcases Nat.lt_or_ge j (8 * zwb (zod kd) * c) with q | q
          · rw [zfl_out (Or.inl q)]; exact egr j hj q
          · obtain ⟨d, rfl⟩ := Nat.exists_eq_add_of_le q
            rw [zfl_in (by omega)]
    exact lp _ 0 h1 gO rfl (Nat.zero_le _) (Or.inl rfl) zsm.rf zsh.rf hO1 V1 (fun j _ hj => absurd hj (by omega))
  refine zn_if_le (tgt := 45) dX11_drawMac_36 (by decide) (by omega) (fun c36 => ?_) (fun c36 => ?_)
  · exact kt11 hY4 s0 z0 ⟨_, k8_0⟩ (by rw [es, if_neg (by omega)]; exact V0) (by rw [es, if_neg (by omega)]; exact C0) O0 aG
  · refine zp_aload_n dX11_drawMac_39 rfl ?_
    refine zp_aload_n dX11_drawMac_40 rfl ?_
    refine zp_iload_n dX11_drawMac_41 rfl ?_
    refine zp_pc (pc' := 42) rfl ?_
    refine zp_callV (As := [.ref (a), .int (nI (A.length))]) (k := 64) (st := []) (ci := 10) dX11_drawMac_42 cX11_261 rfl k8_0 rfl rfl (e_zmixM W10 k8_0 k8_1 ha hkd hk2 hk4 V0 C0 lV lC aG (by omega)) (by decide) (by decide) (Nat.le_of_ble_eq_true rfl) (fun v26 h26 n26 q26 => ?_)
    obtain ⟨rfl, N26, s26, z26, ⟨mn3, o26⟩, v26, c26⟩ := q26
    rw [N26]
    refine zp_nrm (cells' := 0) (slots' := 0) (st' := []) rfl rfl rfl ?_
    have m27 : h26 (a) = some (.inl (9, [.int (nI (zbi tr)), .int (nI (kd)), .int (nI (st)), .int (nI (iv)), .int (nI (zbi rs)), .int (nI (ct)), .int (dr), .int (nI (sd)), .ref (a + 1), .ref (a + 2)])) := (s26 _ (by unfold zsm9; omega)).trans k8_1
    have m28 : h26 (93) = some (.inr (240, .inl lf1)) := (s26 _ (by unfold zsm9; omega)).trans k8_2
    have m29 : h26 (90) = some (.inr (400, .inl (zfl if2 (0) (A.length) (fun i => nI (A.getD i 0))))) := (s26 _ (by unfold zsm9; omega)).trans k8_3
    refine zp_pc (pc' := 45) rfl ?_
    exact kt11 h26 (s0.trans (s26.mono (fun i hi => by unfold zsgo; unfold zsm9 at hi; omega))) (z0.trans z26) ⟨_, o26⟩ (by rw [es, if_pos c36]; exact v26) (by rw [es, if_pos c36]; exact c26) (O0.keep (s26 _ (by unfold zsm9; omega))) (aG.keep (s26 _ (by unfold zsm9; omega)))
