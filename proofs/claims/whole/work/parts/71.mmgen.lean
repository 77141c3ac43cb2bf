theorem zmac_lt (b : Bool) (k m : List Nat) : ∀ x ∈ zmac b k m, x < 256 := zhash_lt _ _
theorem zmacN {kd : Nat} (h : kd < 8) (h2 : 2 ≤ kd) (h4 : kd < 4) : zsd kd = 8 * zwb (zod kd) := by
  have : kd = 2 ∨ kd = 3 := by omega
  rcases this with rfl | rfl <;> rfl
theorem zmcat_get (b : Bool) (K V : List Nat) {c j : Nat} (hj : j < c * (8 * zwb b)) : (zmcat b K V c).getD j 0 = (zmv b K V (j / (8 * zwb b) + 1)).getD (j % (8 * zwb b)) 0 := by
  unfold zmcat
  exact zflat_getD _ (8 * zwb b) (by have := zwb_or b; omega) (fun k => zmac_len _ _ _) _ _ hj
theorem zmcat_lt (b : Bool) (K V : List Nat) (c : Nat) : ∀ x ∈ zmcat b K V c, x < 256 := fun x h => by
  obtain ⟨i, -, h2⟩ := List.mem_flatMap.mp h
  exact zmac_lt _ _ _ x h2
theorem zmv_lt {b : Bool} {K V : List Nat} (h : ∀ x ∈ V, x < 256) : ∀ i, ∀ x ∈ zmv b K V i, x < 256
  | 0 => h
  | _ + 1 => zmac_lt _ _ _
abbrev zsm9 (a : Nat) : Nat → Prop := fun i => i = 64 ∨ (70 ≤ i ∧ i ≤ 75) ∨ i = 87 ∨ i = a + 1 ∨ i = a + 2
abbrev zsm8 (a : Nat) : Nat → Prop := fun i => (70 ≤ i ∧ i ≤ 75) ∨ i = a + 1
abbrev zsm7 (a : Nat) : Nat → Prop := fun i => (70 ≤ i ∧ i ≤ 75) ∨ i = a + 1 ∨ i = 94
set_option maxRecDepth 10000 in
set_option maxHeartbeats 2000000 in
theorem e_zstep {g : ZG} {h : ZH} {n : Nat} {a kd st iv ct sd : Nat} {tr rs : Bool} {dr : Int32} {V C : List Nat} {th : Int32} {wt : Nat} {un : Bool} {rp wi pa be ru sa me se ta fa : Int32} {mn tp ou : Nat} (hw : zmw h) (ho : h 64 = some (.inl (10, [.int (th), .ref (65), .ref (66), .ref (67), .ref (68), .ref (69), .ref (70), .ref (71), .ref (72), .ref (73), .ref (74), .ref (75), .ref (76), .ref (77), .ref (78), .ref (79), .ref (80), .ref (81), .ref (82), .ref (83), .ref (84), .int (nI (wt)), .int (nI (zbi un)), .int (rp), .int (wi), .int (pa), .int (be), .int (ru), .int (sa), .int (me), .int (se), .int (ta), .int (fa), .ref (85), .ref (86), .ref (87), .int (nI (mn)), .ref (88), .ref (89), .ref (90), .ref (91), .ref (92), .ref (93), .int (nI (tp)), .ref (94), .int (nI (ou))]))) (hg : h a = some (.inl (9, [.int (nI (zbi tr)), .int (nI (kd)), .int (nI (st)), .int (nI (iv)), .int (nI (zbi rs)), .int (nI (ct)), .int (dr), .int (nI (sd)), .ref (a + 1), .ref (a + 2)]))) (ha : a = 95 ∨ a = 98 ∨ a = 101 ∨ a = 104) (hkd : kd < 8) (hk2 : 2 ≤ kd) (hk4 : kd < 4) (hV : zar h (a + 1) 111 V) (hC : zar h (a + 2) 111 C) (lV : V.length = 8 * zwb (zod kd)) (lC : C.length = 8 * zwb (zod kd)) : zMt g mX11_step (zR 5 0 0) [.ref (64), .ref (a)] h n (fun v h' n' => v = none ∧ n' = n ∧ zsm h h' (zsm8 a) ∧ zsh h h' ∧ zar h' (a + 1) 111 (zmac (zod kd) C V)) := by
  refine zMt.of [some (.ref (64)), some (.ref (a)), none] (by decide) rfl (Nat.le_of_ble_eq_true rfl) ?_
  obtain ⟨Qf, hQ⟩ : ∃ Qf : ZQ, Qf = (fun v h' n' => v = none ∧ n' = n ∧ zsm h h' (zsm8 a) ∧ zsh h h' ∧ zar h' (a + 1) 111 (zmac (zod kd) C V)) := ⟨_, rfl⟩
  rw [← hQ]
  have hgr := zgr_odd hk4
  have hs := zsd_le hkd
  have hsd := zmacN hkd hk2 hk4
  have hz := zwb_or (zod kd)
  refine zp_aload_n dX11_step_0 rfl ?_
  refine zp_aload_n dX11_step_1 rfl ?_
  refine zp_callV (As := []) (k := a) (st := [.ref (64)]) (ci := 9) dX11_step_2 cX11_235 rfl hg rfl rfl (e_zgreat hg hkd) (by decide) (by decide) (Nat.le_of_ble_eq_true rfl) (fun v101 h101 n101 q101 => ?_)
  obtain ⟨rfl, H101, N101⟩ := q101
  rw [N101, H101]
  refine zp_nrm (cells' := 0) (slots' := 0) (st' := [.int (nI (zbi (zgr kd))), .ref (64)]) rfl rfl rfl ?_
  refine zp_i (y := nI (zbi (zod kd))) (by rw [hgr]) ?_
  refine zp_aload_n dX11_step_5 rfl ?_
  refine zp_get dX11_step_6 gX11_243_9 hg rfl ?_
  refine zp_aload_n dX11_step_9 rfl ?_
  refine zp_get dX11_step_10 gX11_226_9 hg rfl ?_
  refine zp_aload_n dX11_step_13 rfl ?_
  refine zp_pc (pc' := 14) rfl ?_
  refine zp_callV (As := []) (k := a) (st := [.ref (a + 1), .ref (a + 2), .int (nI (zbi (zod kd))), .ref (64)]) (ci := 9) dX11_step_14 cX11_229 rfl hg rfl rfl (e_zseed hg hkd) (by decide) (by decide) (Nat.le_of_ble_eq_true rfl) (fun v102 h102 n102 q102 => ?_)
  obtain ⟨rfl, H102, N102⟩ := q102
  rw [N102, H102]
  refine zp_nrm (cells' := 0) (slots' := 0) (st' := [.int (nI (zsd kd)), .ref (a + 1), .ref (a + 2), .int (nI (zbi (zod kd))), .ref (64)]) rfl rfl rfl ?_
  refine zp_i (y := nI (V.length)) (by rw [hsd, lV]) ?_
  refine zp_callV (As := [.int (nI (zbi (zod kd))), .ref (a + 2), .ref (a + 1), .int (nI (V.length))]) (k := 64) (st := []) (ci := 10) dX11_step_17 cX11_253 rfl ho rfl rfl (e_mmacW (b := (zod kd)) hw ho hC hV (by omega) (by omega) lC (by omega)) (by decide) (by decide) (Nat.le_of_ble_eq_true rfl) (fun v103 h103 n103 q103 => ?_)
  obtain ⟨rfl, N103, s103, z103, d103⟩ := q103
  rw [N103]
  refine zp_nrm (cells' := 0) (slots' := 0) (st' := []) rfl rfl rfl ?_
  have m104 : h103 (64) = some (.inl (10, [.int (th), .ref (65), .ref (66), .ref (67), .ref (68), .ref (69), .ref (70), .ref (71), .ref (72), .ref (73), .ref (74), .ref (75), .ref (76), .ref (77), .ref (78), .ref (79), .ref (80), .ref (81), .ref (82), .ref (83), .ref (84), .int (nI (wt)), .int (nI (zbi un)), .int (rp), .int (wi), .int (pa), .int (be), .int (ru), .int (sa), .int (me), .int (se), .int (ta), .int (fa), .ref (85), .ref (86), .ref (87), .int (nI (mn)), .ref (88), .ref (89), .ref (90), .ref (91), .ref (92), .ref (93), .int (nI (tp)), .ref (94), .int (nI (ou))])) := (s103 _ (by unfold zb3; omega)).trans ho
  have m105 : h103 (a) = some (.inl (9, [.int (nI (zbi tr)), .int (nI (kd)), .int (nI (st)), .int (nI (iv)), .int (nI (zbi rs)), .int (nI (ct)), .int (dr), .int (nI (sd)), .ref (a + 1), .ref (a + 2)])) := (s103 _ (by unfold zb3; omega)).trans hg
  have lD := zmac_len (zod kd) C V
  obtain ⟨la106, lb106, lc106, lf106, ld106, le106⟩ := id d103
  obtain ⟨if107, ih107⟩ := id ((hV.keep (s103 _ (by unfold zb3; omega))).ia)
  refine zp_iconst (v := nI (0)) dX11_step_20 (by decide) ?_
  refine zp_istore_n (ls' := [some (.ref (64)), some (.ref (a)), some (.int (nI (0)))]) dX11_step_21 (by decide) rfl ?_
  refine zp_pc (pc' := 22) rfl ?_
  have lp108 : zP g mX11_step (zR 5 0 0) Qf 0 0 48 [some (.ref (64)), some (.ref (a)), some (.int (nI (zsd kd)))] [] (va_up h103 (a + 1) (some (.inr (111, .inl (zfl if107 (0) (zsd kd) (fun i => nI ((zmac (zod kd) C V).getD i 0))))))) n → ∀ (m k108 : Nat), m = (zsd kd) - k108 → k108 ≤ (zsd kd) → zP g mX11_step (zR 5 0 0) Qf 0 0 22 [some (.ref (64)), some (.ref (a)), some (.int (nI (k108)))] [] (va_up h103 (a + 1) (some (.inr (111, .inl (zfl if107 (0) (k108) (fun i => nI ((zmac (zod kd) C V).getD i 0))))))) n := by
    intro kk m
    induction m using Nat.strongRecOn with
    | _ m ih =>
      intro k108 hm108 hk108
      refine zp_nh (fun hX108 eX108 => ?_)
      have k109_0 := (congrFun eX108 (64)).trans ((va_up_ne _ _ (by omega)).trans m104)
      have k109_1 := (congrFun eX108 (a)).trans ((va_up_ne _ _ (by omega)).trans m105)
      have k109_2 := (congrFun eX108 (74)).trans ((va_up_ne _ _ (by omega)).trans ld106)
      have k109_3 : hX108 (a + 1) = some (.inr (111, .inl (zfl if107 (0) (k108) (fun i => nI ((zmac (zod kd) C V).getD i 0))))) := by rw [eX108]; exact va_up_self _ _ _
      refine zp_iload_n dX11_step_22 rfl ?_
      refine zp_aload_n dX11_step_23 rfl ?_
      refine zp_callV (As := []) (k := a) (st := [.int (nI (k108))]) (ci := 9) dX11_step_24 cX11_229 rfl k109_1 rfl rfl (e_zseed k109_1 hkd) (by decide) (by decide) (Nat.le_of_ble_eq_true rfl) (fun v110 h110 n110 q110 => ?_)
      obtain ⟨rfl, H110, N110⟩ := q110
      rw [N110, H110]
      refine zp_nrm (cells' := 0) (slots' := 0) (st' := [.int (nI (zsd kd)), .int (nI (k108))]) rfl rfl rfl ?_
      refine zp_pc (pc' := 27) rfl ?_
      refine zn_icmp_ge (tgt := 48) dX11_step_27 (by decide) (by omega) (by omega) (fun c27 => ?_) (fun c27 => ?_)
      · have e108 : k108 = (zsd kd) := by omega
        subst e108
        rw [eX108]
        exact kk
      · refine zp_aload_n dX11_step_30 rfl ?_
        refine zp_get dX11_step_31 gX11_226_9 k109_1 rfl ?_
        refine zp_iload_n dX11_step_34 rfl ?_
        refine zp_aload_n dX11_step_35 rfl ?_
        refine zp_get dX11_step_36 gX11_38_10 k109_0 rfl ?_
        refine zp_iload_n dX11_step_39 rfl ?_
        refine zp_pc (pc' := 40) rfl ?_
        refine zn_iald (j := k108) dX11_step_40 k109_2 (by omega) (by omega) ?_
        refine zp_i (y := nI ((zmac (zod kd) C V).getD k108 0)) (le106 _ (by omega)) ?_
        refine zn_iast dX11_step_41 (by omega) k109_3 (by omega) (by omega) ?_
        refine zp_nh (fun h111x eh111x => ?_)
        have k111_0 := (congrFun eh111x (64)).trans ((va_up_ne _ _ (by omega)).trans k109_0)
        have k111_1 := (congrFun eh111x (a)).trans ((va_up_ne _ _ (by omega)).trans k109_1)
        have k111_2 := (congrFun eh111x (74)).trans ((va_up_ne _ _ (by omega)).trans k109_2)
        have k111_3 : h111x (a + 1) = some (.inr (111, .inl (va_up (zfl if107 (0) (k108) (fun i => nI ((zmac (zod kd) C V).getD i 0))) (k108) (nI ((zmac (zod kd) C V).getD k108 0))))) := by rw [eh111x]; exact va_up_self _ _ _
        have sw112 : zsm hX108 h111x (zon (a + 1)) := zsm.rf.up eh111x rfl
        have zw112 : zsh hX108 h111x := zsh.fill eh111x k109_3
        refine zp_pc (pc' := 42) rfl ?_
        refine zn_iinc 1 (ls' := [some (.ref (64)), some (.ref (a)), some (.int (nI (k108 + 1)))]) dX11_step_42 (by decide) (by decide) rfl rfl ?_
        refine zp_goto (tgt := 22) dX11_step_45 (by decide) ?_
        refine zp_pc (pc' := 22) rfl ?_
        rw [zfl_step eX108 eh111x (by omega) rfl]
        exact ih ((zsd kd) - (k108 + 1)) (by omega) (k108 + 1) rfl (by omega)
  suffices K108 : zP g mX11_step (zR 5 0 0) Qf 0 0 48 [some (.ref (64)), some (.ref (a)), some (.int (nI (zsd kd)))] [] (va_up h103 (a + 1) (some (.inr (111, .inl (zfl if107 (0) (zsd kd) (fun i => nI ((zmac (zod kd) C V).getD i 0))))))) n by
    have q := lp108 K108 ((zsd kd) - 0) 0 rfl (Nat.zero_le _)
    rw [zfl_0, zup_same ih107] at q
    exact q
  refine zp_nh (fun hY108 eY108 => ?_)
  have k113_0 := (congrFun eY108 (64)).trans ((va_up_ne _ _ (by omega)).trans m104)
  have k113_1 := (congrFun eY108 (a)).trans ((va_up_ne _ _ (by omega)).trans m105)
  have k113_2 := (congrFun eY108 (74)).trans ((va_up_ne _ _ (by omega)).trans ld106)
  have k113_3 : hY108 (a + 1) = some (.inr (111, .inl (zfl if107 (0) (zsd kd) (fun i => nI ((zmac (zod kd) C V).getD i 0))))) := by rw [eY108]; exact va_up_self _ _ _
  have sf114 := (zsm.fill eY108)
  have zf114 := zsh.fill eY108 ih107
  refine zp_pc (pc' := 48) rfl ?_
  refine zp_ret (v := none) dX11_step_48 ⟨rfl, rfl⟩ (by decide) (by decide) ?_
  rw [hQ]
  exact ⟨rfl, rfl, ((s103).mono (fun i hi => by unfold zsm8; unfold zb3 at hi; omega)).trans ((sf114).mono (fun i hi => by unfold zsm8; unfold zon at hi; omega)), (z103).trans zf114, zar.mk (L := zsd kd) k113_3 (by rw [lD, hsd]) (by omega) (by decide) lc106 (fun j hj => zfl_in0 hj)⟩
set_option maxRecDepth 10000 in
set_option maxHeartbeats 2000000 in
theorem e_zmixM {g : ZG} {h : ZH} {n : Nat} {a kd st iv ct sd : Nat} {tr rs : Bool} {dr : Int32} {V C M : List Nat} {th : Int32} {wt : Nat} {un : Bool} {rp wi pa be ru sa me se ta fa : Int32} {mn tp ou : Nat} (hw : zmw h) (ho : h 64 = some (.inl (10, [.int (th), .ref (65), .ref (66), .ref (67), .ref (68), .ref (69), .ref (70), .ref (71), .ref (72), .ref (73), .ref (74), .ref (75), .ref (76), .ref (77), .ref (78), .ref (79), .ref (80), .ref (81), .ref (82), .ref (83), .ref (84), .int (nI (wt)), .int (nI (zbi un)), .int (rp), .int (wi), .int (pa), .int (be), .int (ru), .int (sa), .int (me), .int (se), .int (ta), .int (fa), .ref (85), .ref (86), .ref (87), .int (nI (mn)), .ref (88), .ref (89), .ref (90), .ref (91), .ref (92), .ref (93), .int (nI (tp)), .ref (94), .int (nI (ou))]))) (hg : h a = some (.inl (9, [.int (nI (zbi tr)), .int (nI (kd)), .int (nI (st)), .int (nI (iv)), .int (nI (zbi rs)), .int (nI (ct)), .int (dr), .int (nI (sd)), .ref (a + 1), .ref (a + 2)]))) (ha : a = 95 ∨ a = 98 ∨ a = 101 ∨ a = 104) (hkd : kd < 8) (hk2 : 2 ≤ kd) (hk4 : kd < 4) (hV : zar h (a + 1) 111 V) (hC : zar h (a + 2) 111 C) (lV : V.length = 8 * zwb (zod kd)) (lC : C.length = 8 * zwb (zod kd)) (hM : zar h 90 400 M) (lM : M.length ≤ 350) : zMt g mX11_mixMac (zR 6 0 0) [.ref (64), .ref (a), .int (nI (M.length))] h n (fun v h' n' => v = none ∧ n' = n ∧ zsm h h' (zsm9 a) ∧ zsh h h' ∧ (∃ mn', h' 64 = some (.inl (10, [.int (th), .ref (65), .ref (66), .ref (67), .ref (68), .ref (69), .ref (70), .ref (71), .ref (72), .ref (73), .ref (74), .ref (75), .ref (76), .ref (77), .ref (78), .ref (79), .ref (80), .ref (81), .ref (82), .ref (83), .ref (84), .int (nI (wt)), .int (nI (zbi un)), .int (rp), .int (wi), .int (pa), .int (be), .int (ru), .int (sa), .int (me), .int (se), .int (ta), .int (fa), .ref (85), .ref (86), .ref (87), .int (nI (mn')), .ref (88), .ref (89), .ref (90), .ref (91), .ref (92), .ref (93), .int (nI (tp)), .ref (94), .int (nI (ou))]))) ∧ zar h' (a + 1) 111 (zmix (zod kd) M (C, V)).2 ∧ zar h' (a + 2) 111 (zmix (zod kd) M (C, V)).1) := by
  refine zMt.of [some (.ref (64)), some (.ref (a)), some (.int (nI (M.length))), none, none, none] (by decide) rfl (Nat.le_of_ble_eq_true rfl) ?_
  obtain ⟨Qf, hQ⟩ : ∃ Qf : ZQ, Qf = (fun v h' n' => v = none ∧ n' = n ∧ zsm h h' (zsm9 a) ∧ zsh h h' ∧ (∃ mn', h' 64 = some (.inl (10, [.int (th), .ref (65), .ref (66), .ref (67), .ref (68), .ref (69), .ref (70), .ref (71), .ref (72), .ref (73), .ref (74), .ref (75), .ref (76), .ref (77), .ref (78), .ref (79), .ref (80), .ref (81), .ref (82), .ref (83), .ref (84), .int (nI (wt)), .int (nI (zbi un)), .int (rp), .int (wi), .int (pa), .int (be), .int (ru), .int (sa), .int (me), .int (se), .int (ta), .int (fa), .ref (85), .ref (86), .ref (87), .int (nI (mn')), .ref (88), .ref (89), .ref (90), .ref (91), .ref (92), .ref (93), .int (nI (tp)), .ref (94), .int (nI (ou))]))) ∧ zar h' (a + 1) 111 (zmix (zod kd) M (C, V)).2 ∧ zar h' (a + 2) 111 (zmix (zod kd) M (C, V)).1) := ⟨_, rfl⟩
  rw [← hQ]
  have hgr := zgr_odd hk4
  have hs := zsd_le hkd
  have hsd := zmacN hkd hk2 hk4
  have hz := zwb_or (zod kd)
  obtain ⟨R, eR⟩ : ∃ R : Nat, R = if 0 < M.length then 2 else 1 := ⟨_, rfl⟩
  have hR : R ≤ 2 := by rw [eR]; split <;> omega
  have eZ : (zmix (zod kd) M (C, V)) = zmi (zod kd) M (C, V) R := by rw [eR]; rfl
  rw [eZ] at hQ
  refine zp_aload_n dX11_mixMac_0 rfl ?_
  refine zp_callV (As := []) (k := a) (st := []) (ci := 9) dX11_mixMac_1 cX11_229 rfl hg rfl rfl (e_zseed hg hkd) (by decide) (by decide) (Nat.le_of_ble_eq_true rfl) (fun v101 h101 n101 q101 => ?_)
  obtain ⟨rfl, H101, N101⟩ := q101
  rw [N101, H101]
  refine zp_nrm (cells' := 0) (slots' := 0) (st' := [.int (nI (zsd kd))]) rfl rfl rfl ?_
  refine zp_istore_n (ls' := [some (.ref (64)), some (.ref (a)), some (.int (nI (M.length))), some (.int (nI (zsd kd))), none, none]) dX11_mixMac_4 (by decide) rfl ?_
  refine zp_iconst (v := nI (0)) dX11_mixMac_5 (by decide) ?_
  refine zp_istore (ls' := [some (.ref (64)), some (.ref (a)), some (.int (nI (M.length))), some (.int (nI (zsd kd))), some (.int (nI (0))), none]) dX11_mixMac_6 (by decide) rfl ?_
  refine zp_pc (pc' := 8) rfl ?_
  have lp : ∀ (m : Nat) (c : Nat) (h1 : ZH), m = R - c → c ≤ R → zsm h h1 (zsm9 a) → zsh h h1 → (∃ mn1, h1 64 = some (.inl (10, [.int (th), .ref (65), .ref (66), .ref (67), .ref (68), .ref (69), .ref (70), .ref (71), .ref (72), .ref (73), .ref (74), .ref (75), .ref (76), .ref (77), .ref (78), .ref (79), .ref (80), .ref (81), .ref (82), .ref (83), .ref (84), .int (nI (wt)), .int (nI (zbi un)), .int (rp), .int (wi), .int (pa), .int (be), .int (ru), .int (sa), .int (me), .int (se), .int (ta), .int (fa), .ref (85), .ref (86), .ref (87), .int (nI (mn1)), .ref (88), .ref (89), .ref (90), .ref (91), .ref (92), .ref (93), .int (nI (tp)), .ref (94), .int (nI (ou))]))) → zar h1 (a + 1) 111 (zmi (zod kd) M (C, V) c).2 → zar h1 (a + 2) 111 (zmi (zod kd) M (C, V) c).1 → zP g mX11_mixMac (zR 6 0 0) Qf 0 0 8 [some (.ref (64)), some (.ref (a)), some (.int (nI (M.length))), some (.int (nI (zsd kd))), some (.int (nI (c))), none] [] h1 n := by
    intro m
    induction m using Nat.strongRecOn with
    | _ m ih =>
      intro c h1 hm1 hc1 s1 z1 o1 V1 C1
      obtain ⟨mn1, o1⟩ := o1
      have g1 : h1 a = some (.inl (9, [.int (nI (zbi tr)), .int (nI (kd)), .int (nI (st)), .int (nI (iv)), .int (nI (zbi rs)), .int (nI (ct)), .int (dr), .int (nI (sd)), .ref (a + 1), .ref (a + 2)])) := (s1 _ (by unfold zsm9; omega)).trans hg
      have W1 := hw.sh s1 z1 (fun i q => by unfold zsm9 at q; unfold zwf; omega)
      have M1 := hM.keep (s1 90 (by unfold zsm9; omega))
      obtain ⟨l1, l2⟩ := zmi_len (b := (zod kd)) (m := M) (s := (C, V)) lC lV c
      refine zp_iload dX11_mixMac_8 rfl ?_
      refine zp_iload_n dX11_mixMac_10 rfl ?_
      refine zp_pc (pc' := 11) rfl ?_
      have jn102 : zP g mX11_mixMac (zR 6 0 0) Qf 0 0 19 [some (.ref (64)), some (.ref (a)), some (.int (nI (M.length))), some (.int (nI (zsd kd))), some (.int (nI (c))), none] [.int (nI (R)), .int (nI (c))] h1 n → zP g mX11_mixMac (zR 6 0 0) Qf 0 0 11 [some (.ref (64)), some (.ref (a)), some (.int (nI (M.length))), some (.int (nI (zsd kd))), some (.int (nI (c))), none] [.int (nI (M.length)), .int (nI (c))] h1 n := by
        intro jk102
        refine zn_if_le (tgt := 18) dX11_mixMac_11 (by decide) (by omega) (fun c11 => ?_) (fun c11 => ?_)
        · refine zp_iconst (v := nI (1)) dX11_mixMac_18 (by decide) ?_
          refine zp_pc (pc' := 19) rfl ?_
          refine zp_i (y := nI (R)) (by rw [eR, if_neg (by omega)]) ?_
          exact jk102
        · refine zp_iconst (v := nI (2)) dX11_mixMac_14 (by decide) ?_
          refine zp_goto (tgt := 19) dX11_mixMac_15 (by decide) ?_
          refine zp_pc (pc' := 19) rfl ?_
          refine zp_i (y := nI (R)) (by rw [eR, if_pos c11]) ?_
          exact jk102
      refine jn102 ?_
      refine zn_icmp_ge (tgt := 110) dX11_mixMac_19 (by decide) (by omega) (by omega) (fun c19 => ?_) (fun c19 => ?_)
      · have ec : c = R := by omega
        subst ec
        refine zp_pc (pc' := 110) rfl ?_
        refine zp_ret (v := none) dX11_mixMac_110 ⟨rfl, rfl⟩ (by decide) (by decide) ?_
        rw [hQ]
        exact ⟨rfl, rfl, s1, z1, ⟨_, o1⟩, V1, C1⟩
      · refine zp_aload_n dX11_mixMac_22 rfl ?_
        refine zp_pc (pc' := 23) rfl ?_
        refine zp_callV (As := []) (k := 64) (st := []) (ci := 10) dX11_mixMac_23 cX11_223 rfl o1 rfl rfl (e_mbegin o1) (by decide) (by decide) (Nat.le_of_ble_eq_true rfl) (fun v103 h103 n103 q103 => ?_)
        obtain ⟨rfl, N103, s103, z103, o103⟩ := q103
        rw [N103]
        refine zp_nrm (cells' := 0) (slots' := 0) (st' := []) rfl rfl rfl ?_
        have m104 : h103 (a) = some (.inl (9, [.int (nI (zbi tr)), .int (nI (kd)), .int (nI (st)), .int (nI (iv)), .int (nI (zbi rs)), .int (nI (ct)), .int (dr), .int (nI (sd)), .ref (a + 1), .ref (a + 2)])) := (s103 _ (by unfold zon; omega)).trans g1
        have W105 := zmw.sh W1 ((s103).mono (fun i hi => by unfold zwf; unfold zon at hi; omega)) (z103) (fun i hi => hi)
        have xx103 : zar h103 87 1000 [] := zar.nil W105.m87 (by decide)
        refine zp_aload_n dX11_mixMac_26 rfl ?_
        refine zp_aload_n dX11_mixMac_27 rfl ?_
        refine zp_get dX11_mixMac_28 gX11_226_9 m104 rfl ?_
        refine zp_iload_n dX11_mixMac_31 rfl ?_
        refine zp_pc (pc' := 32) rfl ?_
        refine zp_i (y := nI ((zmi (zod kd) M (C, V) c).2.length)) (by rw [hsd, l2]) ?_
        refine zp_callV (As := [.ref (a + 1), .int (nI ((zmi (zod kd) M (C, V) c).2.length))]) (k := 64) (st := []) (ci := 10) dX11_mixMac_32 cX11_233 rfl o103 rfl rfl (e_mputs (xs := []) (ys := (zmi (zod kd) M (C, V) c).2) (q := a + 1) o103 xx103 ((V1).keep (s103 _ (by unfold zon; omega))) (by omega) (by (try simp only [List.length_append, List.length_cons, List.length_nil, List.length_singleton]); omega)) (by decide) (by decide) (Nat.le_of_ble_eq_true rfl) (fun v106 h106 n106 q106 => ?_)
        obtain ⟨rfl, N106, s106, z106, o106, x106⟩ := q106
        rw [N106]
        refine zp_nrm (cells' := 0) (slots' := 0) (st' := []) rfl rfl rfl ?_
        have m107 : h106 (a) = some (.inl (9, [.int (nI (zbi tr)), .int (nI (kd)), .int (nI (st)), .int (nI (iv)), .int (nI (zbi rs)), .int (nI (ct)), .int (dr), .int (nI (sd)), .ref (a + 1), .ref (a + 2)])) := (s106 _ (by unfold zsp; omega)).trans m104
        refine zp_aload_n dX11_mixMac_35 rfl ?_
        refine zp_iload dX11_mixMac_36 rfl ?_
        refine zp_pc (pc' := 38) rfl ?_
        refine zp_callV (As := [.int (nI (c))]) (k := 64) (st := []) (ci := 10) dX11_mixMac_38 cX11_215 rfl o106 rfl rfl (e_mput (xs := ([] ++ (zmi (zod kd) M (C, V) c).2)) (x := c) o106 x106 (by omega) (by (try simp only [List.length_append, List.length_cons, List.length_nil, List.length_singleton]); omega)) (by decide) (by decide) (Nat.le_of_ble_eq_true rfl) (fun v108 h108 n108 q108 => ?_)
        obtain ⟨rfl, N108, s108, z108, o108, x108⟩ := q108
        rw [N108]
        refine zp_nrm (cells' := 0) (slots' := 0) (st' := []) rfl rfl rfl ?_
        have m109 : h108 (a) = some (.inl (9, [.int (nI (zbi tr)), .int (nI (kd)), .int (nI (st)), .int (nI (iv)), .int (nI (zbi rs)), .int (nI (ct)), .int (dr), .int (nI (sd)), .ref (a + 1), .ref (a + 2)])) := (s108 _ (by unfold zsp; omega)).trans m107
        refine zp_aload_n dX11_mixMac_41 rfl ?_
        refine zp_aload_n dX11_mixMac_42 rfl ?_
        refine zp_get dX11_mixMac_43 gX11_105_10 o108 rfl ?_
        refine zp_iload_n dX11_mixMac_46 rfl ?_
        refine zp_pc (pc' := 47) rfl ?_
        refine zp_callV (As := [.ref (90), .int (nI (M.length))]) (k := 64) (st := []) (ci := 10) dX11_mixMac_47 cX11_233 rfl o108 rfl rfl (e_mputs (xs := (([] ++ (zmi (zod kd) M (C, V) c).2) ++ [c])) (ys := M) (q := 90) o108 x108 ((((M1).keep (s103 _ (by unfold zon; omega))).keep (s106 _ (by unfold zsp; omega))).keep (s108 _ (by unfold zsp; omega))) (by omega) (by (try simp only [List.length_append, List.length_cons, List.length_nil, List.length_singleton]); omega)) (by decide) (by decide) (Nat.le_of_ble_eq_true rfl) (fun v110 h110 n110 q110 => ?_)
        obtain ⟨rfl, N110, s110, z110, o110, x110⟩ := q110
        rw [N110]
        refine zp_nrm (cells' := 0) (slots' := 0) (st' := []) rfl rfl rfl ?_
        have m111 : h110 (a) = some (.inl (9, [.int (nI (zbi tr)), .int (nI (kd)), .int (nI (st)), .int (nI (iv)), .int (nI (zbi rs)), .int (nI (ct)), .int (dr), .int (nI (sd)), .ref (a + 1), .ref (a + 2)])) := (s110 _ (by unfold zsp; omega)).trans m109
        refine zp_aload_n dX11_mixMac_50 rfl ?_
        refine zp_aload_n dX11_mixMac_51 rfl ?_
        refine zp_callV (As := []) (k := a) (st := [.ref (64)]) (ci := 9) dX11_mixMac_52 cX11_235 rfl m111 rfl rfl (e_zgreat m111 hkd) (by decide) (by decide) (Nat.le_of_ble_eq_true rfl) (fun v112 h112 n112 q112 => ?_)
        obtain ⟨rfl, H112, N112⟩ := q112
        rw [N112, H112]
        refine zp_nrm (cells' := 0) (slots' := 0) (st' := [.int (nI (zbi (zgr kd))), .ref (64)]) rfl rfl rfl ?_
        refine zp_i (y := nI (zbi (zod kd))) (by rw [hgr]) ?_
        refine zp_aload_n dX11_mixMac_55 rfl ?_
        refine zp_get dX11_mixMac_56 gX11_243_9 m111 rfl ?_
        refine zp_aload_n dX11_mixMac_59 rfl ?_
        refine zp_get dX11_mixMac_60 gX11_96_10 o110 rfl ?_
        refine zp_aload_n dX11_mixMac_63 rfl ?_
        refine zp_get dX11_mixMac_64 gX11_212_10 o110 rfl ?_
        refine zp_pc (pc' := 67) rfl ?_
        have W113 := zmw.sh W105 ((((s106).mono (fun i hi => by unfold zwf; unfold zsp at hi; omega)).trans ((s108).mono (fun i hi => by unfold zwf; unfold zsp at hi; omega))).trans ((s110).mono (fun i hi => by unfold zwf; unfold zsp at hi; omega))) (((z106).trans z108).trans z110) (fun i hi => hi)
        refine zp_callV (As := [.int (nI (zbi (zod kd))), .ref (a + 2), .ref (87), .int (nI (((([] ++ (zmi (zod kd) M (C, V) c).2) ++ [c]) ++ M).length))]) (k := 64) (st := []) (ci := 10) dX11_mixMac_67 cX11_253 rfl o110 rfl rfl (e_mmacW (b := (zod kd)) (p := 87) W113 o110 ((((((C1).keep (s103 _ (by unfold zon; omega))).keep (s106 _ (by unfold zsp; omega))).keep (s108 _ (by unfold zsp; omega))).keep (s110 _ (by unfold zsp; omega)))) x110 (by omega) (by omega) l1 (by (try simp only [List.length_append, List.length_cons, List.length_nil, List.length_singleton]); omega)) (by decide) (by decide) (Nat.le_of_ble_eq_true rfl) (fun v114 h114 n114 q114 => ?_)
        obtain ⟨rfl, N114, s114, z114, d114⟩ := q114
        rw [N114]
        refine zp_nrm (cells' := 0) (slots' := 0) (st' := []) rfl rfl rfl ?_
        have m115 : h114 (a) = some (.inl (9, [.int (nI (zbi tr)), .int (nI (kd)), .int (nI (st)), .int (nI (iv)), .int (nI (zbi rs)), .int (nI (ct)), .int (dr), .int (nI (sd)), .ref (a + 1), .ref (a + 2)])) := (s114 _ (by unfold zb3; omega)).trans m111
        have m116 : h114 (64) = some (.inl (10, [.int (th), .ref (65), .ref (66), .ref (67), .ref (68), .ref (69), .ref (70), .ref (71), .ref (72), .ref (73), .ref (74), .ref (75), .ref (76), .ref (77), .ref (78), .ref (79), .ref (80), .ref (81), .ref (82), .ref (83), .ref (84), .int (nI (wt)), .int (nI (zbi un)), .int (rp), .int (wi), .int (pa), .int (be), .int (ru), .int (sa), .int (me), .int (se), .int (ta), .int (fa), .ref (85), .ref (86), .ref (87), .int (nI (((([] ++ (zmi (zod kd) M (C, V) c).2) ++ [c]) ++ M).length)), .ref (88), .ref (89), .ref (90), .ref (91), .ref (92), .ref (93), .int (nI (tp)), .ref (94), .int (nI (ou))])) := (s114 _ (by unfold zb3; omega)).trans o110
        have dK : zar h114 74 64 (zmi (zod kd) M (C, V) (c + 1)).1 := d114
        have lK : (zmi (zod kd) M (C, V) (c + 1)).1.length = 8 * zwb (zod kd) := zmac_len _ _ _
        obtain ⟨la117, lb117, lc117, lf117, ld117, le117⟩ := id dK
        obtain ⟨if118, ih118⟩ := id ((((((((C1).keep (s103 _ (by unfold zon; omega))).keep (s106 _ (by unfold zsp; omega))).keep (s108 _ (by unfold zsp; omega))).keep (s110 _ (by unfold zsp; omega))).keep (s114 _ (by unfold zb3; omega)))).ia)
        refine zp_iconst (v := nI (0)) dX11_mixMac_70 (by decide) ?_
        refine zp_istore (ls' := [some (.ref (64)), some (.ref (a)), some (.int (nI (M.length))), some (.int (nI (zsd kd))), some (.int (nI (c))), some (.int (nI (0)))]) dX11_mixMac_71 (by decide) rfl ?_
        refine zp_pc (pc' := 73) rfl ?_
        have lp119 : zP g mX11_mixMac (zR 6 0 0) Qf 0 0 99 [some (.ref (64)), some (.ref (a)), some (.int (nI (M.length))), some (.int (nI (zsd kd))), some (.int (nI (c))), some (.int (nI (zsd kd)))] [] (va_up h114 (a + 2) (some (.inr (111, .inl (zfl if118 (0) (zsd kd) (fun i => nI ((zmi (zod kd) M (C, V) (c + 1)).1.getD i 0))))))) n → ∀ (m k119 : Nat), m = (zsd kd) - k119 → k119 ≤ (zsd kd) → zP g mX11_mixMac (zR 6 0 0) Qf 0 0 73 [some (.ref (64)), some (.ref (a)), some (.int (nI (M.length))), some (.int (nI (zsd kd))), some (.int (nI (c))), some (.int (nI (k119)))] [] (va_up h114 (a + 2) (some (.inr (111, .inl (zfl if118 (0) (k119) (fun i => nI ((zmi (zod kd) M (C, V) (c + 1)).1.getD i 0))))))) n := by
          intro kk m
          induction m using Nat.strongRecOn with
          | _ m ih =>
            intro k119 hm119 hk119
            refine zp_nh (fun hX119 eX119 => ?_)
            have k120_0 := (congrFun eX119 (a)).trans ((va_up_ne _ _ (by omega)).trans m115)
            have k120_1 := (congrFun eX119 (64)).trans ((va_up_ne _ _ (by omega)).trans m116)
            have k120_2 := (congrFun eX119 (74)).trans ((va_up_ne _ _ (by omega)).trans ld117)
            have k120_3 : hX119 (a + 2) = some (.inr (111, .inl (zfl if118 (0) (k119) (fun i => nI ((zmi (zod kd) M (C, V) (c + 1)).1.getD i 0))))) := by rw [eX119]; exact va_up_self _ _ _
            refine zp_iload dX11_mixMac_73 rfl ?_
            refine zp_iload_n dX11_mixMac_75 rfl ?_
            refine zp_pc (pc' := 76) rfl ?_
            refine zn_icmp_ge (tgt := 99) dX11_mixMac_76 (by decide) (by omega) (by omega) (fun c76 => ?_) (fun c76 => ?_)
            · have e119 : k119 = (zsd kd) := by omega
              subst e119
              rw [eX119]
              exact kk
            · refine zp_aload_n dX11_mixMac_79 rfl ?_
              refine zp_get dX11_mixMac_80 gX11_243_9 k120_0 rfl ?_
              refine zp_iload dX11_mixMac_83 rfl ?_
              refine zp_aload_n dX11_mixMac_85 rfl ?_
              refine zp_get dX11_mixMac_86 gX11_38_10 k120_1 rfl ?_
              refine zp_iload dX11_mixMac_89 rfl ?_
              refine zp_pc (pc' := 91) rfl ?_
              refine zn_iald (j := k119) dX11_mixMac_91 k120_2 (by omega) (by omega) ?_
              refine zp_i (y := nI ((zmi (zod kd) M (C, V) (c + 1)).1.getD k119 0)) (le117 _ (by omega)) ?_
              refine zn_iast dX11_mixMac_92 (by omega) k120_3 (by omega) (by omega) ?_
              refine zp_nh (fun h121x eh121x => ?_)
              have k121_0 := (congrFun eh121x (a)).trans ((va_up_ne _ _ (by omega)).trans k120_0)
              have k121_1 := (congrFun eh121x (64)).trans ((va_up_ne _ _ (by omega)).trans k120_1)
              have k121_2 := (congrFun eh121x (74)).trans ((va_up_ne _ _ (by omega)).trans k120_2)
              have k121_3 : h121x (a + 2) = some (.inr (111, .inl (va_up (zfl if118 (0) (k119) (fun i => nI ((zmi (zod kd) M (C, V) (c + 1)).1.getD i 0))) (k119) (nI ((zmi (zod kd) M (C, V) (c + 1)).1.getD k119 0))))) := by rw [eh121x]; exact va_up_self _ _ _
              have sw122 : zsm hX119 h121x (zon (a + 2)) := zsm.rf.up eh121x rfl
              have zw122 : zsh hX119 h121x := zsh.fill eh121x k120_3
              refine zp_pc (pc' := 93) rfl ?_
              refine zn_iinc 1 (ls' := [some (.ref (64)), some (.ref (a)), some (.int (nI (M.length))), some (.int (nI (zsd kd))), some (.int (nI (c))), some (.int (nI (k119 + 1)))]) dX11_mixMac_93 (by decide) (by decide) rfl rfl ?_
              refine zp_goto (tgt := 73) dX11_mixMac_96 (by decide) ?_
              refine zp_pc (pc' := 73) rfl ?_
              rw [zfl_step eX119 eh121x (by omega) rfl]
              exact ih ((zsd kd) - (k119 + 1)) (by omega) (k119 + 1) rfl (by omega)
        suffices K119 : zP g mX11_mixMac (zR 6 0 0) Qf 0 0 99 [some (.ref (64)), some (.ref (a)), some (.int (nI (M.length))), some (.int (nI (zsd kd))), some (.int (nI (c))), some (.int (nI (zsd kd)))] [] (va_up h114 (a + 2) (some (.inr (111, .inl (zfl if118 (0) (zsd kd) (fun i => nI ((zmi (zod kd) M (C, V) (c + 1)).1.getD i 0))))))) n by
          have q := lp119 K119 ((zsd kd) - 0) 0 rfl (Nat.zero_le _)
          rw [zfl_0, zup_same ih118] at q
          exact q
        refine zp_nh (fun hY119 eY119 => ?_)
        have k123_0 := (congrFun eY119 (a)).trans ((va_up_ne _ _ (by omega)).trans m115)
        have k123_1 := (congrFun eY119 (64)).trans ((va_up_ne _ _ (by omega)).trans m116)
        have k123_2 := (congrFun eY119 (74)).trans ((va_up_ne _ _ (by omega)).trans ld117)
        have k123_3 : hY119 (a + 2) = some (.inr (111, .inl (zfl if118 (0) (zsd kd) (fun i => nI ((zmi (zod kd) M (C, V) (c + 1)).1.getD i 0))))) := by rw [eY119]; exact va_up_self _ _ _
        have sf124 := (zsm.fill eY119)
        have zf124 := zsh.fill eY119 ih118
        refine zp_aload_n dX11_mixMac_99 rfl ?_
        refine zp_aload_n dX11_mixMac_100 rfl ?_
        refine zp_pc (pc' := 101) rfl ?_
        have C2 : zar hY119 (a + 2) 111 (zmi (zod kd) M (C, V) (c + 1)).1 := zar.mk (L := zsd kd) k123_3 (by rw [lK, hsd]) (by omega) (by decide) lc117 (fun j hj => zfl_in0 hj)
        have W125 := zmw.sh W113 (((s114).mono (fun i hi => by unfold zwf; unfold zb3 at hi; omega)).trans ((sf124).mono (fun i hi => by unfold zwf; unfold zon at hi; omega))) ((z114).trans zf124) (fun i hi => hi)
        refine zp_callV (As := [.ref (a)]) (k := 64) (st := []) (ci := 10) dX11_mixMac_101 cX11_257 rfl k123_1 rfl rfl (e_zstep W125 k123_1 k123_0 ha hkd hk2 hk4 ((((((((V1).keep (s103 _ (by unfold zon; omega))).keep (s106 _ (by unfold zsp; omega))).keep (s108 _ (by unfold zsp; omega))).keep (s110 _ (by unfold zsp; omega))).keep (s114 _ (by unfold zb3; omega))).keep (sf124 _ (by unfold zon; omega)))) C2 l2 lK) (by decide) (by decide) (Nat.le_of_ble_eq_true rfl) (fun v126 h126 n126 q126 => ?_)
        obtain ⟨rfl, N126, s126, z126, d126⟩ := q126
        rw [N126]
        refine zp_nrm (cells' := 0) (slots' := 0) (st' := []) rfl rfl rfl ?_
        have m127 : h126 (a) = some (.inl (9, [.int (nI (zbi tr)), .int (nI (kd)), .int (nI (st)), .int (nI (iv)), .int (nI (zbi rs)), .int (nI (ct)), .int (dr), .int (nI (sd)), .ref (a + 1), .ref (a + 2)])) := (s126 _ (by unfold zsm8; omega)).trans k123_0
        have m128 : h126 (64) = some (.inl (10, [.int (th), .ref (65), .ref (66), .ref (67), .ref (68), .ref (69), .ref (70), .ref (71), .ref (72), .ref (73), .ref (74), .ref (75), .ref (76), .ref (77), .ref (78), .ref (79), .ref (80), .ref (81), .ref (82), .ref (83), .ref (84), .int (nI (wt)), .int (nI (zbi un)), .int (rp), .int (wi), .int (pa), .int (be), .int (ru), .int (sa), .int (me), .int (se), .int (ta), .int (fa), .ref (85), .ref (86), .ref (87), .int (nI (((([] ++ (zmi (zod kd) M (C, V) c).2) ++ [c]) ++ M).length)), .ref (88), .ref (89), .ref (90), .ref (91), .ref (92), .ref (93), .int (nI (tp)), .ref (94), .int (nI (ou))])) := (s126 _ (by unfold zsm8; omega)).trans k123_1
        have m129 : h126 (a + 2) = some (.inr (111, .inl (zfl if118 (0) (zsd kd) (fun i => nI ((zmi (zod kd) M (C, V) (c + 1)).1.getD i 0))))) := (s126 _ (by unfold zsm8; omega)).trans k123_3
        refine zn_iinc 1 (ls' := [some (.ref (64)), some (.ref (a)), some (.int (nI (M.length))), some (.int (nI (zsd kd))), some (.int (nI (c + 1))), some (.int (nI (zsd kd)))]) dX11_mixMac_104 (by decide) (by decide) rfl rfl ?_
        refine zp_goto (tgt := 8) dX11_mixMac_107 (by decide) ?_
        refine zp_pc (pc' := 8) rfl ?_
        refine zp_drop (ls' := [some (.ref (64)), some (.ref (a)), some (.int (nI (M.length))), some (.int (nI (zsd kd))), some (.int (nI (c + 1))), none]) (fun i v hv => ?_) ?_
        · rcases i with _ | _ | _ | _ | _ | _ | i <;> simp at hv ⊢ <;> exact hv
        exact ih (R - (c + 1)) (by omega) (c + 1) h126 rfl (by omega) (s1.trans ((((((((s103).mono (fun i hi => by unfold zsm9; unfold zon at hi; omega)).trans ((s106).mono (fun i hi => by unfold zsm9; unfold zsp at hi; omega))).trans ((s108).mono (fun i hi => by unfold zsm9; unfold zsp at hi; omega))).trans ((s110).mono (fun i hi => by unfold zsm9; unfold zsp at hi; omega))).trans ((s114).mono (fun i hi => by unfold zsm9; unfold zb3 at hi; omega))).trans ((sf124).mono (fun i hi => by unfold zsm9; unfold zon at hi; omega))).trans ((s126).mono (fun i hi => by unfold zsm9; unfold zsm8 at hi; omega)))) (z1.trans (((((((z103).trans z106).trans z108).trans z110).trans z114).trans zf124).trans z126)) ⟨_, m128⟩ d126 (C2.keep (s126 _ (by unfold zsm8; omega)))
  exact lp _ 0 h rfl (Nat.zero_le _) zsm.rf zsh.rf ⟨_, ho⟩ hV hC
set_option maxRecDepth 10000 in
set_option maxHeartbeats 2000000 in
theorem e_zdrawM {g : ZG} {h : ZH} {n : Nat} {a kd st iv ct sd : Nat} {tr rs : Bool} {dr : Int32} {V C A : List Nat} {k : Nat} {th : Int32} {wt : Nat} {un : Bool} {rp wi pa be ru sa me se ta fa : Int32} {mn tp ou : Nat} (hw : zmw h) (ho : h 64 = some (.inl (10, [.int (th), .ref (65), .ref (66), .ref (67), .ref (68), .ref (69), .ref (70), .ref (71), .ref (72), .ref (73), .ref (74), .ref (75), .ref (76), .ref (77), .ref (78), .ref (79), .ref (80), .ref (81), .ref (82), .ref (83), .ref (84), .int (nI (wt)), .int (nI (zbi un)), .int (rp), .int (wi), .int (pa), .int (be), .int (ru), .int (sa), .int (me), .int (se), .int (ta), .int (fa), .ref (85), .ref (86), .ref (87), .int (nI (mn)), .ref (88), .ref (89), .ref (90), .ref (91), .ref (92), .ref (93), .int (nI (tp)), .ref (94), .int (nI (ou))]))) (hg : h a = some (.inl (9, [.int (nI (zbi tr)), .int (nI (kd)), .int (nI (st)), .int (nI (iv)), .int (nI (zbi rs)), .int (nI (ct)), .int (dr), .int (nI (sd)), .ref (a + 1), .ref (a + 2)]))) (ha : a = 95 ∨ a = 98 ∨ a = 101 ∨ a = 104) (hkd : kd < 8) (hk2 : 2 ≤ kd) (hk4 : kd < 4) (hV : zar h (a + 1) 111 V) (hC : zar h (a + 2) 111 C) (lV : V.length = 8 * zwb (zod kd)) (lC : C.length = 8 * zwb (zod kd)) (hA : zar h 93 240 A) (hO : zia h 94 4096) (hk : k ≤ 4096) : zMt g mX11_drawMac (zR 7 0 0) [.ref (64), .ref (a), .int (nI (k)), .int (nI (A.length))] h n (fun v h' n' => v = none ∧ n' = n ∧ zsm h h' (zsgo a) ∧ zsh h h' ∧ (∃ mn', h' 64 = some (.inl (10, [.int (th), .ref (65), .ref (66), .ref (67), .ref (68), .ref (69), .ref (70), .ref (71), .ref (72), .ref (73), .ref (74), .ref (75), .ref (76), .ref (77), .ref (78), .ref (79), .ref (80), .ref (81), .ref (82), .ref (83), .ref (84), .int (nI (wt)), .int (nI (zbi un)), .int (rp), .int (wi), .int (pa), .int (be), .int (ru), .int (sa), .int (me), .int (se), .int (ta), .int (fa), .ref (85), .ref (86), .ref (87), .int (nI (mn')), .ref (88), .ref (89), .ref (90), .ref (91), .ref (92), .ref (93), .int (nI (tp)), .ref (94), .int (nI (ou))]))) ∧ zar h' 94 4096 (zpr kd ct k V C A).1 ∧ zar h' (a + 1) 111 (zpr kd ct k V C A).2.1 ∧ zar h' (a + 2) 111 (zpr kd ct k V C A).2.2) := by
  refine zMt.of [some (.ref (64)), some (.ref (a)), some (.int (nI (k))), some (.int (nI (A.length))), none, none, none] (by decide) rfl (Nat.le_of_ble_eq_true rfl) ?_
  obtain ⟨Qf, hQ⟩ : ∃ Qf : ZQ, Qf = (fun v h' n' => v = none ∧ n' = n ∧ zsm h h' (zsgo a) ∧ zsh h h' ∧ (∃ mn', h' 64 = some (.inl (10, [.int (th), .ref (65), .ref (66), .ref (67), .ref (68), .ref (69), .ref (70), .ref (71), .ref (72), .ref (73), .ref (74), .ref (75), .ref (76), .ref (77), .ref (78), .ref (79), .ref (80), .ref (81), .ref (82), .ref (83), .ref (84), .int (nI (wt)), .int (nI (zbi un)), .int (rp), .int (wi), .int (pa), .int (be), .int (ru), .int (sa), .int (me), .int (se), .int (ta), .int (fa), .ref (85), .ref (86), .ref (87), .int (nI (mn')), .ref (88), .ref (89), .ref (90), .ref (91), .ref (92), .ref (93), .int (nI (tp)), .ref (94), .int (nI (ou))]))) ∧ zar h' 94 4096 (zpr kd ct k V C A).1 ∧ zar h' (a + 1) 111 (zpr kd ct k V C A).2.1 ∧ zar h' (a + 2) 111 (zpr kd ct k V C A).2.2) := ⟨_, rfl⟩
  rw [← hQ]
  have hgr := zgr_odd hk4
  have hs := zsd_le hkd
  have hsd := zmacN hkd hk2 hk4
  have hz := zwb_or (zod kd)
  have lA := hA.1
  obtain ⟨s, es⟩ : ∃ s : List Nat × List Nat, s = (if 0 < A.length then zmix (zod kd) A (C, V) else (C, V)) := ⟨_, rfl⟩
  have ls : s.1.length = 8 * zwb (zod kd) ∧ s.2.length = 8 * zwb (zod kd) := by rw [es]; split; exact zmi_len (s := (C, V)) lC lV _; exact ⟨lC, lV⟩
  have ep : zpr kd ct k V C A = zpr5 (zod kd) k A s := by rw [es]; unfold zpr; rw [if_neg (by omega), if_pos hk4]
  rw [ep] at hQ
  obtain ⟨la101, lb101, lc101, lf101, ld101, le101⟩ := id hA
  obtain ⟨if102, ih102⟩ := id (hw.m90)
  refine zp_aload_n dX11_drawMac_0 rfl ?_
  refine zp_callV (As := []) (k := a) (st := []) (ci := 9) dX11_drawMac_1 cX11_229 rfl hg rfl rfl (e_zseed hg hkd) (by decide) (by decide) (Nat.le_of_ble_eq_true rfl) (fun v103 h103 n103 q103 => ?_)
  obtain ⟨rfl, H103, N103⟩ := q103
  rw [N103, H103]
  refine zp_nrm (cells' := 0) (slots' := 0) (st' := [.int (nI (zsd kd))]) rfl rfl rfl ?_
  refine zp_istore (ls' := [some (.ref (64)), some (.ref (a)), some (.int (nI (k))), some (.int (nI (A.length))), some (.int (nI (zsd kd))), none, none]) dX11_drawMac_4 (by decide) rfl ?_
  refine zp_iconst (v := nI (0)) dX11_drawMac_6 (by decide) ?_
  refine zp_istore (ls' := [some (.ref (64)), some (.ref (a)), some (.int (nI (k))), some (.int (nI (A.length))), some (.int (nI (zsd kd))), some (.int (nI (0))), none]) dX11_drawMac_7 (by decide) rfl ?_
  refine zp_pc (pc' := 9) rfl ?_
  refine zp_ls (ls' := [some (.ref (64)), some (.ref (a)), some (.int (nI (k))), some (.int (nI (A.length))), some (.int (nI (8 * zwb (zod kd)))), some (.int (nI (0))), none]) (by rw [hsd]) ?_
  have lp104 : zP g mX11_drawMac (zR 7 0 0) Qf 0 0 35 [some (.ref (64)), some (.ref (a)), some (.int (nI (k))), some (.int (nI (A.length))), some (.int (nI (8 * zwb (zod kd)))), some (.int (nI (A.length))), none] [] (va_up h (90) (some (.inr (400, .inl (zfl if102 (0) (A.length) (fun i => nI (A.getD i 0))))))) n → ∀ (m k104 : Nat), m = (A.length) - k104 → k104 ≤ (A.length) → zP g mX11_drawMac (zR 7 0 0) Qf 0 0 9 [some (.ref (64)), some (.ref (a)), some (.int (nI (k))), some (.int (nI (A.length))), some (.int (nI (8 * zwb (zod kd)))), some (.int (nI (k104))), none] [] (va_up h (90) (some (.inr (400, .inl (zfl if102 (0) (k104) (fun i => nI (A.getD i 0))))))) n := by
    intro kk m
    induction m using Nat.strongRecOn with
    | _ m ih =>
      intro k104 hm104 hk104
      refine zp_nh (fun hX104 eX104 => ?_)
      have k105_0 := (congrFun eX104 (64)).trans ((va_up_ne _ _ (by omega)).trans ho)
      have k105_1 := (congrFun eX104 (a)).trans ((va_up_ne _ _ (by omega)).trans hg)
      have k105_2 := (congrFun eX104 (93)).trans ((va_up_ne _ _ (by omega)).trans ld101)
      have k105_3 : hX104 (90) = some (.inr (400, .inl (zfl if102 (0) (k104) (fun i => nI (A.getD i 0))))) := by rw [eX104]; exact va_up_self _ _ _
      refine zp_iload dX11_drawMac_9 rfl ?_
      refine zp_iload_n dX11_drawMac_11 rfl ?_
      refine zp_pc (pc' := 12) rfl ?_
      refine zn_icmp_ge (tgt := 35) dX11_drawMac_12 (by decide) (by omega) (by omega) (fun c12 => ?_) (fun c12 => ?_)
      · have e104 : k104 = (A.length) := by omega
        subst e104
        rw [eX104]
        exact kk
      · refine zp_aload_n dX11_drawMac_15 rfl ?_
        refine zp_get dX11_drawMac_16 gX11_105_10 k105_0 rfl ?_
        refine zp_iload dX11_drawMac_19 rfl ?_
        refine zp_aload_n dX11_drawMac_21 rfl ?_
        refine zp_get dX11_drawMac_22 gX11_114_10 k105_0 rfl ?_
        refine zp_iload dX11_drawMac_25 rfl ?_
        refine zp_pc (pc' := 27) rfl ?_
        refine zn_iald (j := k104) dX11_drawMac_27 k105_2 (by omega) (by omega) ?_
        refine zp_i (y := nI (A.getD k104 0)) (le101 _ (by omega)) ?_
        refine zn_iast dX11_drawMac_28 (by omega) k105_3 (by omega) (by omega) ?_
        refine zp_nh (fun h106x eh106x => ?_)
        have k106_0 := (congrFun eh106x (64)).trans ((va_up_ne _ _ (by omega)).trans k105_0)
        have k106_1 := (congrFun eh106x (a)).trans ((va_up_ne _ _ (by omega)).trans k105_1)
        have k106_2 := (congrFun eh106x (93)).trans ((va_up_ne _ _ (by omega)).trans k105_2)
        have k106_3 : h106x (90) = some (.inr (400, .inl (va_up (zfl if102 (0) (k104) (fun i => nI (A.getD i 0))) (k104) (nI (A.getD k104 0))))) := by rw [eh106x]; exact va_up_self _ _ _
        have sw107 : zsm hX104 h106x (zon (90)) := zsm.rf.up eh106x rfl
        have zw107 : zsh hX104 h106x := zsh.fill eh106x k105_3
        refine zp_pc (pc' := 29) rfl ?_
        refine zn_iinc 1 (ls' := [some (.ref (64)), some (.ref (a)), some (.int (nI (k))), some (.int (nI (A.length))), some (.int (nI (8 * zwb (zod kd)))), some (.int (nI (k104 + 1))), none]) dX11_drawMac_29 (by decide) (by decide) rfl rfl ?_
        refine zp_goto (tgt := 9) dX11_drawMac_32 (by decide) ?_
        refine zp_pc (pc' := 9) rfl ?_
        rw [zfl_step eX104 eh106x (by omega) rfl]
        exact ih ((A.length) - (k104 + 1)) (by omega) (k104 + 1) rfl (by omega)
  suffices K104 : zP g mX11_drawMac (zR 7 0 0) Qf 0 0 35 [some (.ref (64)), some (.ref (a)), some (.int (nI (k))), some (.int (nI (A.length))), some (.int (nI (8 * zwb (zod kd)))), some (.int (nI (A.length))), none] [] (va_up h (90) (some (.inr (400, .inl (zfl if102 (0) (A.length) (fun i => nI (A.getD i 0))))))) n by
    have q := lp104 K104 ((A.length) - 0) 0 rfl (Nat.zero_le _)
    rw [zfl_0, zup_same ih102] at q
    exact q
  refine zp_nh (fun hY104 eY104 => ?_)
  have k108_0 := (congrFun eY104 (64)).trans ((va_up_ne _ _ (by omega)).trans ho)
  have k108_1 := (congrFun eY104 (a)).trans ((va_up_ne _ _ (by omega)).trans hg)
  have k108_2 := (congrFun eY104 (93)).trans ((va_up_ne _ _ (by omega)).trans ld101)
  have k108_3 : hY104 (90) = some (.inr (400, .inl (zfl if102 (0) (A.length) (fun i => nI (A.getD i 0))))) := by rw [eY104]; exact va_up_self _ _ _
  have sf109 := (zsm.fill eY104)
  have zf109 := zsh.fill eY104 ih102
  have aG : zar hY104 90 400 A := zar.mk (L := A.length) k108_3 rfl (by omega) (by decide) lc101 (fun j hj => zfl_in0 hj)
  refine zp_iload_n dX11_drawMac_35 rfl ?_
  refine zp_pc (pc' := 36) rfl ?_
  have W110 := zmw.sh hw ((sf109).mono (fun i hi => by unfold zwf; unfold zon at hi; omega)) (zf109) (fun i hi => hi)
  refine zp_drop (ls' := [some (.ref (64)), some (.ref (a)), some (.int (nI (k))), some (.int (nI (A.length))), some (.int (nI (8 * zwb (zod kd)))), none, none]) (fun i v hv => ?_) ?_
  · rcases i with _ | _ | _ | _ | _ | _ | _ | i <;> simp at hv ⊢ <;> exact hv
  have s0 : zsm h hY104 (zsgo a) := (sf109).mono (fun i hi => by unfold zsgo; unfold zon at hi; omega)
  have z0 : zsh h hY104 := zf109
  have V0 := ((hV).keep (sf109 _ (by unfold zon; omega)))
  have C0 := ((hC).keep (sf109 _ (by unfold zon; omega)))
  have O0 := ((hO).keep (sf109 _ (by unfold zon; omega)))
  have kt111 : ∀ (h1 : ZH), zsm h h1 (zsgo a) → zsh h h1 → (∃ mn1, h1 64 = some (.inl (10, [.int (th), .ref (65), .ref (66), .ref (67), .ref (68), .ref (69), .ref (70), .ref (71), .ref (72), .ref (73), .ref (74), .ref (75), .ref (76), .ref (77), .ref (78), .ref (79), .ref (80), .ref (81), .ref (82), .ref (83), .ref (84), .int (nI (wt)), .int (nI (zbi un)), .int (rp), .int (wi), .int (pa), .int (be), .int (ru), .int (sa), .int (me), .int (se), .int (ta), .int (fa), .ref (85), .ref (86), .ref (87), .int (nI (mn1)), .ref (88), .ref (89), .ref (90), .ref (91), .ref (92), .ref (93), .int (nI (tp)), .ref (94), .int (nI (ou))]))) → zar h1 (a + 1) 111 s.2 → zar h1 (a + 2) 111 s.1 → zia h1 94 4096 → zar h1 90 400 A → zP g mX11_drawMac (zR 7 0 0) Qf 0 0 45 [some (.ref (64)), some (.ref (a)), some (.int (nI (k))), some (.int (nI (A.length))), some (.int (nI (8 * zwb (zod kd)))), none, none] [] h1 n := by
    intro h1 s1 z1 o1 V1 C1 hO1 G1
    have W1 := hw.sh s1 z1 (fun i q => by unfold zsgo at q; unfold zwf; omega)
    obtain ⟨mn1, o1⟩ := o1
    obtain ⟨gO, hO1⟩ := hO1
    refine zp_iconst (v := nI (0)) dX11_drawMac_45 (by decide) ?_
    refine zp_istore (ls' := [some (.ref (64)), some (.ref (a)), some (.int (nI (k))), some (.int (nI (A.length))), some (.int (nI (8 * zwb (zod kd)))), some (.int (nI (0))), none]) dX11_drawMac_46 (by decide) rfl ?_
    refine zp_pc (pc' := 48) rfl ?_
    refine zp_ls (ls' := [some (.ref (64)), some (.ref (a)), some (.int (nI (k))), some (.int (nI (A.length))), some (.int (nI (8 * zwb (zod kd)))), some (.int (nI (8 * zwb (zod kd) * 0))), none]) (by rw [Nat.mul_zero]) ?_
    have lp : ∀ (m : Nat) (c : Nat) (h2 : ZH) (go : Nat → Int32), m = k - c → c ≤ k → (c = 0 ∨ 8 * zwb (zod kd) * (c - 1) < k) → zsm h1 h2 (zsm7 a) → zsh h1 h2 → h2 94 = some (.inr (4096, .inl go)) → zar h2 (a + 1) 111 (zmv (zod kd) s.1 s.2 c) → (∀ j, j < k → j < 8 * zwb (zod kd) * c → go j = nI ((zmv (zod kd) s.1 s.2 (j / (8 * zwb (zod kd)) + 1)).getD (j % (8 * zwb (zod kd))) 0)) → zP g mX11_drawMac (zR 7 0 0) Qf 0 0 48 [some (.ref (64)), some (.ref (a)), some (.int (nI (k))), some (.int (nI (A.length))), some (.int (nI (8 * zwb (zod kd)))), some (.int (nI (8 * zwb (zod kd) * c))), none] [] h2 n := by
      intro m
      induction m using Nat.strongRecOn with
      | _ m ih =>
        intro c h2 go hm2 hc2 hcc s2 z2 er V2 egr
        have o2 : h2 64 = some (.inl (10, [.int (th), .ref (65), .ref (66), .ref (67), .ref (68), .ref (69), .ref (70), .ref (71), .ref (72), .ref (73), .ref (74), .ref (75), .ref (76), .ref (77), .ref (78), .ref (79), .ref (80), .ref (81), .ref (82), .ref (83), .ref (84), .int (nI (wt)), .int (nI (zbi un)), .int (rp), .int (wi), .int (pa), .int (be), .int (ru), .int (sa), .int (me), .int (se), .int (ta), .int (fa), .ref (85), .ref (86), .ref (87), .int (nI (mn1)), .ref (88), .ref (89), .ref (90), .ref (91), .ref (92), .ref (93), .int (nI (tp)), .ref (94), .int (nI (ou))])) := (s2 _ (by unfold zsm7; omega)).trans o1
        have g2 : h2 a = some (.inl (9, [.int (nI (zbi tr)), .int (nI (kd)), .int (nI (st)), .int (nI (iv)), .int (nI (zbi rs)), .int (nI (ct)), .int (dr), .int (nI (sd)), .ref (a + 1), .ref (a + 2)])) := (s2 _ (by unfold zsm7; omega)).trans ((s1 _ (by unfold zsgo; omega)).trans hg)
        have W2 := W1.sh s2 z2 (fun i q => by unfold zsm7 at q; unfold zwf; omega)
        have C2 := C1.keep (s2 (a + 2) (by unfold zsm7; omega))
        have G2 := G1.keep (s2 90 (by unfold zsm7; omega))
        have hcB := Nat.mul_le_mul (show 8 * zwb (zod kd) ≤ 64 by omega) (show c ≤ 4096 by omega)
        have hc1 := Nat.mul_le_mul (show 1 ≤ 8 * zwb (zod kd) by omega) (Nat.le_refl c)
        rw [Nat.one_mul] at hc1
        have lv := zmv_len (b := (zod kd)) (K := s.1) ls.2
        refine zp_iload dX11_drawMac_48 rfl ?_
        refine zp_iload_n dX11_drawMac_50 rfl ?_
        refine zp_pc (pc' := 51) rfl ?_
        refine zn_icmp_ge (tgt := 111) dX11_drawMac_51 (by decide) (by omega) (by omega) (fun c51 => ?_) (fun c51 => ?_)
        · have ec : c = zcn k (8 * zwb (zod kd)) := zcn_of (by omega) (by rw [Nat.mul_comm]; omega) (hcc.imp id (fun q => by rw [Nat.mul_comm]; exact q))
          subst ec
          have mc := Nat.mul_comm (8 * zwb (zod kd)) (zcn k (8 * zwb (zod kd)))
          have O2 : zar h2 94 4096 ((zmcat (zod kd) s.1 s.2 (zcn k (8 * zwb (zod kd)))).take k) := zar.mk (L := k) er (by rw [List.length_take, zmcat_len]; omega) hk (by decide) (fun x hx => zmcat_lt _ _ _ _ x (List.mem_of_mem_take hx)) (fun j hj => by rw [ztake_get hj, zmcat_get _ _ _ (by omega)]; exact egr j hj (by omega))
          refine zp_aload_n dX11_drawMac_111 rfl ?_
          refine zp_aload_n dX11_drawMac_112 rfl ?_
          refine zp_iload_n dX11_drawMac_113 rfl ?_
          refine zp_pc (pc' := 114) rfl ?_
          refine zp_callV (As := [.ref (a), .int (nI (A.length))]) (k := 64) (st := []) (ci := 10) dX11_drawMac_114 cX11_261 rfl o2 rfl rfl (e_zmixM W2 o2 g2 ha hkd hk2 hk4 V2 C2 (lv _) ls.1 G2 (by omega)) (by decide) (by decide) (Nat.le_of_ble_eq_true rfl) (fun v112 h112 n112 q112 => ?_)
          obtain ⟨rfl, N112, s112, z112, ⟨mn3, o112⟩, v112, c112⟩ := q112
          rw [N112]
          refine zp_nrm (cells' := 0) (slots' := 0) (st' := []) rfl rfl rfl ?_
          have m113 : h112 (a) = some (.inl (9, [.int (nI (zbi tr)), .int (nI (kd)), .int (nI (st)), .int (nI (iv)), .int (nI (zbi rs)), .int (nI (ct)), .int (dr), .int (nI (sd)), .ref (a + 1), .ref (a + 2)])) := (s112 _ (by unfold zsm9; omega)).trans g2
          have m114 : h112 (94) = some (.inr (4096, .inl go)) := (s112 _ (by unfold zsm9; omega)).trans er
          refine zp_pc (pc' := 117) rfl ?_
          refine zp_ret (v := none) dX11_drawMac_117 ⟨rfl, rfl⟩ (by decide) (by decide) ?_
          rw [hQ]
          exact ⟨rfl, rfl, (s1.trans (s2.mono (fun i hi => by unfold zsgo; unfold zsm7 at hi; omega))).trans ((s112).mono (fun i hi => by unfold zsgo; unfold zsm9 at hi; omega)), (z1.trans z2).trans (z112), ⟨_, o112⟩, ((O2).keep (s112 _ (by unfold zsm9; omega))), v112, c112⟩
        · refine zp_aload_n dX11_drawMac_54 rfl ?_
          refine zp_aload_n dX11_drawMac_55 rfl ?_
          refine zp_pc (pc' := 56) rfl ?_
          refine zp_callV (As := [.ref (a)]) (k := 64) (st := []) (ci := 10) dX11_drawMac_56 cX11_257 rfl o2 rfl rfl (e_zstep W2 o2 g2 ha hkd hk2 hk4 V2 C2 (lv _) ls.1) (by decide) (by decide) (Nat.le_of_ble_eq_true rfl) (fun v115 h115 n115 q115 => ?_)
          obtain ⟨rfl, N115, s115, z115, d115⟩ := q115
          rw [N115]
          refine zp_nrm (cells' := 0) (slots' := 0) (st' := []) rfl rfl rfl ?_
          have m116 : h115 (64) = some (.inl (10, [.int (th), .ref (65), .ref (66), .ref (67), .ref (68), .ref (69), .ref (70), .ref (71), .ref (72), .ref (73), .ref (74), .ref (75), .ref (76), .ref (77), .ref (78), .ref (79), .ref (80), .ref (81), .ref (82), .ref (83), .ref (84), .int (nI (wt)), .int (nI (zbi un)), .int (rp), .int (wi), .int (pa), .int (be), .int (ru), .int (sa), .int (me), .int (se), .int (ta), .int (fa), .ref (85), .ref (86), .ref (87), .int (nI (mn1)), .ref (88), .ref (89), .ref (90), .ref (91), .ref (92), .ref (93), .int (nI (tp)), .ref (94), .int (nI (ou))])) := (s115 _ (by unfold zsm8; omega)).trans o2
          have m117 : h115 (a) = some (.inl (9, [.int (nI (zbi tr)), .int (nI (kd)), .int (nI (st)), .int (nI (iv)), .int (nI (zbi rs)), .int (nI (ct)), .int (dr), .int (nI (sd)), .ref (a + 1), .ref (a + 2)])) := (s115 _ (by unfold zsm8; omega)).trans g2
          have m118 : h115 (94) = some (.inr (4096, .inl go)) := (s115 _ (by unfold zsm8; omega)).trans er
          have V3 : zar h115 (a + 1) 111 (zmv (zod kd) s.1 s.2 (c + 1)) := d115
          obtain ⟨la119, lb119, lc119, lf119, ld119, le119⟩ := id V3
          refine zp_iconst (v := nI (0)) dX11_drawMac_59 (by decide) ?_
          refine zp_istore (ls' := [some (.ref (64)), some (.ref (a)), some (.int (nI (k))), some (.int (nI (A.length))), some (.int (nI (8 * zwb (zod kd)))), some (.int (nI (8 * zwb (zod kd) * c))), some (.int (nI (0)))]) dX11_drawMac_60 (by decide) rfl ?_
          refine zp_pc (pc' := 62) rfl ?_
          have lp120 : zP g mX11_drawMac (zR 7 0 0) Qf 0 0 101 [some (.ref (64)), some (.ref (a)), some (.int (nI (k))), some (.int (nI (A.length))), some (.int (nI (8 * zwb (zod kd)))), some (.int (nI (8 * zwb (zod kd) * c))), some (.int (nI (min (8 * zwb (zod kd)) (k - 8 * zwb (zod kd) * c))))] [] (va_up h115 (94) (some (.inr (4096, .inl (zfl go (8 * zwb (zod kd) * c) (min (8 * zwb (zod kd)) (k - 8 * zwb (zod kd) * c)) (fun i => nI ((zmv (zod kd) s.1 s.2 ((8 * zwb (zod kd) * c + i) / (8 * zwb (zod kd)) + 1)).getD ((8 * zwb (zod kd) * c + i) % (8 * zwb (zod kd))) 0))))))) n → ∀ (m k120 : Nat), m = (min (8 * zwb (zod kd)) (k - 8 * zwb (zod kd) * c)) - k120 → k120 ≤ (min (8 * zwb (zod kd)) (k - 8 * zwb (zod kd) * c)) → zP g mX11_drawMac (zR 7 0 0) Qf 0 0 62 [some (.ref (64)), some (.ref (a)), some (.int (nI (k))), some (.int (nI (A.length))), some (.int (nI (8 * zwb (zod kd)))), some (.int (nI (8 * zwb (zod kd) * c))), some (.int (nI (k120)))] [] (va_up h115 (94) (some (.inr (4096, .inl (zfl go (8 * zwb (zod kd) * c) (k120) (fun i => nI ((zmv (zod kd) s.1 s.2 ((8 * zwb (zod kd) * c + i) / (8 * zwb (zod kd)) + 1)).getD ((8 * zwb (zod kd) * c + i) % (8 * zwb (zod kd))) 0))))))) n := by
            intro kk m
            induction m using Nat.strongRecOn with
            | _ m ih =>
              intro k120 hm120 hk120
              refine zp_nh (fun hX120 eX120 => ?_)
              have k121_0 := (congrFun eX120 (64)).trans ((va_up_ne _ _ (by omega)).trans m116)
              have k121_1 := (congrFun eX120 (a)).trans ((va_up_ne _ _ (by omega)).trans m117)
              have k121_2 : hX120 (94) = some (.inr (4096, .inl (zfl go (8 * zwb (zod kd) * c) (k120) (fun i => nI ((zmv (zod kd) s.1 s.2 ((8 * zwb (zod kd) * c + i) / (8 * zwb (zod kd)) + 1)).getD ((8 * zwb (zod kd) * c + i) % (8 * zwb (zod kd))) 0))))) := by rw [eX120]; exact va_up_self _ _ _
              have k121_3 := (congrFun eX120 (a + 1)).trans ((va_up_ne _ _ (by omega)).trans ld119)
              refine zp_iload dX11_drawMac_62 rfl ?_
              refine zp_iload dX11_drawMac_64 rfl ?_
              refine zp_pc (pc' := 66) rfl ?_
              refine zn_icmp_ge (tgt := 101) dX11_drawMac_66 (by decide) (by omega) (by omega) (fun c66 => ?_) (fun c66 => ?_)
              · have e120 : k120 = (min (8 * zwb (zod kd)) (k - 8 * zwb (zod kd) * c)) := by omega
                subst e120
                rw [eX120]
                exact kk
              · refine zp_iload dX11_drawMac_69 rfl ?_
                refine zp_iload dX11_drawMac_71 rfl ?_
                refine zn_iadd dX11_drawMac_73 ?_
                refine zp_iload_n dX11_drawMac_74 rfl ?_
                refine zp_pc (pc' := 75) rfl ?_
                refine zn_icmp_ge (tgt := 101) dX11_drawMac_75 (by decide) (by omega) (by omega) (fun c75 => ?_) (fun c75 => ?_)
                · have e120 : k120 = (min (8 * zwb (zod kd)) (k - 8 * zwb (zod kd) * c)) := by omega
                  subst e120
                  rw [eX120]
                  exact kk
                · refine zp_aload_n dX11_drawMac_78 rfl ?_
                  refine zp_get dX11_drawMac_79 gX11_117_10 k121_0 rfl ?_
                  refine zp_iload dX11_drawMac_82 rfl ?_
                  refine zp_iload dX11_drawMac_84 rfl ?_
                  refine zn_iadd dX11_drawMac_86 ?_
                  refine zp_aload_n dX11_drawMac_87 rfl ?_
                  refine zp_get dX11_drawMac_88 gX11_226_9 k121_1 rfl ?_
                  refine zp_iload dX11_drawMac_91 rfl ?_
                  refine zp_pc (pc' := 93) rfl ?_
                  refine zn_iald (j := k120) dX11_drawMac_93 k121_3 (by omega) (by omega) ?_
                  refine zp_i (y := nI ((zmv (zod kd) s.1 s.2 ((8 * zwb (zod kd) * c + k120) / (8 * zwb (zod kd)) + 1)).getD ((8 * zwb (zod kd) * c + k120) % (8 * zwb (zod kd))) 0)) (by rw [le119 _ (by rw [lv]; omega), Nat.mul_add_div (by omega), Nat.mul_add_mod, Nat.div_eq_of_lt (show k120 < 8 * zwb (zod kd) by omega), Nat.mod_eq_of_lt (show k120 < 8 * zwb (zod kd) by omega), Nat.add_zero]) ?_
                  refine zn_iast dX11_drawMac_94 (by omega) k121_2 (by omega) (by omega) ?_
                  refine zp_nh (fun h122x eh122x => ?_)
                  have k122_0 := (congrFun eh122x (64)).trans ((va_up_ne _ _ (by omega)).trans k121_0)
                  have k122_1 := (congrFun eh122x (a)).trans ((va_up_ne _ _ (by omega)).trans k121_1)
                  have k122_2 : h122x (94) = some (.inr (4096, .inl (va_up (zfl go (8 * zwb (zod kd) * c) (k120) (fun i => nI ((zmv (zod kd) s.1 s.2 ((8 * zwb (zod kd) * c + i) / (8 * zwb (zod kd)) + 1)).getD ((8 * zwb (zod kd) * c + i) % (8 * zwb (zod kd))) 0))) ((8 * zwb (zod kd) * c) + (k120)) (nI ((zmv (zod kd) s.1 s.2 ((8 * zwb (zod kd) * c + k120) / (8 * zwb (zod kd)) + 1)).getD ((8 * zwb (zod kd) * c + k120) % (8 * zwb (zod kd))) 0))))) := by rw [eh122x]; exact va_up_self _ _ _
                  have k122_3 := (congrFun eh122x (a + 1)).trans ((va_up_ne _ _ (by omega)).trans k121_3)
                  have sw123 : zsm hX120 h122x (zon (94)) := zsm.rf.up eh122x rfl
                  have zw123 : zsh hX120 h122x := zsh.fill eh122x k121_2
                  refine zp_pc (pc' := 95) rfl ?_
                  refine zn_iinc 1 (ls' := [some (.ref (64)), some (.ref (a)), some (.int (nI (k))), some (.int (nI (A.length))), some (.int (nI (8 * zwb (zod kd)))), some (.int (nI (8 * zwb (zod kd) * c))), some (.int (nI (k120 + 1)))]) dX11_drawMac_95 (by decide) (by decide) rfl rfl ?_
                  refine zp_goto (tgt := 62) dX11_drawMac_98 (by decide) ?_
                  refine zp_pc (pc' := 62) rfl ?_
                  rw [zfl_step eX120 eh122x (by omega) rfl]
                  exact ih ((min (8 * zwb (zod kd)) (k - 8 * zwb (zod kd) * c)) - (k120 + 1)) (by omega) (k120 + 1) rfl (by omega)
          suffices K120 : zP g mX11_drawMac (zR 7 0 0) Qf 0 0 101 [some (.ref (64)), some (.ref (a)), some (.int (nI (k))), some (.int (nI (A.length))), some (.int (nI (8 * zwb (zod kd)))), some (.int (nI (8 * zwb (zod kd) * c))), some (.int (nI (min (8 * zwb (zod kd)) (k - 8 * zwb (zod kd) * c))))] [] (va_up h115 (94) (some (.inr (4096, .inl (zfl go (8 * zwb (zod kd) * c) (min (8 * zwb (zod kd)) (k - 8 * zwb (zod kd) * c)) (fun i => nI ((zmv (zod kd) s.1 s.2 ((8 * zwb (zod kd) * c + i) / (8 * zwb (zod kd)) + 1)).getD ((8 * zwb (zod kd) * c + i) % (8 * zwb (zod kd))) 0))))))) n by
            have q := lp120 K120 ((min (8 * zwb (zod kd)) (k - 8 * zwb (zod kd) * c)) - 0) 0 rfl (Nat.zero_le _)
            rw [zfl_0, zup_same m118] at q
            exact q
          refine zp_nh (fun hY120 eY120 => ?_)
          have k124_0 := (congrFun eY120 (64)).trans ((va_up_ne _ _ (by omega)).trans m116)
          have k124_1 := (congrFun eY120 (a)).trans ((va_up_ne _ _ (by omega)).trans m117)
          have k124_2 : hY120 (94) = some (.inr (4096, .inl (zfl go (8 * zwb (zod kd) * c) (min (8 * zwb (zod kd)) (k - 8 * zwb (zod kd) * c)) (fun i => nI ((zmv (zod kd) s.1 s.2 ((8 * zwb (zod kd) * c + i) / (8 * zwb (zod kd)) + 1)).getD ((8 * zwb (zod kd) * c + i) % (8 * zwb (zod kd))) 0))))) := by rw [eY120]; exact va_up_self _ _ _
          have k124_3 := (congrFun eY120 (a + 1)).trans ((va_up_ne _ _ (by omega)).trans ld119)
          have sf125 := (zsm.fill eY120)
          have zf125 := zsh.fill eY120 m118
          refine zp_iload dX11_drawMac_101 rfl ?_
          refine zp_iload dX11_drawMac_103 rfl ?_
          refine zn_iadd dX11_drawMac_105 ?_
          refine zp_istore (ls' := [some (.ref (64)), some (.ref (a)), some (.int (nI (k))), some (.int (nI (A.length))), some (.int (nI (8 * zwb (zod kd)))), some (.int (nI ((8 * zwb (zod kd) * c) + (8 * zwb (zod kd))))), some (.int (nI (min (8 * zwb (zod kd)) (k - 8 * zwb (zod kd) * c))))]) dX11_drawMac_106 (by decide) rfl ?_
          refine zp_pc (pc' := 108) rfl ?_
          refine zp_ls (ls' := [some (.ref (64)), some (.ref (a)), some (.int (nI (k))), some (.int (nI (A.length))), some (.int (nI (8 * zwb (zod kd)))), some (.int (nI (8 * zwb (zod kd) * (c + 1)))), some (.int (nI (min (8 * zwb (zod kd)) (k - 8 * zwb (zod kd) * c))))]) (by rw [Nat.mul_add, Nat.mul_one]) ?_
          refine zp_goto (tgt := 48) dX11_drawMac_108 (by decide) ?_
          refine zp_pc (pc' := 48) rfl ?_
          refine zp_drop (ls' := [some (.ref (64)), some (.ref (a)), some (.int (nI (k))), some (.int (nI (A.length))), some (.int (nI (8 * zwb (zod kd)))), some (.int (nI (8 * zwb (zod kd) * (c + 1)))), none]) (fun i v hv => ?_) ?_
          · rcases i with _ | _ | _ | _ | _ | _ | _ | i <;> simp at hv ⊢ <;> exact hv
          refine ih (k - (c + 1)) (by omega) (c + 1) hY120 _ rfl (by omega) (Or.inr (by rw [Nat.add_sub_cancel]; omega)) (s2.trans (((s115).mono (fun i hi => by unfold zsm7; unfold zsm8 at hi; omega)).trans ((sf125).mono (fun i hi => by unfold zsm7; unfold zon at hi; omega)))) (z2.trans ((z115).trans zf125)) k124_2 (V3.keep (sf125 _ (by unfold zon; omega))) (fun j hj hj2 => ?_)
          rw [Nat.mul_add, Nat.mul_one] at hj2
          rcases Nat.lt_or_ge j (8 * zwb (zod kd) * c) with q | q
          · rw [zfl_out (Or.inl q)]; exact egr j hj q
          · obtain ⟨d, rfl⟩ := Nat.exists_eq_add_of_le q
            rw [zfl_in (by omega)]
    exact lp _ 0 h1 gO rfl (Nat.zero_le _) (Or.inl rfl) zsm.rf zsh.rf hO1 V1 (fun j _ hj => absurd hj (by omega))
  refine zn_if_le (tgt := 45) dX11_drawMac_36 (by decide) (by omega) (fun c36 => ?_) (fun c36 => ?_)
  · exact kt111 hY104 s0 z0 ⟨_, k108_0⟩ (by rw [es, if_neg (by omega)]; exact V0) (by rw [es, if_neg (by omega)]; exact C0) O0 aG
  · refine zp_aload_n dX11_drawMac_39 rfl ?_
    refine zp_aload_n dX11_drawMac_40 rfl ?_
    refine zp_iload_n dX11_drawMac_41 rfl ?_
    refine zp_pc (pc' := 42) rfl ?_
    refine zp_callV (As := [.ref (a), .int (nI (A.length))]) (k := 64) (st := []) (ci := 10) dX11_drawMac_42 cX11_261 rfl k108_0 rfl rfl (e_zmixM W110 k108_0 k108_1 ha hkd hk2 hk4 V0 C0 lV lC aG (by omega)) (by decide) (by decide) (Nat.le_of_ble_eq_true rfl) (fun v126 h126 n126 q126 => ?_)
    obtain ⟨rfl, N126, s126, z126, ⟨mn3, o126⟩, v126, c126⟩ := q126
    rw [N126]
    refine zp_nrm (cells' := 0) (slots' := 0) (st' := []) rfl rfl rfl ?_
    have m127 : h126 (a) = some (.inl (9, [.int (nI (zbi tr)), .int (nI (kd)), .int (nI (st)), .int (nI (iv)), .int (nI (zbi rs)), .int (nI (ct)), .int (dr), .int (nI (sd)), .ref (a + 1), .ref (a + 2)])) := (s126 _ (by unfold zsm9; omega)).trans k108_1
    have m128 : h126 (93) = some (.inr (240, .inl lf101)) := (s126 _ (by unfold zsm9; omega)).trans k108_2
    have m129 : h126 (90) = some (.inr (400, .inl (zfl if102 (0) (A.length) (fun i => nI (A.getD i 0))))) := (s126 _ (by unfold zsm9; omega)).trans k108_3
    refine zp_pc (pc' := 45) rfl ?_
    exact kt111 h126 (s0.trans (s126.mono (fun i hi => by unfold zsgo; unfold zsm9 at hi; omega))) (z0.trans z126) ⟨_, o126⟩ (by rw [es, if_pos c36]; exact v126) (by rw [es, if_pos c36]; exact c126) (O0.keep (s126 _ (by unfold zsm9; omega))) (aG.keep (s126 _ (by unfold zsm9; omega)))
