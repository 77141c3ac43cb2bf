theorem zcN4 {kd : Nat} (h : kd < 8) (h4 : 4 ≤ kd) : zsd kd = zkl (zod kd) + 16 := by
  rcases zkind h with q | q | q
  · omega
  · omega
  · exact q.2.2.2.1
theorem zccat_get (b : Bool) (K V : List Nat) {c j : Nat} (hj : j < c * 16) : (zccat b K V c).getD j 0 = (zenc b K (zplus V (j / 16 + 1))).getD (j % 16) 0 := by
  unfold zccat
  exact zflat_getD _ 16 (by decide) (fun k => zenc_len _ _ _) _ _ hj
theorem zccat_lt {b : Bool} {K : List Nat} (hK : ∀ x ∈ K, x < 256) (V : List Nat) (c : Nat) : ∀ x ∈ zccat b K V c, x < 256 := fun x h => by
  obtain ⟨i, -, h2⟩ := List.mem_flatMap.mp h
  exact zenc_lt hK (znum_lt _ _) x h2
theorem zcmx_get (b : Bool) (K V m : List Nat) {j : Nat} (hj : j < zkl b + 16) : (zcmx b K V m).getD j 0 = (zenc b K (zplus V (j / 16 + 1))).getD (j % 16) 0 ^^^ m.getD j 0 := by
  have hz := zkl_or b
  unfold zcmx
  rw [zxor_get _ _ _ (by rw [zccat_len]; omega), zccat_get _ _ _ (by omega), Nat.zero_add]
theorem zcmx_lt {b : Bool} {K V m : List Nat} (hK : ∀ x ∈ K, x < 256) (hm : ∀ j, j < zkl b + 16 → m.getD j 0 < 256) : ∀ x ∈ zcmx b K V m, x < 256 := fun x h => by
  obtain ⟨i, hi, rfl⟩ := List.getElem_of_mem h
  have l := zcmx_len b K V m
  have e : (zcmx b K V m).getD i 0 = (zcmx b K V m)[i] := by rw [List.getD_eq_getElem?_getD, List.getElem?_eq_getElem hi]; rfl
  rw [← e, zcmx_get b K V m (by omega)]
  exact zx_lt (zgetD_lt (zenc_lt hK (znum_lt _ _)) _) (hm i (by omega))
abbrev zsb8 (a : Nat) : Nat → Prop := fun i => i = 78 ∨ i = 79 ∨ i = 88 ∨ i = 91 ∨ i = a + 1
abbrev zsb9 (a : Nat) : Nat → Prop := fun i => i = 78 ∨ i = 79 ∨ i = 88 ∨ i = 89 ∨ i = 91 ∨ i = a + 1 ∨ i = a + 2
abbrev zsb7 (a : Nat) : Nat → Prop := fun i => i = 78 ∨ i = 79 ∨ i = 88 ∨ i = 89 ∨ i = 91 ∨ i = a + 1
abbrev zsc7 (a : Nat) : Nat → Prop := fun i => i = 78 ∨ i = 79 ∨ i = 88 ∨ i = 91 ∨ i = a + 1 ∨ i = 94
set_option maxRecDepth 10000 in
set_option maxHeartbeats 2000000 in
theorem e_zblock {g : ZG} {h : ZH} {n : Nat} {a kd st iv ct sd : Nat} {tr rs : Bool} {dr : Int32} {V C : List Nat} {th : Int32} {wt : Nat} {un : Bool} {rp wi pa be ru sa me se ta fa : Int32} {mn tp ou : Nat} (hw : zmw h) (ho : h 64 = some (.inl (10, [.int (th), .ref (65), .ref (66), .ref (67), .ref (68), .ref (69), .ref (70), .ref (71), .ref (72), .ref (73), .ref (74), .ref (75), .ref (76), .ref (77), .ref (78), .ref (79), .ref (80), .ref (81), .ref (82), .ref (83), .ref (84), .int (nI (wt)), .int (nI (zbi un)), .int (rp), .int (wi), .int (pa), .int (be), .int (ru), .int (sa), .int (me), .int (se), .int (ta), .int (fa), .ref (85), .ref (86), .ref (87), .int (nI (mn)), .ref (88), .ref (89), .ref (90), .ref (91), .ref (92), .ref (93), .int (nI (tp)), .ref (94), .int (nI (ou))]))) (hg : h a = some (.inl (9, [.int (nI (zbi tr)), .int (nI (kd)), .int (nI (st)), .int (nI (iv)), .int (nI (zbi rs)), .int (nI (ct)), .int (dr), .int (nI (sd)), .ref (a + 1), .ref (a + 2)]))) (ha : a = 95 ∨ a = 98 ∨ a = 101 ∨ a = 104) (hkd : kd < 8) (hk4 : 4 ≤ kd) (hV : zar h (a + 1) 111 V) (hC : zar h (a + 2) 111 C) (lV : V.length = 16) (lC : C.length = zkl (zod kd)) : zMt g mX11_blockNext (zR 3 0 0) [.ref (64), .ref (a)] h n (fun v h' n' => v = none ∧ n' = n ∧ zsm h h' (zsb8 a) ∧ zsh h h' ∧ zar h' (a + 1) 111 (zplus V 1) ∧ zar h' 91 16 (zenc (zod kd) C (zplus V 1))) := by
  refine zMt.of [some (.ref (64)), some (.ref (a)), none] (by decide) rfl (Nat.le_of_ble_eq_true rfl) ?_
  obtain ⟨Qf, hQ⟩ : ∃ Qf : ZQ, Qf = (fun v h' n' => v = none ∧ n' = n ∧ zsm h h' (zsb8 a) ∧ zsh h h' ∧ zar h' (a + 1) 111 (zplus V 1) ∧ zar h' 91 16 (zenc (zod kd) C (zplus V 1))) := ⟨_, rfl⟩
  rw [← hQ]
  have hs := zsd_le hkd
  have hsd := zcN4 hkd hk4
  have hz := zkl_or (zod kd)
  refine zp_aload_n dX11_blockNext_0 rfl ?_
  refine zp_aload_n dX11_blockNext_1 rfl ?_
  refine zp_get dX11_blockNext_2 gX11_226_9 hg rfl ?_
  refine zp_bipush (v := nI (16)) dX11_blockNext_5 (by decide) ?_
  refine zp_pc (pc' := 7) rfl ?_
  refine zp_i (y := nI (V.length)) (by rw [lV]) ?_
  refine zp_iconst (v := nI (1)) dX11_blockNext_7 (by decide) ?_
  refine zp_pc (pc' := 8) rfl ?_
  refine zp_callV (As := [.ref (a + 1), .int (nI (V.length)), .int (nI (1))]) (k := 64) (st := []) (ci := 10) dX11_blockNext_8 cX11_246 rfl ho rfl rfl (e_maddsN (x := 1) ho hw.m88 hV (by omega) (by omega) (by rw [lV]; decide) (by decide)) (by decide) (by decide) (Nat.le_of_ble_eq_true rfl) (fun v1 h1 n1 q1 => ?_)
  obtain ⟨rfl, N1, s1, z1, d1⟩ := q1
  rw [N1]
  refine zp_nrm (cells' := 0) (slots' := 0) (st' := []) rfl rfl rfl ?_
  have m2 : h1 (64) = some (.inl (10, [.int (th), .ref (65), .ref (66), .ref (67), .ref (68), .ref (69), .ref (70), .ref (71), .ref (72), .ref (73), .ref (74), .ref (75), .ref (76), .ref (77), .ref (78), .ref (79), .ref (80), .ref (81), .ref (82), .ref (83), .ref (84), .int (nI (wt)), .int (nI (zbi un)), .int (rp), .int (wi), .int (pa), .int (be), .int (ru), .int (sa), .int (me), .int (se), .int (ta), .int (fa), .ref (85), .ref (86), .ref (87), .int (nI (mn)), .ref (88), .ref (89), .ref (90), .ref (91), .ref (92), .ref (93), .int (nI (tp)), .ref (94), .int (nI (ou))])) := (s1 _ (by unfold zsa; omega)).trans ho
  have m3 : h1 (a) = some (.inl (9, [.int (nI (zbi tr)), .int (nI (kd)), .int (nI (st)), .int (nI (iv)), .int (nI (zbi rs)), .int (nI (ct)), .int (dr), .int (nI (sd)), .ref (a + 1), .ref (a + 2)])) := (s1 _ (by unfold zsa; omega)).trans hg
  have lP : (zplus V 1).length = 16 := by rw [zplus_len, lV]
  obtain ⟨la4, lb4, lc4, lf4, ld4, le4⟩ := id d1
  have W5 := zmw.sh hw ((s1).mono (fun i hi => by unfold zwf; unfold zsa at hi; omega)) (z1) (fun i hi => hi)
  obtain ⟨if6, ih6⟩ := id (W5.m91)
  refine zp_iconst (v := nI (0)) dX11_blockNext_11 (by decide) ?_
  refine zp_istore_n (ls' := [some (.ref (64)), some (.ref (a)), some (.int (nI (0)))]) dX11_blockNext_12 (by decide) rfl ?_
  refine zp_pc (pc' := 13) rfl ?_
  have lp7 : zP g mX11_blockNext (zR 3 0 0) Qf 0 0 37 [some (.ref (64)), some (.ref (a)), some (.int (nI (16)))] [] (va_up h1 (91) (some (.inr (16, .inl (zfl if6 (0) (16) (fun i => nI ((zplus V 1).getD i 0))))))) n → ∀ (m k7 : Nat), m = (16) - k7 → k7 ≤ (16) → zP g mX11_blockNext (zR 3 0 0) Qf 0 0 13 [some (.ref (64)), some (.ref (a)), some (.int (nI (k7)))] [] (va_up h1 (91) (some (.inr (16, .inl (zfl if6 (0) (k7) (fun i => nI ((zplus V 1).getD i 0))))))) n := by
    intro kk m
    induction m using Nat.strongRecOn with
    | _ m ih =>
      intro k7 hm7 hk7
      refine zp_nh (fun hX7 eX7 => ?_)
      have k8_0 := (congrFun eX7 (64)).trans ((va_up_ne _ _ (by omega)).trans m2)
      have k8_1 := (congrFun eX7 (a)).trans ((va_up_ne _ _ (by omega)).trans m3)
      have k8_2 := (congrFun eX7 (a + 1)).trans ((va_up_ne _ _ (by omega)).trans ld4)
      have k8_3 : hX7 (91) = some (.inr (16, .inl (zfl if6 (0) (k7) (fun i => nI ((zplus V 1).getD i 0))))) := by rw [eX7]; exact va_up_self _ _ _
      refine zp_iload_n dX11_blockNext_13 rfl ?_
      refine zp_bipush (v := nI (16)) dX11_blockNext_14 (by decide) ?_
      refine zp_pc (pc' := 16) rfl ?_
      refine zn_icmp_ge (tgt := 37) dX11_blockNext_16 (by decide) (by omega) (by omega) (fun c16 => ?_) (fun c16 => ?_)
      · have e7 : k7 = (16) := by omega
        subst e7
        rw [eX7]
        exact kk
      · refine zp_aload_n dX11_blockNext_19 rfl ?_
        refine zp_get dX11_blockNext_20 gX11_108_10 k8_0 rfl ?_
        refine zp_iload_n dX11_blockNext_23 rfl ?_
        refine zp_aload_n dX11_blockNext_24 rfl ?_
        refine zp_get dX11_blockNext_25 gX11_226_9 k8_1 rfl ?_
        refine zp_iload_n dX11_blockNext_28 rfl ?_
        refine zp_pc (pc' := 29) rfl ?_
        refine zn_iald (j := k7) dX11_blockNext_29 k8_2 (by omega) (by omega) ?_
        refine zp_i (y := nI ((zplus V 1).getD k7 0)) (le4 _ (by omega)) ?_
        refine zn_iast dX11_blockNext_30 (by omega) k8_3 (by omega) (by omega) ?_
        refine zp_nh (fun h9x eh9x => ?_)
        have k9_0 := (congrFun eh9x (64)).trans ((va_up_ne _ _ (by omega)).trans k8_0)
        have k9_1 := (congrFun eh9x (a)).trans ((va_up_ne _ _ (by omega)).trans k8_1)
        have k9_2 := (congrFun eh9x (a + 1)).trans ((va_up_ne _ _ (by omega)).trans k8_2)
        have k9_3 : h9x (91) = some (.inr (16, .inl (va_up (zfl if6 (0) (k7) (fun i => nI ((zplus V 1).getD i 0))) (k7) (nI ((zplus V 1).getD k7 0))))) := by rw [eh9x]; exact va_up_self _ _ _
        have sw10 : zsm hX7 h9x (zon (91)) := zsm.rf.up eh9x rfl
        have zw10 : zsh hX7 h9x := zsh.fill eh9x k8_3
        refine zp_pc (pc' := 31) rfl ?_
        refine zn_iinc 1 (ls' := [some (.ref (64)), some (.ref (a)), some (.int (nI (k7 + 1)))]) dX11_blockNext_31 (by decide) (by decide) rfl rfl ?_
        refine zp_goto (tgt := 13) dX11_blockNext_34 (by decide) ?_
        refine zp_pc (pc' := 13) rfl ?_
        rw [zfl_step eX7 eh9x (by omega) rfl]
        exact ih ((16) - (k7 + 1)) (by omega) (k7 + 1) rfl (by omega)
  suffices K7 : zP g mX11_blockNext (zR 3 0 0) Qf 0 0 37 [some (.ref (64)), some (.ref (a)), some (.int (nI (16)))] [] (va_up h1 (91) (some (.inr (16, .inl (zfl if6 (0) (16) (fun i => nI ((zplus V 1).getD i 0))))))) n by
    have q := lp7 K7 ((16) - 0) 0 rfl (Nat.zero_le _)
    rw [zfl_0, zup_same ih6] at q
    exact q
  refine zp_nh (fun hY7 eY7 => ?_)
  have k11_0 := (congrFun eY7 (64)).trans ((va_up_ne _ _ (by omega)).trans m2)
  have k11_1 := (congrFun eY7 (a)).trans ((va_up_ne _ _ (by omega)).trans m3)
  have k11_2 := (congrFun eY7 (a + 1)).trans ((va_up_ne _ _ (by omega)).trans ld4)
  have k11_3 : hY7 (91) = some (.inr (16, .inl (zfl if6 (0) (16) (fun i => nI ((zplus V 1).getD i 0))))) := by rw [eY7]; exact va_up_self _ _ _
  have sf12 := (zsm.fill eY7)
  have zf12 := zsh.fill eY7 ih6
  refine zp_aload_n dX11_blockNext_37 rfl ?_
  refine zp_aload_n dX11_blockNext_38 rfl ?_
  refine zp_get dX11_blockNext_39 gX11_243_9 k11_1 rfl ?_
  refine zp_aload_n dX11_blockNext_42 rfl ?_
  refine zp_callV (As := []) (k := a) (st := [.ref (a + 2), .ref (64)]) (ci := 9) dX11_blockNext_43 cX11_265 rfl k11_1 rfl rfl (e_zkeys k11_1 hkd) (by decide) (by decide) (Nat.le_of_ble_eq_true rfl) (fun v13 h13 n13 q13 => ?_)
  obtain ⟨rfl, H13, N13⟩ := q13
  rw [N13, H13]
  refine zp_nrm (cells' := 0) (slots' := 0) (st' := [.int (nI (zkl (zod kd))), .ref (a + 2), .ref (64)]) rfl rfl rfl ?_
  refine zp_aload_n dX11_blockNext_46 rfl ?_
  refine zp_get dX11_blockNext_47 gX11_108_10 k11_0 rfl ?_
  refine zp_pc (pc' := 50) rfl ?_
  have aB : zar hY7 91 16 (zplus V 1) := zar.mk (L := 16) k11_3 lP (by decide) (by decide) lc4 (fun j hj => zfl_in0 hj)
  have W14 := zmw.sh W5 ((sf12).mono (fun i hi => by unfold zwf; unfold zon at hi; omega)) (zf12) (fun i hi => hi)
  refine zp_callV (As := [.ref (a + 2), .int (nI (zkl (zod kd))), .ref (91)]) (k := 64) (st := []) (ci := 10) dX11_blockNext_50 cX11_186 rfl k11_0 rfl rfl (e_mcipher (b := (zod kd)) (q := a + 2) (r := 91) W14.2.2.2.1 k11_0 (((hC).keep (s1 _ (by unfold zsa; omega))).keep (sf12 _ (by unfold zon; omega))) aB (by omega) (by decide) lC lP) (by decide) (by decide) (Nat.le_of_ble_eq_true rfl) (fun v15 h15 n15 q15 => ?_)
  obtain ⟨rfl, N15, s15, z15, d15⟩ := q15
  rw [N15]
  refine zp_nrm (cells' := 0) (slots' := 0) (st' := []) rfl rfl rfl ?_
  have m16 : h15 (64) = some (.inl (10, [.int (th), .ref (65), .ref (66), .ref (67), .ref (68), .ref (69), .ref (70), .ref (71), .ref (72), .ref (73), .ref (74), .ref (75), .ref (76), .ref (77), .ref (78), .ref (79), .ref (80), .ref (81), .ref (82), .ref (83), .ref (84), .int (nI (wt)), .int (nI (zbi un)), .int (rp), .int (wi), .int (pa), .int (be), .int (ru), .int (sa), .int (me), .int (se), .int (ta), .int (fa), .ref (85), .ref (86), .ref (87), .int (nI (mn)), .ref (88), .ref (89), .ref (90), .ref (91), .ref (92), .ref (93), .int (nI (tp)), .ref (94), .int (nI (ou))])) := (s15 _ (by unfold zs3; omega)).trans k11_0
  have m17 : h15 (a) = some (.inl (9, [.int (nI (zbi tr)), .int (nI (kd)), .int (nI (st)), .int (nI (iv)), .int (nI (zbi rs)), .int (nI (ct)), .int (dr), .int (nI (sd)), .ref (a + 1), .ref (a + 2)])) := (s15 _ (by unfold zs3; omega)).trans k11_1
  have m18 : h15 (a + 1) = some (.inr (111, .inl lf4)) := (s15 _ (by unfold zs3; omega)).trans k11_2
  refine zp_pc (pc' := 53) rfl ?_
  refine zp_ret (v := none) dX11_blockNext_53 ⟨rfl, rfl⟩ (by decide) (by decide) ?_
  rw [hQ]
  exact ⟨rfl, rfl, (((s1).mono (fun i hi => by unfold zsb8; unfold zsa at hi; omega)).trans ((sf12).mono (fun i hi => by unfold zsb8; unfold zon at hi; omega))).trans ((s15).mono (fun i hi => by unfold zsb8; unfold zs3 at hi; omega)), ((z1).trans zf12).trans z15, (d1.keep (sf12 _ (by unfold zon; omega))).keep (s15 _ (by unfold zs3; omega)), d15⟩
set_option maxRecDepth 10000 in
set_option maxHeartbeats 2000000 in
theorem e_zmixC {g : ZG} {h : ZH} {n : Nat} {a kd st iv ct sd : Nat} {tr rs : Bool} {dr : Int32} {V C M mm : List Nat} {th : Int32} {wt : Nat} {un : Bool} {rp wi pa be ru sa me se ta fa : Int32} {mn tp ou : Nat} (hw : zmw h) (ho : h 64 = some (.inl (10, [.int (th), .ref (65), .ref (66), .ref (67), .ref (68), .ref (69), .ref (70), .ref (71), .ref (72), .ref (73), .ref (74), .ref (75), .ref (76), .ref (77), .ref (78), .ref (79), .ref (80), .ref (81), .ref (82), .ref (83), .ref (84), .int (nI (wt)), .int (nI (zbi un)), .int (rp), .int (wi), .int (pa), .int (be), .int (ru), .int (sa), .int (me), .int (se), .int (ta), .int (fa), .ref (85), .ref (86), .ref (87), .int (nI (mn)), .ref (88), .ref (89), .ref (90), .ref (91), .ref (92), .ref (93), .int (nI (tp)), .ref (94), .int (nI (ou))]))) (hg : h a = some (.inl (9, [.int (nI (zbi tr)), .int (nI (kd)), .int (nI (st)), .int (nI (iv)), .int (nI (zbi rs)), .int (nI (ct)), .int (dr), .int (nI (sd)), .ref (a + 1), .ref (a + 2)]))) (ha : a = 95 ∨ a = 98 ∨ a = 101 ∨ a = 104) (hkd : kd < 8) (hk4 : 4 ≤ kd) (hV : zar h (a + 1) 111 V) (hC : zar h (a + 2) 111 C) (lV : V.length = 16) (lC : C.length = zkl (zod kd)) (hM : zar h 92 48 M) (lM : M.length = zsd kd) (hm : ∀ j, j < zsd kd → M.getD j 0 = mm.getD j 0) : zMt g mX11_mixCounter (zR 4 0 0) [.ref (64), .ref (a)] h n (fun v h' n' => v = none ∧ n' = n ∧ zsm h h' (zsb9 a) ∧ zsh h h' ∧ zar h' (a + 1) 111 (zcmV (zod kd) C V mm) ∧ zar h' (a + 2) 111 (zcmK (zod kd) C V mm)) := by
  refine zMt.of [some (.ref (64)), some (.ref (a)), none, none] (by decide) rfl (Nat.le_of_ble_eq_true rfl) ?_
  obtain ⟨Qf, hQ⟩ : ∃ Qf : ZQ, Qf = (fun v h' n' => v = none ∧ n' = n ∧ zsm h h' (zsb9 a) ∧ zsh h h' ∧ zar h' (a + 1) 111 (zcmV (zod kd) C V mm) ∧ zar h' (a + 2) 111 (zcmK (zod kd) C V mm)) := ⟨_, rfl⟩
  rw [← hQ]
  have hs := zsd_le hkd
  have hsd := zcN4 hkd hk4
  have hz := zkl_or (zod kd)
  have cb := hC.bytes
  have vb := hV.bytes
  obtain ⟨la1, lb1, lc1, lf1, ld1, le1⟩ := id hM
  obtain ⟨if2, ih2⟩ := id (hw.m89)
  have xl := zcmx_len (zod kd) C V m
  have xb : ∀ x ∈ (zcmx (zod kd) C V mm), x < 256 := zcmx_lt cb (fun j hj => by rw [← hm j (by omega)]; exact zgetD_lt lc1 j)
  refine zp_iconst (v := nI (0)) dX11_mixCounter_0 (by decide) ?_
  refine zp_istore_n (ls' := [some (.ref (64)), some (.ref (a)), some (.int (nI (0))), none]) dX11_mixCounter_1 (by decide) rfl ?_
  refine zp_pc (pc' := 2) rfl ?_
  refine zp_ls (ls' := [some (.ref (64)), some (.ref (a)), some (.int (nI (16 * 0))), none]) rfl ?_
  have hCC : ∀ h1, zsm h h1 (zsb7 a) → zar h1 (a + 2) 111 C := fun h1 s1 => hC.keep (s1 _ (by unfold zsb7; omega))
  have lp : ∀ (m : Nat) (c : Nat) (h1 : ZH) (g9 : Nat → Int32), m = 3 - c → 16 * c ≤ zsd kd → zsm h h1 (zsb7 a) → zsh h h1 → h1 89 = some (.inr (111, .inl g9)) → zar h1 (a + 1) 111 (zplus V c) → (∀ j, j < 16 * c → g9 j = nI ((zcmx (zod kd) C V mm).getD j 0)) → zP g mX11_mixCounter (zR 4 0 0) Qf 0 0 2 [some (.ref (64)), some (.ref (a)), some (.int (nI (16 * c))), none] [] h1 n := by
    intro m
    induction m using Nat.strongRecOn with
    | _ m ih =>
      intro c h1 g9 hm1 hc1 s1 z1 e9 V1 eg
      have o1 : h1 64 = some (.inl (10, [.int (th), .ref (65), .ref (66), .ref (67), .ref (68), .ref (69), .ref (70), .ref (71), .ref (72), .ref (73), .ref (74), .ref (75), .ref (76), .ref (77), .ref (78), .ref (79), .ref (80), .ref (81), .ref (82), .ref (83), .ref (84), .int (nI (wt)), .int (nI (zbi un)), .int (rp), .int (wi), .int (pa), .int (be), .int (ru), .int (sa), .int (me), .int (se), .int (ta), .int (fa), .ref (85), .ref (86), .ref (87), .int (nI (mn)), .ref (88), .ref (89), .ref (90), .ref (91), .ref (92), .ref (93), .int (nI (tp)), .ref (94), .int (nI (ou))])) := (s1 _ (by unfold zsb7; omega)).trans ho
      have g1 : h1 a = some (.inl (9, [.int (nI (zbi tr)), .int (nI (kd)), .int (nI (st)), .int (nI (iv)), .int (nI (zbi rs)), .int (nI (ct)), .int (dr), .int (nI (sd)), .ref (a + 1), .ref (a + 2)])) := (s1 _ (by unfold zsb7; omega)).trans hg
      have W1 := hw.sh s1 z1 (fun i q => by unfold zsb7 at q; unfold zwf; omega)
      have M1 := hM.keep (s1 92 (by unfold zsb7; omega))
      have C1 := hCC h1 s1
      have lp1 : (zplus V c).length = 16 := by rw [zplus_len, lV]
      refine zp_iload_n dX11_mixCounter_2 rfl ?_
      refine zp_aload_n dX11_mixCounter_3 rfl ?_
      refine zp_callV (As := []) (k := a) (st := [.int (nI (16 * c))]) (ci := 9) dX11_mixCounter_4 cX11_229 rfl g1 rfl rfl (e_zseed g1 hkd) (by decide) (by decide) (Nat.le_of_ble_eq_true rfl) (fun v3 h3 n3 q3 => ?_)
      obtain ⟨rfl, H3, N3⟩ := q3
      rw [N3, H3]
      refine zp_nrm (cells' := 0) (slots' := 0) (st' := [.int (nI (zsd kd)), .int (nI (16 * c))]) rfl rfl rfl ?_
      refine zp_pc (pc' := 7) rfl ?_
      refine zn_icmp_ge (tgt := 58) dX11_mixCounter_7 (by decide) (by omega) (by omega) (fun c7 => ?_) (fun c7 => ?_)
      · obtain ⟨fc, ec⟩ := id C1.ia
        obtain ⟨fv, ev⟩ := id V1.ia
        refine zp_iconst (v := nI (0)) dX11_mixCounter_58 (by decide) ?_
        refine zp_istore_n (ls' := [some (.ref (64)), some (.ref (a)), some (.int (nI (0))), none]) dX11_mixCounter_59 (by decide) rfl ?_
        refine zp_pc (pc' := 60) rfl ?_
        have lp4 : zP g mX11_mixCounter (zR 4 0 0) Qf 0 0 86 [some (.ref (64)), some (.ref (a)), some (.int (nI (zkl (zod kd)))), none] [] (va_up h1 (a + 2) (some (.inr (111, .inl (zfl fc (0) (zkl (zod kd)) (fun i => nI ((zcmK (zod kd) C V mm).getD i 0))))))) n → ∀ (m k4 : Nat), m = (zkl (zod kd)) - k4 → k4 ≤ (zkl (zod kd)) → zP g mX11_mixCounter (zR 4 0 0) Qf 0 0 60 [some (.ref (64)), some (.ref (a)), some (.int (nI (k4))), none] [] (va_up h1 (a + 2) (some (.inr (111, .inl (zfl fc (0) (k4) (fun i => nI ((zcmK (zod kd) C V mm).getD i 0))))))) n := by
          intro kk m
          induction m using Nat.strongRecOn with
          | _ m ih =>
            intro k4 hm4 hk4
            refine zp_nh (fun hX4 eX4 => ?_)
            have k5_0 := (congrFun eX4 (64)).trans ((va_up_ne _ _ (by omega)).trans o1)
            have k5_1 := (congrFun eX4 (a)).trans ((va_up_ne _ _ (by omega)).trans g1)
            have k5_2 := (congrFun eX4 (89)).trans ((va_up_ne _ _ (by omega)).trans e9)
            have k5_3 : hX4 (a + 2) = some (.inr (111, .inl (zfl fc (0) (k4) (fun i => nI ((zcmK (zod kd) C V mm).getD i 0))))) := by rw [eX4]; exact va_up_self _ _ _
            have k5_4 := (congrFun eX4 (a + 1)).trans ((va_up_ne _ _ (by omega)).trans ev)
            refine zp_iload_n dX11_mixCounter_60 rfl ?_
            refine zp_aload_n dX11_mixCounter_61 rfl ?_
            refine zp_callV (As := []) (k := a) (st := [.int (nI (k4))]) (ci := 9) dX11_mixCounter_62 cX11_265 rfl k5_1 rfl rfl (e_zkeys k5_1 hkd) (by decide) (by decide) (Nat.le_of_ble_eq_true rfl) (fun v6 h6 n6 q6 => ?_)
            obtain ⟨rfl, H6, N6⟩ := q6
            rw [N6, H6]
            refine zp_nrm (cells' := 0) (slots' := 0) (st' := [.int (nI (zkl (zod kd))), .int (nI (k4))]) rfl rfl rfl ?_
            refine zp_pc (pc' := 65) rfl ?_
            refine zn_icmp_ge (tgt := 86) dX11_mixCounter_65 (by decide) (by omega) (by omega) (fun c65 => ?_) (fun c65 => ?_)
            · have e4 : k4 = (zkl (zod kd)) := by omega
              subst e4
              rw [eX4]
              exact kk
            · refine zp_aload_n dX11_mixCounter_68 rfl ?_
              refine zp_get dX11_mixCounter_69 gX11_243_9 k5_1 rfl ?_
              refine zp_iload_n dX11_mixCounter_72 rfl ?_
              refine zp_aload_n dX11_mixCounter_73 rfl ?_
              refine zp_get dX11_mixCounter_74 gX11_102_10 k5_0 rfl ?_
              refine zp_iload_n dX11_mixCounter_77 rfl ?_
              refine zp_pc (pc' := 78) rfl ?_
              refine zn_iald (j := k4) dX11_mixCounter_78 k5_2 (by omega) (by omega) ?_
              refine zp_i (y := nI ((zcmK (zod kd) C V mm).getD k4 0)) (by unfold zcmK; rw [zpart_get (by omega), Nat.zero_add]; exact eg _ (by omega)) ?_
              refine zn_iast dX11_mixCounter_79 (by omega) k5_3 (by omega) (by omega) ?_
              refine zp_nh (fun h7x eh7x => ?_)
              have k7_0 := (congrFun eh7x (64)).trans ((va_up_ne _ _ (by omega)).trans k5_0)
              have k7_1 := (congrFun eh7x (a)).trans ((va_up_ne _ _ (by omega)).trans k5_1)
              have k7_2 := (congrFun eh7x (89)).trans ((va_up_ne _ _ (by omega)).trans k5_2)
              have k7_3 : h7x (a + 2) = some (.inr (111, .inl (va_up (zfl fc (0) (k4) (fun i => nI ((zcmK (zod kd) C V mm).getD i 0))) (k4) (nI ((zcmK (zod kd) C V mm).getD k4 0))))) := by rw [eh7x]; exact va_up_self _ _ _
              have k7_4 := (congrFun eh7x (a + 1)).trans ((va_up_ne _ _ (by omega)).trans k5_4)
              have sw8 : zsm hX4 h7x (zon (a + 2)) := zsm.rf.up eh7x rfl
              have zw8 : zsh hX4 h7x := zsh.fill eh7x k5_3
              refine zp_pc (pc' := 80) rfl ?_
              refine zn_iinc 1 (ls' := [some (.ref (64)), some (.ref (a)), some (.int (nI (k4 + 1))), none]) dX11_mixCounter_80 (by decide) (by decide) rfl rfl ?_
              refine zp_goto (tgt := 60) dX11_mixCounter_83 (by decide) ?_
              refine zp_pc (pc' := 60) rfl ?_
              rw [zfl_step eX4 eh7x (by omega) rfl]
              exact ih ((zkl (zod kd)) - (k4 + 1)) (by omega) (k4 + 1) rfl (by omega)
        suffices K4 : zP g mX11_mixCounter (zR 4 0 0) Qf 0 0 86 [some (.ref (64)), some (.ref (a)), some (.int (nI (zkl (zod kd)))), none] [] (va_up h1 (a + 2) (some (.inr (111, .inl (zfl fc (0) (zkl (zod kd)) (fun i => nI ((zcmK (zod kd) C V mm).getD i 0))))))) n by
          have q := lp4 K4 ((zkl (zod kd)) - 0) 0 rfl (Nat.zero_le _)
          rw [zfl_0, zup_same ec] at q
          exact q
        refine zp_nh (fun hY4 eY4 => ?_)
        have k9_0 := (congrFun eY4 (64)).trans ((va_up_ne _ _ (by omega)).trans o1)
        have k9_1 := (congrFun eY4 (a)).trans ((va_up_ne _ _ (by omega)).trans g1)
        have k9_2 := (congrFun eY4 (89)).trans ((va_up_ne _ _ (by omega)).trans e9)
        have k9_3 : hY4 (a + 2) = some (.inr (111, .inl (zfl fc (0) (zkl (zod kd)) (fun i => nI ((zcmK (zod kd) C V mm).getD i 0))))) := by rw [eY4]; exact va_up_self _ _ _
        have k9_4 := (congrFun eY4 (a + 1)).trans ((va_up_ne _ _ (by omega)).trans ev)
        have sf10 := (zsm.fill eY4)
        have zf10 := zsh.fill eY4 ec
        refine zp_iconst (v := nI (0)) dX11_mixCounter_86 (by decide) ?_
        refine zp_istore_n (ls' := [some (.ref (64)), some (.ref (a)), some (.int (nI (0))), none]) dX11_mixCounter_87 (by decide) rfl ?_
        refine zp_pc (pc' := 88) rfl ?_
        have lp11 : zP g mX11_mixCounter (zR 4 0 0) Qf 0 0 117 [some (.ref (64)), some (.ref (a)), some (.int (nI (16))), none] [] (va_up hY4 (a + 1) (some (.inr (111, .inl (zfl fv (0) (16) (fun i => nI ((zcmV (zod kd) C V mm).getD i 0))))))) n → ∀ (m k11 : Nat), m = (16) - k11 → k11 ≤ (16) → zP g mX11_mixCounter (zR 4 0 0) Qf 0 0 88 [some (.ref (64)), some (.ref (a)), some (.int (nI (k11))), none] [] (va_up hY4 (a + 1) (some (.inr (111, .inl (zfl fv (0) (k11) (fun i => nI ((zcmV (zod kd) C V mm).getD i 0))))))) n := by
          intro kk m
          induction m using Nat.strongRecOn with
          | _ m ih =>
            intro k11 hm11 hk11
            refine zp_nh (fun hX11 eX11 => ?_)
            have k12_0 := (congrFun eX11 (64)).trans ((va_up_ne _ _ (by omega)).trans k9_0)
            have k12_1 := (congrFun eX11 (a)).trans ((va_up_ne _ _ (by omega)).trans k9_1)
            have k12_2 := (congrFun eX11 (89)).trans ((va_up_ne _ _ (by omega)).trans k9_2)
            have k12_3 := (congrFun eX11 (a + 2)).trans ((va_up_ne _ _ (by omega)).trans k9_3)
            have k12_4 : hX11 (a + 1) = some (.inr (111, .inl (zfl fv (0) (k11) (fun i => nI ((zcmV (zod kd) C V mm).getD i 0))))) := by rw [eX11]; exact va_up_self _ _ _
            refine zp_iload_n dX11_mixCounter_88 rfl ?_
            refine zp_bipush (v := nI (16)) dX11_mixCounter_89 (by decide) ?_
            refine zp_pc (pc' := 91) rfl ?_
            refine zn_icmp_ge (tgt := 117) dX11_mixCounter_91 (by decide) (by omega) (by omega) (fun c91 => ?_) (fun c91 => ?_)
            · have e11 : k11 = (16) := by omega
              subst e11
              rw [eX11]
              exact kk
            · refine zp_aload_n dX11_mixCounter_94 rfl ?_
              refine zp_get dX11_mixCounter_95 gX11_226_9 k12_1 rfl ?_
              refine zp_iload_n dX11_mixCounter_98 rfl ?_
              refine zp_aload_n dX11_mixCounter_99 rfl ?_
              refine zp_get dX11_mixCounter_100 gX11_102_10 k12_0 rfl ?_
              refine zp_aload_n dX11_mixCounter_103 rfl ?_
              refine zp_callV (As := []) (k := a) (st := [.ref (89), .int (nI (k11)), .ref (a + 1)]) (ci := 9) dX11_mixCounter_104 cX11_265 rfl k12_1 rfl rfl (e_zkeys k12_1 hkd) (by decide) (by decide) (Nat.le_of_ble_eq_true rfl) (fun v13 h13 n13 q13 => ?_)
              obtain ⟨rfl, H13, N13⟩ := q13
              rw [N13, H13]
              refine zp_nrm (cells' := 0) (slots' := 0) (st' := [.int (nI (zkl (zod kd))), .ref (89), .int (nI (k11)), .ref (a + 1)]) rfl rfl rfl ?_
              refine zp_iload_n dX11_mixCounter_107 rfl ?_
              refine zn_iadd dX11_mixCounter_108 ?_
              refine zp_pc (pc' := 109) rfl ?_
              refine zn_iald (j := (zkl (zod kd)) + (k11)) dX11_mixCounter_109 k12_2 (by omega) (by omega) ?_
              refine zp_i (y := nI ((zcmV (zod kd) C V mm).getD k11 0)) (by unfold zcmV; rw [zpart_get (by omega)]; exact eg _ (by omega)) ?_
              refine zn_iast dX11_mixCounter_110 (by omega) k12_4 (by omega) (by omega) ?_
              refine zp_nh (fun h14x eh14x => ?_)
              have k14_0 := (congrFun eh14x (64)).trans ((va_up_ne _ _ (by omega)).trans k12_0)
              have k14_1 := (congrFun eh14x (a)).trans ((va_up_ne _ _ (by omega)).trans k12_1)
              have k14_2 := (congrFun eh14x (89)).trans ((va_up_ne _ _ (by omega)).trans k12_2)
              have k14_3 := (congrFun eh14x (a + 2)).trans ((va_up_ne _ _ (by omega)).trans k12_3)
              have k14_4 : h14x (a + 1) = some (.inr (111, .inl (va_up (zfl fv (0) (k11) (fun i => nI ((zcmV (zod kd) C V mm).getD i 0))) (k11) (nI ((zcmV (zod kd) C V mm).getD k11 0))))) := by rw [eh14x]; exact va_up_self _ _ _
              have sw15 : zsm hX11 h14x (zon (a + 1)) := zsm.rf.up eh14x rfl
              have zw15 : zsh hX11 h14x := zsh.fill eh14x k12_4
              refine zp_pc (pc' := 111) rfl ?_
              refine zn_iinc 1 (ls' := [some (.ref (64)), some (.ref (a)), some (.int (nI (k11 + 1))), none]) dX11_mixCounter_111 (by decide) (by decide) rfl rfl ?_
              refine zp_goto (tgt := 88) dX11_mixCounter_114 (by decide) ?_
              refine zp_pc (pc' := 88) rfl ?_
              rw [zfl_step eX11 eh14x (by omega) rfl]
              exact ih ((16) - (k11 + 1)) (by omega) (k11 + 1) rfl (by omega)
        suffices K11 : zP g mX11_mixCounter (zR 4 0 0) Qf 0 0 117 [some (.ref (64)), some (.ref (a)), some (.int (nI (16))), none] [] (va_up hY4 (a + 1) (some (.inr (111, .inl (zfl fv (0) (16) (fun i => nI ((zcmV (zod kd) C V mm).getD i 0))))))) n by
          have q := lp11 K11 ((16) - 0) 0 rfl (Nat.zero_le _)
          rw [zfl_0, zup_same k9_4] at q
          exact q
        refine zp_nh (fun hY11 eY11 => ?_)
        have k16_0 := (congrFun eY11 (64)).trans ((va_up_ne _ _ (by omega)).trans k9_0)
        have k16_1 := (congrFun eY11 (a)).trans ((va_up_ne _ _ (by omega)).trans k9_1)
        have k16_2 := (congrFun eY11 (89)).trans ((va_up_ne _ _ (by omega)).trans k9_2)
        have k16_3 := (congrFun eY11 (a + 2)).trans ((va_up_ne _ _ (by omega)).trans k9_3)
        have k16_4 : hY11 (a + 1) = some (.inr (111, .inl (zfl fv (0) (16) (fun i => nI ((zcmV (zod kd) C V mm).getD i 0))))) := by rw [eY11]; exact va_up_self _ _ _
        have sf17 := (zsm.fill eY11)
        have zf17 := zsh.fill eY11 k9_4
        refine zp_pc (pc' := 117) rfl ?_
        refine zp_ret (v := none) dX11_mixCounter_117 ⟨rfl, rfl⟩ (by decide) (by decide) ?_
        rw [hQ]
        exact ⟨rfl, rfl, (s1.mono (fun i hi => by unfold zsb9; unfold zsb7 at hi; omega)).trans (((sf10).mono (fun i hi => by unfold zsb9; unfold zon at hi; omega)).trans ((sf17).mono (fun i hi => by unfold zsb9; unfold zon at hi; omega))), z1.trans ((zf10).trans zf17), zar.mk (L := 16) k16_4 (zcmV_len ..) (by decide) (by decide) (zpart_lt xb _ _) (fun j hj => zfl_in0 hj), zar.mk (L := zkl (zod kd)) k16_3 (zcmK_len ..) (by omega) (by decide) (zpart_lt xb _ _) (fun j hj => zfl_in0 hj)⟩
      · refine zp_aload_n dX11_mixCounter_10 rfl ?_
        refine zp_aload_n dX11_mixCounter_11 rfl ?_
        refine zp_pc (pc' := 12) rfl ?_
        refine zp_callV (As := [.ref (a)]) (k := 64) (st := []) (ci := 10) dX11_mixCounter_12 cX11_268 rfl o1 rfl rfl (e_zblock W1 o1 g1 ha hkd hk4 V1 C1 lp1 lC) (by decide) (by decide) (Nat.le_of_ble_eq_true rfl) (fun v18 h18 n18 q18 => ?_)
        obtain ⟨rfl, N18, s18, z18, v18, d18⟩ := q18
        rw [N18]
        refine zp_nrm (cells' := 0) (slots' := 0) (st' := []) rfl rfl rfl ?_
        have m19 : h18 (64) = some (.inl (10, [.int (th), .ref (65), .ref (66), .ref (67), .ref (68), .ref (69), .ref (70), .ref (71), .ref (72), .ref (73), .ref (74), .ref (75), .ref (76), .ref (77), .ref (78), .ref (79), .ref (80), .ref (81), .ref (82), .ref (83), .ref (84), .int (nI (wt)), .int (nI (zbi un)), .int (rp), .int (wi), .int (pa), .int (be), .int (ru), .int (sa), .int (me), .int (se), .int (ta), .int (fa), .ref (85), .ref (86), .ref (87), .int (nI (mn)), .ref (88), .ref (89), .ref (90), .ref (91), .ref (92), .ref (93), .int (nI (tp)), .ref (94), .int (nI (ou))])) := (s18 _ (by unfold zsb8; omega)).trans o1
        have m20 : h18 (a) = some (.inl (9, [.int (nI (zbi tr)), .int (nI (kd)), .int (nI (st)), .int (nI (iv)), .int (nI (zbi rs)), .int (nI (ct)), .int (dr), .int (nI (sd)), .ref (a + 1), .ref (a + 2)])) := (s18 _ (by unfold zsb8; omega)).trans g1
        have m21 : h18 (89) = some (.inr (111, .inl g9)) := (s18 _ (by unfold zsb8; omega)).trans e9
        rw [zplus_plus] at v18 d18
        obtain ⟨la22, lb22, lc22, lf22, ld22, le22⟩ := id d18
        obtain ⟨la23, lb23, lc23, lf23, ld23, le23⟩ := id (M1.keep (s18 92 (by unfold zsb8; omega)))
        refine zp_iconst (v := nI (0)) dX11_mixCounter_15 (by decide) ?_
        refine zp_istore_n (ls' := [some (.ref (64)), some (.ref (a)), some (.int (nI (16 * c))), some (.int (nI (0)))]) dX11_mixCounter_16 (by decide) rfl ?_
        refine zp_pc (pc' := 17) rfl ?_
        have lp24 : zP g mX11_mixCounter (zR 4 0 0) Qf 0 0 52 [some (.ref (64)), some (.ref (a)), some (.int (nI (16 * c))), some (.int (nI (16)))] [] (va_up h18 (89) (some (.inr (111, .inl (zfl g9 (16 * c) (16) (fun i => nI ((zcmx (zod kd) C V mm).getD (16 * c + i) 0))))))) n → ∀ (m k24 : Nat), m = (16) - k24 → k24 ≤ (16) → zP g mX11_mixCounter (zR 4 0 0) Qf 0 0 17 [some (.ref (64)), some (.ref (a)), some (.int (nI (16 * c))), some (.int (nI (k24)))] [] (va_up h18 (89) (some (.inr (111, .inl (zfl g9 (16 * c) (k24) (fun i => nI ((zcmx (zod kd) C V mm).getD (16 * c + i) 0))))))) n := by
          intro kk m
          induction m using Nat.strongRecOn with
          | _ m ih =>
            intro k24 hm24 hk24
            refine zp_nh (fun hX24 eX24 => ?_)
            have k25_0 := (congrFun eX24 (64)).trans ((va_up_ne _ _ (by omega)).trans m19)
            have k25_1 := (congrFun eX24 (a)).trans ((va_up_ne _ _ (by omega)).trans m20)
            have k25_2 : hX24 (89) = some (.inr (111, .inl (zfl g9 (16 * c) (k24) (fun i => nI ((zcmx (zod kd) C V mm).getD (16 * c + i) 0))))) := by rw [eX24]; exact va_up_self _ _ _
            have k25_3 := (congrFun eX24 (91)).trans ((va_up_ne _ _ (by omega)).trans ld22)
            have k25_4 := (congrFun eX24 (92)).trans ((va_up_ne _ _ (by omega)).trans ld23)
            refine zp_iload_n dX11_mixCounter_17 rfl ?_
            refine zp_bipush (v := nI (16)) dX11_mixCounter_18 (by decide) ?_
            refine zp_pc (pc' := 20) rfl ?_
            refine zn_icmp_ge (tgt := 52) dX11_mixCounter_20 (by decide) (by omega) (by omega) (fun c20 => ?_) (fun c20 => ?_)
            · have e24 : k24 = (16) := by omega
              subst e24
              rw [eX24]
              exact kk
            · refine zp_aload_n dX11_mixCounter_23 rfl ?_
              refine zp_get dX11_mixCounter_24 gX11_102_10 k25_0 rfl ?_
              refine zp_iload_n dX11_mixCounter_27 rfl ?_
              refine zp_iload_n dX11_mixCounter_28 rfl ?_
              refine zn_iadd dX11_mixCounter_29 ?_
              refine zp_aload_n dX11_mixCounter_30 rfl ?_
              refine zp_get dX11_mixCounter_31 gX11_108_10 k25_0 rfl ?_
              refine zp_iload_n dX11_mixCounter_34 rfl ?_
              refine zp_pc (pc' := 35) rfl ?_
              refine zn_iald (j := k24) dX11_mixCounter_35 k25_3 (by omega) (by omega) ?_
              refine zp_i (y := nI ((zenc (zod kd) C (zplus V (c + 1))).getD k24 0)) (le22 _ (by rw [zenc_len]; omega)) ?_
              refine zp_aload_n dX11_mixCounter_36 rfl ?_
              refine zp_get dX11_mixCounter_37 gX11_111_10 k25_0 rfl ?_
              refine zp_iload_n dX11_mixCounter_40 rfl ?_
              refine zp_iload_n dX11_mixCounter_41 rfl ?_
              refine zn_iadd dX11_mixCounter_42 ?_
              refine zp_pc (pc' := 43) rfl ?_
              refine zn_iald (j := (16 * c) + (k24)) dX11_mixCounter_43 k25_4 (by omega) (by omega) ?_
              refine zp_i (y := nI (m.getD (16 * c + k24) 0)) (by rw [le23 _ (by omega), hm _ (by omega)]) ?_
              refine zp_ixor dX11_mixCounter_44 ?_
              refine zp_i (y := nI ((zcmx (zod kd) C V mm).getD (16 * c + k24) 0)) (by rw [nx_xor, zcmx_get _ _ _ _ (by omega), show (16 * c + k24) / 16 = c by omega, show (16 * c + k24) % 16 = k24 by omega]) ?_
              refine zn_iast dX11_mixCounter_45 (by omega) k25_2 (by omega) (by omega) ?_
              refine zp_nh (fun h26x eh26x => ?_)
              have k26_0 := (congrFun eh26x (64)).trans ((va_up_ne _ _ (by omega)).trans k25_0)
              have k26_1 := (congrFun eh26x (a)).trans ((va_up_ne _ _ (by omega)).trans k25_1)
              have k26_2 : h26x (89) = some (.inr (111, .inl (va_up (zfl g9 (16 * c) (k24) (fun i => nI ((zcmx (zod kd) C V mm).getD (16 * c + i) 0))) ((16 * c) + (k24)) (nI ((zcmx (zod kd) C V mm).getD (16 * c + k24) 0))))) := by rw [eh26x]; exact va_up_self _ _ _
              have k26_3 := (congrFun eh26x (91)).trans ((va_up_ne _ _ (by omega)).trans k25_3)
              have k26_4 := (congrFun eh26x (92)).trans ((va_up_ne _ _ (by omega)).trans k25_4)
              have sw27 : zsm hX24 h26x (zon (89)) := zsm.rf.up eh26x rfl
              have zw27 : zsh hX24 h26x := zsh.fill eh26x k25_2
              refine zp_pc (pc' := 46) rfl ?_
              refine zn_iinc 1 (ls' := [some (.ref (64)), some (.ref (a)), some (.int (nI (16 * c))), some (.int (nI (k24 + 1)))]) dX11_mixCounter_46 (by decide) (by decide) rfl rfl ?_
              refine zp_goto (tgt := 17) dX11_mixCounter_49 (by decide) ?_
              refine zp_pc (pc' := 17) rfl ?_
              rw [zfl_step eX24 eh26x (by omega) rfl]
              exact ih ((16) - (k24 + 1)) (by omega) (k24 + 1) rfl (by omega)
        suffices K24 : zP g mX11_mixCounter (zR 4 0 0) Qf 0 0 52 [some (.ref (64)), some (.ref (a)), some (.int (nI (16 * c))), some (.int (nI (16)))] [] (va_up h18 (89) (some (.inr (111, .inl (zfl g9 (16 * c) (16) (fun i => nI ((zcmx (zod kd) C V mm).getD (16 * c + i) 0))))))) n by
          have q := lp24 K24 ((16) - 0) 0 rfl (Nat.zero_le _)
          rw [zfl_0, zup_same m21] at q
          exact q
        refine zp_nh (fun hY24 eY24 => ?_)
        have k28_0 := (congrFun eY24 (64)).trans ((va_up_ne _ _ (by omega)).trans m19)
        have k28_1 := (congrFun eY24 (a)).trans ((va_up_ne _ _ (by omega)).trans m20)
        have k28_2 : hY24 (89) = some (.inr (111, .inl (zfl g9 (16 * c) (16) (fun i => nI ((zcmx (zod kd) C V mm).getD (16 * c + i) 0))))) := by rw [eY24]; exact va_up_self _ _ _
        have k28_3 := (congrFun eY24 (91)).trans ((va_up_ne _ _ (by omega)).trans ld22)
        have k28_4 := (congrFun eY24 (92)).trans ((va_up_ne _ _ (by omega)).trans ld23)
        have sf29 := (zsm.fill eY24)
        have zf29 := zsh.fill eY24 m21
        refine zn_iinc 16 (ls' := [some (.ref (64)), some (.ref (a)), some (.int (nI (16 * c + 16))), some (.int (nI (16)))]) dX11_mixCounter_52 (by decide) (by decide) rfl rfl ?_
        refine zp_pc (pc' := 55) rfl ?_
        refine zp_ls (ls' := [some (.ref (64)), some (.ref (a)), some (.int (nI (16 * (c + 1)))), some (.int (nI (16)))]) (by rw [Nat.mul_add]) ?_
        refine zp_goto (tgt := 2) dX11_mixCounter_55 (by decide) ?_
        refine zp_pc (pc' := 2) rfl ?_
        refine zp_drop (ls' := [some (.ref (64)), some (.ref (a)), some (.int (nI (16 * (c + 1)))), none]) (fun i v hv => ?_) ?_
        · rcases i with _ | _ | _ | _ | i <;> simp at hv ⊢ <;> exact hv
        refine ih (3 - (c + 1)) (by omega) (c + 1) hY24 _ rfl (by omega) (s1.trans (((s18).mono (fun i hi => by unfold zsb7; unfold zsb8 at hi; omega)).trans ((sf29).mono (fun i hi => by unfold zsb7; unfold zon at hi; omega)))) (z1.trans ((z18).trans zf29)) k28_2 (v18.keep (sf29 _ (by unfold zon; omega))) (fun j hj => ?_)
        rcases Nat.lt_or_ge j (16 * c) with q | q
        · rw [zfl_out (Or.inl q)]; exact eg j q
        · obtain ⟨d, rfl⟩ := Nat.exists_eq_add_of_le q
          rw [zfl_in (by omega)]
  exact lp _ 0 h _ rfl (Nat.zero_le _) zsm.rf zsh.rf ih2 (by rw [zplus_0 vb]; exact hV) (fun j hj => absurd hj (by omega))
set_option maxRecDepth 10000 in
set_option maxHeartbeats 2000000 in
theorem e_zseedC {g : ZG} {h : ZH} {n : Nat} {a kd st iv ct sd : Nat} {tr rs : Bool} {dr : Int32} {V C R A : List Nat} {th : Int32} {wt : Nat} {un : Bool} {rp wi pa be ru sa me se ta fa : Int32} {mn tp ou : Nat} (hw : zmw h) (ho : h 64 = some (.inl (10, [.int (th), .ref (65), .ref (66), .ref (67), .ref (68), .ref (69), .ref (70), .ref (71), .ref (72), .ref (73), .ref (74), .ref (75), .ref (76), .ref (77), .ref (78), .ref (79), .ref (80), .ref (81), .ref (82), .ref (83), .ref (84), .int (nI (wt)), .int (nI (zbi un)), .int (rp), .int (wi), .int (pa), .int (be), .int (ru), .int (sa), .int (me), .int (se), .int (ta), .int (fa), .ref (85), .ref (86), .ref (87), .int (nI (mn)), .ref (88), .ref (89), .ref (90), .ref (91), .ref (92), .ref (93), .int (nI (tp)), .ref (94), .int (nI (ou))]))) (hg : h a = some (.inl (9, [.int (nI (zbi tr)), .int (nI (kd)), .int (nI (st)), .int (nI (iv)), .int (nI (zbi rs)), .int (nI (ct)), .int (dr), .int (nI (sd)), .ref (a + 1), .ref (a + 2)]))) (ha : a = 95 ∨ a = 98 ∨ a = 101 ∨ a = 104) (hkd : kd < 8) (hk4 : 4 ≤ kd) (hV : zar h (a + 1) 111 V) (hC : zar h (a + 2) 111 C) (lV : V.length = 16) (lC : C.length = zkl (zod kd)) (hR : zar h 85 100 R) (hA : zar h 93 240 A) (lR : 6 ≤ kd → R.length = zsd kd) : zMt g mX11_seedCounter (zR 5 0 0) [.ref (64), .ref (a), .int (nI (R.length)), .int (nI (A.length))] h n (fun v h' n' => v = none ∧ n' = n ∧ zsm h h' (zsg a) ∧ zsh h h' ∧ (∃ mn', h' 64 = some (.inl (10, [.int (th), .ref (65), .ref (66), .ref (67), .ref (68), .ref (69), .ref (70), .ref (71), .ref (72), .ref (73), .ref (74), .ref (75), .ref (76), .ref (77), .ref (78), .ref (79), .ref (80), .ref (81), .ref (82), .ref (83), .ref (84), .int (nI (wt)), .int (nI (zbi un)), .int (rp), .int (wi), .int (pa), .int (be), .int (ru), .int (sa), .int (me), .int (se), .int (ta), .int (fa), .ref (85), .ref (86), .ref (87), .int (nI (mn')), .ref (88), .ref (89), .ref (90), .ref (91), .ref (92), .ref (93), .int (nI (tp)), .ref (94), .int (nI (ou))]))) ∧ zar h' (a + 1) 111 (zcmV (zod kd) C V (if kd < 6 then zdce (zod kd) (R ++ A) (zsd kd) else zxor (zpart R 0 (zsd kd)) A 0)) ∧ zar h' (a + 2) 111 (zcmK (zod kd) C V (if kd < 6 then zdce (zod kd) (R ++ A) (zsd kd) else zxor (zpart R 0 (zsd kd)) A 0))) := by
  refine zMt.of [some (.ref (64)), some (.ref (a)), some (.int (nI (R.length))), some (.int (nI (A.length))), none] (by decide) rfl (Nat.le_of_ble_eq_true rfl) ?_
  obtain ⟨Qf, hQ⟩ : ∃ Qf : ZQ, Qf = (fun v h' n' => v = none ∧ n' = n ∧ zsm h h' (zsg a) ∧ zsh h h' ∧ (∃ mn', h' 64 = some (.inl (10, [.int (th), .ref (65), .ref (66), .ref (67), .ref (68), .ref (69), .ref (70), .ref (71), .ref (72), .ref (73), .ref (74), .ref (75), .ref (76), .ref (77), .ref (78), .ref (79), .ref (80), .ref (81), .ref (82), .ref (83), .ref (84), .int (nI (wt)), .int (nI (zbi un)), .int (rp), .int (wi), .int (pa), .int (be), .int (ru), .int (sa), .int (me), .int (se), .int (ta), .int (fa), .ref (85), .ref (86), .ref (87), .int (nI (mn')), .ref (88), .ref (89), .ref (90), .ref (91), .ref (92), .ref (93), .int (nI (tp)), .ref (94), .int (nI (ou))]))) ∧ zar h' (a + 1) 111 (zcmV (zod kd) C V (if kd < 6 then zdce (zod kd) (R ++ A) (zsd kd) else zxor (zpart R 0 (zsd kd)) A 0)) ∧ zar h' (a + 2) 111 (zcmK (zod kd) C V (if kd < 6 then zdce (zod kd) (R ++ A) (zsd kd) else zxor (zpart R 0 (zsd kd)) A 0))) := ⟨_, rfl⟩
  rw [← hQ]
  have hs := zsd_le hkd
  have hsd := zcN4 hkd hk4
  have hz := zkl_or (zod kd)
  have lR1 := hR.1
  have lA := hA.1
  obtain ⟨la1, lb1, lc1, lf1, ld1, le1⟩ := id hR
  obtain ⟨la2, lb2, lc2, lf2, ld2, le2⟩ := id hA
  obtain ⟨if3, ih3⟩ := id (hw.m92)
  refine zp_aload_n dX11_seedCounter_0 rfl ?_
  refine zp_get dX11_seedCounter_1 gX11_271_9 hg rfl ?_
  refine zp_iconst (v := nI (5)) dX11_seedCounter_4 (by decide) ?_
  refine zp_pc (pc' := 5) rfl ?_
  have kt4 : ∀ (h1 : ZH) (M : List Nat), zsm h h1 (zsg a) → zsh h h1 → (∃ mn1, h1 64 = some (.inl (10, [.int (th), .ref (65), .ref (66), .ref (67), .ref (68), .ref (69), .ref (70), .ref (71), .ref (72), .ref (73), .ref (74), .ref (75), .ref (76), .ref (77), .ref (78), .ref (79), .ref (80), .ref (81), .ref (82), .ref (83), .ref (84), .int (nI (wt)), .int (nI (zbi un)), .int (rp), .int (wi), .int (pa), .int (be), .int (ru), .int (sa), .int (me), .int (se), .int (ta), .int (fa), .ref (85), .ref (86), .ref (87), .int (nI (mn1)), .ref (88), .ref (89), .ref (90), .ref (91), .ref (92), .ref (93), .int (nI (tp)), .ref (94), .int (nI (ou))]))) → zar h1 (a + 1) 111 V → zar h1 (a + 2) 111 C → zar h1 92 48 M → M.length = zsd kd → (∀ j, j < zsd kd → M.getD j 0 = (if kd < 6 then zdce (zod kd) (R ++ A) (zsd kd) else zxor (zpart R 0 (zsd kd)) A 0).getD j 0) → zP g mX11_seedCounter (zR 5 0 0) Qf 0 0 107 [some (.ref (64)), some (.ref (a)), some (.int (nI (R.length))), some (.int (nI (A.length))), none] [] h1 n := by
    intro h1 M s1 z1 o1 V1 C1 M1 lM hm
    have W1 := hw.sh s1 z1 (fun i q => by unfold zsg at q; unfold zwf; omega)
    obtain ⟨mn1, o1⟩ := o1
    have g1 : h1 a = some (.inl (9, [.int (nI (zbi tr)), .int (nI (kd)), .int (nI (st)), .int (nI (iv)), .int (nI (zbi rs)), .int (nI (ct)), .int (dr), .int (nI (sd)), .ref (a + 1), .ref (a + 2)])) := (s1 _ (by unfold zsg; omega)).trans hg
    refine zp_aload_n dX11_seedCounter_107 rfl ?_
    refine zp_aload_n dX11_seedCounter_108 rfl ?_
    refine zp_pc (pc' := 109) rfl ?_
    refine zp_callV (As := [.ref (a)]) (k := 64) (st := []) (ci := 10) dX11_seedCounter_109 cX11_278 rfl o1 rfl rfl (e_zmixC (mm := (if kd < 6 then zdce (zod kd) (R ++ A) (zsd kd) else zxor (zpart R 0 (zsd kd)) A 0)) W1 o1 g1 ha hkd hk4 V1 C1 lV lC M1 lM hm) (by decide) (by decide) (Nat.le_of_ble_eq_true rfl) (fun v5 h5 n5 q5 => ?_)
    obtain ⟨rfl, N5, s5, z5, v5, c5⟩ := q5
    rw [N5]
    refine zp_nrm (cells' := 0) (slots' := 0) (st' := []) rfl rfl rfl ?_
    have m6 : h5 (64) = some (.inl (10, [.int (th), .ref (65), .ref (66), .ref (67), .ref (68), .ref (69), .ref (70), .ref (71), .ref (72), .ref (73), .ref (74), .ref (75), .ref (76), .ref (77), .ref (78), .ref (79), .ref (80), .ref (81), .ref (82), .ref (83), .ref (84), .int (nI (wt)), .int (nI (zbi un)), .int (rp), .int (wi), .int (pa), .int (be), .int (ru), .int (sa), .int (me), .int (se), .int (ta), .int (fa), .ref (85), .ref (86), .ref (87), .int (nI (mn1)), .ref (88), .ref (89), .ref (90), .ref (91), .ref (92), .ref (93), .int (nI (tp)), .ref (94), .int (nI (ou))])) := (s5 _ (by unfold zsb9; omega)).trans o1
    have m7 : h5 (a) = some (.inl (9, [.int (nI (zbi tr)), .int (nI (kd)), .int (nI (st)), .int (nI (iv)), .int (nI (zbi rs)), .int (nI (ct)), .int (dr), .int (nI (sd)), .ref (a + 1), .ref (a + 2)])) := (s5 _ (by unfold zsb9; omega)).trans g1
    refine zp_pc (pc' := 112) rfl ?_
    refine zp_ret (v := none) dX11_seedCounter_112 ⟨rfl, rfl⟩ (by decide) (by decide) ?_
    rw [hQ]
    exact ⟨rfl, rfl, s1.trans ((s5).mono (fun i hi => by unfold zsg; unfold zsb9 at hi; omega)), z1.trans (z5), ⟨_, m6⟩, v5, c5⟩
  refine zn_icmp_le (tgt := 61) dX11_seedCounter_5 (by decide) (by omega) (by omega) (fun c5 => ?_) (fun c5 => ?_)
  · refine zp_aload_n dX11_seedCounter_61 rfl ?_
    refine zp_pc (pc' := 62) rfl ?_
    refine zp_callV (As := []) (k := 64) (st := []) (ci := 10) dX11_seedCounter_62 cX11_223 rfl ho rfl rfl (e_mbegin ho) (by decide) (by decide) (Nat.le_of_ble_eq_true rfl) (fun v8 h8 n8 q8 => ?_)
    obtain ⟨rfl, N8, s8, z8, o8⟩ := q8
    rw [N8]
    refine zp_nrm (cells' := 0) (slots' := 0) (st' := []) rfl rfl rfl ?_
    have m9 : h8 (a) = some (.inl (9, [.int (nI (zbi tr)), .int (nI (kd)), .int (nI (st)), .int (nI (iv)), .int (nI (zbi rs)), .int (nI (ct)), .int (dr), .int (nI (sd)), .ref (a + 1), .ref (a + 2)])) := (s8 _ (by unfold zon; omega)).trans hg
    have m10 : h8 (85) = some (.inr (100, .inl lf1)) := (s8 _ (by unfold zon; omega)).trans ld1
    have m11 : h8 (93) = some (.inr (240, .inl lf2)) := (s8 _ (by unfold zon; omega)).trans ld2
    have m12 : h8 (92) = some (.inr (48, .inl if3)) := (s8 _ (by unfold zon; omega)).trans ih3
    have W13 := zmw.sh hw ((s8).mono (fun i hi => by unfold zwf; unfold zon at hi; omega)) (z8) (fun i hi => hi)
    have xx8 : zar h8 87 1000 [] := zar.nil W13.m87 (by decide)
    refine zp_aload_n dX11_seedCounter_65 rfl ?_
    refine zp_aload_n dX11_seedCounter_66 rfl ?_
    refine zp_get dX11_seedCounter_67 gX11_87_10 o8 rfl ?_
    refine zp_iload_n dX11_seedCounter_70 rfl ?_
    refine zp_pc (pc' := 71) rfl ?_
    refine zp_callV (As := [.ref (85), .int (nI (R.length))]) (k := 64) (st := []) (ci := 10) dX11_seedCounter_71 cX11_233 rfl o8 rfl rfl (e_mputs (xs := []) (ys := R) (q := 85) o8 xx8 (hR).keep (s8 _ (by unfold zon; omega)) (by omega) (by simp only [List.length_append, List.length_cons, List.length_nil, List.length_singleton]; omega)) (by decide) (by decide) (Nat.le_of_ble_eq_true rfl) (fun v14 h14 n14 q14 => ?_)
    obtain ⟨rfl, N14, s14, z14, o14, x14⟩ := q14
    rw [N14]
    refine zp_nrm (cells' := 0) (slots' := 0) (st' := []) rfl rfl rfl ?_
    have m15 : h14 (a) = some (.inl (9, [.int (nI (zbi tr)), .int (nI (kd)), .int (nI (st)), .int (nI (iv)), .int (nI (zbi rs)), .int (nI (ct)), .int (dr), .int (nI (sd)), .ref (a + 1), .ref (a + 2)])) := (s14 _ (by unfold zsp; omega)).trans m9
    have m16 : h14 (85) = some (.inr (100, .inl lf1)) := (s14 _ (by unfold zsp; omega)).trans m10
    have m17 : h14 (93) = some (.inr (240, .inl lf2)) := (s14 _ (by unfold zsp; omega)).trans m11
    have m18 : h14 (92) = some (.inr (48, .inl if3)) := (s14 _ (by unfold zsp; omega)).trans m12
    refine zp_aload_n dX11_seedCounter_74 rfl ?_
    refine zp_aload_n dX11_seedCounter_75 rfl ?_
    refine zp_get dX11_seedCounter_76 gX11_114_10 o14 rfl ?_
    refine zp_iload_n dX11_seedCounter_79 rfl ?_
    refine zp_pc (pc' := 80) rfl ?_
    refine zp_callV (As := [.ref (93), .int (nI (A.length))]) (k := 64) (st := []) (ci := 10) dX11_seedCounter_80 cX11_233 rfl o14 rfl rfl (e_mputs (xs := ([] ++ R)) (ys := A) (q := 93) o14 x14 ((hA).keep (s8 _ (by unfold zon; omega))).keep (s14 _ (by unfold zsp; omega)) (by omega) (by simp only [List.length_append, List.length_cons, List.length_nil, List.length_singleton]; omega)) (by decide) (by decide) (Nat.le_of_ble_eq_true rfl) (fun v19 h19 n19 q19 => ?_)
    obtain ⟨rfl, N19, s19, z19, o19, x19⟩ := q19
    rw [N19]
    refine zp_nrm (cells' := 0) (slots' := 0) (st' := []) rfl rfl rfl ?_
    have m20 : h19 (a) = some (.inl (9, [.int (nI (zbi tr)), .int (nI (kd)), .int (nI (st)), .int (nI (iv)), .int (nI (zbi rs)), .int (nI (ct)), .int (dr), .int (nI (sd)), .ref (a + 1), .ref (a + 2)])) := (s19 _ (by unfold zsp; omega)).trans m15
    have m21 : h19 (85) = some (.inr (100, .inl lf1)) := (s19 _ (by unfold zsp; omega)).trans m16
    have m22 : h19 (93) = some (.inr (240, .inl lf2)) := (s19 _ (by unfold zsp; omega)).trans m17
    have m23 : h19 (92) = some (.inr (48, .inl if3)) := (s19 _ (by unfold zsp; omega)).trans m18
    refine zp_aload_n dX11_seedCounter_83 rfl ?_
    refine zp_aload_n dX11_seedCounter_84 rfl ?_
    refine zp_callV (As := []) (k := a) (st := [.ref (64)]) (ci := 9) dX11_seedCounter_85 cX11_265 rfl m20 rfl rfl (e_zkeys m20 hkd) (by decide) (by decide) (Nat.le_of_ble_eq_true rfl) (fun v24 h24 n24 q24 => ?_)
    obtain ⟨rfl, H24, N24⟩ := q24
    rw [N24, H24]
    refine zp_nrm (cells' := 0) (slots' := 0) (st' := [.int (nI (zkl (zod kd))), .ref (64)]) rfl rfl rfl ?_
    refine zp_aload_n dX11_seedCounter_88 rfl ?_
    refine zp_get dX11_seedCounter_89 gX11_96_10 o19 rfl ?_
    refine zp_aload_n dX11_seedCounter_92 rfl ?_
    refine zp_get dX11_seedCounter_93 gX11_212_10 o19 rfl ?_
    refine zp_aload_n dX11_seedCounter_96 rfl ?_
    refine zp_get dX11_seedCounter_97 gX11_111_10 o19 rfl ?_
    refine zp_aload_n dX11_seedCounter_100 rfl ?_
    refine zp_callV (As := []) (k := a) (st := [.ref (92), .int (nI ((([] ++ R) ++ A).length)), .ref (87), .int (nI (zkl (zod kd))), .ref (64)]) (ci := 9) dX11_seedCounter_101 cX11_229 rfl m20 rfl rfl (e_zseed m20 hkd) (by decide) (by decide) (Nat.le_of_ble_eq_true rfl) (fun v25 h25 n25 q25 => ?_)
    obtain ⟨rfl, H25, N25⟩ := q25
    rw [N25, H25]
    refine zp_nrm (cells' := 0) (slots' := 0) (st' := [.int (nI (zsd kd)), .ref (92), .int (nI ((([] ++ R) ++ A).length)), .ref (87), .int (nI (zkl (zod kd))), .ref (64)]) rfl rfl rfl ?_
    refine zp_pc (pc' := 104) rfl ?_
    have W26 := zmw.sh W13 (((s14).mono (fun i hi => by unfold zwf; unfold zsp at hi; omega)).trans ((s19).mono (fun i hi => by unfold zwf; unfold zsp at hi; omega))) ((z14).trans z19) (fun i hi => hi)
    refine zp_callV (As := [.int (nI (zkl (zod kd))), .ref (87), .int (nI ((([] ++ R) ++ A).length)), .ref (92), .int (nI (zsd kd))]) (k := 64) (st := []) (ci := 10) dX11_seedCounter_104 cX11_274 rfl o19 rfl rfl (e_mdce (b := (zod kd)) (p := 87) (r := 92) (k := zsd kd) (Nr := 48) W26 o19 x19 W26.m92 (by omega) (by decide) (by decide) (by decide) (by decide) (by simp only [List.length_append, List.length_cons, List.length_nil, List.length_singleton]; omega) (by omega)) (by decide) (by decide) (Nat.le_of_ble_eq_true rfl) (fun v27 h27 n27 q27 => ?_)
    obtain ⟨rfl, N27, s27, z27, d27⟩ := q27
    rw [N27]
    refine zp_nrm (cells' := 0) (slots' := 0) (st' := []) rfl rfl rfl ?_
    have m28 : h27 (a) = some (.inl (9, [.int (nI (zbi tr)), .int (nI (kd)), .int (nI (st)), .int (nI (iv)), .int (nI (zbi rs)), .int (nI (ct)), .int (dr), .int (nI (sd)), .ref (a + 1), .ref (a + 2)])) := (s27 _ (by unfold zs9; omega)).trans m20
    have m29 : h27 (85) = some (.inr (100, .inl lf1)) := (s27 _ (by unfold zs9; omega)).trans m21
    have m30 : h27 (93) = some (.inr (240, .inl lf2)) := (s27 _ (by unfold zs9; omega)).trans m22
    have m31 : h27 (64) = some (.inl (10, [.int (th), .ref (65), .ref (66), .ref (67), .ref (68), .ref (69), .ref (70), .ref (71), .ref (72), .ref (73), .ref (74), .ref (75), .ref (76), .ref (77), .ref (78), .ref (79), .ref (80), .ref (81), .ref (82), .ref (83), .ref (84), .int (nI (wt)), .int (nI (zbi un)), .int (rp), .int (wi), .int (pa), .int (be), .int (ru), .int (sa), .int (me), .int (se), .int (ta), .int (fa), .ref (85), .ref (86), .ref (87), .int (nI ((([] ++ R) ++ A).length)), .ref (88), .ref (89), .ref (90), .ref (91), .ref (92), .ref (93), .int (nI (tp)), .ref (94), .int (nI (ou))])) := (s27 _ (by unfold zs9; omega)).trans o19
    refine zp_pc (pc' := 107) rfl ?_
    exact kt4 h27 _ (((((s8).mono (fun i hi => by unfold zsg; unfold zon at hi; omega)).trans ((s14).mono (fun i hi => by unfold zsg; unfold zsp at hi; omega))).trans ((s19).mono (fun i hi => by unfold zsg; unfold zsp at hi; omega))).trans ((s27).mono (fun i hi => by unfold zsg; unfold zs9 at hi; omega))) ((((z8).trans z14).trans z19).trans z27) ⟨_, m31⟩ (((((hV).keep (s8 _ (by unfold zon; omega))).keep (s14 _ (by unfold zsp; omega))).keep (s19 _ (by unfold zsp; omega))).keep (s27 _ (by unfold zs9; omega))) (((((hC).keep (s8 _ (by unfold zon; omega))).keep (s14 _ (by unfold zsp; omega))).keep (s19 _ (by unfold zsp; omega))).keep (s27 _ (by unfold zs9; omega))) d27 (zdce_len ..) (fun j hj => by rw [if_pos (show kd < 6 by omega)]; rfl)
  · have lR := lR (by omega)
    refine zp_iconst (v := nI (0)) dX11_seedCounter_8 (by decide) ?_
    refine zp_istore (ls' := [some (.ref (64)), some (.ref (a)), some (.int (nI (R.length))), some (.int (nI (A.length))), some (.int (nI (0)))]) dX11_seedCounter_9 (by decide) rfl ?_
    refine zp_pc (pc' := 11) rfl ?_
    have lP : (zpart R 0 (zsd kd)).length = zsd kd := by rw [zpart_len]; omega
    have lp32 : zP g mX11_seedCounter (zR 5 0 0) Qf 0 0 58 [some (.ref (64)), some (.ref (a)), some (.int (nI (R.length))), some (.int (nI (A.length))), some (.int (nI (zsd kd)))] [] (va_up h (92) (some (.inr (48, .inl (zfl if3 (0) (zsd kd) (fun i => nI ((zxor (zpart R 0 (zsd kd)) A 0).getD i 0))))))) n → ∀ (m k32 : Nat), m = (zsd kd) - k32 → k32 ≤ (zsd kd) → zP g mX11_seedCounter (zR 5 0 0) Qf 0 0 11 [some (.ref (64)), some (.ref (a)), some (.int (nI (R.length))), some (.int (nI (A.length))), some (.int (nI (k32)))] [] (va_up h (92) (some (.inr (48, .inl (zfl if3 (0) (k32) (fun i => nI ((zxor (zpart R 0 (zsd kd)) A 0).getD i 0))))))) n := by
      intro kk m
      induction m using Nat.strongRecOn with
      | _ m ih =>
        intro k32 hm32 hk32
        refine zp_nh (fun hX32 eX32 => ?_)
        have k33_0 := (congrFun eX32 (64)).trans ((va_up_ne _ _ (by omega)).trans ho)
        have k33_1 := (congrFun eX32 (a)).trans ((va_up_ne _ _ (by omega)).trans hg)
        have k33_2 := (congrFun eX32 (85)).trans ((va_up_ne _ _ (by omega)).trans ld1)
        have k33_3 := (congrFun eX32 (93)).trans ((va_up_ne _ _ (by omega)).trans ld2)
        have k33_4 : hX32 (92) = some (.inr (48, .inl (zfl if3 (0) (k32) (fun i => nI ((zxor (zpart R 0 (zsd kd)) A 0).getD i 0))))) := by rw [eX32]; exact va_up_self _ _ _
        refine zp_iload dX11_seedCounter_11 rfl ?_
        refine zp_aload_n dX11_seedCounter_13 rfl ?_
        refine zp_callV (As := []) (k := a) (st := [.int (nI (k32))]) (ci := 9) dX11_seedCounter_14 cX11_229 rfl k33_1 rfl rfl (e_zseed k33_1 hkd) (by decide) (by decide) (Nat.le_of_ble_eq_true rfl) (fun v34 h34 n34 q34 => ?_)
        obtain ⟨rfl, H34, N34⟩ := q34
        rw [N34, H34]
        refine zp_nrm (cells' := 0) (slots' := 0) (st' := [.int (nI (zsd kd)), .int (nI (k32))]) rfl rfl rfl ?_
        refine zp_pc (pc' := 17) rfl ?_
        refine zn_icmp_ge (tgt := 58) dX11_seedCounter_17 (by decide) (by omega) (by omega) (fun c17 => ?_) (fun c17 => ?_)
        · have e32 : k32 = (zsd kd) := by omega
          subst e32
          rw [eX32]
          exact kk
        · refine zp_aload_n dX11_seedCounter_20 rfl ?_
          refine zp_get dX11_seedCounter_21 gX11_111_10 k33_0 rfl ?_
          refine zp_iload dX11_seedCounter_24 rfl ?_
          refine zp_aload_n dX11_seedCounter_26 rfl ?_
          refine zp_get dX11_seedCounter_27 gX11_87_10 k33_0 rfl ?_
          refine zp_iload dX11_seedCounter_30 rfl ?_
          refine zp_pc (pc' := 32) rfl ?_
          refine zn_iald (j := k32) dX11_seedCounter_32 k33_2 (by omega) (by omega) ?_
          refine zp_i (y := nI (R.getD k32 0)) (le1 _ (by omega)) ?_
          refine zp_iload dX11_seedCounter_33 rfl ?_
          refine zp_iload_n dX11_seedCounter_35 rfl ?_
          refine zp_pc (pc' := 36) rfl ?_
          have jn35 : zP g mX11_seedCounter (zR 5 0 0) Qf 0 0 50 [some (.ref (64)), some (.ref (a)), some (.int (nI (R.length))), some (.int (nI (A.length))), some (.int (nI (k32)))] [.int (nI (A.getD k32 0)), .int (nI (R.getD k32 0)), .int (nI (k32)), .ref (92)] hX32 n → zP g mX11_seedCounter (zR 5 0 0) Qf 0 0 36 [some (.ref (64)), some (.ref (a)), some (.int (nI (R.length))), some (.int (nI (A.length))), some (.int (nI (k32)))] [.int (nI (A.length)), .int (nI (k32)), .int (nI (R.getD k32 0)), .int (nI (k32)), .ref (92)] hX32 n := by
            intro jk35
            refine zn_icmp_ge (tgt := 49) dX11_seedCounter_36 (by decide) (by omega) (by omega) (fun c36 => ?_) (fun c36 => ?_)
            · refine zp_iconst (v := nI (0)) dX11_seedCounter_49 (by decide) ?_
              refine zp_pc (pc' := 50) rfl ?_
              refine zp_i (y := nI (A.getD k32 0)) (by rw [zget_ge c36]) ?_
              exact jk35
            · refine zp_aload_n dX11_seedCounter_39 rfl ?_
              refine zp_get dX11_seedCounter_40 gX11_114_10 k33_0 rfl ?_
              refine zp_iload dX11_seedCounter_43 rfl ?_
              refine zp_pc (pc' := 45) rfl ?_
              refine zn_iald (j := k32) dX11_seedCounter_45 k33_3 (by omega) (by omega) ?_
              refine zp_i (y := nI (A.getD k32 0)) (le2 _ (by omega)) ?_
              refine zp_goto (tgt := 50) dX11_seedCounter_46 (by decide) ?_
              refine zp_pc (pc' := 50) rfl ?_
              exact jk35
          refine jn35 ?_
          refine zp_ixor dX11_seedCounter_50 ?_
          refine zp_i (y := nI ((zxor (zpart R 0 (zsd kd)) A 0).getD k32 0)) (by rw [nx_xor, zxor_get _ _ _ (by omega), zpart_get (by omega), Nat.zero_add, Nat.zero_add]) ?_
          refine zn_iast dX11_seedCounter_51 (by omega) k33_4 (by omega) (by omega) ?_
          refine zp_nh (fun h36x eh36x => ?_)
          have k36_0 := (congrFun eh36x (64)).trans ((va_up_ne _ _ (by omega)).trans k33_0)
          have k36_1 := (congrFun eh36x (a)).trans ((va_up_ne _ _ (by omega)).trans k33_1)
          have k36_2 := (congrFun eh36x (85)).trans ((va_up_ne _ _ (by omega)).trans k33_2)
          have k36_3 := (congrFun eh36x (93)).trans ((va_up_ne _ _ (by omega)).trans k33_3)
          have k36_4 : h36x (92) = some (.inr (48, .inl (va_up (zfl if3 (0) (k32) (fun i => nI ((zxor (zpart R 0 (zsd kd)) A 0).getD i 0))) (k32) (nI ((zxor (zpart R 0 (zsd kd)) A 0).getD k32 0))))) := by rw [eh36x]; exact va_up_self _ _ _
          have sw37 : zsm hX32 h36x (zon (92)) := zsm.rf.up eh36x rfl
          have zw37 : zsh hX32 h36x := zsh.fill eh36x k33_4
          refine zp_pc (pc' := 52) rfl ?_
          refine zn_iinc 1 (ls' := [some (.ref (64)), some (.ref (a)), some (.int (nI (R.length))), some (.int (nI (A.length))), some (.int (nI (k32 + 1)))]) dX11_seedCounter_52 (by decide) (by decide) rfl rfl ?_
          refine zp_goto (tgt := 11) dX11_seedCounter_55 (by decide) ?_
          refine zp_pc (pc' := 11) rfl ?_
          rw [zfl_step eX32 eh36x (by omega) rfl]
          exact ih ((zsd kd) - (k32 + 1)) (by omega) (k32 + 1) rfl (by omega)
    suffices K32 : zP g mX11_seedCounter (zR 5 0 0) Qf 0 0 58 [some (.ref (64)), some (.ref (a)), some (.int (nI (R.length))), some (.int (nI (A.length))), some (.int (nI (zsd kd)))] [] (va_up h (92) (some (.inr (48, .inl (zfl if3 (0) (zsd kd) (fun i => nI ((zxor (zpart R 0 (zsd kd)) A 0).getD i 0))))))) n by
      have q := lp32 K32 ((zsd kd) - 0) 0 rfl (Nat.zero_le _)
      rw [zfl_0, zup_same ih3] at q
      exact q
    refine zp_nh (fun hY32 eY32 => ?_)
    have k38_0 := (congrFun eY32 (64)).trans ((va_up_ne _ _ (by omega)).trans ho)
    have k38_1 := (congrFun eY32 (a)).trans ((va_up_ne _ _ (by omega)).trans hg)
    have k38_2 := (congrFun eY32 (85)).trans ((va_up_ne _ _ (by omega)).trans ld1)
    have k38_3 := (congrFun eY32 (93)).trans ((va_up_ne _ _ (by omega)).trans ld2)
    have k38_4 : hY32 (92) = some (.inr (48, .inl (zfl if3 (0) (zsd kd) (fun i => nI ((zxor (zpart R 0 (zsd kd)) A 0).getD i 0))))) := by rw [eY32]; exact va_up_self _ _ _
    have sf39 := (zsm.fill eY32)
    have zf39 := zsh.fill eY32 ih3
    refine zp_goto (tgt := 107) dX11_seedCounter_58 (by decide) ?_
    refine zp_pc (pc' := 107) rfl ?_
    refine zp_drop (ls' := [some (.ref (64)), some (.ref (a)), some (.int (nI (R.length))), some (.int (nI (A.length))), none]) (fun i v hv => ?_) ?_
    · rcases i with _ | _ | _ | _ | _ | i <;> simp at hv ⊢ <;> exact hv
    exact kt4 hY32 (zxor (zpart R 0 (zsd kd)) A 0) ((sf39).mono (fun i hi => by unfold zsg; unfold zon at hi; omega)) (zf39) ⟨_, k38_0⟩ ((hV).keep (sf39 _ (by unfold zon; omega))) ((hC).keep (sf39 _ (by unfold zon; omega))) (zar.mk (L := zsd kd) k38_4 (by rw [zxor_len, lP]) (by omega) (by decide) (zxor_lt (zpart_lt lc1 _ _) lc2 _) (fun j hj => zfl_in0 hj)) (by rw [zxor_len, lP]) (fun j hj => by rw [if_neg (show ¬ kd < 6 by omega)])
set_option maxRecDepth 10000 in
set_option maxHeartbeats 2000000 in
theorem e_zdrawC {g : ZG} {h : ZH} {n : Nat} {a kd st iv ct sd : Nat} {tr rs : Bool} {dr : Int32} {V C A : List Nat} {k : Nat} {th : Int32} {wt : Nat} {un : Bool} {rp wi pa be ru sa me se ta fa : Int32} {mn tp ou : Nat} (hw : zmw h) (ho : h 64 = some (.inl (10, [.int (th), .ref (65), .ref (66), .ref (67), .ref (68), .ref (69), .ref (70), .ref (71), .ref (72), .ref (73), .ref (74), .ref (75), .ref (76), .ref (77), .ref (78), .ref (79), .ref (80), .ref (81), .ref (82), .ref (83), .ref (84), .int (nI (wt)), .int (nI (zbi un)), .int (rp), .int (wi), .int (pa), .int (be), .int (ru), .int (sa), .int (me), .int (se), .int (ta), .int (fa), .ref (85), .ref (86), .ref (87), .int (nI (mn)), .ref (88), .ref (89), .ref (90), .ref (91), .ref (92), .ref (93), .int (nI (tp)), .ref (94), .int (nI (ou))]))) (hg : h a = some (.inl (9, [.int (nI (zbi tr)), .int (nI (kd)), .int (nI (st)), .int (nI (iv)), .int (nI (zbi rs)), .int (nI (ct)), .int (dr), .int (nI (sd)), .ref (a + 1), .ref (a + 2)]))) (ha : a = 95 ∨ a = 98 ∨ a = 101 ∨ a = 104) (hkd : kd < 8) (hk4 : 4 ≤ kd) (hV : zar h (a + 1) 111 V) (hC : zar h (a + 2) 111 C) (lV : V.length = 16) (lC : C.length = zkl (zod kd)) (hA : zar h 93 240 A) (hO : zia h 94 4096) (hk : k ≤ 4096) (lA6 : 6 ≤ kd → A.length ≤ zsd kd) : zMt g mX11_drawCounter (zR 5 0 0) [.ref (64), .ref (a), .int (nI (k)), .int (nI (A.length))] h n (fun v h' n' => v = none ∧ n' = n ∧ zsm h h' (zsgo a) ∧ zsh h h' ∧ (∃ mn', h' 64 = some (.inl (10, [.int (th), .ref (65), .ref (66), .ref (67), .ref (68), .ref (69), .ref (70), .ref (71), .ref (72), .ref (73), .ref (74), .ref (75), .ref (76), .ref (77), .ref (78), .ref (79), .ref (80), .ref (81), .ref (82), .ref (83), .ref (84), .int (nI (wt)), .int (nI (zbi un)), .int (rp), .int (wi), .int (pa), .int (be), .int (ru), .int (sa), .int (me), .int (se), .int (ta), .int (fa), .ref (85), .ref (86), .ref (87), .int (nI (mn')), .ref (88), .ref (89), .ref (90), .ref (91), .ref (92), .ref (93), .int (nI (tp)), .ref (94), .int (nI (ou))]))) ∧ zar h' 94 4096 (zpr kd ct k V C A).1 ∧ zar h' (a + 1) 111 (zpr kd ct k V C A).2.1 ∧ zar h' (a + 2) 111 (zpr kd ct k V C A).2.2) := by
  refine zMt.of [some (.ref (64)), some (.ref (a)), some (.int (nI (k))), some (.int (nI (A.length))), none, none] (by decide) rfl (Nat.le_of_ble_eq_true rfl) ?_
  obtain ⟨Qf, hQ⟩ : ∃ Qf : ZQ, Qf = (fun v h' n' => v = none ∧ n' = n ∧ zsm h h' (zsgo a) ∧ zsh h h' ∧ (∃ mn', h' 64 = some (.inl (10, [.int (th), .ref (65), .ref (66), .ref (67), .ref (68), .ref (69), .ref (70), .ref (71), .ref (72), .ref (73), .ref (74), .ref (75), .ref (76), .ref (77), .ref (78), .ref (79), .ref (80), .ref (81), .ref (82), .ref (83), .ref (84), .int (nI (wt)), .int (nI (zbi un)), .int (rp), .int (wi), .int (pa), .int (be), .int (ru), .int (sa), .int (me), .int (se), .int (ta), .int (fa), .ref (85), .ref (86), .ref (87), .int (nI (mn')), .ref (88), .ref (89), .ref (90), .ref (91), .ref (92), .ref (93), .int (nI (tp)), .ref (94), .int (nI (ou))]))) ∧ zar h' 94 4096 (zpr kd ct k V C A).1 ∧ zar h' (a + 1) 111 (zpr kd ct k V C A).2.1 ∧ zar h' (a + 2) 111 (zpr kd ct k V C A).2.2) := ⟨_, rfl⟩
  rw [← hQ]
  have hs := zsd_le hkd
  have hsd := zcN4 hkd hk4
  have hz := zkl_or (zod kd)
  have lA := hA.1
  obtain ⟨la1, lb1, lc1, lf1, ld1, le1⟩ := id hA
  obtain ⟨if2, ih2⟩ := id (hw.m92)
  obtain ⟨mm, em⟩ : ∃ mm : List Nat, mm = (if 0 < A.length ∧ kd < 6 then zdce (zod kd) A (zsd kd) else A) := ⟨_, rfl⟩
  obtain ⟨s, es⟩ : ∃ s : List Nat × List Nat, s = if 0 < A.length then (zcmK (zod kd) C V mm, zcmV (zod kd) C V mm) else (C, V) := ⟨_, rfl⟩
  have ls : s.1.length = zkl (zod kd) ∧ s.2.length = 16 := by rw [es]; split; exact ⟨zcmK_len .., zcmV_len ..⟩; exact ⟨lC, lV⟩
  have ep : zpr kd ct k V C A = zpr1 (zod kd) k mm s := by rw [es, em]; unfold zpr; rw [if_neg (by omega), if_neg (by omega)]
  rw [ep] at hQ
  refine zp_iconst (v := nI (0)) dX11_drawCounter_0 (by decide) ?_
  refine zp_istore (ls' := [some (.ref (64)), some (.ref (a)), some (.int (nI (k))), some (.int (nI (A.length))), some (.int (nI (0))), none]) dX11_drawCounter_1 (by decide) rfl ?_
  refine zp_pc (pc' := 3) rfl ?_
  have lp3 : zP g mX11_drawCounter (zR 5 0 0) Qf 0 0 42 [some (.ref (64)), some (.ref (a)), some (.int (nI (k))), some (.int (nI (A.length))), some (.int (nI (zsd kd))), none] [] (va_up h (92) (some (.inr (48, .inl (zfl if2 (0) (zsd kd) (fun i => nI (A.getD i 0))))))) n → ∀ (m k3 : Nat), m = (zsd kd) - k3 → k3 ≤ (zsd kd) → zP g mX11_drawCounter (zR 5 0 0) Qf 0 0 3 [some (.ref (64)), some (.ref (a)), some (.int (nI (k))), some (.int (nI (A.length))), some (.int (nI (k3))), none] [] (va_up h (92) (some (.inr (48, .inl (zfl if2 (0) (k3) (fun i => nI (A.getD i 0))))))) n := by
    intro kk m
    induction m using Nat.strongRecOn with
    | _ m ih =>
      intro k3 hm3 hk3
      refine zp_nh (fun hX3 eX3 => ?_)
      have k4_0 := (congrFun eX3 (64)).trans ((va_up_ne _ _ (by omega)).trans ho)
      have k4_1 := (congrFun eX3 (a)).trans ((va_up_ne _ _ (by omega)).trans hg)
      have k4_2 := (congrFun eX3 (93)).trans ((va_up_ne _ _ (by omega)).trans ld1)
      have k4_3 : hX3 (92) = some (.inr (48, .inl (zfl if2 (0) (k3) (fun i => nI (A.getD i 0))))) := by rw [eX3]; exact va_up_self _ _ _
      refine zp_iload dX11_drawCounter_3 rfl ?_
      refine zp_aload_n dX11_drawCounter_5 rfl ?_
      refine zp_callV (As := []) (k := a) (st := [.int (nI (k3))]) (ci := 9) dX11_drawCounter_6 cX11_229 rfl k4_1 rfl rfl (e_zseed k4_1 hkd) (by decide) (by decide) (Nat.le_of_ble_eq_true rfl) (fun v5 h5 n5 q5 => ?_)
      obtain ⟨rfl, H5, N5⟩ := q5
      rw [N5, H5]
      refine zp_nrm (cells' := 0) (slots' := 0) (st' := [.int (nI (zsd kd)), .int (nI (k3))]) rfl rfl rfl ?_
      refine zp_pc (pc' := 9) rfl ?_
      refine zn_icmp_ge (tgt := 42) dX11_drawCounter_9 (by decide) (by omega) (by omega) (fun c9 => ?_) (fun c9 => ?_)
      · have e3 : k3 = (zsd kd) := by omega
        subst e3
        rw [eX3]
        exact kk
      · refine zp_aload_n dX11_drawCounter_12 rfl ?_
        refine zp_get dX11_drawCounter_13 gX11_111_10 k4_0 rfl ?_
        refine zp_iload dX11_drawCounter_16 rfl ?_
        refine zp_iload dX11_drawCounter_18 rfl ?_
        refine zp_iload_n dX11_drawCounter_20 rfl ?_
        refine zp_pc (pc' := 21) rfl ?_
        have jn6 : zP g mX11_drawCounter (zR 5 0 0) Qf 0 0 35 [some (.ref (64)), some (.ref (a)), some (.int (nI (k))), some (.int (nI (A.length))), some (.int (nI (k3))), none] [.int (nI (A.getD k3 0)), .int (nI (k3)), .ref (92)] hX3 n → zP g mX11_drawCounter (zR 5 0 0) Qf 0 0 21 [some (.ref (64)), some (.ref (a)), some (.int (nI (k))), some (.int (nI (A.length))), some (.int (nI (k3))), none] [.int (nI (A.length)), .int (nI (k3)), .int (nI (k3)), .ref (92)] hX3 n := by
          intro jk6
          refine zn_icmp_ge (tgt := 34) dX11_drawCounter_21 (by decide) (by omega) (by omega) (fun c21 => ?_) (fun c21 => ?_)
          · refine zp_iconst (v := nI (0)) dX11_drawCounter_34 (by decide) ?_
            refine zp_pc (pc' := 35) rfl ?_
            refine zp_i (y := nI (A.getD k3 0)) (by rw [zget_ge c21]) ?_
            exact jk6
          · refine zp_aload_n dX11_drawCounter_24 rfl ?_
            refine zp_get dX11_drawCounter_25 gX11_114_10 k4_0 rfl ?_
            refine zp_iload dX11_drawCounter_28 rfl ?_
            refine zp_pc (pc' := 30) rfl ?_
            refine zn_iald (j := k3) dX11_drawCounter_30 k4_2 (by omega) (by omega) ?_
            refine zp_i (y := nI (A.getD k3 0)) (le1 _ (by omega)) ?_
            refine zp_goto (tgt := 35) dX11_drawCounter_31 (by decide) ?_
            refine zp_pc (pc' := 35) rfl ?_
            exact jk6
        refine jn6 ?_
        refine zn_iast dX11_drawCounter_35 (by omega) k4_3 (by omega) (by omega) ?_
        refine zp_nh (fun h7x eh7x => ?_)
        have k7_0 := (congrFun eh7x (64)).trans ((va_up_ne _ _ (by omega)).trans k4_0)
        have k7_1 := (congrFun eh7x (a)).trans ((va_up_ne _ _ (by omega)).trans k4_1)
        have k7_2 := (congrFun eh7x (93)).trans ((va_up_ne _ _ (by omega)).trans k4_2)
        have k7_3 : h7x (92) = some (.inr (48, .inl (va_up (zfl if2 (0) (k3) (fun i => nI (A.getD i 0))) (k3) (nI (A.getD k3 0))))) := by rw [eh7x]; exact va_up_self _ _ _
        have sw8 : zsm hX3 h7x (zon (92)) := zsm.rf.up eh7x rfl
        have zw8 : zsh hX3 h7x := zsh.fill eh7x k4_3
        refine zp_pc (pc' := 36) rfl ?_
        refine zn_iinc 1 (ls' := [some (.ref (64)), some (.ref (a)), some (.int (nI (k))), some (.int (nI (A.length))), some (.int (nI (k3 + 1))), none]) dX11_drawCounter_36 (by decide) (by decide) rfl rfl ?_
        refine zp_goto (tgt := 3) dX11_drawCounter_39 (by decide) ?_
        refine zp_pc (pc' := 3) rfl ?_
        rw [zfl_step eX3 eh7x (by omega) rfl]
        exact ih ((zsd kd) - (k3 + 1)) (by omega) (k3 + 1) rfl (by omega)
  suffices K3 : zP g mX11_drawCounter (zR 5 0 0) Qf 0 0 42 [some (.ref (64)), some (.ref (a)), some (.int (nI (k))), some (.int (nI (A.length))), some (.int (nI (zsd kd))), none] [] (va_up h (92) (some (.inr (48, .inl (zfl if2 (0) (zsd kd) (fun i => nI (A.getD i 0))))))) n by
    have q := lp3 K3 ((zsd kd) - 0) 0 rfl (Nat.zero_le _)
    rw [zfl_0, zup_same ih2] at q
    exact q
  refine zp_nh (fun hY3 eY3 => ?_)
  have k9_0 := (congrFun eY3 (64)).trans ((va_up_ne _ _ (by omega)).trans ho)
  have k9_1 := (congrFun eY3 (a)).trans ((va_up_ne _ _ (by omega)).trans hg)
  have k9_2 := (congrFun eY3 (93)).trans ((va_up_ne _ _ (by omega)).trans ld1)
  have k9_3 : hY3 (92) = some (.inr (48, .inl (zfl if2 (0) (zsd kd) (fun i => nI (A.getD i 0))))) := by rw [eY3]; exact va_up_self _ _ _
  have sf10 := (zsm.fill eY3)
  have zf10 := zsh.fill eY3 ih2
  refine zp_iload_n dX11_drawCounter_42 rfl ?_
  refine zp_pc (pc' := 43) rfl ?_
  refine zp_drop (ls' := [some (.ref (64)), some (.ref (a)), some (.int (nI (k))), some (.int (nI (A.length))), none, none]) (fun i v hv => ?_) ?_
  · rcases i with _ | _ | _ | _ | _ | _ | i <;> simp at hv ⊢ <;> exact hv
  have lAP : ((List.range (zsd kd)).map (fun i => A.getD i 0)).length = zsd kd := by rw [List.length_map, List.length_range]
  have aM : zar hY3 92 48 ((List.range (zsd kd)).map (fun i => A.getD i 0)) := zar.mk (L := zsd kd) k9_3 lAP (by omega) (by decide) (fun x hx => by obtain ⟨i, -, e⟩ := List.mem_map.mp hx; rw [← e]; exact zgetD_lt lc1 i) (fun j hj => by rw [zfl_in0 hj, zmap_getD hj])
  have W11 := zmw.sh hw ((sf10).mono (fun i hi => by unfold zwf; unfold zon at hi; omega)) (zf10) (fun i hi => hi)
  have s0 : zsm h hY3 (zsgo a) := (sf10).mono (fun i hi => by unfold zsgo; unfold zon at hi; omega)
  have z0 : zsh h hY3 := zf10
  have V0 := (hV).keep (sf10 _ (by unfold zon; omega))
  have C0 := (hC).keep (sf10 _ (by unfold zon; omega))
  have O0 := (hO).keep (sf10 _ (by unfold zon; omega))
  have kt12 : ∀ (h1 : ZH) (M : List Nat), zsm h h1 (zsgo a) → zsh h h1 → (∃ mn1, h1 64 = some (.inl (10, [.int (th), .ref (65), .ref (66), .ref (67), .ref (68), .ref (69), .ref (70), .ref (71), .ref (72), .ref (73), .ref (74), .ref (75), .ref (76), .ref (77), .ref (78), .ref (79), .ref (80), .ref (81), .ref (82), .ref (83), .ref (84), .int (nI (wt)), .int (nI (zbi un)), .int (rp), .int (wi), .int (pa), .int (be), .int (ru), .int (sa), .int (me), .int (se), .int (ta), .int (fa), .ref (85), .ref (86), .ref (87), .int (nI (mn1)), .ref (88), .ref (89), .ref (90), .ref (91), .ref (92), .ref (93), .int (nI (tp)), .ref (94), .int (nI (ou))]))) → zar h1 (a + 1) 111 s.2 → zar h1 (a + 2) 111 s.1 → zia h1 94 4096 → zar h1 92 48 M → M.length = zsd kd → (∀ j, j < zsd kd → M.getD j 0 = mm.getD j 0) → zP g mX11_drawCounter (zR 5 0 0) Qf 0 0 81 [some (.ref (64)), some (.ref (a)), some (.int (nI (k))), some (.int (nI (A.length))), none, none] [] h1 n := by
    intro h1 M s1 z1 o1 V1 C1 hO1 M1 lM hm
    have W1 := hw.sh s1 z1 (fun i q => by unfold zsgo at q; unfold zwf; omega)
    obtain ⟨mn1, o1⟩ := o1
    obtain ⟨gO, hO1⟩ := hO1
    have cb1 := C1.bytes
    have vb1 := V1.bytes
    refine zp_iconst (v := nI (0)) dX11_drawCounter_81 (by decide) ?_
    refine zp_istore (ls' := [some (.ref (64)), some (.ref (a)), some (.int (nI (k))), some (.int (nI (A.length))), some (.int (nI (0))), none]) dX11_drawCounter_82 (by decide) rfl ?_
    refine zp_pc (pc' := 84) rfl ?_
    refine zp_ls (ls' := [some (.ref (64)), some (.ref (a)), some (.int (nI (k))), some (.int (nI (A.length))), some (.int (nI (16 * 0))), none]) rfl ?_
    have lp : ∀ (m : Nat) (c : Nat) (h2 : ZH) (go : Nat → Int32), m = k - c → c ≤ k → (c = 0 ∨ 16 * (c - 1) < k) → zsm h1 h2 (zsc7 a) → zsh h1 h2 → h2 94 = some (.inr (4096, .inl go)) → zar h2 (a + 1) 111 (zplus s.2 c) → (∀ j, j < k → j < 16 * c → go j = nI ((zenc (zod kd) s.1 (zplus s.2 (j / 16 + 1))).getD (j % 16) 0)) → zP g mX11_drawCounter (zR 5 0 0) Qf 0 0 84 [some (.ref (64)), some (.ref (a)), some (.int (nI (k))), some (.int (nI (A.length))), some (.int (nI (16 * c))), none] [] h2 n := by
      intro m
      induction m using Nat.strongRecOn with
      | _ m ih =>
        intro c h2 go hm2 hc2 hcc s2 z2 er V2 egr
        have o2 : h2 64 = some (.inl (10, [.int (th), .ref (65), .ref (66), .ref (67), .ref (68), .ref (69), .ref (70), .ref (71), .ref (72), .ref (73), .ref (74), .ref (75), .ref (76), .ref (77), .ref (78), .ref (79), .ref (80), .ref (81), .ref (82), .ref (83), .ref (84), .int (nI (wt)), .int (nI (zbi un)), .int (rp), .int (wi), .int (pa), .int (be), .int (ru), .int (sa), .int (me), .int (se), .int (ta), .int (fa), .ref (85), .ref (86), .ref (87), .int (nI (mn1)), .ref (88), .ref (89), .ref (90), .ref (91), .ref (92), .ref (93), .int (nI (tp)), .ref (94), .int (nI (ou))])) := (s2 _ (by unfold zsc7; omega)).trans o1
        have g2 : h2 a = some (.inl (9, [.int (nI (zbi tr)), .int (nI (kd)), .int (nI (st)), .int (nI (iv)), .int (nI (zbi rs)), .int (nI (ct)), .int (dr), .int (nI (sd)), .ref (a + 1), .ref (a + 2)])) := (s2 _ (by unfold zsc7; omega)).trans ((s1 _ (by unfold zsgo; omega)).trans hg)
        have W2 := W1.sh s2 z2 (fun i q => by unfold zsc7 at q; unfold zwf; omega)
        have C2 := C1.keep (s2 (a + 2) (by unfold zsc7; omega))
        have M2 := M1.keep (s2 92 (by unfold zsc7; omega))
        have lv : (zplus s.2 c).length = 16 := by rw [zplus_len, ls.2]
        refine zp_iload dX11_drawCounter_84 rfl ?_
        refine zp_iload_n dX11_drawCounter_86 rfl ?_
        refine zp_pc (pc' := 87) rfl ?_
        refine zn_icmp_ge (tgt := 143) dX11_drawCounter_87 (by decide) (by omega) (by omega) (fun c87 => ?_) (fun c87 => ?_)
        · have ec : c = zcn k 16 := zcn_of (by decide) (by omega) (hcc.imp id (fun q => by omega))
          subst ec
          have O2 : zar h2 94 4096 ((zccat (zod kd) s.1 s.2 (zcn k 16)).take k) := zar.mk (L := k) er (by rw [List.length_take, zccat_len]; omega) hk (by decide) (fun x hx => zccat_lt cb1 _ _ x (List.mem_of_mem_take hx)) (fun j hj => by rw [ztake_get hj, zccat_get _ _ _ (by omega)]; exact egr j hj (by omega))
          refine zp_aload_n dX11_drawCounter_143 rfl ?_
          refine zp_aload_n dX11_drawCounter_144 rfl ?_
          refine zp_pc (pc' := 145) rfl ?_
          refine zp_callV (As := [.ref (a)]) (k := 64) (st := []) (ci := 10) dX11_drawCounter_145 cX11_278 rfl o2 rfl rfl (e_zmixC (mm := mm) W2 o2 g2 ha hkd hk4 V2 C2 lv ls.1 M2 lM hm) (by decide) (by decide) (Nat.le_of_ble_eq_true rfl) (fun v13 h13 n13 q13 => ?_)
          obtain ⟨rfl, N13, s13, z13, v13, c13⟩ := q13
          rw [N13]
          refine zp_nrm (cells' := 0) (slots' := 0) (st' := []) rfl rfl rfl ?_
          have m14 : h13 (64) = some (.inl (10, [.int (th), .ref (65), .ref (66), .ref (67), .ref (68), .ref (69), .ref (70), .ref (71), .ref (72), .ref (73), .ref (74), .ref (75), .ref (76), .ref (77), .ref (78), .ref (79), .ref (80), .ref (81), .ref (82), .ref (83), .ref (84), .int (nI (wt)), .int (nI (zbi un)), .int (rp), .int (wi), .int (pa), .int (be), .int (ru), .int (sa), .int (me), .int (se), .int (ta), .int (fa), .ref (85), .ref (86), .ref (87), .int (nI (mn1)), .ref (88), .ref (89), .ref (90), .ref (91), .ref (92), .ref (93), .int (nI (tp)), .ref (94), .int (nI (ou))])) := (s13 _ (by unfold zsb9; omega)).trans o2
          have m15 : h13 (a) = some (.inl (9, [.int (nI (zbi tr)), .int (nI (kd)), .int (nI (st)), .int (nI (iv)), .int (nI (zbi rs)), .int (nI (ct)), .int (dr), .int (nI (sd)), .ref (a + 1), .ref (a + 2)])) := (s13 _ (by unfold zsb9; omega)).trans g2
          have m16 : h13 (94) = some (.inr (4096, .inl go)) := (s13 _ (by unfold zsb9; omega)).trans er
          refine zp_pc (pc' := 148) rfl ?_
          refine zp_ret (v := none) dX11_drawCounter_148 ⟨rfl, rfl⟩ (by decide) (by decide) ?_
          rw [hQ]
          exact ⟨rfl, rfl, (s1.trans (s2.mono (fun i hi => by unfold zsgo; unfold zsc7 at hi; omega))).trans ((s13).mono (fun i hi => by unfold zsgo; unfold zsb9 at hi; omega)), (z1.trans z2).trans (z13), ⟨_, m14⟩, (O2).keep (s13 _ (by unfold zsb9; omega)), v13, c13⟩
        · refine zp_aload_n dX11_drawCounter_90 rfl ?_
          refine zp_aload_n dX11_drawCounter_91 rfl ?_
          refine zp_pc (pc' := 92) rfl ?_
          refine zp_callV (As := [.ref (a)]) (k := 64) (st := []) (ci := 10) dX11_drawCounter_92 cX11_268 rfl o2 rfl rfl (e_zblock W2 o2 g2 ha hkd hk4 V2 C2 lv ls.1) (by decide) (by decide) (Nat.le_of_ble_eq_true rfl) (fun v17 h17 n17 q17 => ?_)
          obtain ⟨rfl, N17, s17, z17, v17, d17⟩ := q17
          rw [N17]
          refine zp_nrm (cells' := 0) (slots' := 0) (st' := []) rfl rfl rfl ?_
          have m18 : h17 (64) = some (.inl (10, [.int (th), .ref (65), .ref (66), .ref (67), .ref (68), .ref (69), .ref (70), .ref (71), .ref (72), .ref (73), .ref (74), .ref (75), .ref (76), .ref (77), .ref (78), .ref (79), .ref (80), .ref (81), .ref (82), .ref (83), .ref (84), .int (nI (wt)), .int (nI (zbi un)), .int (rp), .int (wi), .int (pa), .int (be), .int (ru), .int (sa), .int (me), .int (se), .int (ta), .int (fa), .ref (85), .ref (86), .ref (87), .int (nI (mn1)), .ref (88), .ref (89), .ref (90), .ref (91), .ref (92), .ref (93), .int (nI (tp)), .ref (94), .int (nI (ou))])) := (s17 _ (by unfold zsb8; omega)).trans o2
          have m19 : h17 (a) = some (.inl (9, [.int (nI (zbi tr)), .int (nI (kd)), .int (nI (st)), .int (nI (iv)), .int (nI (zbi rs)), .int (nI (ct)), .int (dr), .int (nI (sd)), .ref (a + 1), .ref (a + 2)])) := (s17 _ (by unfold zsb8; omega)).trans g2
          have m20 : h17 (94) = some (.inr (4096, .inl go)) := (s17 _ (by unfold zsb8; omega)).trans er
          rw [zplus_plus] at v17 d17
          obtain ⟨la21, lb21, lc21, lf21, ld21, le21⟩ := id d17
          refine zp_iconst (v := nI (0)) dX11_drawCounter_95 (by decide) ?_
          refine zp_istore (ls' := [some (.ref (64)), some (.ref (a)), some (.int (nI (k))), some (.int (nI (A.length))), some (.int (nI (16 * c))), some (.int (nI (0)))]) dX11_drawCounter_96 (by decide) rfl ?_
          refine zp_pc (pc' := 98) rfl ?_
          have lp22 : zP g mX11_drawCounter (zR 5 0 0) Qf 0 0 137 [some (.ref (64)), some (.ref (a)), some (.int (nI (k))), some (.int (nI (A.length))), some (.int (nI (16 * c))), some (.int (nI (min 16 (k - 16 * c))))] [] (va_up h17 (94) (some (.inr (4096, .inl (zfl go (16 * c) (min 16 (k - 16 * c)) (fun i => nI ((zenc (zod kd) s.1 (zplus s.2 ((16 * c + i) / 16 + 1))).getD ((16 * c + i) % 16) 0))))))) n → ∀ (m k22 : Nat), m = (min 16 (k - 16 * c)) - k22 → k22 ≤ (min 16 (k - 16 * c)) → zP g mX11_drawCounter (zR 5 0 0) Qf 0 0 98 [some (.ref (64)), some (.ref (a)), some (.int (nI (k))), some (.int (nI (A.length))), some (.int (nI (16 * c))), some (.int (nI (k22)))] [] (va_up h17 (94) (some (.inr (4096, .inl (zfl go (16 * c) (k22) (fun i => nI ((zenc (zod kd) s.1 (zplus s.2 ((16 * c + i) / 16 + 1))).getD ((16 * c + i) % 16) 0))))))) n := by
            intro kk m
            induction m using Nat.strongRecOn with
            | _ m ih =>
              intro k22 hm22 hk22
              refine zp_nh (fun hX22 eX22 => ?_)
              have k23_0 := (congrFun eX22 (64)).trans ((va_up_ne _ _ (by omega)).trans m18)
              have k23_1 := (congrFun eX22 (a)).trans ((va_up_ne _ _ (by omega)).trans m19)
              have k23_2 : hX22 (94) = some (.inr (4096, .inl (zfl go (16 * c) (k22) (fun i => nI ((zenc (zod kd) s.1 (zplus s.2 ((16 * c + i) / 16 + 1))).getD ((16 * c + i) % 16) 0))))) := by rw [eX22]; exact va_up_self _ _ _
              have k23_3 := (congrFun eX22 (91)).trans ((va_up_ne _ _ (by omega)).trans ld21)
              refine zp_iload dX11_drawCounter_98 rfl ?_
              refine zp_bipush (v := nI (16)) dX11_drawCounter_100 (by decide) ?_
              refine zp_pc (pc' := 102) rfl ?_
              refine zn_icmp_ge (tgt := 137) dX11_drawCounter_102 (by decide) (by omega) (by omega) (fun c102 => ?_) (fun c102 => ?_)
              · have e22 : k22 = (min 16 (k - 16 * c)) := by omega
                subst e22
                rw [eX22]
                exact kk
              · refine zp_iload dX11_drawCounter_105 rfl ?_
                refine zp_iload dX11_drawCounter_107 rfl ?_
                refine zn_iadd dX11_drawCounter_109 ?_
                refine zp_iload_n dX11_drawCounter_110 rfl ?_
                refine zp_pc (pc' := 111) rfl ?_
                refine zn_icmp_ge (tgt := 137) dX11_drawCounter_111 (by decide) (by omega) (by omega) (fun c111 => ?_) (fun c111 => ?_)
                · have e22 : k22 = (min 16 (k - 16 * c)) := by omega
                  subst e22
                  rw [eX22]
                  exact kk
                · refine zp_aload_n dX11_drawCounter_114 rfl ?_
                  refine zp_get dX11_drawCounter_115 gX11_117_10 k23_0 rfl ?_
                  refine zp_iload dX11_drawCounter_118 rfl ?_
                  refine zp_iload dX11_drawCounter_120 rfl ?_
                  refine zn_iadd dX11_drawCounter_122 ?_
                  refine zp_aload_n dX11_drawCounter_123 rfl ?_
                  refine zp_get dX11_drawCounter_124 gX11_108_10 k23_0 rfl ?_
                  refine zp_iload dX11_drawCounter_127 rfl ?_
                  refine zp_pc (pc' := 129) rfl ?_
                  refine zn_iald (j := k22) dX11_drawCounter_129 k23_3 (by omega) (by omega) ?_
                  refine zp_i (y := nI ((zenc (zod kd) s.1 (zplus s.2 ((16 * c + k22) / 16 + 1))).getD ((16 * c + k22) % 16) 0)) (by rw [le21 _ (by rw [zenc_len]; omega), show (16 * c + k22) / 16 = c by omega, show (16 * c + k22) % 16 = k22 by omega]) ?_
                  refine zn_iast dX11_drawCounter_130 (by omega) k23_2 (by omega) (by omega) ?_
                  refine zp_nh (fun h24x eh24x => ?_)
                  have k24_0 := (congrFun eh24x (64)).trans ((va_up_ne _ _ (by omega)).trans k23_0)
                  have k24_1 := (congrFun eh24x (a)).trans ((va_up_ne _ _ (by omega)).trans k23_1)
                  have k24_2 : h24x (94) = some (.inr (4096, .inl (va_up (zfl go (16 * c) (k22) (fun i => nI ((zenc (zod kd) s.1 (zplus s.2 ((16 * c + i) / 16 + 1))).getD ((16 * c + i) % 16) 0))) ((16 * c) + (k22)) (nI ((zenc (zod kd) s.1 (zplus s.2 ((16 * c + k22) / 16 + 1))).getD ((16 * c + k22) % 16) 0))))) := by rw [eh24x]; exact va_up_self _ _ _
                  have k24_3 := (congrFun eh24x (91)).trans ((va_up_ne _ _ (by omega)).trans k23_3)
                  have sw25 : zsm hX22 h24x (zon (94)) := zsm.rf.up eh24x rfl
                  have zw25 : zsh hX22 h24x := zsh.fill eh24x k23_2
                  refine zp_pc (pc' := 131) rfl ?_
                  refine zn_iinc 1 (ls' := [some (.ref (64)), some (.ref (a)), some (.int (nI (k))), some (.int (nI (A.length))), some (.int (nI (16 * c))), some (.int (nI (k22 + 1)))]) dX11_drawCounter_131 (by decide) (by decide) rfl rfl ?_
                  refine zp_goto (tgt := 98) dX11_drawCounter_134 (by decide) ?_
                  refine zp_pc (pc' := 98) rfl ?_
                  rw [zfl_step eX22 eh24x (by omega) rfl]
                  exact ih ((min 16 (k - 16 * c)) - (k22 + 1)) (by omega) (k22 + 1) rfl (by omega)
          suffices K22 : zP g mX11_drawCounter (zR 5 0 0) Qf 0 0 137 [some (.ref (64)), some (.ref (a)), some (.int (nI (k))), some (.int (nI (A.length))), some (.int (nI (16 * c))), some (.int (nI (min 16 (k - 16 * c))))] [] (va_up h17 (94) (some (.inr (4096, .inl (zfl go (16 * c) (min 16 (k - 16 * c)) (fun i => nI ((zenc (zod kd) s.1 (zplus s.2 ((16 * c + i) / 16 + 1))).getD ((16 * c + i) % 16) 0))))))) n by
            have q := lp22 K22 ((min 16 (k - 16 * c)) - 0) 0 rfl (Nat.zero_le _)
            rw [zfl_0, zup_same m20] at q
            exact q
          refine zp_nh (fun hY22 eY22 => ?_)
          have k26_0 := (congrFun eY22 (64)).trans ((va_up_ne _ _ (by omega)).trans m18)
          have k26_1 := (congrFun eY22 (a)).trans ((va_up_ne _ _ (by omega)).trans m19)
          have k26_2 : hY22 (94) = some (.inr (4096, .inl (zfl go (16 * c) (min 16 (k - 16 * c)) (fun i => nI ((zenc (zod kd) s.1 (zplus s.2 ((16 * c + i) / 16 + 1))).getD ((16 * c + i) % 16) 0))))) := by rw [eY22]; exact va_up_self _ _ _
          have k26_3 := (congrFun eY22 (91)).trans ((va_up_ne _ _ (by omega)).trans ld21)
          have sf27 := (zsm.fill eY22)
          have zf27 := zsh.fill eY22 m20
          refine zn_iinc 16 (ls' := [some (.ref (64)), some (.ref (a)), some (.int (nI (k))), some (.int (nI (A.length))), some (.int (nI (16 * c + 16))), some (.int (nI (min 16 (k - 16 * c))))]) dX11_drawCounter_137 (by decide) (by decide) rfl rfl ?_
          refine zp_pc (pc' := 140) rfl ?_
          refine zp_ls (ls' := [some (.ref (64)), some (.ref (a)), some (.int (nI (k))), some (.int (nI (A.length))), some (.int (nI (16 * (c + 1)))), some (.int (nI (min 16 (k - 16 * c))))]) (by rw [Nat.mul_add]) ?_
          refine zp_goto (tgt := 84) dX11_drawCounter_140 (by decide) ?_
          refine zp_pc (pc' := 84) rfl ?_
          refine zp_drop (ls' := [some (.ref (64)), some (.ref (a)), some (.int (nI (k))), some (.int (nI (A.length))), some (.int (nI (16 * (c + 1)))), none]) (fun i v hv => ?_) ?_
          · rcases i with _ | _ | _ | _ | _ | _ | i <;> simp at hv ⊢ <;> exact hv
          refine ih (k - (c + 1)) (by omega) (c + 1) hY22 _ rfl (by omega) (Or.inr (by omega)) (s2.trans (((s17).mono (fun i hi => by unfold zsc7; unfold zsb8 at hi; omega)).trans ((sf27).mono (fun i hi => by unfold zsc7; unfold zon at hi; omega)))) (z2.trans ((z17).trans zf27)) k26_2 (v17.keep (sf27 _ (by unfold zon; omega))) (fun j hj hj2 => ?_)
          rcases Nat.lt_or_ge j (16 * c) with q | q
          · rw [zfl_out (Or.inl q)]; exact egr j hj q
          · obtain ⟨d, rfl⟩ := Nat.exists_eq_add_of_le q
            rw [zfl_in (by omega)]
    exact lp _ 0 h1 gO rfl (Nat.zero_le _) (Or.inl rfl) zsm.rf zsh.rf hO1 (by rw [zplus_0 vb1]; exact V1) (fun j _ hj => absurd hj (by omega))
  refine zn_if_le (tgt := 81) dX11_drawCounter_43 (by decide) (by omega) (fun c43 => ?_) (fun c43 => ?_)
  · exact kt12 hY3 ((List.range (zsd kd)).map (fun i => A.getD i 0)) s0 z0 ⟨_, k9_0⟩ (by rw [es, if_neg (by omega)]; exact V0) (by rw [es, if_neg (by omega)]; exact C0) O0 aM lAP (fun j hj => by rw [zmap_getD hj, em, if_neg (by omega)])
  · have kt28 : ∀ (h1 : ZH) (M : List Nat), zsm h h1 (zsgo a) → zsh h h1 → h1 64 = some (.inl (10, [.int (th), .ref (65), .ref (66), .ref (67), .ref (68), .ref (69), .ref (70), .ref (71), .ref (72), .ref (73), .ref (74), .ref (75), .ref (76), .ref (77), .ref (78), .ref (79), .ref (80), .ref (81), .ref (82), .ref (83), .ref (84), .int (nI (wt)), .int (nI (zbi un)), .int (rp), .int (wi), .int (pa), .int (be), .int (ru), .int (sa), .int (me), .int (se), .int (ta), .int (fa), .ref (85), .ref (86), .ref (87), .int (nI (mn)), .ref (88), .ref (89), .ref (90), .ref (91), .ref (92), .ref (93), .int (nI (tp)), .ref (94), .int (nI (ou))])) → zar h1 (a + 1) 111 V → zar h1 (a + 2) 111 C → zia h1 94 4096 → zar h1 92 48 M → M.length = zsd kd → (∀ j, j < zsd kd → M.getD j 0 = mm.getD j 0) → zP g mX11_drawCounter (zR 5 0 0) Qf 0 0 76 [some (.ref (64)), some (.ref (a)), some (.int (nI (k))), some (.int (nI (A.length))), none, none] [] h1 n := by
      intro h1 M s1 z1 o1 V1 C1 hO1 M1 lM hm
      have W2 := hw.sh s1 z1 (fun i q => by unfold zsgo at q; unfold zwf; omega)
      have g1 : h1 a = some (.inl (9, [.int (nI (zbi tr)), .int (nI (kd)), .int (nI (st)), .int (nI (iv)), .int (nI (zbi rs)), .int (nI (ct)), .int (dr), .int (nI (sd)), .ref (a + 1), .ref (a + 2)])) := (s1 _ (by unfold zsgo; omega)).trans hg
      refine zp_aload_n dX11_drawCounter_76 rfl ?_
      refine zp_aload_n dX11_drawCounter_77 rfl ?_
      refine zp_pc (pc' := 78) rfl ?_
      refine zp_callV (As := [.ref (a)]) (k := 64) (st := []) (ci := 10) dX11_drawCounter_78 cX11_278 rfl o1 rfl rfl (e_zmixC (mm := mm) W2 o1 g1 ha hkd hk4 V1 C1 lV lC M1 lM hm) (by decide) (by decide) (Nat.le_of_ble_eq_true rfl) (fun v29 h29 n29 q29 => ?_)
      obtain ⟨rfl, N29, s29, z29, v29, c29⟩ := q29
      rw [N29]
      refine zp_nrm (cells' := 0) (slots' := 0) (st' := []) rfl rfl rfl ?_
      have m30 : h29 (a) = some (.inl (9, [.int (nI (zbi tr)), .int (nI (kd)), .int (nI (st)), .int (nI (iv)), .int (nI (zbi rs)), .int (nI (ct)), .int (dr), .int (nI (sd)), .ref (a + 1), .ref (a + 2)])) := (s29 _ (by unfold zsb9; omega)).trans g1
      have m31 : h29 (64) = some (.inl (10, [.int (th), .ref (65), .ref (66), .ref (67), .ref (68), .ref (69), .ref (70), .ref (71), .ref (72), .ref (73), .ref (74), .ref (75), .ref (76), .ref (77), .ref (78), .ref (79), .ref (80), .ref (81), .ref (82), .ref (83), .ref (84), .int (nI (wt)), .int (nI (zbi un)), .int (rp), .int (wi), .int (pa), .int (be), .int (ru), .int (sa), .int (me), .int (se), .int (ta), .int (fa), .ref (85), .ref (86), .ref (87), .int (nI (mn)), .ref (88), .ref (89), .ref (90), .ref (91), .ref (92), .ref (93), .int (nI (tp)), .ref (94), .int (nI (ou))])) := (s29 _ (by unfold zsb9; omega)).trans o1
      refine zp_pc (pc' := 81) rfl ?_
      exact kt12 h29 M (s1.trans (s29.mono (fun i hi => by unfold zsgo; unfold zsb9 at hi; omega))) (z1.trans z29) ⟨_, m31⟩ (by rw [es, if_pos c43]; exact v29) (by rw [es, if_pos c43]; exact c29) (hO1.keep (s29 _ (by unfold zsb9; omega))) (M1.keep (s29 _ (by unfold zsb9; omega))) lM hm
    refine zp_aload_n dX11_drawCounter_46 rfl ?_
    refine zp_get dX11_drawCounter_47 gX11_271_9 k9_1 rfl ?_
    refine zp_bipush (v := nI (6)) dX11_drawCounter_50 (by decide) ?_
    refine zp_pc (pc' := 52) rfl ?_
    refine zn_icmp_ge (tgt := 76) dX11_drawCounter_52 (by decide) (by omega) (by omega) (fun c52 => ?_) (fun c52 => ?_)
    · exact kt28 hY3 ((List.range (zsd kd)).map (fun i => A.getD i 0)) s0 z0 k9_0 V0 C0 O0 aM lAP (fun j hj => by rw [zmap_getD hj, em, if_neg (by omega)])
    · refine zp_aload_n dX11_drawCounter_55 rfl ?_
      refine zp_aload_n dX11_drawCounter_56 rfl ?_
      refine zp_callV (As := []) (k := a) (st := [.ref (64)]) (ci := 9) dX11_drawCounter_57 cX11_265 rfl k9_1 rfl rfl (e_zkeys k9_1 hkd) (by decide) (by decide) (Nat.le_of_ble_eq_true rfl) (fun v32 h32 n32 q32 => ?_)
      obtain ⟨rfl, H32, N32⟩ := q32
      rw [N32, H32]
      refine zp_nrm (cells' := 0) (slots' := 0) (st' := [.int (nI (zkl (zod kd))), .ref (64)]) rfl rfl rfl ?_
      refine zp_aload_n dX11_drawCounter_60 rfl ?_
      refine zp_get dX11_drawCounter_61 gX11_114_10 k9_0 rfl ?_
      refine zp_iload_n dX11_drawCounter_64 rfl ?_
      refine zp_aload_n dX11_drawCounter_65 rfl ?_
      refine zp_get dX11_drawCounter_66 gX11_111_10 k9_0 rfl ?_
      refine zp_aload_n dX11_drawCounter_69 rfl ?_
      refine zp_callV (As := []) (k := a) (st := [.ref (92), .int (nI (A.length)), .ref (93), .int (nI (zkl (zod kd))), .ref (64)]) (ci := 9) dX11_drawCounter_70 cX11_229 rfl k9_1 rfl rfl (e_zseed k9_1 hkd) (by decide) (by decide) (Nat.le_of_ble_eq_true rfl) (fun v33 h33 n33 q33 => ?_)
      obtain ⟨rfl, H33, N33⟩ := q33
      rw [N33, H33]
      refine zp_nrm (cells' := 0) (slots' := 0) (st' := [.int (nI (zsd kd)), .ref (92), .int (nI (A.length)), .ref (93), .int (nI (zkl (zod kd))), .ref (64)]) rfl rfl rfl ?_
      refine zp_pc (pc' := 73) rfl ?_
      refine zp_callV (As := [.int (nI (zkl (zod kd))), .ref (93), .int (nI (A.length)), .ref (92), .int (nI (zsd kd))]) (k := 64) (st := []) (ci := 10) dX11_drawCounter_73 cX11_274 rfl k9_0 rfl rfl (e_mdce (b := (zod kd)) (p := 93) (r := 92) (k := zsd kd) (Nr := 48) (xs := A) W11 k9_0 ((hA).keep (sf10 _ (by unfold zon; omega))) W11.m92 (by omega) (by decide) (by decide) (by decide) (by decide) (by omega) (by omega)) (by decide) (by decide) (Nat.le_of_ble_eq_true rfl) (fun v34 h34 n34 q34 => ?_)
      obtain ⟨rfl, N34, s34, z34, d34⟩ := q34
      rw [N34]
      refine zp_nrm (cells' := 0) (slots' := 0) (st' := []) rfl rfl rfl ?_
      have m35 : h34 (64) = some (.inl (10, [.int (th), .ref (65), .ref (66), .ref (67), .ref (68), .ref (69), .ref (70), .ref (71), .ref (72), .ref (73), .ref (74), .ref (75), .ref (76), .ref (77), .ref (78), .ref (79), .ref (80), .ref (81), .ref (82), .ref (83), .ref (84), .int (nI (wt)), .int (nI (zbi un)), .int (rp), .int (wi), .int (pa), .int (be), .int (ru), .int (sa), .int (me), .int (se), .int (ta), .int (fa), .ref (85), .ref (86), .ref (87), .int (nI (mn)), .ref (88), .ref (89), .ref (90), .ref (91), .ref (92), .ref (93), .int (nI (tp)), .ref (94), .int (nI (ou))])) := (s34 _ (by unfold zs9; omega)).trans k9_0
      have m36 : h34 (a) = some (.inl (9, [.int (nI (zbi tr)), .int (nI (kd)), .int (nI (st)), .int (nI (iv)), .int (nI (zbi rs)), .int (nI (ct)), .int (dr), .int (nI (sd)), .ref (a + 1), .ref (a + 2)])) := (s34 _ (by unfold zs9; omega)).trans k9_1
      have m37 : h34 (93) = some (.inr (240, .inl lf1)) := (s34 _ (by unfold zs9; omega)).trans k9_2
      refine zp_pc (pc' := 76) rfl ?_
      exact kt28 h34 _ (s0.trans (s34.mono (fun i hi => by unfold zsgo; unfold zs9 at hi; omega))) (z0.trans z34) m35 (V0.keep (s34 _ (by unfold zs9; omega))) (C0.keep (s34 _ (by unfold zs9; omega))) (O0.keep (s34 _ (by unfold zs9; omega))) d34 (zdce_len ..) (fun j hj => by rw [em, if_pos ⟨c43, c52⟩])
