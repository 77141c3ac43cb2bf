theorem zcN4 {kd : Nat} (h : kd < 8) (h4 : 4 ≤ kd) : zsd kd = zkl (zod kd) + 16 := by
  rcases zkind h with q | q | q
  · omega
  · omega
  · exact q.2.2.2.1
theorem zccat_get (b : Bool) (K V : List Nat) {c j : Nat} (hj : j < c * 16) : (zccat b K V c).getD j 0 = (zenc b K (zplus V (j / 16 + 1))).getD (j % 16) 0 := by
  unfold zccat
  exact zflat_getD _ 16 (by decide) (fun k => zenc_len _ _ _) _ _ hj
theorem zccat_lt {b : Bool} {K : List Nat} (hK : ∀ x ∈ K, x < 256) (V : List Nat) (c : Nat) : ∀ x ∈ zccat b K V c, x < 256 := fun x h => by
  obtain ⟨i, -, h2⟩ := List.mem_flatMap.mp h
  exact zenc_lt hK (znum_lt _ _) x h2
theorem zcmx_get (b : Bool) (K V m : List Nat) {j : Nat} (hj : j < zkl b + 16) : (zcmx b K V m).getD j 0 = (zenc b K (zplus V (j / 16 + 1))).getD (j % 16) 0 ^^^ m.getD j 0 := by
  have hz := zkl_or b
  unfold zcmx
  rw [zxor_get _ _ _ (by rw [zccat_len]; omega), zccat_get _ _ _ (by omega), Nat.zero_add]
theorem zcmx_lt {b : Bool} {K V m : List Nat} (hK : ∀ x ∈ K, x < 256) (hm : ∀ j, j < zkl b + 16 → m.getD j 0 < 256) : ∀ x ∈ zcmx b K V m, x < 256 := fun x h => by
  obtain ⟨i, hi, rfl⟩ := List.getElem_of_mem h
  have l := zcmx_len b K V m
  have e : (zcmx b K V m).getD i 0 = (zcmx b K V m)[i] := by rw [List.getD_eq_getElem?_getD, List.getElem?_eq_getElem hi]; rfl
  rw [← e, zcmx_get b K V m (by omega)]
  exact zx_lt (zgetD_lt (zenc_lt hK (znum_lt _ _)) _) (hm i (by omega))
abbrev zsb8 (a : Nat) : Nat → Prop := fun i => i = 78 ∨ i = 79 ∨ i = 88 ∨ i = 91 ∨ i = a + 1
abbrev zsb9 (a : Nat) : Nat → Prop := fun i => i = 78 ∨ i = 79 ∨ i = 88 ∨ i = 89 ∨ i = 91 ∨ i = a + 1 ∨ i = a + 2
abbrev zsb7 (a : Nat) : Nat → Prop := fun i => i = 78 ∨ i = 79 ∨ i = 88 ∨ i = 89 ∨ i = 91 ∨ i = a + 1
abbrev zsc7 (a : Nat) : Nat → Prop := fun i => i = 78 ∨ i = 79 ∨ i = 88 ∨ i = 91 ∨ i = a + 1 ∨ i = 94
set_option maxRecDepth 10000 in
set_option maxHeartbeats 2000000 in
theorem e_zblock {g : ZG} {h : ZH} {n : Nat} {a kd st iv ct sd : Nat} {tr rs : Bool} {dr : Int32} {V C : List Nat} {th : Int32} {wt : Nat} {un : Bool} {rp wi pa be ru sa me se ta fa : Int32} {mn tp ou : Nat} (hw : zmw h) (ho : h 64 = some (.inl (10, [.int (th), .ref (65), .ref (66), .ref (67), .ref (68), .ref (69), .ref (70), .ref (71), .ref (72), .ref (73), .ref (74), .ref (75), .ref (76), .ref (77), .ref (78), .ref (79), .ref (80), .ref (81), .ref (82), .ref (83), .ref (84), .int (nI (wt)), .int (nI (zbi un)), .int (rp), .int (wi), .int (pa), .int (be), .int (ru), .int (sa), .int (me), .int (se), .int (ta), .int (fa), .ref (85), .ref (86), .ref (87), .int (nI (mn)), .ref (88), .ref (89), .ref (90), .ref (91), .ref (92), .ref (93), .int (nI (tp)), .ref (94), .int (nI (ou))]))) (hg : h a = some (.inl (9, [.int (nI (zbi tr)), .int (nI (kd)), .int (nI (st)), .int (nI (iv)), .int (nI (zbi rs)), .int (nI (ct)), .int (dr), .int (nI (sd)), .ref (a + 1), .ref (a + 2)]))) (ha : a = 95 ∨ a = 98 ∨ a = 101 ∨ a = 104) (hkd : kd < 8) (hk4 : 4 ≤ kd) (hV : zar h (a + 1) 111 V) (hC : zar h (a + 2) 111 C) (lV : V.length = 16) (lC : C.length = zkl (zod kd)) : zMt g mX11_blockNext (zR 3 0 0) [.ref (64), .ref (a)] h n (fun v h' n' => v = none ∧ n' = n ∧ zsm h h' (zsb8 a) ∧ zsh h h' ∧ zar h' (a + 1) 111 (zplus V 1) ∧ zar h' 91 16 (zenc (zod kd) C (zplus V 1))) := by
  refine zMt.of [some (.ref (64)), some (.ref (a)), none] (by decide) rfl (Nat.le_of_ble_eq_true rfl) ?_
  obtain ⟨Qf, hQ⟩ : ∃ Qf : ZQ, Qf = (fun v h' n' => v = none ∧ n' = n ∧ zsm h h' (zsb8 a) ∧ zsh h h' ∧ zar h' (a + 1) 111 (zplus V 1) ∧ zar h' 91 16 (zenc (zod kd) C (zplus V 1))) := ⟨_, rfl⟩
  rw [← hQ]
  have hs := zsd_le hkd
  have hsd := zcN4 hkd hk4
  have hz := zkl_or (zod kd)
  refine zp_aload_n dX11_blockNext_0 rfl ?_
  refine zp_aload_n dX11_blockNext_1 rfl ?_
  refine zp_get dX11_blockNext_2 gX11_226_9 hg rfl ?_
  refine zp_bipush (v := nI (16)) dX11_blockNext_5 (by decide) ?_
  refine zp_pc (pc' := 7) rfl ?_
  refine zp_i (y := nI (V.length)) (by rw [lV]) ?_
  refine zp_iconst (v := nI (1)) dX11_blockNext_7 (by decide) ?_
  refine zp_pc (pc' := 8) rfl ?_
  refine zp_callV (As := [.ref (a + 1), .int (nI (V.length)), .int (nI (1))]) (k := 64) (st := []) (ci := 10) dX11_blockNext_8 cX11_246 rfl ho rfl rfl (e_maddsN (x := 1) ho hw.m88 hV (by omega) (by omega) (by rw [lV]; decide) (by decide)) (by decide) (by decide) (Nat.le_of_ble_eq_true rfl) (fun v101 h101 n101 q101 => ?_)
  obtain ⟨rfl, N101, s101, z101, d101⟩ := q101
  rw [N101]
  refine zp_nrm (cells' := 0) (slots' := 0) (st' := []) rfl rfl rfl ?_
  have m102 : h101 (64) = some (.inl (10, [.int (th), .ref (65), .ref (66), .ref (67), .ref (68), .ref (69), .ref (70), .ref (71), .ref (72), .ref (73), .ref (74), .ref (75), .ref (76), .ref (77), .ref (78), .ref (79), .ref (80), .ref (81), .ref (82), .ref (83), .ref (84), .int (nI (wt)), .int (nI (zbi un)), .int (rp), .int (wi), .int (pa), .int (be), .int (ru), .int (sa), .int (me), .int (se), .int (ta), .int (fa), .ref (85), .ref (86), .ref (87), .int (nI (mn)), .ref (88), .ref (89), .ref (90), .ref (91), .ref (92), .ref (93), .int (nI (tp)), .ref (94), .int (nI (ou))])) := (s101 _ (by unfold zsa; omega)).trans ho
  have m103 : h101 (a) = some (.inl (9, [.int (nI (zbi tr)), .int (nI (kd)), .int (nI (st)), .int (nI (iv)), .int (nI (zbi rs)), .int (nI (ct)), .int (dr), .int (nI (sd)), .ref (a + 1), .ref (a + 2)])) := (s101 _ (by unfold zsa; omega)).trans hg
  have lP : (zplus V 1).length = 16 := by rw [zplus_len, lV]
  obtain ⟨la104, lb104, lc104, lf104, ld104, le104⟩ := id d101
  have W105 := zmw.sh hw ((s101).mono (fun i hi => by unfold zwf; unfold zsa at hi; omega)) (z101) (fun i hi => hi)
  obtain ⟨if106, ih106⟩ := id (W105.m91)
  refine zp_iconst (v := nI (0)) dX11_blockNext_11 (by decide) ?_
  refine zp_istore_n (ls' := [some (.ref (64)), some (.ref (a)), some (.int (nI (0)))]) dX11_blockNext_12 (by decide) rfl ?_
  refine zp_pc (pc' := 13) rfl ?_
  have lp107 : zP g mX11_blockNext (zR 3 0 0) Qf 0 0 37 [some (.ref (64)), some (.ref (a)), some (.int (nI (16)))] [] (va_up h101 (91) (some (.inr (16, .inl (zfl if106 (0) (16) (fun i => nI ((zplus V 1).getD i 0))))))) n → ∀ (m k107 : Nat), m = (16) - k107 → k107 ≤ (16) → zP g mX11_blockNext (zR 3 0 0) Qf 0 0 13 [some (.ref (64)), some (.ref (a)), some (.int (nI (k107)))] [] (va_up h101 (91) (some (.inr (16, .inl (zfl if106 (0) (k107) (fun i => nI ((zplus V 1).getD i 0))))))) n := by
    intro kk m
    induction m using Nat.strongRecOn with
    | _ m ih =>
      intro k107 hm107 hk107
      refine zp_nh (fun hX107 eX107 => ?_)
      have k108_0 := (congrFun eX107 (64)).trans ((va_up_ne _ _ (by omega)).trans m102)
      have k108_1 := (congrFun eX107 (a)).trans ((va_up_ne _ _ (by omega)).trans m103)
      have k108_2 := (congrFun eX107 (a + 1)).trans ((va_up_ne _ _ (by omega)).trans ld104)
      have k108_3 : hX107 (91) = some (.inr (16, .inl (zfl if106 (0) (k107) (fun i => nI ((zplus V 1).getD i 0))))) := by rw [eX107]; exact va_up_self _ _ _
      refine zp_iload_n dX11_blockNext_13 rfl ?_
      refine zp_bipush (v := nI (16)) dX11_blockNext_14 (by decide) ?_
      refine zp_pc (pc' := 16) rfl ?_
      refine zn_icmp_ge (tgt := 37) dX11_blockNext_16 (by decide) (by omega) (by omega) (fun c16 => ?_) (fun c16 => ?_)
      · have e107 : k107 = (16) := by omega
        subst e107
        rw [eX107]
        exact kk
      · refine zp_aload_n dX11_blockNext_19 rfl ?_
        refine zp_get dX11_blockNext_20 gX11_108_10 k108_0 rfl ?_
        refine zp_iload_n dX11_blockNext_23 rfl ?_
        refine zp_aload_n dX11_blockNext_24 rfl ?_
        refine zp_get dX11_blockNext_25 gX11_226_9 k108_1 rfl ?_
        refine zp_iload_n dX11_blockNext_28 rfl ?_
        refine zp_pc (pc' := 29) rfl ?_
        refine zn_iald (j := k107) dX11_blockNext_29 k108_2 (by omega) (by omega) ?_
        refine zp_i (y := nI ((zplus V 1).getD k107 0)) (le104 _ (by omega)) ?_
        refine zn_iast dX11_blockNext_30 (by omega) k108_3 (by omega) (by omega) ?_
        refine zp_nh (fun h109x eh109x => ?_)
        have k109_0 := (congrFun eh109x (64)).trans ((va_up_ne _ _ (by omega)).trans k108_0)
        have k109_1 := (congrFun eh109x (a)).trans ((va_up_ne _ _ (by omega)).trans k108_1)
        have k109_2 := (congrFun eh109x (a + 1)).trans ((va_up_ne _ _ (by omega)).trans k108_2)
        have k109_3 : h109x (91) = some (.inr (16, .inl (va_up (zfl if106 (0) (k107) (fun i => nI ((zplus V 1).getD i 0))) (k107) (nI ((zplus V 1).getD k107 0))))) := by rw [eh109x]; exact va_up_self _ _ _
        have sw110 : zsm hX107 h109x (zon (91)) := zsm.rf.up eh109x rfl
        have zw110 : zsh hX107 h109x := zsh.fill eh109x k108_3
        refine zp_pc (pc' := 31) rfl ?_
        refine zn_iinc 1 (ls' := [some (.ref (64)), some (.ref (a)), some (.int (nI (k107 + 1)))]) dX11_blockNext_31 (by decide) (by decide) rfl rfl ?_
        refine zp_goto (tgt := 13) dX11_blockNext_34 (by decide) ?_
        refine zp_pc (pc' := 13) rfl ?_
        rw [zfl_step eX107 eh109x (by omega) rfl]
        exact ih ((16) - (k107 + 1)) (by omega) (k107 + 1) rfl (by omega)
  suffices K107 : zP g mX11_blockNext (zR 3 0 0) Qf 0 0 37 [some (.ref (64)), some (.ref (a)), some (.int (nI (16)))] [] (va_up h101 (91) (some (.inr (16, .inl (zfl if106 (0) (16) (fun i => nI ((zplus V 1).getD i 0))))))) n by
    have q := lp107 K107 ((16) - 0) 0 rfl (Nat.zero_le _)
    rw [zfl_0, zup_same ih106] at q
    exact q
  refine zp_nh (fun hY107 eY107 => ?_)
  have k111_0 := (congrFun eY107 (64)).trans ((va_up_ne _ _ (by omega)).trans m102)
  have k111_1 := (congrFun eY107 (a)).trans ((va_up_ne _ _ (by omega)).trans m103)
  have k111_2 := (congrFun eY107 (a + 1)).trans ((va_up_ne _ _ (by omega)).trans ld104)
  have k111_3 : hY107 (91) = some (.inr (16, .inl (zfl if106 (0) (16) (fun i => nI ((zplus V 1).getD i 0))))) := by rw [eY107]; exact va_up_self _ _ _
  have sf112 := (zsm.fill eY107)
  have zf112 := zsh.fill eY107 ih106
  refine zp_aload_n dX11_blockNext_37 rfl ?_
  refine zp_aload_n dX11_blockNext_38 rfl ?_
  refine zp_get dX11_blockNext_39 gX11_243_9 k111_1 rfl ?_
  refine zp_aload_n dX11_blockNext_42 rfl ?_
  refine zp_callV (As := []) (k := a) (st := [.ref (a + 2), .ref (64)]) (ci := 9) dX11_blockNext_43 cX11_265 rfl k111_1 rfl rfl (e_zkeys k111_1 hkd) (by decide) (by decide) (Nat.le_of_ble_eq_true rfl) (fun v113 h113 n113 q113 => ?_)
  obtain ⟨rfl, H113, N113⟩ := q113
  rw [N113, H113]
  refine zp_nrm (cells' := 0) (slots' := 0) (st' := [.int (nI (zkl (zod kd))), .ref (a + 2), .ref (64)]) rfl rfl rfl ?_
  refine zp_aload_n dX11_blockNext_46 rfl ?_
  refine zp_get dX11_blockNext_47 gX11_108_10 k111_0 rfl ?_
  refine zp_pc (pc' := 50) rfl ?_
  have aB : zar hY107 91 16 (zplus V 1) := zar.mk (L := 16) k111_3 lP (by decide) (by decide) lc104 (fun j hj => zfl_in0 hj)
  have W114 := zmw.sh W105 ((sf112).mono (fun i hi => by unfold zwf; unfold zon at hi; omega)) (zf112) (fun i hi => hi)
  refine zp_callV (As := [.ref (a + 2), .int (nI (zkl (zod kd))), .ref (91)]) (k := 64) (st := []) (ci := 10) dX11_blockNext_50 cX11_186 rfl k111_0 rfl rfl (e_mcipher (b := (zod kd)) (q := a + 2) (r := 91) W114.2.2.2.1 k111_0 ((((hC).keep (s101 _ (by unfold zsa; omega))).keep (sf112 _ (by unfold zon; omega)))) aB (by omega) (by decide) lC lP) (by decide) (by decide) (Nat.le_of_ble_eq_true rfl) (fun v115 h115 n115 q115 => ?_)
  obtain ⟨rfl, N115, s115, z115, d115⟩ := q115
  rw [N115]
  refine zp_nrm (cells' := 0) (slots' := 0) (st' := []) rfl rfl rfl ?_
  have m116 : h115 (64) = some (.inl (10, [.int (th), .ref (65), .ref (66), .ref (67), .ref (68), .ref (69), .ref (70), .ref (71), .ref (72), .ref (73), .ref (74), .ref (75), .ref (76), .ref (77), .ref (78), .ref (79), .ref (80), .ref (81), .ref (82), .ref (83), .ref (84), .int (nI (wt)), .int (nI (zbi un)), .int (rp), .int (wi), .int (pa), .int (be), .int (ru), .int (sa), .int (me), .int (se), .int (ta), .int (fa), .ref (85), .ref (86), .ref (87), .int (nI (mn)), .ref (88), .ref (89), .ref (90), .ref (91), .ref (92), .ref (93), .int (nI (tp)), .ref (94), .int (nI (ou))])) := (s115 _ (by unfold zs3; omega)).trans k111_0
  have m117 : h115 (a) = some (.inl (9, [.int (nI (zbi tr)), .int (nI (kd)), .int (nI (st)), .int (nI (iv)), .int (nI (zbi rs)), .int (nI (ct)), .int (dr), .int (nI (sd)), .ref (a + 1), .ref (a + 2)])) := (s115 _ (by unfold zs3; omega)).trans k111_1
  have m118 : h115 (a + 1) = some (.inr (111, .inl lf104)) := (s115 _ (by unfold zs3; omega)).trans k111_2
  refine zp_pc (pc' := 53) rfl ?_
  refine zp_ret (v := none) dX11_blockNext_53 ⟨rfl, rfl⟩ (by decide) (by decide) ?_
  rw [hQ]
  exact ⟨rfl, rfl, (((s101).mono (fun i hi => by unfold zsb8; unfold zsa at hi; omega)).trans ((sf112).mono (fun i hi => by unfold zsb8; unfold zon at hi; omega))).trans ((s115).mono (fun i hi => by unfold zsb8; unfold zs3 at hi; omega)), ((z101).trans zf112).trans z115, (d101.keep (sf112 _ (by unfold zon; omega))).keep (s115 _ (by unfold zs3; omega)), d115⟩
set_option maxRecDepth 10000 in
set_option maxHeartbeats 2000000 in
theorem e_zmixC {g : ZG} {h : ZH} {n : Nat} {a kd st iv ct sd : Nat} {tr rs : Bool} {dr : Int32} {V C M mm : List Nat} {th : Int32} {wt : Nat} {un : Bool} {rp wi pa be ru sa me se ta fa : Int32} {mn tp ou : Nat} (hw : zmw h) (ho : h 64 = some (.inl (10, [.int (th), .ref (65), .ref (66), .ref (67), .ref (68), .ref (69), .ref (70), .ref (71), .ref (72), .ref (73), .ref (74), .ref (75), .ref (76), .ref (77), .ref (78), .ref (79), .ref (80), .ref (81), .ref (82), .ref (83), .ref (84), .int (nI (wt)), .int (nI (zbi un)), .int (rp), .int (wi), .int (pa), .int (be), .int (ru), .int (sa), .int (me), .int (se), .int (ta), .int (fa), .ref (85), .ref (86), .ref (87), .int (nI (mn)), .ref (88), .ref (89), .ref (90), .ref (91), .ref (92), .ref (93), .int (nI (tp)), .ref (94), .int (nI (ou))]))) (hg : h a = some (.inl (9, [.int (nI (zbi tr)), .int (nI (kd)), .int (nI (st)), .int (nI (iv)), .int (nI (zbi rs)), .int (nI (ct)), .int (dr), .int (nI (sd)), .ref (a + 1), .ref (a + 2)]))) (ha : a = 95 ∨ a = 98 ∨ a = 101 ∨ a = 104) (hkd : kd < 8) (hk4 : 4 ≤ kd) (hV : zar h (a + 1) 111 V) (hC : zar h (a + 2) 111 C) (lV : V.length = 16) (lC : C.length = zkl (zod kd)) (hM : zar h 92 48 M) (lM : M.length = zsd kd) (hm : ∀ j, j < zsd kd → M.getD j 0 = mm.getD j 0) : zMt g mX11_mixCounter (zR 4 0 0) [.ref (64), .ref (a)] h n (fun v h' n' => v = none ∧ n' = n ∧ zsm h h' (zsb9 a) ∧ zsh h h' ∧ zar h' (a + 1) 111 (zcmV (zod kd) C V mm) ∧ zar h' (a + 2) 111 (zcmK (zod kd) C V mm)) := by
  refine zMt.of [some (.ref (64)), some (.ref (a)), none, none] (by decide) rfl (Nat.le_of_ble_eq_true rfl) ?_
  obtain ⟨Qf, hQ⟩ : ∃ Qf : ZQ, Qf = (fun v h' n' => v = none ∧ n' = n ∧ zsm h h' (zsb9 a) ∧ zsh h h' ∧ zar h' (a + 1) 111 (zcmV (zod kd) C V mm) ∧ zar h' (a + 2) 111 (zcmK (zod kd) C V mm)) := ⟨_, rfl⟩
  rw [← hQ]
  have hs := zsd_le hkd
  have hsd := zcN4 hkd hk4
  have hz := zkl_or (zod kd)
  have cb := hC.bytes
  have vb := hV.bytes
  obtain ⟨la101, lb101, lc101, lf101, ld101, le101⟩ := id hM
  obtain ⟨if102, ih102⟩ := id (hw.m89)
  have xl := zcmx_len (zod kd) C V mm
  have xb : ∀ x ∈ (zcmx (zod kd) C V mm), x < 256 := zcmx_lt cb (fun j hj => by rw [← hm j (by omega)]; exact zgetD_lt lc101 j)
  refine zp_iconst (v := nI (0)) dX11_mixCounter_0 (by decide) ?_
  refine zp_istore_n (ls' := [some (.ref (64)), some (.ref (a)), some (.int (nI (0))), none]) dX11_mixCounter_1 (by decide) rfl ?_
  refine zp_pc (pc' := 2) rfl ?_
  refine zp_ls (ls' := [some (.ref (64)), some (.ref (a)), some (.int (nI (16 * 0))), none]) rfl ?_
  have hCC : ∀ h1, zsm h h1 (zsb7 a) → zar h1 (a + 2) 111 C := fun h1 s1 => hC.keep (s1 _ (by unfold zsb7; omega))
  have lp : ∀ (m : Nat) (c : Nat) (h1 : ZH) (g9 : Nat → Int32), m = 3 - c → 16 * c ≤ zsd kd → zsm h h1 (zsb7 a) → zsh h h1 → h1 89 = some (.inr (111, .inl g9)) → zar h1 (a + 1) 111 (zplus V c) → (∀ j, j < 16 * c → g9 j = nI ((zcmx (zod kd) C V mm).getD j 0)) → zP g mX11_mixCounter (zR 4 0 0) Qf 0 0 2 [some (.ref (64)), some (.ref (a)), some (.int (nI (16 * c))), none] [] h1 n := by
    intro m
    induction m using Nat.strongRecOn with
    | _ m ih =>
      intro c h1 g9 hm1 hc1 s1 z1 e9 V1 eg
      have o1 : h1 64 = some (.inl (10, [.int (th), .ref (65), .ref (66), .ref (67), .ref (68), .ref (69), .ref (70), .ref (71), .ref (72), .ref (73), .ref (74), .ref (75), .ref (76), .ref (77), .ref (78), .ref (79), .ref (80), .ref (81), .ref (82), .ref (83), .ref (84), .int (nI (wt)), .int (nI (zbi un)), .int (rp), .int (wi), .int (pa), .int (be), .int (ru), .int (sa), .int (me), .int (se), .int (ta), .int (fa), .ref (85), .ref (86), .ref (87), .int (nI (mn)), .ref (88), .ref (89), .ref (90), .ref (91), .ref (92), .ref (93), .int (nI (tp)), .ref (94), .int (nI (ou))])) := (s1 _ (by unfold zsb7; omega)).trans ho
      have g1 : h1 a = some (.inl (9, [.int (nI (zbi tr)), .int (nI (kd)), .int (nI (st)), .int (nI (iv)), .int (nI (zbi rs)), .int (nI (ct)), .int (dr), .int (nI (sd)), .ref (a + 1), .ref (a + 2)])) := (s1 _ (by unfold zsb7; omega)).trans hg
      have W1 := hw.sh s1 z1 (fun i q => by unfold zsb7 at q; unfold zwf; omega)
      have M1 := hM.keep (s1 92 (by unfold zsb7; omega))
      have C1 := hCC h1 s1
      have lp1 : (zplus V c).length = 16 := by rw [zplus_len, lV]
      refine zp_iload_n dX11_mixCounter_2 rfl ?_
      refine zp_aload_n dX11_mixCounter_3 rfl ?_
      refine zp_callV (As := []) (k := a) (st := [.int (nI (16 * c))]) (ci := 9) dX11_mixCounter_4 cX11_229 rfl g1 rfl rfl (e_zseed g1 hkd) (by decide) (by decide) (Nat.le_of_ble_eq_true rfl) (fun v103 h103 n103 q103 => ?_)
      obtain ⟨rfl, H103, N103⟩ := q103
      rw [N103, H103]
      refine zp_nrm (cells' := 0) (slots' := 0) (st' := [.int (nI (zsd kd)), .int (nI (16 * c))]) rfl rfl rfl ?_
      refine zp_pc (pc' := 7) rfl ?_
      refine zn_icmp_ge (tgt := 58) dX11_mixCounter_7 (by decide) (by omega) (by omega) (fun c7 => ?_) (fun c7 => ?_)
      · obtain ⟨fc, ec⟩ := id C1.ia
        obtain ⟨fv, ev⟩ := id V1.ia
        refine zp_iconst (v := nI (0)) dX11_mixCounter_58 (by decide) ?_
        refine zp_istore_n (ls' := [some (.ref (64)), some (.ref (a)), some (.int (nI (0))), none]) dX11_mixCounter_59 (by decide) rfl ?_
        refine zp_pc (pc' := 60) rfl ?_
        have lp104 : zP g mX11_mixCounter (zR 4 0 0) Qf 0 0 86 [some (.ref (64)), some (.ref (a)), some (.int (nI (zkl (zod kd)))), none] [] (va_up h1 (a + 2) (some (.inr (111, .inl (zfl fc (0) (zkl (zod kd)) (fun i => nI ((zcmK (zod kd) C V mm).getD i 0))))))) n → ∀ (m k104 : Nat), m = (zkl (zod kd)) - k104 → k104 ≤ (zkl (zod kd)) → zP g mX11_mixCounter (zR 4 0 0) Qf 0 0 60 [some (.ref (64)), some (.ref (a)), some (.int (nI (k104))), none] [] (va_up h1 (a + 2) (some (.inr (111, .inl (zfl fc (0) (k104) (fun i => nI ((zcmK (zod kd) C V mm).getD i 0))))))) n := by
          intro kk m
          induction m using Nat.strongRecOn with
          | _ m ih =>
            intro k104 hm104 hk104
            refine zp_nh (fun hX104 eX104 => ?_)
            have k105_0 := (congrFun eX104 (64)).trans ((va_up_ne _ _ (by omega)).trans o1)
            have k105_1 := (congrFun eX104 (a)).trans ((va_up_ne _ _ (by omega)).trans g1)
            have k105_2 := (congrFun eX104 (89)).trans ((va_up_ne _ _ (by omega)).trans e9)
            have k105_3 : hX104 (a + 2) = some (.inr (111, .inl (zfl fc (0) (k104) (fun i => nI ((zcmK (zod kd) C V mm).getD i 0))))) := by rw [eX104]; exact va_up_self _ _ _
            have k105_4 := (congrFun eX104 (a + 1)).trans ((va_up_ne _ _ (by omega)).trans ev)
            refine zp_iload_n dX11_mixCounter_60 rfl ?_
            refine zp_aload_n dX11_mixCounter_61 rfl ?_
            refine zp_callV (As := []) (k := a) (st := [.int (nI (k104))]) (ci := 9) dX11_mixCounter_62 cX11_265 rfl k105_1 rfl rfl (e_zkeys k105_1 hkd) (by decide) (by decide) (Nat.le_of_ble_eq_true rfl) (fun v106 h106 n106 q106 => ?_)
            obtain ⟨rfl, H106, N106⟩ := q106
            rw [N106, H106]
            refine zp_nrm (cells' := 0) (slots' := 0) (st' := [.int (nI (zkl (zod kd))), .int (nI (k104))]) rfl rfl rfl ?_
            refine zp_pc (pc' := 65) rfl ?_
            refine zn_icmp_ge (tgt := 86) dX11_mixCounter_65 (by decide) (by omega) (by omega) (fun c65 => ?_) (fun c65 => ?_)
            · have e104 : k104 = (zkl (zod kd)) := by omega
              subst e104
              rw [eX104]
              exact kk
            · refine zp_aload_n dX11_mixCounter_68 rfl ?_
              refine zp_get dX11_mixCounter_69 gX11_243_9 k105_1 rfl ?_
              refine zp_iload_n dX11_mixCounter_72 rfl ?_
              refine zp_aload_n dX11_mixCounter_73 rfl ?_
              refine zp_get dX11_mixCounter_74 gX11_102_10 k105_0 rfl ?_
              refine zp_iload_n dX11_mixCounter_77 rfl ?_
              refine zp_pc (pc' := 78) rfl ?_
              refine zn_iald (j := k104) dX11_mixCounter_78 k105_2 (by omega) (by omega) ?_
              refine zp_i (y := nI ((zcmK (zod kd) C V mm).getD k104 0)) (by unfold zcmK; rw [zpart_get (by omega), Nat.zero_add]; exact eg _ (by omega)) ?_
              refine zn_iast dX11_mixCounter_79 (by omega) k105_3 (by omega) (by omega) ?_
              refine zp_nh (fun h107x eh107x => ?_)
              have k107_0 := (congrFun eh107x (64)).trans ((va_up_ne _ _ (by omega)).trans k105_0)
              have k107_1 := (congrFun eh107x (a)).trans ((va_up_ne _ _ (by omega)).trans k105_1)
              have k107_2 := (congrFun eh107x (89)).trans ((va_up_ne _ _ (by omega)).trans k105_2)
              have k107_3 : h107x (a + 2) = some (.inr (111, .inl (va_up (zfl fc (0) (k104) (fun i => nI ((zcmK (zod kd) C V mm).getD i 0))) (k104) (nI ((zcmK (zod kd) C V mm).getD k104 0))))) := by rw [eh107x]; exact va_up_self _ _ _
              have k107_4 := (congrFun eh107x (a + 1)).trans ((va_up_ne _ _ (by omega)).trans k105_4)
              have sw108 : zsm hX104 h107x (zon (a + 2)) := zsm.rf.up eh107x rfl
              have zw108 : zsh hX104 h107x := zsh.fill eh107x k105_3
              refine zp_pc (pc' := 80) rfl ?_
              refine zn_iinc 1 (ls' := [some (.ref (64)), some (.ref (a)), some (.int (nI (k104 + 1))), none]) dX11_mixCounter_80 (by decide) (by decide) rfl rfl ?_
              refine zp_goto (tgt := 60) dX11_mixCounter_83 (by decide) ?_
              refine zp_pc (pc' := 60) rfl ?_
              rw [zfl_step eX104 eh107x (by omega) rfl]
              exact ih ((zkl (zod kd)) - (k104 + 1)) (by omega) (k104 + 1) rfl (by omega)
        suffices K104 : zP g mX11_mixCounter (zR 4 0 0) Qf 0 0 86 [some (.ref (64)), some (.ref (a)), some (.int (nI (zkl (zod kd)))), none] [] (va_up h1 (a + 2) (some (.inr (111, .inl (zfl fc (0) (zkl (zod kd)) (fun i => nI ((zcmK (zod kd) C V mm).getD i 0))))))) n by
          have q := lp104 K104 ((zkl (zod kd)) - 0) 0 rfl (Nat.zero_le _)
          rw [zfl_0, zup_same ec] at q
          exact q
        refine zp_nh (fun hY104 eY104 => ?_)
        have k109_0 := (congrFun eY104 (64)).trans ((va_up_ne _ _ (by omega)).trans o1)
        have k109_1 := (congrFun eY104 (a)).trans ((va_up_ne _ _ (by omega)).trans g1)
        have k109_2 := (congrFun eY104 (89)).trans ((va_up_ne _ _ (by omega)).trans e9)
        have k109_3 : hY104 (a + 2) = some (.inr (111, .inl (zfl fc (0) (zkl (zod kd)) (fun i => nI ((zcmK (zod kd) C V mm).getD i 0))))) := by rw [eY104]; exact va_up_self _ _ _
        have k109_4 := (congrFun eY104 (a + 1)).trans ((va_up_ne _ _ (by omega)).trans ev)
        have sf110 := (zsm.fill eY104)
        have zf110 := zsh.fill eY104 ec
        refine zp_iconst (v := nI (0)) dX11_mixCounter_86 (by decide) ?_
        refine zp_istore_n (ls' := [some (.ref (64)), some (.ref (a)), some (.int (nI (0))), none]) dX11_mixCounter_87 (by decide) rfl ?_
        refine zp_pc (pc' := 88) rfl ?_
        have lp111 : zP g mX11_mixCounter (zR 4 0 0) Qf 0 0 117 [some (.ref (64)), some (.ref (a)), some (.int (nI (16))), none] [] (va_up hY104 (a + 1) (some (.inr (111, .inl (zfl fv (0) (16) (fun i => nI ((zcmV (zod kd) C V mm).getD i 0))))))) n → ∀ (m k111 : Nat), m = (16) - k111 → k111 ≤ (16) → zP g mX11_mixCounter (zR 4 0 0) Qf 0 0 88 [some (.ref (64)), some (.ref (a)), some (.int (nI (k111))), none] [] (va_up hY104 (a + 1) (some (.inr (111, .inl (zfl fv (0) (k111) (fun i => nI ((zcmV (zod kd) C V mm).getD i 0))))))) n := by
          intro kk m
          induction m using Nat.strongRecOn with
          | _ m ih =>
            intro k111 hm111 hk111
            refine zp_nh (fun hX111 eX111 => ?_)
            have k112_0 := (congrFun eX111 (64)).trans ((va_up_ne _ _ (by omega)).trans k109_0)
            have k112_1 := (congrFun eX111 (a)).trans ((va_up_ne _ _ (by omega)).trans k109_1)
            have k112_2 := (congrFun eX111 (89)).trans ((va_up_ne _ _ (by omega)).trans k109_2)
            have k112_3 := (congrFun eX111 (a + 2)).trans ((va_up_ne _ _ (by omega)).trans k109_3)
            have k112_4 : hX111 (a + 1) = some (.inr (111, .inl (zfl fv (0) (k111) (fun i => nI ((zcmV (zod kd) C V mm).getD i 0))))) := by rw [eX111]; exact va_up_self _ _ _
            refine zp_iload_n dX11_mixCounter_88 rfl ?_
            refine zp_bipush (v := nI (16)) dX11_mixCounter_89 (by decide) ?_
            refine zp_pc (pc' := 91) rfl ?_
            refine zn_icmp_ge (tgt := 117) dX11_mixCounter_91 (by decide) (by omega) (by omega) (fun c91 => ?_) (fun c91 => ?_)
            · have e111 : k111 = (16) := by omega
              subst e111
              rw [eX111]
              exact kk
            · refine zp_aload_n dX11_mixCounter_94 rfl ?_
              refine zp_get dX11_mixCounter_95 gX11_226_9 k112_1 rfl ?_
              refine zp_iload_n dX11_mixCounter_98 rfl ?_
              refine zp_aload_n dX11_mixCounter_99 rfl ?_
              refine zp_get dX11_mixCounter_100 gX11_102_10 k112_0 rfl ?_
              refine zp_aload_n dX11_mixCounter_103 rfl ?_
              refine zp_callV (As := []) (k := a) (st := [.ref (89), .int (nI (k111)), .ref (a + 1)]) (ci := 9) dX11_mixCounter_104 cX11_265 rfl k112_1 rfl rfl (e_zkeys k112_1 hkd) (by decide) (by decide) (Nat.le_of_ble_eq_true rfl) (fun v113 h113 n113 q113 => ?_)
              obtain ⟨rfl, H113, N113⟩ := q113
              rw [N113, H113]
              refine zp_nrm (cells' := 0) (slots' := 0) (st' := [.int (nI (zkl (zod kd))), .ref (89), .int (nI (k111)), .ref (a + 1)]) rfl rfl rfl ?_
              refine zp_iload_n dX11_mixCounter_107 rfl ?_
              refine zn_iadd dX11_mixCounter_108 ?_
              refine zp_pc (pc' := 109) rfl ?_
              refine zn_iald (j := (zkl (zod kd)) + (k111)) dX11_mixCounter_109 k112_2 (by omega) (by omega) ?_
              refine zp_i (y := nI ((zcmV (zod kd) C V mm).getD k111 0)) (by unfold zcmV; rw [zpart_get (by omega)]; exact eg _ (by omega)) ?_
              refine zn_iast dX11_mixCounter_110 (by omega) k112_4 (by omega) (by omega) ?_
              refine zp_nh (fun h114x eh114x => ?_)
              have k114_0 := (congrFun eh114x (64)).trans ((va_up_ne _ _ (by omega)).trans k112_0)
              have k114_1 := (congrFun eh114x (a)).trans ((va_up_ne _ _ (by omega)).trans k112_1)
              have k114_2 := (congrFun eh114x (89)).trans ((va_up_ne _ _ (by omega)).trans k112_2)
              have k114_3 := (congrFun eh114x (a + 2)).trans ((va_up_ne _ _ (by omega)).trans k112_3)
              have k114_4 : h114x (a + 1) = some (.inr (111, .inl (va_up (zfl fv (0) (k111) (fun i => nI ((zcmV (zod kd) C V mm).getD i 0))) (k111) (nI ((zcmV (zod kd) C V mm).getD k111 0))))) := by rw [eh114x]; exact va_up_self _ _ _
              have sw115 : zsm hX111 h114x (zon (a + 1)) := zsm.rf.up eh114x rfl
              have zw115 : zsh hX111 h114x := zsh.fill eh114x k112_4
              refine zp_pc (pc' := 111) rfl ?_
              refine zn_iinc 1 (ls' := [some (.ref (64)), some (.ref (a)), some (.int (nI (k111 + 1))), none]) dX11_mixCounter_111 (by decide) (by decide) rfl rfl ?_
              refine zp_goto (tgt := 88) dX11_mixCounter_114 (by decide) ?_
              refine zp_pc (pc' := 88) rfl ?_
              rw [zfl_step eX111 eh114x (by omega) rfl]
              exact ih ((16) - (k111 + 1)) (by omega) (k111 + 1) rfl (by omega)
        suffices K111 : zP g mX11_mixCounter (zR 4 0 0) Qf 0 0 117 [some (.ref (64)), some (.ref (a)), some (.int (nI (16))), none] [] (va_up hY104 (a + 1) (some (.inr (111, .inl (zfl fv (0) (16) (fun i => nI ((zcmV (zod kd) C V mm).getD i 0))))))) n by
          have q := lp111 K111 ((16) - 0) 0 rfl (Nat.zero_le _)
          rw [zfl_0, zup_same k109_4] at q
          exact q
        refine zp_nh (fun hY111 eY111 => ?_)
        have k116_0 := (congrFun eY111 (64)).trans ((va_up_ne _ _ (by omega)).trans k109_0)
        have k116_1 := (congrFun eY111 (a)).trans ((va_up_ne _ _ (by omega)).trans k109_1)
        have k116_2 := (congrFun eY111 (89)).trans ((va_up_ne _ _ (by omega)).trans k109_2)
        have k116_3 := (congrFun eY111 (a + 2)).trans ((va_up_ne _ _ (by omega)).trans k109_3)
        have k116_4 : hY111 (a + 1) = some (.inr (111, .inl (zfl fv (0) (16) (fun i => nI ((zcmV (zod kd) C V mm).getD i 0))))) := by rw [eY111]; exact va_up_self _ _ _
        have sf117 := (zsm.fill eY111)
        have zf117 := zsh.fill eY111 k109_4
        refine zp_pc (pc' := 117) rfl ?_
        refine zp_ret (v := none) dX11_mixCounter_117 ⟨rfl, rfl⟩ (by decide) (by decide) ?_
        rw [hQ]
        exact ⟨rfl, rfl, (s1.mono (fun i hi => by unfold zsb9; unfold zsb7 at hi; omega)).trans (((sf110).mono (fun i hi => by unfold zsb9; unfold zon at hi; omega)).trans ((sf117).mono (fun i hi => by unfold zsb9; unfold zon at hi; omega))), z1.trans ((zf110).trans zf117), zar.mk (L := 16) k116_4 (zcmV_len ..) (by decide) (by decide) (zpart_lt xb _ _) (fun j hj => zfl_in0 hj), zar.mk (L := zkl (zod kd)) k116_3 (zcmK_len ..) (by omega) (by decide) (zpart_lt xb _ _) (fun j hj => zfl_in0 hj)⟩
      · refine zp_aload_n dX11_mixCounter_10 rfl ?_
        refine zp_aload_n dX11_mixCounter_11 rfl ?_
        refine zp_pc (pc' := 12) rfl ?_
        refine zp_callV (As := [.ref (a)]) (k := 64) (st := []) (ci := 10) dX11_mixCounter_12 cX11_268 rfl o1 rfl rfl (e_zblock W1 o1 g1 ha hkd hk4 V1 C1 lp1 lC) (by decide) (by decide) (Nat.le_of_ble_eq_true rfl) (fun v118 h118 n118 q118 => ?_)
        obtain ⟨rfl, N118, s118, z118, v118, d118⟩ := q118
        rw [N118]
        refine zp_nrm (cells' := 0) (slots' := 0) (st' := []) rfl rfl rfl ?_
        have m119 : h118 (64) = some (.inl (10, [.int (th), .ref (65), .ref (66), .ref (67), .ref (68), .ref (69), .ref (70), .ref (71), .ref (72), .ref (73), .ref (74), .ref (75), .ref (76), .ref (77), .ref (78), .ref (79), .ref (80), .ref (81), .ref (82), .ref (83), .ref (84), .int (nI (wt)), .int (nI (zbi un)), .int (rp), .int (wi), .int (pa), .int (be), .int (ru), .int (sa), .int (me), .int (se), .int (ta), .int (fa), .ref (85), .ref (86), .ref (87), .int (nI (mn)), .ref (88), .ref (89), .ref (90), .ref (91), .ref (92), .ref (93), .int (nI (tp)), .ref (94), .int (nI (ou))])) := (s118 _ (by unfold zsb8; omega)).trans o1
        have m120 : h118 (a) = some (.inl (9, [.int (nI (zbi tr)), .int (nI (kd)), .int (nI (st)), .int (nI (iv)), .int (nI (zbi rs)), .int (nI (ct)), .int (dr), .int (nI (sd)), .ref (a + 1), .ref (a + 2)])) := (s118 _ (by unfold zsb8; omega)).trans g1
        have m121 : h118 (89) = some (.inr (111, .inl g9)) := (s118 _ (by unfold zsb8; omega)).trans e9
        rw [zplus_plus] at v118 d118
        obtain ⟨la122, lb122, lc122, lf122, ld122, le122⟩ := id d118
        obtain ⟨la123, lb123, lc123, lf123, ld123, le123⟩ := id (M1.keep (s118 92 (by unfold zsb8; omega)))
        refine zp_iconst (v := nI (0)) dX11_mixCounter_15 (by decide) ?_
        refine zp_istore_n (ls' := [some (.ref (64)), some (.ref (a)), some (.int (nI (16 * c))), some (.int (nI (0)))]) dX11_mixCounter_16 (by decide) rfl ?_
        refine zp_pc (pc' := 17) rfl ?_
        have lp124 : zP g mX11_mixCounter (zR 4 0 0) Qf 0 0 52 [some (.ref (64)), some (.ref (a)), some (.int (nI (16 * c))), some (.int (nI (16)))] [] (va_up h118 (89) (some (.inr (111, .inl (zfl g9 (16 * c) (16) (fun i => nI ((zcmx (zod kd) C V mm).getD (16 * c + i) 0))))))) n → ∀ (m k124 : Nat), m = (16) - k124 → k124 ≤ (16) → zP g mX11_mixCounter (zR 4 0 0) Qf 0 0 17 [some (.ref (64)), some (.ref (a)), some (.int (nI (16 * c))), some (.int (nI (k124)))] [] (va_up h118 (89) (some (.inr (111, .inl (zfl g9 (16 * c) (k124) (fun i => nI ((zcmx (zod kd) C V mm).getD (16 * c + i) 0))))))) n := by
          intro kk m
          induction m using Nat.strongRecOn with
          | _ m ih =>
            intro k124 hm124 hk124
            refine zp_nh (fun hX124 eX124 => ?_)
            have k125_0 := (congrFun eX124 (64)).trans ((va_up_ne _ _ (by omega)).trans m119)
            have k125_1 := (congrFun eX124 (a)).trans ((va_up_ne _ _ (by omega)).trans m120)
            have k125_2 : hX124 (89) = some (.inr (111, .inl (zfl g9 (16 * c) (k124) (fun i => nI ((zcmx (zod kd) C V mm).getD (16 * c + i) 0))))) := by rw [eX124]; exact va_up_self _ _ _
            have k125_3 := (congrFun eX124 (91)).trans ((va_up_ne _ _ (by omega)).trans ld122)
            have k125_4 := (congrFun eX124 (92)).trans ((va_up_ne _ _ (by omega)).trans ld123)
            refine zp_iload_n dX11_mixCounter_17 rfl ?_
            refine zp_bipush (v := nI (16)) dX11_mixCounter_18 (by decide) ?_
            refine zp_pc (pc' := 20) rfl ?_
            refine zn_icmp_ge (tgt := 52) dX11_mixCounter_20 (by decide) (by omega) (by omega) (fun c20 => ?_) (fun c20 => ?_)
            · have e124 : k124 = (16) := by omega
              subst e124
              rw [eX124]
              exact kk
            · refine zp_aload_n dX11_mixCounter_23 rfl ?_
              refine zp_get dX11_mixCounter_24 gX11_102_10 k125_0 rfl ?_
              refine zp_iload_n dX11_mixCounter_27 rfl ?_
              refine zp_iload_n dX11_mixCounter_28 rfl ?_
              refine zn_iadd dX11_mixCounter_29 ?_
              refine zp_aload_n dX11_mixCounter_30 rfl ?_
              refine zp_get dX11_mixCounter_31 gX11_108_10 k125_0 rfl ?_
              refine zp_iload_n dX11_mixCounter_34 rfl ?_
              refine zp_pc (pc' := 35) rfl ?_
              refine zn_iald (j := k124) dX11_mixCounter_35 k125_3 (by omega) (by omega) ?_
              refine zp_i (y := nI ((zenc (zod kd) C (zplus V (c + 1))).getD k124 0)) (le122 _ (by rw [zenc_len]; omega)) ?_
              refine zp_aload_n dX11_mixCounter_36 rfl ?_
              refine zp_get dX11_mixCounter_37 gX11_111_10 k125_0 rfl ?_
              refine zp_iload_n dX11_mixCounter_40 rfl ?_
              refine zp_iload_n dX11_mixCounter_41 rfl ?_
              refine zn_iadd dX11_mixCounter_42 ?_
              refine zp_pc (pc' := 43) rfl ?_
              refine zn_iald (j := (16 * c) + (k124)) dX11_mixCounter_43 k125_4 (by omega) (by omega) ?_
              refine zp_i (y := nI (mm.getD (16 * c + k124) 0)) (by rw [le123 _ (by omega), hm _ (by omega)]) ?_
              refine zp_ixor dX11_mixCounter_44 ?_
              refine zp_i (y := nI ((zcmx (zod kd) C V mm).getD (16 * c + k124) 0)) (by rw [nx_xor, zcmx_get _ _ _ _ (by omega), show (16 * c + k124) / 16 = c by omega, show (16 * c + k124) % 16 = k124 by omega]) ?_
              refine zn_iast dX11_mixCounter_45 (by omega) k125_2 (by omega) (by omega) ?_
              refine zp_nh (fun h126x eh126x => ?_)
              have k126_0 := (congrFun eh126x (64)).trans ((va_up_ne _ _ (by omega)).trans k125_0)
              have k126_1 := (congrFun eh126x (a)).trans ((va_up_ne _ _ (by omega)).trans k125_1)
              have k126_2 : h126x (89) = some (.inr (111, .inl (va_up (zfl g9 (16 * c) (k124) (fun i => nI ((zcmx (zod kd) C V mm).getD (16 * c + i) 0))) ((16 * c) + (k124)) (nI ((zcmx (zod kd) C V mm).getD (16 * c + k124) 0))))) := by rw [eh126x]; exact va_up_self _ _ _
              have k126_3 := (congrFun eh126x (91)).trans ((va_up_ne _ _ (by omega)).trans k125_3)
              have k126_4 := (congrFun eh126x (92)).trans ((va_up_ne _ _ (by omega)).trans k125_4)
              have sw127 : zsm hX124 h126x (zon (89)) := zsm.rf.up eh126x rfl
              have zw127 : zsh hX124 h126x := zsh.fill eh126x k125_2
              refine zp_pc (pc' := 46) rfl ?_
              refine zn_iinc 1 (ls' := [some (.ref (64)), some (.ref (a)), some (.int (nI (16 * c))), some (.int (nI (k124 + 1)))]) dX11_mixCounter_46 (by decide) (by decide) rfl rfl ?_
              refine zp_goto (tgt := 17) dX11_mixCounter_49 (by decide) ?_
              refine zp_pc (pc' := 17) rfl ?_
              rw [zfl_step eX124 eh126x (by omega) rfl]
              exact ih ((16) - (k124 + 1)) (by omega) (k124 + 1) rfl (by omega)
        suffices K124 : zP g mX11_mixCounter (zR 4 0 0) Qf 0 0 52 [some (.ref (64)), some (.ref (a)), some (.int (nI (16 * c))), some (.int (nI (16)))] [] (va_up h118 (89) (some (.inr (111, .inl (zfl g9 (16 * c) (16) (fun i => nI ((zcmx (zod kd) C V mm).getD (16 * c + i) 0))))))) n by
          have q := lp124 K124 ((16) - 0) 0 rfl (Nat.zero_le _)
          rw [zfl_0, zup_same m121] at q
          exact q
        refine zp_nh (fun hY124 eY124 => ?_)
        have k128_0 := (congrFun eY124 (64)).trans ((va_up_ne _ _ (by omega)).trans m119)
        have k128_1 := (congrFun eY124 (a)).trans ((va_up_ne _ _ (by omega)).trans m120)
        have k128_2 : hY124 (89) = some (.inr (111, .inl (zfl g9 (16 * c) (16) (fun i => nI ((zcmx (zod kd) C V mm).getD (16 * c + i) 0))))) := by rw [eY124]; exact va_up_self _ _ _
        have k128_3 := (congrFun eY124 (91)).trans ((va_up_ne _ _ (by omega)).trans ld122)
        have k128_4 := (congrFun eY124 (92)).trans ((va_up_ne _ _ (by omega)).trans ld123)
        have sf129 := (zsm.fill eY124)
        have zf129 := zsh.fill eY124 m121
        refine zn_iinc 16 (ls' := [some (.ref (64)), some (.ref (a)), some (.int (nI (16 * c + 16))), some (.int (nI (16)))]) dX11_mixCounter_52 (by decide) (by decide) rfl rfl ?_
        refine zp_pc (pc' := 55) rfl ?_
        refine zp_ls (ls' := [some (.ref (64)), some (.ref (a)), some (.int (nI (16 * (c + 1)))), some (.int (nI (16)))]) (by rw [Nat.mul_add]) ?_
        refine zp_goto (tgt := 2) dX11_mixCounter_55 (by decide) ?_
        refine zp_pc (pc' := 2) rfl ?_
        refine zp_drop (ls' := [some (.ref (64)), some (.ref (a)), some (.int (nI (16 * (c + 1)))), none]) (fun i v hv => ?_) ?_
        · rcases i with _ | _ | _ | _ | i <;> simp at hv ⊢ <;> exact hv
        refine ih (3 - (c + 1)) (by omega) (c + 1) hY124 _ rfl (by omega) (s1.trans (((s118).mono (fun i hi => by unfold zsb7; unfold zsb8 at hi; omega)).trans ((sf129).mono (fun i hi => by unfold zsb7; unfold zon at hi; omega)))) (z1.trans ((z118).trans zf129)) k128_2 (v118.keep (sf129 _ (by unfold zon; omega))) (fun j hj => ?_)
        rcases Nat.lt_or_ge j (16 * c) with q | q
        · rw [zfl_out (Or.inl q)]; exact eg j q
        · obtain ⟨d, rfl⟩ := Nat.exists_eq_add_of_le q
          rw [zfl_in (by omega)]
  exact lp _ 0 h _ rfl (Nat.zero_le _) zsm.rf zsh.rf ih102 (by rw [zplus_0 vb]; exact hV) (fun j hj => absurd hj (by omega))
set_option maxRecDepth 10000 in
set_option maxHeartbeats 2000000 in
theorem e_zseedC {g : ZG} {h : ZH} {n : Nat} {a kd st iv ct sd : Nat} {tr rs : Bool} {dr : Int32} {V C R A : List Nat} {th : Int32} {wt : Nat} {un : Bool} {rp wi pa be ru sa me se ta fa : Int32} {mn tp ou : Nat} (hw : zmw h) (ho : h 64 = some (.inl (10, [.int (th), .ref (65), .ref (66), .ref (67), .ref (68), .ref (69), .ref (70), .ref (71), .ref (72), .ref (73), .ref (74), .ref (75), .ref (76), .ref (77), .ref (78), .ref (79), .ref (80), .ref (81), .ref (82), .ref (83), .ref (84), .int (nI (wt)), .int (nI (zbi un)), .int (rp), .int (wi), .int (pa), .int (be), .int (ru), .int (sa), .int (me), .int (se), .int (ta), .int (fa), .ref (85), .ref (86), .ref (87), .int (nI (mn)), .ref (88), .ref (89), .ref (90), .ref (91), .ref (92), .ref (93), .int (nI (tp)), .ref (94), .int (nI (ou))]))) (hg : h a = some (.inl (9, [.int (nI (zbi tr)), .int (nI (kd)), .int (nI (st)), .int (nI (iv)), .int (nI (zbi rs)), .int (nI (ct)), .int (dr), .int (nI (sd)), .ref (a + 1), .ref (a + 2)]))) (ha : a = 95 ∨ a = 98 ∨ a = 101 ∨ a = 104) (hkd : kd < 8) (hk4 : 4 ≤ kd) (hV : zar h (a + 1) 111 V) (hC : zar h (a + 2) 111 C) (lV : V.length = 16) (lC : C.length = zkl (zod kd)) (hR : zar h 85 100 R) (hA : zar h 93 240 A) (lR : 6 ≤ kd → R.length = zsd kd) : zMt g mX11_seedCounter (zR 5 0 0) [.ref (64), .ref (a), .int (nI (R.length)), .int (nI (A.length))] h n (fun v h' n' => v = none ∧ n' = n ∧ zsm h h' (zsg a) ∧ zsh h h' ∧ (∃ mn', h' 64 = some (.inl (10, [.int (th), .ref (65), .ref (66), .ref (67), .ref (68), .ref (69), .ref (70), .ref (71), .ref (72), .ref (73), .ref (74), .ref (75), .ref (76), .ref (77), .ref (78), .ref (79), .ref (80), .ref (81), .ref (82), .ref (83), .ref (84), .int (nI (wt)), .int (nI (zbi un)), .int (rp), .int (wi), .int (pa), .int (be), .int (ru), .int (sa), .int (me), .int (se), .int (ta), .int (fa), .ref (85), .ref (86), .ref (87), .int (nI (mn')), .ref (88), .ref (89), .ref (90), .ref (91), .ref (92), .ref (93), .int (nI (tp)), .ref (94), .int (nI (ou))]))) ∧ zar h' (a + 1) 111 (zcmV (zod kd) C V (if kd < 6 then zdce (zod kd) (R ++ A) (zsd kd) else zxor (zpart R 0 (zsd kd)) A 0)) ∧ zar h' (a + 2) 111 (zcmK (zod kd) C V (if kd < 6 then zdce (zod kd) (R ++ A) (zsd kd) else zxor (zpart R 0 (zsd kd)) A 0))) := by
  refine zMt.of [some (.ref (64)), some (.ref (a)), some (.int (nI (R.length))), some (.int (nI (A.length))), none] (by decide) rfl (Nat.le_of_ble_eq_true rfl) ?_
  obtain ⟨Qf, hQ⟩ : ∃ Qf : ZQ, Qf = (fun v h' n' => v = none ∧ n' = n ∧ zsm h h' (zsg a) ∧ zsh h h' ∧ (∃ mn', h' 64 = some (.inl (10, [.int (th), .ref (65), .ref (66), .ref (67), .ref (68), .ref (69), .ref (70), .ref (71), .ref (72), .ref (73), .ref (74), .ref (75), .ref (76), .ref (77), .ref (78), .ref (79), .ref (80), .ref (81), .ref (82), .ref (83), .ref (84), .int (nI (wt)), .int (nI (zbi un)), .int (rp), .int (wi), .int (pa), .int (be), .int (ru), .int (sa), .int (me), .int (se), .int (ta), .int (fa), .ref (85), .ref (86), .ref (87), .int (nI (mn')), .ref (88), .ref (89), .ref (90), .ref (91), .ref (92), .ref (93), .int (nI (tp)), .ref (94), .int (nI (ou))]))) ∧ zar h' (a + 1) 111 (zcmV (zod kd) C V (if kd < 6 then zdce (zod kd) (R ++ A) (zsd kd) else zxor (zpart R 0 (zsd kd)) A 0)) ∧ zar h' (a + 2) 111 (zcmK (zod kd) C V (if kd < 6 then zdce (zod kd) (R ++ A) (zsd kd) else zxor (zpart R 0 (zsd kd)) A 0))) := ⟨_, rfl⟩
  rw [← hQ]
  have hs := zsd_le hkd
  have hsd := zcN4 hkd hk4
  have hz := zkl_or (zod kd)
  have lR1 := hR.1
  have lA := hA.1
  obtain ⟨la101, lb101, lc101, lf101, ld101, le101⟩ := id hR
  obtain ⟨la102, lb102, lc102, lf102, ld102, le102⟩ := id hA
  obtain ⟨if103, ih103⟩ := id (hw.m92)
  refine zp_aload_n dX11_seedCounter_0 rfl ?_
  refine zp_get dX11_seedCounter_1 gX11_271_9 hg rfl ?_
  refine zp_iconst (v := nI (5)) dX11_seedCounter_4 (by decide) ?_
  refine zp_pc (pc' := 5) rfl ?_
  have kt104 : ∀ (h1 : ZH) (M : List Nat), zsm h h1 (zsg a) → zsh h h1 → (∃ mn1, h1 64 = some (.inl (10, [.int (th), .ref (65), .ref (66), .ref (67), .ref (68), .ref (69), .ref (70), .ref (71), .ref (72), .ref (73), .ref (74), .ref (75), .ref (76), .ref (77), .ref (78), .ref (79), .ref (80), .ref (81), .ref (82), .ref (83), .ref (84), .int (nI (wt)), .int (nI (zbi un)), .int (rp), .int (wi), .int (pa), .int (be), .int (ru), .int (sa), .int (me), .int (se), .int (ta), .int (fa), .ref (85), .ref (86), .ref (87), .int (nI (mn1)), .ref (88), .ref (89), .ref (90), .ref (91), .ref (92), .ref (93), .int (nI (tp)), .ref (94), .int (nI (ou))]))) → zar h1 (a + 1) 111 V → zar h1 (a + 2) 111 C → zar h1 92 48 M → M.length = zsd kd → (∀ j, j < zsd kd → M.getD j 0 = (if kd < 6 then zdce (zod kd) (R ++ A) (zsd kd) else zxor (zpart R 0 (zsd kd)) A 0).getD j 0) → zP g mX11_seedCounter (zR 5 0 0) Qf 0 0 107 [some (.ref (64)), some (.ref (a)), some (.int (nI (R.length))), some (.int (nI (A.length))), none] [] h1 n := by
    intro h1 M s1 z1 o1 V1 C1 M1 lM hm
    have W1 := hw.sh s1 z1 (fun i q => by unfold zsg at q; unfold zwf; omega)
    obtain ⟨mn1, o1⟩ := o1
    have g1 : h1 a = some (.inl (9, [.int (nI (zbi tr)), .int (nI (kd)), .int (nI (st)), .int (nI (iv)), .int (nI (zbi rs)), .int (nI (ct)), .int (dr), .int (nI (sd)), .ref (a + 1), .ref (a + 2)])) := (s1 _ (by unfold zsg; omega)).trans hg
    refine zp_aload_n dX11_seedCounter_107 rfl ?_
    refine zp_aload_n dX11_seedCounter_108 rfl ?_
    refine zp_pc (pc' := 109) rfl ?_
    refine zp_callV (As := [.ref (a)]) (k := 64) (st := []) (ci := 10) dX11_seedCounter_109 cX11_278 rfl o1 rfl rfl (e_zmixC (mm := (if kd < 6 then zdce (zod kd) (R ++ A) (zsd kd) else zxor (zpart R 0 (zsd kd)) A 0)) W1 o1 g1 ha hkd hk4 V1 C1 lV lC M1 lM hm) (by decide) (by decide) (Nat.le_of_ble_eq_true rfl) (fun v105 h105 n105 q105 => ?_)
    obtain ⟨rfl, N105, s105, z105, v105, c105⟩ := q105
    rw [N105]
    refine zp_nrm (cells' := 0) (slots' := 0) (st' := []) rfl rfl rfl ?_
    have m106 : h105 (64) = some (.inl (10, [.int (th), .ref (65), .ref (66), .ref (67), .ref (68), .ref (69), .ref (70), .ref (71), .ref (72), .ref (73), .ref (74), .ref (75), .ref (76), .ref (77), .ref (78), .ref (79), .ref (80), .ref (81), .ref (82), .ref (83), .ref (84), .int (nI (wt)), .int (nI (zbi un)), .int (rp), .int (wi), .int (pa), .int (be), .int (ru), .int (sa), .int (me), .int (se), .int (ta), .int (fa), .ref (85), .ref (86), .ref (87), .int (nI (mn1)), .ref (88), .ref (89), .ref (90), .ref (91), .ref (92), .ref (93), .int (nI (tp)), .ref (94), .int (nI (ou))])) := (s105 _ (by unfold zsb9; omega)).trans o1
    have m107 : h105 (a) = some (.inl (9, [.int (nI (zbi tr)), .int (nI (kd)), .int (nI (st)), .int (nI (iv)), .int (nI (zbi rs)), .int (nI (ct)), .int (dr), .int (nI (sd)), .ref (a + 1), .ref (a + 2)])) := (s105 _ (by unfold zsb9; omega)).trans g1
    refine zp_pc (pc' := 112) rfl ?_
    refine zp_ret (v := none) dX11_seedCounter_112 ⟨rfl, rfl⟩ (by decide) (by decide) ?_
    rw [hQ]
    exact ⟨rfl, rfl, s1.trans ((s105).mono (fun i hi => by unfold zsg; unfold zsb9 at hi; omega)), z1.trans (z105), ⟨_, m106⟩, v105, c105⟩
  refine zn_icmp_le (tgt := 61) dX11_seedCounter_5 (by decide) (by omega) (by omega) (fun c5 => ?_) (fun c5 => ?_)
  · refine zp_aload_n dX11_seedCounter_61 rfl ?_
    refine zp_pc (pc' := 62) rfl ?_
    refine zp_callV (As := []) (k := 64) (st := []) (ci := 10) dX11_seedCounter_62 cX11_223 rfl ho rfl rfl (e_mbegin ho) (by decide) (by decide) (Nat.le_of_ble_eq_true rfl) (fun v108 h108 n108 q108 => ?_)
    obtain ⟨rfl, N108, s108, z108, o108⟩ := q108
    rw [N108]
    refine zp_nrm (cells' := 0) (slots' := 0) (st' := []) rfl rfl rfl ?_
    have m109 : h108 (a) = some (.inl (9, [.int (nI (zbi tr)), .int (nI (kd)), .int (nI (st)), .int (nI (iv)), .int (nI (zbi rs)), .int (nI (ct)), .int (dr), .int (nI (sd)), .ref (a + 1), .ref (a + 2)])) := (s108 _ (by unfold zon; omega)).trans hg
    have m110 : h108 (85) = some (.inr (100, .inl lf101)) := (s108 _ (by unfold zon; omega)).trans ld101
    have m111 : h108 (93) = some (.inr (240, .inl lf102)) := (s108 _ (by unfold zon; omega)).trans ld102
    have m112 : h108 (92) = some (.inr (48, .inl if103)) := (s108 _ (by unfold zon; omega)).trans ih103
    have W113 := zmw.sh hw ((s108).mono (fun i hi => by unfold zwf; unfold zon at hi; omega)) (z108) (fun i hi => hi)
    have xx108 : zar h108 87 1000 [] := zar.nil W113.m87 (by decide)
    refine zp_aload_n dX11_seedCounter_65 rfl ?_
    refine zp_aload_n dX11_seedCounter_66 rfl ?_
    refine zp_get dX11_seedCounter_67 gX11_87_10 o108 rfl ?_
    refine zp_iload_n dX11_seedCounter_70 rfl ?_
    refine zp_pc (pc' := 71) rfl ?_
    refine zp_callV (As := [.ref (85), .int (nI (R.length))]) (k := 64) (st := []) (ci := 10) dX11_seedCounter_71 cX11_233 rfl o108 rfl rfl (e_mputs (xs := []) (ys := R) (q := 85) o108 xx108 ((hR).keep (s108 _ (by unfold zon; omega))) (by omega) (by (try simp only [List.length_append, List.length_cons, List.length_nil, List.length_singleton]); omega)) (by decide) (by decide) (Nat.le_of_ble_eq_true rfl) (fun v114 h114 n114 q114 => ?_)
    obtain ⟨rfl, N114, s114, z114, o114, x114⟩ := q114
    rw [N114]
    refine zp_nrm (cells' := 0) (slots' := 0) (st' := []) rfl rfl rfl ?_
    have m115 : h114 (a) = some (.inl (9, [.int (nI (zbi tr)), .int (nI (kd)), .int (nI (st)), .int (nI (iv)), .int (nI (zbi rs)), .int (nI (ct)), .int (dr), .int (nI (sd)), .ref (a + 1), .ref (a + 2)])) := (s114 _ (by unfold zsp; omega)).trans m109
    have m116 : h114 (85) = some (.inr (100, .inl lf101)) := (s114 _ (by unfold zsp; omega)).trans m110
    have m117 : h114 (93) = some (.inr (240, .inl lf102)) := (s114 _ (by unfold zsp; omega)).trans m111
    have m118 : h114 (92) = some (.inr (48, .inl if103)) := (s114 _ (by unfold zsp; omega)).trans m112
    refine zp_aload_n dX11_seedCounter_74 rfl ?_
    refine zp_aload_n dX11_seedCounter_75 rfl ?_
    refine zp_get dX11_seedCounter_76 gX11_114_10 o114 rfl ?_
    refine zp_iload_n dX11_seedCounter_79 rfl ?_
    refine zp_pc (pc' := 80) rfl ?_
    refine zp_callV (As := [.ref (93), .int (nI (A.length))]) (k := 64) (st := []) (ci := 10) dX11_seedCounter_80 cX11_233 rfl o114 rfl rfl (e_mputs (xs := ([] ++ R)) (ys := A) (q := 93) o114 x114 (((hA).keep (s108 _ (by unfold zon; omega))).keep (s114 _ (by unfold zsp; omega))) (by omega) (by (try simp only [List.length_append, List.length_cons, List.length_nil, List.length_singleton]); omega)) (by decide) (by decide) (Nat.le_of_ble_eq_true rfl) (fun v119 h119 n119 q119 => ?_)
    obtain ⟨rfl, N119, s119, z119, o119, x119⟩ := q119
    rw [N119]
    refine zp_nrm (cells' := 0) (slots' := 0) (st' := []) rfl rfl rfl ?_
    have m120 : h119 (a) = some (.inl (9, [.int (nI (zbi tr)), .int (nI (kd)), .int (nI (st)), .int (nI (iv)), .int (nI (zbi rs)), .int (nI (ct)), .int (dr), .int (nI (sd)), .ref (a + 1), .ref (a + 2)])) := (s119 _ (by unfold zsp; omega)).trans m115
    have m121 : h119 (85) = some (.inr (100, .inl lf101)) := (s119 _ (by unfold zsp; omega)).trans m116
    have m122 : h119 (93) = some (.inr (240, .inl lf102)) := (s119 _ (by unfold zsp; omega)).trans m117
    have m123 : h119 (92) = some (.inr (48, .inl if103)) := (s119 _ (by unfold zsp; omega)).trans m118
    refine zp_aload_n dX11_seedCounter_83 rfl ?_
    refine zp_aload_n dX11_seedCounter_84 rfl ?_
    refine zp_callV (As := []) (k := a) (st := [.ref (64)]) (ci := 9) dX11_seedCounter_85 cX11_265 rfl m120 rfl rfl (e_zkeys m120 hkd) (by decide) (by decide) (Nat.le_of_ble_eq_true rfl) (fun v124 h124 n124 q124 => ?_)
    obtain ⟨rfl, H124, N124⟩ := q124
    rw [N124, H124]
    refine zp_nrm (cells' := 0) (slots' := 0) (st' := [.int (nI (zkl (zod kd))), .ref (64)]) rfl rfl rfl ?_
    refine zp_aload_n dX11_seedCounter_88 rfl ?_
    refine zp_get dX11_seedCounter_89 gX11_96_10 o119 rfl ?_
    refine zp_aload_n dX11_seedCounter_92 rfl ?_
    refine zp_get dX11_seedCounter_93 gX11_212_10 o119 rfl ?_
    refine zp_aload_n dX11_seedCounter_96 rfl ?_
    refine zp_get dX11_seedCounter_97 gX11_111_10 o119 rfl ?_
    refine zp_aload_n dX11_seedCounter_100 rfl ?_
    refine zp_callV (As := []) (k := a) (st := [.ref (92), .int (nI ((([] ++ R) ++ A).length)), .ref (87), .int (nI (zkl (zod kd))), .ref (64)]) (ci := 9) dX11_seedCounter_101 cX11_229 rfl m120 rfl rfl (e_zseed m120 hkd) (by decide) (by decide) (Nat.le_of_ble_eq_true rfl) (fun v125 h125 n125 q125 => ?_)
    obtain ⟨rfl, H125, N125⟩ := q125
    rw [N125, H125]
    refine zp_nrm (cells' := 0) (slots' := 0) (st' := [.int (nI (zsd kd)), .ref (92), .int (nI ((([] ++ R) ++ A).length)), .ref (87), .int (nI (zkl (zod kd))), .ref (64)]) rfl rfl rfl ?_
    refine zp_pc (pc' := 104) rfl ?_
    have W126 := zmw.sh W113 (((s114).mono (fun i hi => by unfold zwf; unfold zsp at hi; omega)).trans ((s119).mono (fun i hi => by unfold zwf; unfold zsp at hi; omega))) ((z114).trans z119) (fun i hi => hi)
    refine zp_callV (As := [.int (nI (zkl (zod kd))), .ref (87), .int (nI ((([] ++ R) ++ A).length)), .ref (92), .int (nI (zsd kd))]) (k := 64) (st := []) (ci := 10) dX11_seedCounter_104 cX11_274 rfl o119 rfl rfl (e_mdce (b := (zod kd)) (p := 87) (r := 92) (k := zsd kd) (Nr := 48) W126 o119 x119 W126.m92 (by omega) (by decide) (by decide) (by decide) (by decide) (by (try simp only [List.length_append, List.length_cons, List.length_nil, List.length_singleton]); omega) (by omega)) (by decide) (by decide) (Nat.le_of_ble_eq_true rfl) (fun v127 h127 n127 q127 => ?_)
    obtain ⟨rfl, N127, s127, z127, d127⟩ := q127
    rw [N127]
    refine zp_nrm (cells' := 0) (slots' := 0) (st' := []) rfl rfl rfl ?_
    have m128 : h127 (a) = some (.inl (9, [.int (nI (zbi tr)), .int (nI (kd)), .int (nI (st)), .int (nI (iv)), .int (nI (zbi rs)), .int (nI (ct)), .int (dr), .int (nI (sd)), .ref (a + 1), .ref (a + 2)])) := (s127 _ (by unfold zs9; omega)).trans m120
    have m129 : h127 (85) = some (.inr (100, .inl lf101)) := (s127 _ (by unfold zs9; omega)).trans m121
    have m130 : h127 (93) = some (.inr (240, .inl lf102)) := (s127 _ (by unfold zs9; omega)).trans m122
    have m131 : h127 (64) = some (.inl (10, [.int (th), .ref (65), .ref (66), .ref (67), .ref (68), .ref (69), .ref (70), .ref (71), .ref (72), .ref (73), .ref (74), .ref (75), .ref (76), .ref (77), .ref (78), .ref (79), .ref (80), .ref (81), .ref (82), .ref (83), .ref (84), .int (nI (wt)), .int (nI (zbi un)), .int (rp), .int (wi), .int (pa), .int (be), .int (ru), .int (sa), .int (me), .int (se), .int (ta), .int (fa), .ref (85), .ref (86), .ref (87), .int (nI ((([] ++ R) ++ A).length)), .ref (88), .ref (89), .ref (90), .ref (91), .ref (92), .ref (93), .int (nI (tp)), .ref (94), .int (nI (ou))])) := (s127 _ (by unfold zs9; omega)).trans o119
    refine zp_pc (pc' := 107) rfl ?_
    exact kt104 h127 _ (((((s108).mono (fun i hi => by unfold zsg; unfold zon at hi; omega)).trans ((s114).mono (fun i hi => by unfold zsg; unfold zsp at hi; omega))).trans ((s119).mono (fun i hi => by unfold zsg; unfold zsp at hi; omega))).trans ((s127).mono (fun i hi => by unfold zsg; unfold zs9 at hi; omega))) ((((z108).trans z114).trans z119).trans z127) ⟨_, m131⟩ ((((((hV).keep (s108 _ (by unfold zon; omega))).keep (s114 _ (by unfold zsp; omega))).keep (s119 _ (by unfold zsp; omega))).keep (s127 _ (by unfold zs9; omega)))) ((((((hC).keep (s108 _ (by unfold zon; omega))).keep (s114 _ (by unfold zsp; omega))).keep (s119 _ (by unfold zsp; omega))).keep (s127 _ (by unfold zs9; omega)))) d127 (zdce_len ..) (fun j hj => by rw [if_pos (show kd < 6 by omega)]; rfl)
  · have lR := lR (by omega)
    refine zp_iconst (v := nI (0)) dX11_seedCounter_8 (by decide) ?_
    refine zp_istore (ls' := [some (.ref (64)), some (.ref (a)), some (.int (nI (R.length))), some (.int (nI (A.length))), some (.int (nI (0)))]) dX11_seedCounter_9 (by decide) rfl ?_
    refine zp_pc (pc' := 11) rfl ?_
    have lP : (zpart R 0 (zsd kd)).length = zsd kd := by rw [zpart_len]; omega
    have lp132 : zP g mX11_seedCounter (zR 5 0 0) Qf 0 0 58 [some (.ref (64)), some (.ref (a)), some (.int (nI (R.length))), some (.int (nI (A.length))), some (.int (nI (zsd kd)))] [] (va_up h (92) (some (.inr (48, .inl (zfl if103 (0) (zsd kd) (fun i => nI ((zxor (zpart R 0 (zsd kd)) A 0).getD i 0))))))) n → ∀ (m k132 : Nat), m = (zsd kd) - k132 → k132 ≤ (zsd kd) → zP g mX11_seedCounter (zR 5 0 0) Qf 0 0 11 [some (.ref (64)), some (.ref (a)), some (.int (nI (R.length))), some (.int (nI (A.length))), some (.int (nI (k132)))] [] (va_up h (92) (some (.inr (48, .inl (zfl if103 (0) (k132) (fun i => nI ((zxor (zpart R 0 (zsd kd)) A 0).getD i 0))))))) n := by
      intro kk m
      induction m using Nat.strongRecOn with
      | _ m ih =>
        intro k132 hm132 hk132
        refine zp_nh (fun hX132 eX132 => ?_)
        have k133_0 := (congrFun eX132 (64)).trans ((va_up_ne _ _ (by omega)).trans ho)
        have k133_1 := (congrFun eX132 (a)).trans ((va_up_ne _ _ (by omega)).trans hg)
        have k133_2 := (congrFun eX132 (85)).trans ((va_up_ne _ _ (by omega)).trans ld101)
        have k133_3 := (congrFun eX132 (93)).trans ((va_up_ne _ _ (by omega)).trans ld102)
        have k133_4 : hX132 (92) = some (.inr (48, .inl (zfl if103 (0) (k132) (fun i => nI ((zxor (zpart R 0 (zsd kd)) A 0).getD i 0))))) := by rw [eX132]; exact va_up_self _ _ _
        refine zp_iload dX11_seedCounter_11 rfl ?_
        refine zp_aload_n dX11_seedCounter_13 rfl ?_
        refine zp_callV (As := []) (k := a) (st := [.int (nI (k132))]) (ci := 9) dX11_seedCounter_14 cX11_229 rfl k133_1 rfl rfl (e_zseed k133_1 hkd) (by decide) (by decide) (Nat.le_of_ble_eq_true rfl) (fun v134 h134 n134 q134 => ?_)
        obtain ⟨rfl, H134, N134⟩ := q134
        rw [N134, H134]
        refine zp_nrm (cells' := 0) (slots' := 0) (st' := [.int (nI (zsd kd)), .int (nI (k132))]) rfl rfl rfl ?_
        refine zp_pc (pc' := 17) rfl ?_
        refine zn_icmp_ge (tgt := 58) dX11_seedCounter_17 (by decide) (by omega) (by omega) (fun c17 => ?_) (fun c17 => ?_)
        · have e132 : k132 = (zsd kd) := by omega
          subst e132
          rw [eX132]
          exact kk
        · refine zp_aload_n dX11_seedCounter_20 rfl ?_
          refine zp_get dX11_seedCounter_21 gX11_111_10 k133_0 rfl ?_
          refine zp_iload dX11_seedCounter_24 rfl ?_
          refine zp_aload_n dX11_seedCounter_26 rfl ?_
          refine zp_get dX11_seedCounter_27 gX11_87_10 k133_0 rfl ?_
          refine zp_iload dX11_seedCounter_30 rfl ?_
          refine zp_pc (pc' := 32) rfl ?_
          refine zn_iald (j := k132) dX11_seedCounter_32 k133_2 (by omega) (by omega) ?_
          refine zp_i (y := nI (R.getD k132 0)) (le101 _ (by omega)) ?_
          refine zp_iload dX11_seedCounter_33 rfl ?_
          refine zp_iload_n dX11_seedCounter_35 rfl ?_
          refine zp_pc (pc' := 36) rfl ?_
          have jn135 : zP g mX11_seedCounter (zR 5 0 0) Qf 0 0 50 [some (.ref (64)), some (.ref (a)), some (.int (nI (R.length))), some (.int (nI (A.length))), some (.int (nI (k132)))] [.int (nI (A.getD k132 0)), .int (nI (R.getD k132 0)), .int (nI (k132)), .ref (92)] hX132 n → zP g mX11_seedCounter (zR 5 0 0) Qf 0 0 36 [some (.ref (64)), some (.ref (a)), some (.int (nI (R.length))), some (.int (nI (A.length))), some (.int (nI (k132)))] [.int (nI (A.length)), .int (nI (k132)), .int (nI (R.getD k132 0)), .int (nI (k132)), .ref (92)] hX132 n := by
            intro jk135
            refine zn_icmp_ge (tgt := 49) dX11_seedCounter_36 (by decide) (by omega) (by omega) (fun c36 => ?_) (fun c36 => ?_)
            · refine zp_iconst (v := nI (0)) dX11_seedCounter_49 (by decide) ?_
              refine zp_pc (pc' := 50) rfl ?_
              refine zp_i (y := nI (A.getD k132 0)) (by rw [zget_ge c36]) ?_
              exact jk135
            · refine zp_aload_n dX11_seedCounter_39 rfl ?_
              refine zp_get dX11_seedCounter_40 gX11_114_10 k133_0 rfl ?_
              refine zp_iload dX11_seedCounter_43 rfl ?_
              refine zp_pc (pc' := 45) rfl ?_
              refine zn_iald (j := k132) dX11_seedCounter_45 k133_3 (by omega) (by omega) ?_
              refine zp_i (y := nI (A.getD k132 0)) (le102 _ (by omega)) ?_
              refine zp_goto (tgt := 50) dX11_seedCounter_46 (by decide) ?_
              refine zp_pc (pc' := 50) rfl ?_
              exact jk135
          refine jn135 ?_
          refine zp_ixor dX11_seedCounter_50 ?_
          refine zp_i (y := nI ((zxor (zpart R 0 (zsd kd)) A 0).getD k132 0)) (by rw [nx_xor, zxor_get _ _ _ (by omega), zpart_get (by omega), Nat.zero_add]) ?_
          refine zn_iast dX11_seedCounter_51 (by omega) k133_4 (by omega) (by omega) ?_
          refine zp_nh (fun h136x eh136x => ?_)
          have k136_0 := (congrFun eh136x (64)).trans ((va_up_ne _ _ (by omega)).trans k133_0)
          have k136_1 := (congrFun eh136x (a)).trans ((va_up_ne _ _ (by omega)).trans k133_1)
          have k136_2 := (congrFun eh136x (85)).trans ((va_up_ne _ _ (by omega)).trans k133_2)
          have k136_3 := (congrFun eh136x (93)).trans ((va_up_ne _ _ (by omega)).trans k133_3)
          have k136_4 : h136x (92) = some (.inr (48, .inl (va_up (zfl if103 (0) (k132) (fun i => nI ((zxor (zpart R 0 (zsd kd)) A 0).getD i 0))) (k132) (nI ((zxor (zpart R 0 (zsd kd)) A 0).getD k132 0))))) := by rw [eh136x]; exact va_up_self _ _ _
          have sw137 : zsm hX132 h136x (zon (92)) := zsm.rf.up eh136x rfl
          have zw137 : zsh hX132 h136x := zsh.fill eh136x k133_4
          refine zp_pc (pc' := 52) rfl ?_
          refine zn_iinc 1 (ls' := [some (.ref (64)), some (.ref (a)), some (.int (nI (R.length))), some (.int (nI (A.length))), some (.int (nI (k132 + 1)))]) dX11_seedCounter_52 (by decide) (by decide) rfl rfl ?_
          refine zp_goto (tgt := 11) dX11_seedCounter_55 (by decide) ?_
          refine zp_pc (pc' := 11) rfl ?_
          rw [zfl_step eX132 eh136x (by omega) rfl]
          exact ih ((zsd kd) - (k132 + 1)) (by omega) (k132 + 1) rfl (by omega)
    suffices K132 : zP g mX11_seedCounter (zR 5 0 0) Qf 0 0 58 [some (.ref (64)), some (.ref (a)), some (.int (nI (R.length))), some (.int (nI (A.length))), some (.int (nI (zsd kd)))] [] (va_up h (92) (some (.inr (48, .inl (zfl if103 (0) (zsd kd) (fun i => nI ((zxor (zpart R 0 (zsd kd)) A 0).getD i 0))))))) n by
      have q := lp132 K132 ((zsd kd) - 0) 0 rfl (Nat.zero_le _)
      rw [zfl_0, zup_same ih103] at q
      exact q
    refine zp_nh (fun hY132 eY132 => ?_)
    have k138_0 := (congrFun eY132 (64)).trans ((va_up_ne _ _ (by omega)).trans ho)
    have k138_1 := (congrFun eY132 (a)).trans ((va_up_ne _ _ (by omega)).trans hg)
    have k138_2 := (congrFun eY132 (85)).trans ((va_up_ne _ _ (by omega)).trans ld101)
    have k138_3 := (congrFun eY132 (93)).trans ((va_up_ne _ _ (by omega)).trans ld102)
    have k138_4 : hY132 (92) = some (.inr (48, .inl (zfl if103 (0) (zsd kd) (fun i => nI ((zxor (zpart R 0 (zsd kd)) A 0).getD i 0))))) := by rw [eY132]; exact va_up_self _ _ _
    have sf139 := (zsm.fill eY132)
    have zf139 := zsh.fill eY132 ih103
    refine zp_goto (tgt := 107) dX11_seedCounter_58 (by decide) ?_
    refine zp_pc (pc' := 107) rfl ?_
    refine zp_drop (ls' := [some (.ref (64)), some (.ref (a)), some (.int (nI (R.length))), some (.int (nI (A.length))), none]) (fun i v hv => ?_) ?_
    · rcases i with _ | _ | _ | _ | _ | i <;> simp at hv ⊢ <;> exact hv
    exact kt104 hY132 (zxor (zpart R 0 (zsd kd)) A 0) ((sf139).mono (fun i hi => by unfold zsg; unfold zon at hi; omega)) (zf139) ⟨_, k138_0⟩ (((hV).keep (sf139 _ (by unfold zon; omega)))) (((hC).keep (sf139 _ (by unfold zon; omega)))) (zar.mk (L := zsd kd) k138_4 (by rw [zxor_len, lP]) (by omega) (by decide) (zxor_lt (zpart_lt lc101 _ _) lc102 _) (fun j hj => zfl_in0 hj)) (by rw [zxor_len, lP]) (fun j hj => by rw [if_neg (show ¬ kd < 6 by omega)])
set_option maxRecDepth 10000 in
set_option maxHeartbeats 2000000 in
theorem e_zdrawC {g : ZG} {h : ZH} {n : Nat} {a kd st iv ct sd : Nat} {tr rs : Bool} {dr : Int32} {V C A : List Nat} {k : Nat} {th : Int32} {wt : Nat} {un : Bool} {rp wi pa be ru sa me se ta fa : Int32} {mn tp ou : Nat} (hw : zmw h) (ho : h 64 = some (.inl (10, [.int (th), .ref (65), .ref (66), .ref (67), .ref (68), .ref (69), .ref (70), .ref (71), .ref (72), .ref (73), .ref (74), .ref (75), .ref (76), .ref (77), .ref (78), .ref (79), .ref (80), .ref (81), .ref (82), .ref (83), .ref (84), .int (nI (wt)), .int (nI (zbi un)), .int (rp), .int (wi), .int (pa), .int (be), .int (ru), .int (sa), .int (me), .int (se), .int (ta), .int (fa), .ref (85), .ref (86), .ref (87), .int (nI (mn)), .ref (88), .ref (89), .ref (90), .ref (91), .ref (92), .ref (93), .int (nI (tp)), .ref (94), .int (nI (ou))]))) (hg : h a = some (.inl (9, [.int (nI (zbi tr)), .int (nI (kd)), .int (nI (st)), .int (nI (iv)), .int (nI (zbi rs)), .int (nI (ct)), .int (dr), .int (nI (sd)), .ref (a + 1), .ref (a + 2)]))) (ha : a = 95 ∨ a = 98 ∨ a = 101 ∨ a = 104) (hkd : kd < 8) (hk4 : 4 ≤ kd) (hV : zar h (a + 1) 111 V) (hC : zar h (a + 2) 111 C) (lV : V.length = 16) (lC : C.length = zkl (zod kd)) (hA : zar h 93 240 A) (hO : zia h 94 4096) (hk : k ≤ 4096) (lA6 : 6 ≤ kd → A.length ≤ zsd kd) : zMt g mX11_drawCounter (zR 5 0 0) [.ref (64), .ref (a), .int (nI (k)), .int (nI (A.length))] h n (fun v h' n' => v = none ∧ n' = n ∧ zsm h h' (zsgo a) ∧ zsh h h' ∧ (∃ mn', h' 64 = some (.inl (10, [.int (th), .ref (65), .ref (66), .ref (67), .ref (68), .ref (69), .ref (70), .ref (71), .ref (72), .ref (73), .ref (74), .ref (75), .ref (76), .ref (77), .ref (78), .ref (79), .ref (80), .ref (81), .ref (82), .ref (83), .ref (84), .int (nI (wt)), .int (nI (zbi un)), .int (rp), .int (wi), .int (pa), .int (be), .int (ru), .int (sa), .int (me), .int (se), .int (ta), .int (fa), .ref (85), .ref (86), .ref (87), .int (nI (mn')), .ref (88), .ref (89), .ref (90), .ref (91), .ref (92), .ref (93), .int (nI (tp)), .ref (94), .int (nI (ou))]))) ∧ zar h' 94 4096 (zpr kd ct k V C A).1 ∧ zar h' (a + 1) 111 (zpr kd ct k V C A).2.1 ∧ zar h' (a + 2) 111 (zpr kd ct k V C A).2.2) := by
  refine zMt.of [some (.ref (64)), some (.ref (a)), some (.int (nI (k))), some (.int (nI (A.length))), none, none] (by decide) rfl (Nat.le_of_ble_eq_true rfl) ?_
  obtain ⟨Qf, hQ⟩ : ∃ Qf : ZQ, Qf = (fun v h' n' => v = none ∧ n' = n ∧ zsm h h' (zsgo a) ∧ zsh h h' ∧ (∃ mn', h' 64 = some (.inl (10, [.int (th), .ref (65), .ref (66), .ref (67), .ref (68), .ref (69), .ref (70), .ref (71), .ref (72), .ref (73), .ref (74), .ref (75), .ref (76), .ref (77), .ref (78), .ref (79), .ref (80), .ref (81), .ref (82), .ref (83), .ref (84), .int (nI (wt)), .int (nI (zbi un)), .int (rp), .int (wi), .int (pa), .int (be), .int (ru), .int (sa), .int (me), .int (se), .int (ta), .int (fa), .ref (85), .ref (86), .ref (87), .int (nI (mn')), .ref (88), .ref (89), .ref (90), .ref (91), .ref (92), .ref (93), .int (nI (tp)), .ref (94), .int (nI (ou))]))) ∧ zar h' 94 4096 (zpr kd ct k V C A).1 ∧ zar h' (a + 1) 111 (zpr kd ct k V C A).2.1 ∧ zar h' (a + 2) 111 (zpr kd ct k V C A).2.2) := ⟨_, rfl⟩
  rw [← hQ]
  have hs := zsd_le hkd
  have hsd := zcN4 hkd hk4
  have hz := zkl_or (zod kd)
  have lA := hA.1
  obtain ⟨la101, lb101, lc101, lf101, ld101, le101⟩ := id hA
  obtain ⟨if102, ih102⟩ := id (hw.m92)
  obtain ⟨mm, em⟩ : ∃ mm : List Nat, mm = (if 0 < A.length ∧ kd < 6 then zdce (zod kd) A (zsd kd) else A) := ⟨_, rfl⟩
  obtain ⟨s, es⟩ : ∃ s : List Nat × List Nat, s = if 0 < A.length then (zcmK (zod kd) C V mm, zcmV (zod kd) C V mm) else (C, V) := ⟨_, rfl⟩
  have ls : s.1.length = zkl (zod kd) ∧ s.2.length = 16 := by rw [es]; split; exact ⟨zcmK_len .., zcmV_len ..⟩; exact ⟨lC, lV⟩
  have ep : zpr kd ct k V C A = zpr1 (zod kd) k mm s := by rw [es, em]; unfold zpr; rw [if_neg (by omega), if_neg (by omega)]
  rw [ep] at hQ
  refine zp_iconst (v := nI (0)) dX11_drawCounter_0 (by decide) ?_
  refine zp_istore (ls' := [some (.ref (64)), some (.ref (a)), some (.int (nI (k))), some (.int (nI (A.length))), some (.int (nI (0))), none]) dX11_drawCounter_1 (by decide) rfl ?_
  refine zp_pc (pc' := 3) rfl ?_
  have lp103 : zP g mX11_drawCounter (zR 5 0 0) Qf 0 0 42 [some (.ref (64)), some (.ref (a)), some (.int (nI (k))), some (.int (nI (A.length))), some (.int (nI (zsd kd))), none] [] (va_up h (92) (some (.inr (48, .inl (zfl if102 (0) (zsd kd) (fun i => nI (A.getD i 0))))))) n → ∀ (m k103 : Nat), m = (zsd kd) - k103 → k103 ≤ (zsd kd) → zP g mX11_drawCounter (zR 5 0 0) Qf 0 0 3 [some (.ref (64)), some (.ref (a)), some (.int (nI (k))), some (.int (nI (A.length))), some (.int (nI (k103))), none] [] (va_up h (92) (some (.inr (48, .inl (zfl if102 (0) (k103) (fun i => nI (A.getD i 0))))))) n := by
    intro kk m
    induction m using Nat.strongRecOn with
    | _ m ih =>
      intro k103 hm103 hk103
      refine zp_nh (fun hX103 eX103 => ?_)
      have k104_0 := (congrFun eX103 (64)).trans ((va_up_ne _ _ (by omega)).trans ho)
      have k104_1 := (congrFun eX103 (a)).trans ((va_up_ne _ _ (by omega)).trans hg)
      have k104_2 := (congrFun eX103 (93)).trans ((va_up_ne _ _ (by omega)).trans ld101)
      have k104_3 : hX103 (92) = some (.inr (48, .inl (zfl if102 (0) (k103) (fun i => nI (A.getD i 0))))) := by rw [eX103]; exact va_up_self _ _ _
      refine zp_iload dX11_drawCounter_3 rfl ?_
      refine zp_aload_n dX11_drawCounter_5 rfl ?_
      refine zp_callV (As := []) (k := a) (st := [.int (nI (k103))]) (ci := 9) dX11_drawCounter_6 cX11_229 rfl k104_1 rfl rfl (e_zseed k104_1 hkd) (by decide) (by decide) (Nat.le_of_ble_eq_true rfl) (fun v105 h105 n105 q105 => ?_)
      obtain ⟨rfl, H105, N105⟩ := q105
      rw [N105, H105]
      refine zp_nrm (cells' := 0) (slots' := 0) (st' := [.int (nI (zsd kd)), .int (nI (k103))]) rfl rfl rfl ?_
      refine zp_pc (pc' := 9) rfl ?_
      refine zn_icmp_ge (tgt := 42) dX11_drawCounter_9 (by decide) (by omega) (by omega) (fun c9 => ?_) (fun c9 => ?_)
      · have e103 : k103 = (zsd kd) := by omega
        subst e103
        rw [eX103]
        exact kk
      · refine zp_aload_n dX11_drawCounter_12 rfl ?_
        refine zp_get dX11_drawCounter_13 gX11_111_10 k104_0 rfl ?_
        refine zp_iload dX11_drawCounter_16 rfl ?_
        refine zp_iload dX11_drawCounter_18 rfl ?_
        refine zp_iload_n dX11_drawCounter_20 rfl ?_
        refine zp_pc (pc' := 21) rfl ?_
        have jn106 : zP g mX11_drawCounter (zR 5 0 0) Qf 0 0 35 [some (.ref (64)), some (.ref (a)), some (.int (nI (k))), some (.int (nI (A.length))), some (.int (nI (k103))), none] [.int (nI (A.getD k103 0)), .int (nI (k103)), .ref (92)] hX103 n → zP g mX11_drawCounter (zR 5 0 0) Qf 0 0 21 [some (.ref (64)), some (.ref (a)), some (.int (nI (k))), some (.int (nI (A.length))), some (.int (nI (k103))), none] [.int (nI (A.length)), .int (nI (k103)), .int (nI (k103)), .ref (92)] hX103 n := by
          intro jk106
          refine zn_icmp_ge (tgt := 34) dX11_drawCounter_21 (by decide) (by omega) (by omega) (fun c21 => ?_) (fun c21 => ?_)
          · refine zp_iconst (v := nI (0)) dX11_drawCounter_34 (by decide) ?_
            refine zp_pc (pc' := 35) rfl ?_
            refine zp_i (y := nI (A.getD k103 0)) (by rw [zget_ge c21]) ?_
            exact jk106
          · refine zp_aload_n dX11_drawCounter_24 rfl ?_
            refine zp_get dX11_drawCounter_25 gX11_114_10 k104_0 rfl ?_
            refine zp_iload dX11_drawCounter_28 rfl ?_
            refine zp_pc (pc' := 30) rfl ?_
            refine zn_iald (j := k103) dX11_drawCounter_30 k104_2 (by omega) (by omega) ?_
            refine zp_i (y := nI (A.getD k103 0)) (le101 _ (by omega)) ?_
            refine zp_goto (tgt := 35) dX11_drawCounter_31 (by decide) ?_
            refine zp_pc (pc' := 35) rfl ?_
            exact jk106
        refine jn106 ?_
        refine zn_iast dX11_drawCounter_35 (by omega) k104_3 (by omega) (by omega) ?_
        refine zp_nh (fun h107x eh107x => ?_)
        have k107_0 := (congrFun eh107x (64)).trans ((va_up_ne _ _ (by omega)).trans k104_0)
        have k107_1 := (congrFun eh107x (a)).trans ((va_up_ne _ _ (by omega)).trans k104_1)
        have k107_2 := (congrFun eh107x (93)).trans ((va_up_ne _ _ (by omega)).trans k104_2)
        have k107_3 : h107x (92) = some (.inr (48, .inl (va_up (zfl if102 (0) (k103) (fun i => nI (A.getD i 0))) (k103) (nI (A.getD k103 0))))) := by rw [eh107x]; exact va_up_self _ _ _
        have sw108 : zsm hX103 h107x (zon (92)) := zsm.rf.up eh107x rfl
        have zw108 : zsh hX103 h107x := zsh.fill eh107x k104_3
        refine zp_pc (pc' := 36) rfl ?_
        refine zn_iinc 1 (ls' := [some (.ref (64)), some (.ref (a)), some (.int (nI (k))), some (.int (nI (A.length))), some (.int (nI (k103 + 1))), none]) dX11_drawCounter_36 (by decide) (by decide) rfl rfl ?_
        refine zp_goto (tgt := 3) dX11_drawCounter_39 (by decide) ?_
        refine zp_pc (pc' := 3) rfl ?_
        rw [zfl_step eX103 eh107x (by omega) rfl]
        exact ih ((zsd kd) - (k103 + 1)) (by omega) (k103 + 1) rfl (by omega)
  suffices K103 : zP g mX11_drawCounter (zR 5 0 0) Qf 0 0 42 [some (.ref (64)), some (.ref (a)), some (.int (nI (k))), some (.int (nI (A.length))), some (.int (nI (zsd kd))), none] [] (va_up h (92) (some (.inr (48, .inl (zfl if102 (0) (zsd kd) (fun i => nI (A.getD i 0))))))) n by
    have q := lp103 K103 ((zsd kd) - 0) 0 rfl (Nat.zero_le _)
    rw [zfl_0, zup_same ih102] at q
    exact q
  refine zp_nh (fun hY103 eY103 => ?_)
  have k109_0 := (congrFun eY103 (64)).trans ((va_up_ne _ _ (by omega)).trans ho)
  have k109_1 := (congrFun eY103 (a)).trans ((va_up_ne _ _ (by omega)).trans hg)
  have k109_2 := (congrFun eY103 (93)).trans ((va_up_ne _ _ (by omega)).trans ld101)
  have k109_3 : hY103 (92) = some (.inr (48, .inl (zfl if102 (0) (zsd kd) (fun i => nI (A.getD i 0))))) := by rw [eY103]; exact va_up_self _ _ _
  have sf110 := (zsm.fill eY103)
  have zf110 := zsh.fill eY103 ih102
  refine zp_iload_n dX11_drawCounter_42 rfl ?_
  refine zp_pc (pc' := 43) rfl ?_
  refine zp_drop (ls' := [some (.ref (64)), some (.ref (a)), some (.int (nI (k))), some (.int (nI (A.length))), none, none]) (fun i v hv => ?_) ?_
  · rcases i with _ | _ | _ | _ | _ | _ | i <;> simp at hv ⊢ <;> exact hv
  have lAP : ((List.range (zsd kd)).map (fun i => A.getD i 0)).length = zsd kd := by rw [List.length_map, List.length_range]
  have aM : zar hY103 92 48 ((List.range (zsd kd)).map (fun i => A.getD i 0)) := zar.mk (L := zsd kd) k109_3 lAP (by omega) (by decide) (fun x hx => by obtain ⟨i, -, e⟩ := List.mem_map.mp hx; rw [← e]; exact zgetD_lt lc101 i) (fun j hj => by rw [zfl_in0 hj, zmap_getD hj])
  have W111 := zmw.sh hw ((sf110).mono (fun i hi => by unfold zwf; unfold zon at hi; omega)) (zf110) (fun i hi => hi)
  have s0 : zsm h hY103 (zsgo a) := (sf110).mono (fun i hi => by unfold zsgo; unfold zon at hi; omega)
  have z0 : zsh h hY103 := zf110
  have V0 := ((hV).keep (sf110 _ (by unfold zon; omega)))
  have C0 := ((hC).keep (sf110 _ (by unfold zon; omega)))
  have O0 := ((hO).keep (sf110 _ (by unfold zon; omega)))
  have kt112 : ∀ (h1 : ZH) (M : List Nat), zsm h h1 (zsgo a) → zsh h h1 → (∃ mn1, h1 64 = some (.inl (10, [.int (th), .ref (65), .ref (66), .ref (67), .ref (68), .ref (69), .ref (70), .ref (71), .ref (72), .ref (73), .ref (74), .ref (75), .ref (76), .ref (77), .ref (78), .ref (79), .ref (80), .ref (81), .ref (82), .ref (83), .ref (84), .int (nI (wt)), .int (nI (zbi un)), .int (rp), .int (wi), .int (pa), .int (be), .int (ru), .int (sa), .int (me), .int (se), .int (ta), .int (fa), .ref (85), .ref (86), .ref (87), .int (nI (mn1)), .ref (88), .ref (89), .ref (90), .ref (91), .ref (92), .ref (93), .int (nI (tp)), .ref (94), .int (nI (ou))]))) → zar h1 (a + 1) 111 s.2 → zar h1 (a + 2) 111 s.1 → zia h1 94 4096 → zar h1 92 48 M → M.length = zsd kd → (∀ j, j < zsd kd → M.getD j 0 = mm.getD j 0) → zP g mX11_drawCounter (zR 5 0 0) Qf 0 0 81 [some (.ref (64)), some (.ref (a)), some (.int (nI (k))), some (.int (nI (A.length))), none, none] [] h1 n := by
    intro h1 M s1 z1 o1 V1 C1 hO1 M1 lM hm
    have W1 := hw.sh s1 z1 (fun i q => by unfold zsgo at q; unfold zwf; omega)
    obtain ⟨mn1, o1⟩ := o1
    obtain ⟨gO, hO1⟩ := hO1
    have cb1 := C1.bytes
    have vb1 := V1.bytes
    refine zp_iconst (v := nI (0)) dX11_drawCounter_81 (by decide) ?_
    refine zp_istore (ls' := [some (.ref (64)), some (.ref (a)), some (.int (nI (k))), some (.int (nI (A.length))), some (.int (nI (0))), none]) dX11_drawCounter_82 (by decide) rfl ?_
    refine zp_pc (pc' := 84) rfl ?_
    refine zp_ls (ls' := [some (.ref (64)), some (.ref (a)), some (.int (nI (k))), some (.int (nI (A.length))), some (.int (nI (16 * 0))), none]) rfl ?_
    have lp : ∀ (m : Nat) (c : Nat) (h2 : ZH) (go : Nat → Int32), m = k - c → c ≤ k → (c = 0 ∨ 16 * (c - 1) < k) → zsm h1 h2 (zsc7 a) → zsh h1 h2 → h2 94 = some (.inr (4096, .inl go)) → zar h2 (a + 1) 111 (zplus s.2 c) → (∀ j, j < k → j < 16 * c → go j = nI ((zenc (zod kd) s.1 (zplus s.2 (j / 16 + 1))).getD (j % 16) 0)) → zP g mX11_drawCounter (zR 5 0 0) Qf 0 0 84 [some (.ref (64)), some (.ref (a)), some (.int (nI (k))), some (.int (nI (A.length))), some (.int (nI (16 * c))), none] [] h2 n := by
      intro m
      induction m using Nat.strongRecOn with
      | _ m ih =>
        intro c h2 go hm2 hc2 hcc s2 z2 er V2 egr
        have o2 : h2 64 = some (.inl (10, [.int (th), .ref (65), .ref (66), .ref (67), .ref (68), .ref (69), .ref (70), .ref (71), .ref (72), .ref (73), .ref (74), .ref (75), .ref (76), .ref (77), .ref (78), .ref (79), .ref (80), .ref (81), .ref (82), .ref (83), .ref (84), .int (nI (wt)), .int (nI (zbi un)), .int (rp), .int (wi), .int (pa), .int (be), .int (ru), .int (sa), .int (me), .int (se), .int (ta), .int (fa), .ref (85), .ref (86), .ref (87), .int (nI (mn1)), .ref (88), .ref (89), .ref (90), .ref (91), .ref (92), .ref (93), .int (nI (tp)), .ref (94), .int (nI (ou))])) := (s2 _ (by unfold zsc7; omega)).trans o1
        have g2 : h2 a = some (.inl (9, [.int (nI (zbi tr)), .int (nI (kd)), .int (nI (st)), .int (nI (iv)), .int (nI (zbi rs)), .int (nI (ct)), .int (dr), .int (nI (sd)), .ref (a + 1), .ref (a + 2)])) := (s2 _ (by unfold zsc7; omega)).trans ((s1 _ (by unfold zsgo; omega)).trans hg)
        have W2 := W1.sh s2 z2 (fun i q => by unfold zsc7 at q; unfold zwf; omega)
        have C2 := C1.keep (s2 (a + 2) (by unfold zsc7; omega))
        have M2 := M1.keep (s2 92 (by unfold zsc7; omega))
        have lv : (zplus s.2 c).length = 16 := by rw [zplus_len, ls.2]
        refine zp_iload dX11_drawCounter_84 rfl ?_
        refine zp_iload_n dX11_drawCounter_86 rfl ?_
        refine zp_pc (pc' := 87) rfl ?_
        refine zn_icmp_ge (tgt := 143) dX11_drawCounter_87 (by decide) (by omega) (by omega) (fun c87 => ?_) (fun c87 => ?_)
        · have ec : c = zcn k 16 := zcn_of (by decide) (by omega) (hcc.imp id (fun q => by omega))
          subst ec
          have O2 : zar h2 94 4096 ((zccat (zod kd) s.1 s.2 (zcn k 16)).take k) := zar.mk (L := k) er (by rw [List.length_take, zccat_len]; omega) hk (by decide) (fun x hx => zccat_lt cb1 _ _ x (List.mem_of_mem_take hx)) (fun j hj => by rw [ztake_get hj, zccat_get _ _ _ (by omega)]; exact egr j hj (by omega))
          refine zp_aload_n dX11_drawCounter_143 rfl ?_
          refine zp_aload_n dX11_drawCounter_144 rfl ?_
          refine zp_pc (pc' := 145) rfl ?_
          refine zp_callV (As := [.ref (a)]) (k := 64) (st := []) (ci := 10) dX11_drawCounter_145 cX11_278 rfl o2 rfl rfl (e_zmixC (mm := mm) W2 o2 g2 ha hkd hk4 V2 C2 lv ls.1 M2 lM hm) (by decide) (by decide) (Nat.le_of_ble_eq_true rfl) (fun v113 h113 n113 q113 => ?_)
          obtain ⟨rfl, N113, s113, z113, v113, c113⟩ := q113
          rw [N113]
          refine zp_nrm (cells' := 0) (slots' := 0) (st' := []) rfl rfl rfl ?_
          have m114 : h113 (64) = some (.inl (10, [.int (th), .ref (65), .ref (66), .ref (67), .ref (68), .ref (69), .ref (70), .ref (71), .ref (72), .ref (73), .ref (74), .ref (75), .ref (76), .ref (77), .ref (78), .ref (79), .ref (80), .ref (81), .ref (82), .ref (83), .ref (84), .int (nI (wt)), .int (nI (zbi un)), .int (rp), .int (wi), .int (pa), .int (be), .int (ru), .int (sa), .int (me), .int (se), .int (ta), .int (fa), .ref (85), .ref (86), .ref (87), .int (nI (mn1)), .ref (88), .ref (89), .ref (90), .ref (91), .ref (92), .ref (93), .int (nI (tp)), .ref (94), .int (nI (ou))])) := (s113 _ (by unfold zsb9; omega)).trans o2
          have m115 : h113 (a) = some (.inl (9, [.int (nI (zbi tr)), .int (nI (kd)), .int (nI (st)), .int (nI (iv)), .int (nI (zbi rs)), .int (nI (ct)), .int (dr), .int (nI (sd)), .ref (a + 1), .ref (a + 2)])) := (s113 _ (by unfold zsb9; omega)).trans g2
          have m116 : h113 (94) = some (.inr (4096, .inl go)) := (s113 _ (by unfold zsb9; omega)).trans er
          refine zp_pc (pc' := 148) rfl ?_
          refine zp_ret (v := none) dX11_drawCounter_148 ⟨rfl, rfl⟩ (by decide) (by decide) ?_
          rw [hQ]
          exact ⟨rfl, rfl, (s1.trans (s2.mono (fun i hi => by unfold zsgo; unfold zsc7 at hi; omega))).trans ((s113).mono (fun i hi => by unfold zsgo; unfold zsb9 at hi; omega)), (z1.trans z2).trans (z113), ⟨_, m114⟩, ((O2).keep (s113 _ (by unfold zsb9; omega))), v113, c113⟩
        · refine zp_aload_n dX11_drawCounter_90 rfl ?_
          refine zp_aload_n dX11_drawCounter_91 rfl ?_
          refine zp_pc (pc' := 92) rfl ?_
          refine zp_callV (As := [.ref (a)]) (k := 64) (st := []) (ci := 10) dX11_drawCounter_92 cX11_268 rfl o2 rfl rfl (e_zblock W2 o2 g2 ha hkd hk4 V2 C2 lv ls.1) (by decide) (by decide) (Nat.le_of_ble_eq_true rfl) (fun v117 h117 n117 q117 => ?_)
          obtain ⟨rfl, N117, s117, z117, v117, d117⟩ := q117
          rw [N117]
          refine zp_nrm (cells' := 0) (slots' := 0) (st' := []) rfl rfl rfl ?_
          have m118 : h117 (64) = some (.inl (10, [.int (th), .ref (65), .ref (66), .ref (67), .ref (68), .ref (69), .ref (70), .ref (71), .ref (72), .ref (73), .ref (74), .ref (75), .ref (76), .ref (77), .ref (78), .ref (79), .ref (80), .ref (81), .ref (82), .ref (83), .ref (84), .int (nI (wt)), .int (nI (zbi un)), .int (rp), .int (wi), .int (pa), .int (be), .int (ru), .int (sa), .int (me), .int (se), .int (ta), .int (fa), .ref (85), .ref (86), .ref (87), .int (nI (mn1)), .ref (88), .ref (89), .ref (90), .ref (91), .ref (92), .ref (93), .int (nI (tp)), .ref (94), .int (nI (ou))])) := (s117 _ (by unfold zsb8; omega)).trans o2
          have m119 : h117 (a) = some (.inl (9, [.int (nI (zbi tr)), .int (nI (kd)), .int (nI (st)), .int (nI (iv)), .int (nI (zbi rs)), .int (nI (ct)), .int (dr), .int (nI (sd)), .ref (a + 1), .ref (a + 2)])) := (s117 _ (by unfold zsb8; omega)).trans g2
          have m120 : h117 (94) = some (.inr (4096, .inl go)) := (s117 _ (by unfold zsb8; omega)).trans er
          rw [zplus_plus] at v117 d117
          obtain ⟨la121, lb121, lc121, lf121, ld121, le121⟩ := id d117
          refine zp_iconst (v := nI (0)) dX11_drawCounter_95 (by decide) ?_
          refine zp_istore (ls' := [some (.ref (64)), some (.ref (a)), some (.int (nI (k))), some (.int (nI (A.length))), some (.int (nI (16 * c))), some (.int (nI (0)))]) dX11_drawCounter_96 (by decide) rfl ?_
          refine zp_pc (pc' := 98) rfl ?_
          have lp122 : zP g mX11_drawCounter (zR 5 0 0) Qf 0 0 137 [some (.ref (64)), some (.ref (a)), some (.int (nI (k))), some (.int (nI (A.length))), some (.int (nI (16 * c))), some (.int (nI (min 16 (k - 16 * c))))] [] (va_up h117 (94) (some (.inr (4096, .inl (zfl go (16 * c) (min 16 (k - 16 * c)) (fun i => nI ((zenc (zod kd) s.1 (zplus s.2 ((16 * c + i) / 16 + 1))).getD ((16 * c + i) % 16) 0))))))) n → ∀ (m k122 : Nat), m = (min 16 (k - 16 * c)) - k122 → k122 ≤ (min 16 (k - 16 * c)) → zP g mX11_drawCounter (zR 5 0 0) Qf 0 0 98 [some (.ref (64)), some (.ref (a)), some (.int (nI (k))), some (.int (nI (A.length))), some (.int (nI (16 * c))), some (.int (nI (k122)))] [] (va_up h117 (94) (some (.inr (4096, .inl (zfl go (16 * c) (k122) (fun i => nI ((zenc (zod kd) s.1 (zplus s.2 ((16 * c + i) / 16 + 1))).getD ((16 * c + i) % 16) 0))))))) n := by
            intro kk m
            induction m using Nat.strongRecOn with
            | _ m ih =>
              intro k122 hm122 hk122
              refine zp_nh (fun hX122 eX122 => ?_)
              have k123_0 := (congrFun eX122 (64)).trans ((va_up_ne _ _ (by omega)).trans m118)
              have k123_1 := (congrFun eX122 (a)).trans ((va_up_ne _ _ (by omega)).trans m119)
              have k123_2 : hX122 (94) = some (.inr (4096, .inl (zfl go (16 * c) (k122) (fun i => nI ((zenc (zod kd) s.1 (zplus s.2 ((16 * c + i) / 16 + 1))).getD ((16 * c + i) % 16) 0))))) := by rw [eX122]; exact va_up_self _ _ _
              have k123_3 := (congrFun eX122 (91)).trans ((va_up_ne _ _ (by omega)).trans ld121)
              refine zp_iload dX11_drawCounter_98 rfl ?_
              refine zp_bipush (v := nI (16)) dX11_drawCounter_100 (by decide) ?_
              refine zp_pc (pc' := 102) rfl ?_
              refine zn_icmp_ge (tgt := 137) dX11_drawCounter_102 (by decide) (by omega) (by omega) (fun c102 => ?_) (fun c102 => ?_)
              · have e122 : k122 = (min 16 (k - 16 * c)) := by omega
                subst e122
                rw [eX122]
                exact kk
              · refine zp_iload dX11_drawCounter_105 rfl ?_
                refine zp_iload dX11_drawCounter_107 rfl ?_
                refine zn_iadd dX11_drawCounter_109 ?_
                refine zp_iload_n dX11_drawCounter_110 rfl ?_
                refine zp_pc (pc' := 111) rfl ?_
                refine zn_icmp_ge (tgt := 137) dX11_drawCounter_111 (by decide) (by omega) (by omega) (fun c111 => ?_) (fun c111 => ?_)
                · have e122 : k122 = (min 16 (k - 16 * c)) := by omega
                  subst e122
                  rw [eX122]
                  exact kk
                · refine zp_aload_n dX11_drawCounter_114 rfl ?_
                  refine zp_get dX11_drawCounter_115 gX11_117_10 k123_0 rfl ?_
                  refine zp_iload dX11_drawCounter_118 rfl ?_
                  refine zp_iload dX11_drawCounter_120 rfl ?_
                  refine zn_iadd dX11_drawCounter_122 ?_
                  refine zp_aload_n dX11_drawCounter_123 rfl ?_
                  refine zp_get dX11_drawCounter_124 gX11_108_10 k123_0 rfl ?_
                  refine zp_iload dX11_drawCounter_127 rfl ?_
                  refine zp_pc (pc' := 129) rfl ?_
                  refine zn_iald (j := k122) dX11_drawCounter_129 k123_3 (by omega) (by omega) ?_
                  refine zp_i (y := nI ((zenc (zod kd) s.1 (zplus s.2 ((16 * c + k122) / 16 + 1))).getD ((16 * c + k122) % 16) 0)) (by rw [le121 _ (by rw [zenc_len]; omega), show (16 * c + k122) / 16 = c by omega, show (16 * c + k122) % 16 = k122 by omega]) ?_
                  refine zn_iast dX11_drawCounter_130 (by omega) k123_2 (by omega) (by omega) ?_
                  refine zp_nh (fun h124x eh124x => ?_)
                  have k124_0 := (congrFun eh124x (64)).trans ((va_up_ne _ _ (by omega)).trans k123_0)
                  have k124_1 := (congrFun eh124x (a)).trans ((va_up_ne _ _ (by omega)).trans k123_1)
                  have k124_2 : h124x (94) = some (.inr (4096, .inl (va_up (zfl go (16 * c) (k122) (fun i => nI ((zenc (zod kd) s.1 (zplus s.2 ((16 * c + i) / 16 + 1))).getD ((16 * c + i) % 16) 0))) ((16 * c) + (k122)) (nI ((zenc (zod kd) s.1 (zplus s.2 ((16 * c + k122) / 16 + 1))).getD ((16 * c + k122) % 16) 0))))) := by rw [eh124x]; exact va_up_self _ _ _
                  have k124_3 := (congrFun eh124x (91)).trans ((va_up_ne _ _ (by omega)).trans k123_3)
                  have sw125 : zsm hX122 h124x (zon (94)) := zsm.rf.up eh124x rfl
                  have zw125 : zsh hX122 h124x := zsh.fill eh124x k123_2
                  refine zp_pc (pc' := 131) rfl ?_
                  refine zn_iinc 1 (ls' := [some (.ref (64)), some (.ref (a)), some (.int (nI (k))), some (.int (nI (A.length))), some (.int (nI (16 * c))), some (.int (nI (k122 + 1)))]) dX11_drawCounter_131 (by decide) (by decide) rfl rfl ?_
                  refine zp_goto (tgt := 98) dX11_drawCounter_134 (by decide) ?_
                  refine zp_pc (pc' := 98) rfl ?_
                  rw [zfl_step eX122 eh124x (by omega) rfl]
                  exact ih ((min 16 (k - 16 * c)) - (k122 + 1)) (by omega) (k122 + 1) rfl (by omega)
          suffices K122 : zP g mX11_drawCounter (zR 5 0 0) Qf 0 0 137 [some (.ref (64)), some (.ref (a)), some (.int (nI (k))), some (.int (nI (A.length))), some (.int (nI (16 * c))), some (.int (nI (min 16 (k - 16 * c))))] [] (va_up h117 (94) (some (.inr (4096, .inl (zfl go (16 * c) (min 16 (k - 16 * c)) (fun i => nI ((zenc (zod kd) s.1 (zplus s.2 ((16 * c + i) / 16 + 1))).getD ((16 * c + i) % 16) 0))))))) n by
            have q := lp122 K122 ((min 16 (k - 16 * c)) - 0) 0 rfl (Nat.zero_le _)
            rw [zfl_0, zup_same m120] at q
            exact q
          refine zp_nh (fun hY122 eY122 => ?_)
          have k126_0 := (congrFun eY122 (64)).trans ((va_up_ne _ _ (by omega)).trans m118)
          have k126_1 := (congrFun eY122 (a)).trans ((va_up_ne _ _ (by omega)).trans m119)
          have k126_2 : hY122 (94) = some (.inr (4096, .inl (zfl go (16 * c) (min 16 (k - 16 * c)) (fun i => nI ((zenc (zod kd) s.1 (zplus s.2 ((16 * c + i) / 16 + 1))).getD ((16 * c + i) % 16) 0))))) := by rw [eY122]; exact va_up_self _ _ _
          have k126_3 := (congrFun eY122 (91)).trans ((va_up_ne _ _ (by omega)).trans ld121)
          have sf127 := (zsm.fill eY122)
          have zf127 := zsh.fill eY122 m120
          refine zn_iinc 16 (ls' := [some (.ref (64)), some (.ref (a)), some (.int (nI (k))), some (.int (nI (A.length))), some (.int (nI (16 * c + 16))), some (.int (nI (min 16 (k - 16 * c))))]) dX11_drawCounter_137 (by decide) (by decide) rfl rfl ?_
          refine zp_pc (pc' := 140) rfl ?_
          refine zp_ls (ls' := [some (.ref (64)), some (.ref (a)), some (.int (nI (k))), some (.int (nI (A.length))), some (.int (nI (16 * (c + 1)))), some (.int (nI (min 16 (k - 16 * c))))]) (by rw [Nat.mul_add]) ?_
          refine zp_goto (tgt := 84) dX11_drawCounter_140 (by decide) ?_
          refine zp_pc (pc' := 84) rfl ?_
          refine zp_drop (ls' := [some (.ref (64)), some (.ref (a)), some (.int (nI (k))), some (.int (nI (A.length))), some (.int (nI (16 * (c + 1)))), none]) (fun i v hv => ?_) ?_
          · rcases i with _ | _ | _ | _ | _ | _ | i <;> simp at hv ⊢ <;> exact hv
          refine ih (k - (c + 1)) (by omega) (c + 1) hY122 _ rfl (by omega) (Or.inr (by omega)) (s2.trans (((s117).mono (fun i hi => by unfold zsc7; unfold zsb8 at hi; omega)).trans ((sf127).mono (fun i hi => by unfold zsc7; unfold zon at hi; omega)))) (z2.trans ((z117).trans zf127)) k126_2 (v117.keep (sf127 _ (by unfold zon; omega))) (fun j hj hj2 => ?_)
          rcases Nat.lt_or_ge j (16 * c) with q | q
          · rw [zfl_out (Or.inl q)]; exact egr j hj q
          · obtain ⟨d, rfl⟩ := Nat.exists_eq_add_of_le q
            rw [zfl_in (by omega)]
    exact lp _ 0 h1 gO rfl (Nat.zero_le _) (Or.inl rfl) zsm.rf zsh.rf hO1 (by rw [zplus_0 vb1]; exact V1) (fun j _ hj => absurd hj (by omega))
  refine zn_if_le (tgt := 81) dX11_drawCounter_43 (by decide) (by omega) (fun c43 => ?_) (fun c43 => ?_)
  · exact kt112 hY103 ((List.range (zsd kd)).map (fun i => A.getD i 0)) s0 z0 ⟨_, k109_0⟩ (by rw [es, if_neg (by omega)]; exact V0) (by rw [es, if_neg (by omega)]; exact C0) O0 aM lAP (fun j hj => by rw [zmap_getD hj, em, if_neg (by omega)])
  · have kt128 : ∀ (h1 : ZH) (M : List Nat), zsm h h1 (zsgo a) → zsh h h1 → h1 64 = some (.inl (10, [.int (th), .ref (65), .ref (66), .ref (67), .ref (68), .ref (69), .ref (70), .ref (71), .ref (72), .ref (73), .ref (74), .ref (75), .ref (76), .ref (77), .ref (78), .ref (79), .ref (80), .ref (81), .ref (82), .ref (83), .ref (84), .int (nI (wt)), .int (nI (zbi un)), .int (rp), .int (wi), .int (pa), .int (be), .int (ru), .int (sa), .int (me), .int (se), .int (ta), .int (fa), .ref (85), .ref (86), .ref (87), .int (nI (mn)), .ref (88), .ref (89), .ref (90), .ref (91), .ref (92), .ref (93), .int (nI (tp)), .ref (94), .int (nI (ou))])) → zar h1 (a + 1) 111 V → zar h1 (a + 2) 111 C → zia h1 94 4096 → zar h1 92 48 M → M.length = zsd kd → (∀ j, j < zsd kd → M.getD j 0 = mm.getD j 0) → zP g mX11_drawCounter (zR 5 0 0) Qf 0 0 76 [some (.ref (64)), some (.ref (a)), some (.int (nI (k))), some (.int (nI (A.length))), none, none] [] h1 n := by
      intro h1 M s1 z1 o1 V1 C1 hO1 M1 lM hm
      have W2 := hw.sh s1 z1 (fun i q => by unfold zsgo at q; unfold zwf; omega)
      have g1 : h1 a = some (.inl (9, [.int (nI (zbi tr)), .int (nI (kd)), .int (nI (st)), .int (nI (iv)), .int (nI (zbi rs)), .int (nI (ct)), .int (dr), .int (nI (sd)), .ref (a + 1), .ref (a + 2)])) := (s1 _ (by unfold zsgo; omega)).trans hg
      refine zp_aload_n dX11_drawCounter_76 rfl ?_
      refine zp_aload_n dX11_drawCounter_77 rfl ?_
      refine zp_pc (pc' := 78) rfl ?_
      refine zp_callV (As := [.ref (a)]) (k := 64) (st := []) (ci := 10) dX11_drawCounter_78 cX11_278 rfl o1 rfl rfl (e_zmixC (mm := mm) W2 o1 g1 ha hkd hk4 V1 C1 lV lC M1 lM hm) (by decide) (by decide) (Nat.le_of_ble_eq_true rfl) (fun v129 h129 n129 q129 => ?_)
      obtain ⟨rfl, N129, s129, z129, v129, c129⟩ := q129
      rw [N129]
      refine zp_nrm (cells' := 0) (slots' := 0) (st' := []) rfl rfl rfl ?_
      have m130 : h129 (a) = some (.inl (9, [.int (nI (zbi tr)), .int (nI (kd)), .int (nI (st)), .int (nI (iv)), .int (nI (zbi rs)), .int (nI (ct)), .int (dr), .int (nI (sd)), .ref (a + 1), .ref (a + 2)])) := (s129 _ (by unfold zsb9; omega)).trans g1
      have m131 : h129 (64) = some (.inl (10, [.int (th), .ref (65), .ref (66), .ref (67), .ref (68), .ref (69), .ref (70), .ref (71), .ref (72), .ref (73), .ref (74), .ref (75), .ref (76), .ref (77), .ref (78), .ref (79), .ref (80), .ref (81), .ref (82), .ref (83), .ref (84), .int (nI (wt)), .int (nI (zbi un)), .int (rp), .int (wi), .int (pa), .int (be), .int (ru), .int (sa), .int (me), .int (se), .int (ta), .int (fa), .ref (85), .ref (86), .ref (87), .int (nI (mn)), .ref (88), .ref (89), .ref (90), .ref (91), .ref (92), .ref (93), .int (nI (tp)), .ref (94), .int (nI (ou))])) := (s129 _ (by unfold zsb9; omega)).trans o1
      refine zp_pc (pc' := 81) rfl ?_
      exact kt112 h129 M (s1.trans (s129.mono (fun i hi => by unfold zsgo; unfold zsb9 at hi; omega))) (z1.trans z129) ⟨_, m131⟩ (by rw [es, if_pos c43]; exact v129) (by rw [es, if_pos c43]; exact c129) (hO1.keep (s129 _ (by unfold zsb9; omega))) (M1.keep (s129 _ (by unfold zsb9; omega))) lM hm
    refine zp_aload_n dX11_drawCounter_46 rfl ?_
    refine zp_get dX11_drawCounter_47 gX11_271_9 k109_1 rfl ?_
    refine zp_bipush (v := nI (6)) dX11_drawCounter_50 (by decide) ?_
    refine zp_pc (pc' := 52) rfl ?_
    refine zn_icmp_ge (tgt := 76) dX11_drawCounter_52 (by decide) (by omega) (by omega) (fun c52 => ?_) (fun c52 => ?_)
    · exact kt128 hY103 ((List.range (zsd kd)).map (fun i => A.getD i 0)) s0 z0 k109_0 V0 C0 O0 aM lAP (fun j hj => by rw [zmap_getD hj, em, if_neg (by omega)])
    · refine zp_aload_n dX11_drawCounter_55 rfl ?_
      refine zp_aload_n dX11_drawCounter_56 rfl ?_
      refine zp_callV (As := []) (k := a) (st := [.ref (64)]) (ci := 9) dX11_drawCounter_57 cX11_265 rfl k109_1 rfl rfl (e_zkeys k109_1 hkd) (by decide) (by decide) (Nat.le_of_ble_eq_true rfl) (fun v132 h132 n132 q132 => ?_)
      obtain ⟨rfl, H132, N132⟩ := q132
      rw [N132, H132]
      refine zp_nrm (cells' := 0) (slots' := 0) (st' := [.int (nI (zkl (zod kd))), .ref (64)]) rfl rfl rfl ?_
      refine zp_aload_n dX11_drawCounter_60 rfl ?_
      refine zp_get dX11_drawCounter_61 gX11_114_10 k109_0 rfl ?_
      refine zp_iload_n dX11_drawCounter_64 rfl ?_
      refine zp_aload_n dX11_drawCounter_65 rfl ?_
      refine zp_get dX11_drawCounter_66 gX11_111_10 k109_0 rfl ?_
      refine zp_aload_n dX11_drawCounter_69 rfl ?_
      refine zp_callV (As := []) (k := a) (st := [.ref (92), .int (nI (A.length)), .ref (93), .int (nI (zkl (zod kd))), .ref (64)]) (ci := 9) dX11_drawCounter_70 cX11_229 rfl k109_1 rfl rfl (e_zseed k109_1 hkd) (by decide) (by decide) (Nat.le_of_ble_eq_true rfl) (fun v133 h133 n133 q133 => ?_)
      obtain ⟨rfl, H133, N133⟩ := q133
      rw [N133, H133]
      refine zp_nrm (cells' := 0) (slots' := 0) (st' := [.int (nI (zsd kd)), .ref (92), .int (nI (A.length)), .ref (93), .int (nI (zkl (zod kd))), .ref (64)]) rfl rfl rfl ?_
      refine zp_pc (pc' := 73) rfl ?_
      refine zp_callV (As := [.int (nI (zkl (zod kd))), .ref (93), .int (nI (A.length)), .ref (92), .int (nI (zsd kd))]) (k := 64) (st := []) (ci := 10) dX11_drawCounter_73 cX11_274 rfl k109_0 rfl rfl (e_mdce (b := (zod kd)) (p := 93) (r := 92) (k := zsd kd) (Nr := 48) (xs := A) W111 k109_0 (((hA).keep (sf110 _ (by unfold zon; omega)))) W111.m92 (by omega) (by decide) (by decide) (by decide) (by decide) (by omega) (by omega)) (by decide) (by decide) (Nat.le_of_ble_eq_true rfl) (fun v134 h134 n134 q134 => ?_)
      obtain ⟨rfl, N134, s134, z134, d134⟩ := q134
      rw [N134]
      refine zp_nrm (cells' := 0) (slots' := 0) (st' := []) rfl rfl rfl ?_
      have m135 : h134 (64) = some (.inl (10, [.int (th), .ref (65), .ref (66), .ref (67), .ref (68), .ref (69), .ref (70), .ref (71), .ref (72), .ref (73), .ref (74), .ref (75), .ref (76), .ref (77), .ref (78), .ref (79), .ref (80), .ref (81), .ref (82), .ref (83), .ref (84), .int (nI (wt)), .int (nI (zbi un)), .int (rp), .int (wi), .int (pa), .int (be), .int (ru), .int (sa), .int (me), .int (se), .int (ta), .int (fa), .ref (85), .ref (86), .ref (87), .int (nI (mn)), .ref (88), .ref (89), .ref (90), .ref (91), .ref (92), .ref (93), .int (nI (tp)), .ref (94), .int (nI (ou))])) := (s134 _ (by unfold zs9; omega)).trans k109_0
      have m136 : h134 (a) = some (.inl (9, [.int (nI (zbi tr)), .int (nI (kd)), .int (nI (st)), .int (nI (iv)), .int (nI (zbi rs)), .int (nI (ct)), .int (dr), .int (nI (sd)), .ref (a + 1), .ref (a + 2)])) := (s134 _ (by unfold zs9; omega)).trans k109_1
      have m137 : h134 (93) = some (.inr (240, .inl lf101)) := (s134 _ (by unfold zs9; omega)).trans k109_2
      refine zp_pc (pc' := 76) rfl ?_
      exact kt128 h134 _ (s0.trans (s134.mono (fun i hi => by unfold zsgo; unfold zs9 at hi; omega))) (z0.trans z134) m135 (V0.keep (s134 _ (by unfold zs9; omega))) (C0.keep (s134 _ (by unfold zs9; omega))) (O0.keep (s134 _ (by unfold zs9; omega))) d134 (zdce_len ..) (fun j hj => by rw [em, if_pos ⟨c43, c52⟩])
