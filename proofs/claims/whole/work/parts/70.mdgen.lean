theorem zmw.m87 {h : ZH} (H : zmw h) : zia h 87 1000 := H.2.2.2.2.2.2.2.2.1
theorem zmw.m88 {h : ZH} (H : zmw h) : zia h 88 4 := H.2.2.2.2.2.2.2.2.2.1
theorem zmw.m89 {h : ZH} (H : zmw h) : zia h 89 111 := H.2.2.2.2.2.2.2.2.2.2.1
theorem zmw.m90 {h : ZH} (H : zmw h) : zia h 90 400 := H.2.2.2.2.2.2.2.2.2.2.2.1
theorem zmw.m91 {h : ZH} (H : zmw h) : zia h 91 16 := H.2.2.2.2.2.2.2.2.2.2.2.2.1
theorem zmw.m92 {h : ZH} (H : zmw h) : zia h 92 48 := H.2.2.2.2.2.2.2.2.2.2.2.2.2
theorem zar.nil {h : ZH} {k N : Nat} (H : zia h k N) (hN : N < 1000000) : zar h k N [] := by
  obtain ⟨f, hf⟩ := H
  exact ⟨Nat.zero_le _, hN, fun x hx => absurd hx List.not_mem_nil, f, hf, fun j hj => absurd hj (Nat.not_lt_zero j)⟩
/-- what a generator's methods write -/
abbrev zsg (a : Nat) : Nat → Prop := fun i => i = 64 ∨ (70 ≤ i ∧ i ≤ 76) ∨ (78 ≤ i ∧ i ≤ 83) ∨ (87 ≤ i ∧ i ≤ 92) ∨ i = a + 1 ∨ i = a + 2
abbrev zsgo (a : Nat) : Nat → Prop := fun i => i = 64 ∨ (70 ≤ i ∧ i ≤ 76) ∨ (78 ≤ i ∧ i ≤ 83) ∨ (87 ≤ i ∧ i ≤ 92) ∨ i = a + 1 ∨ i = a + 2 ∨ i = 94
theorem zdcat_get (b : Bool) (V : List Nat) {k c j : Nat} (hc : c < k) (hj : j < 8 * zwb b) : (zdcat b V k).getD (8 * zwb b * c + j) 0 = (zhash b (zplus V c)).getD j 0 := by
  have hz := zwb_or b
  unfold zdcat
  rw [zflat_getD _ (8 * zwb b) (by omega) (fun k => zhash_len _ _) _ _ (by have := Nat.mul_le_mul_right (8 * zwb b) (show c + 1 ≤ k by omega); rw [Nat.add_mul, Nat.mul_comm c] at this; omega), Nat.mul_add_div (by omega), Nat.mul_add_mod, Nat.div_eq_of_lt hj, Nat.mod_eq_of_lt hj, Nat.add_zero]
abbrev zsq : Nat → Prop := fun i => (70 ≤ i ∧ i ≤ 74) ∨ i = 88 ∨ i = 89 ∨ i = 94
theorem zdcat_lt (b : Bool) (V : List Nat) (c : Nat) : ∀ x ∈ zdcat b V c, x < 256 := fun x h => by
  obtain ⟨i, -, h2⟩ := List.mem_flatMap.mp h
  exact zhash_lt _ _ x h2
set_option maxRecDepth 10000 in
set_option maxHeartbeats 2000000 in
theorem e_zseedD {g : ZG} {h : ZH} {n : Nat} {a kd st iv ct sd : Nat} {tr rs : Bool} {dr : Int32} {V R A : List Nat} {ft : Bool} {th : Int32} {wt : Nat} {un : Bool} {rp wi pa be ru sa me se ta fa : Int32} {mn tp ou : Nat} (hw : zmw h) (ho : h 64 = some (.inl (10, [.int (th), .ref (65), .ref (66), .ref (67), .ref (68), .ref (69), .ref (70), .ref (71), .ref (72), .ref (73), .ref (74), .ref (75), .ref (76), .ref (77), .ref (78), .ref (79), .ref (80), .ref (81), .ref (82), .ref (83), .ref (84), .int (nI (wt)), .int (nI (zbi un)), .int (rp), .int (wi), .int (pa), .int (be), .int (ru), .int (sa), .int (me), .int (se), .int (ta), .int (fa), .ref (85), .ref (86), .ref (87), .int (nI (mn)), .ref (88), .ref (89), .ref (90), .ref (91), .ref (92), .ref (93), .int (nI (tp)), .ref (94), .int (nI (ou))]))) (hg : h a = some (.inl (9, [.int (nI (zbi tr)), .int (nI (kd)), .int (nI (st)), .int (nI (iv)), .int (nI (zbi rs)), .int (nI (ct)), .int (dr), .int (nI (sd)), .ref (a + 1), .ref (a + 2)]))) (ha : a = 95 ∨ a = 98 ∨ a = 101 ∨ a = 104) (hkd : kd < 8) (hk2 : kd < 2) (hV : zar h (a + 1) 111 V) (hC : zia h (a + 2) 111) (hR : zar h 85 100 R) (hA : zar h 93 240 A) (lV : ft = false → V.length = zsd kd) : zMt g mX11_seedDigest (zR 5 0 0) [.ref (64), .ref (a), .int (nI (zbi ft)), .int (nI (R.length)), .int (nI (A.length))] h n (fun v h' n' => v = none ∧ n' = n ∧ zsm h h' (zsg a) ∧ zsh h h' ∧ (∃ mn', h' 64 = some (.inl (10, [.int (th), .ref (65), .ref (66), .ref (67), .ref (68), .ref (69), .ref (70), .ref (71), .ref (72), .ref (73), .ref (74), .ref (75), .ref (76), .ref (77), .ref (78), .ref (79), .ref (80), .ref (81), .ref (82), .ref (83), .ref (84), .int (nI (wt)), .int (nI (zbi un)), .int (rp), .int (wi), .int (pa), .int (be), .int (ru), .int (sa), .int (me), .int (se), .int (ta), .int (fa), .ref (85), .ref (86), .ref (87), .int (nI (mn')), .ref (88), .ref (89), .ref (90), .ref (91), .ref (92), .ref (93), .int (nI (tp)), .ref (94), .int (nI (ou))]))) ∧ zar h' (a + 1) 111 (zder (zod kd) ((if ft = true then [] else 1 :: V) ++ R ++ A) (zsd kd)) ∧ zar h' (a + 2) 111 (zder (zod kd) (0 :: (zder (zod kd) ((if ft = true then [] else 1 :: V) ++ R ++ A) (zsd kd))) (zsd kd))) := by
  refine zMt.of [some (.ref (64)), some (.ref (a)), some (.int (nI (zbi ft))), some (.int (nI (R.length))), some (.int (nI (A.length))), none] (by decide) rfl (Nat.le_of_ble_eq_true rfl) ?_
  obtain ⟨Qf, hQ⟩ : ∃ Qf : ZQ, Qf = (fun v h' n' => v = none ∧ n' = n ∧ zsm h h' (zsg a) ∧ zsh h h' ∧ (∃ mn', h' 64 = some (.inl (10, [.int (th), .ref (65), .ref (66), .ref (67), .ref (68), .ref (69), .ref (70), .ref (71), .ref (72), .ref (73), .ref (74), .ref (75), .ref (76), .ref (77), .ref (78), .ref (79), .ref (80), .ref (81), .ref (82), .ref (83), .ref (84), .int (nI (wt)), .int (nI (zbi un)), .int (rp), .int (wi), .int (pa), .int (be), .int (ru), .int (sa), .int (me), .int (se), .int (ta), .int (fa), .ref (85), .ref (86), .ref (87), .int (nI (mn')), .ref (88), .ref (89), .ref (90), .ref (91), .ref (92), .ref (93), .int (nI (tp)), .ref (94), .int (nI (ou))]))) ∧ zar h' (a + 1) 111 (zder (zod kd) ((if ft = true then [] else 1 :: V) ++ R ++ A) (zsd kd)) ∧ zar h' (a + 2) 111 (zder (zod kd) (0 :: (zder (zod kd) ((if ft = true then [] else 1 :: V) ++ R ++ A) (zsd kd))) (zsd kd))) := ⟨_, rfl⟩
  rw [← hQ]
  have hgr := zgr_odd (show kd < 4 by omega)
  have hs := zsd_le hkd
  have lR := hR.1
  have lA := hA.1
  have lV1 := hV.1
  refine zp_aload_n dX11_seedDigest_0 rfl ?_
  refine zp_pc (pc' := 1) rfl ?_
  refine zp_callV (As := []) (k := 64) (st := []) (ci := 10) dX11_seedDigest_1 cX11_223 rfl ho rfl rfl (e_mbegin ho) (by decide) (by decide) (Nat.le_of_ble_eq_true rfl) (fun v1 h1 n1 q1 => ?_)
  obtain ⟨rfl, N1, s1, z1, o1⟩ := q1
  rw [N1]
  refine zp_nrm (cells' := 0) (slots' := 0) (st' := []) rfl rfl rfl ?_
  have m2 : h1 (a) = some (.inl (9, [.int (nI (zbi tr)), .int (nI (kd)), .int (nI (st)), .int (nI (iv)), .int (nI (zbi rs)), .int (nI (ct)), .int (dr), .int (nI (sd)), .ref (a + 1), .ref (a + 2)])) := (s1 _ (by unfold zon; omega)).trans hg
  have W3 := zmw.sh hw ((s1).mono (fun i hi => by unfold zwf; unfold zon at hi; omega)) (z1) (fun i hi => hi)
  have xx1 : zar h1 87 1000 [] := zar.nil W3.m87 (by decide)
  refine zp_iload_n dX11_seedDigest_4 rfl ?_
  refine zp_pc (pc' := 5) rfl ?_
  have kt4 : ∀ (h1 : ZH), zsm h h1 zsp → zsh h h1 → h1 64 = some (.inl (10, [.int (th), .ref (65), .ref (66), .ref (67), .ref (68), .ref (69), .ref (70), .ref (71), .ref (72), .ref (73), .ref (74), .ref (75), .ref (76), .ref (77), .ref (78), .ref (79), .ref (80), .ref (81), .ref (82), .ref (83), .ref (84), .int (nI (wt)), .int (nI (zbi un)), .int (rp), .int (wi), .int (pa), .int (be), .int (ru), .int (sa), .int (me), .int (se), .int (ta), .int (fa), .ref (85), .ref (86), .ref (87), .int (nI ((if ft = true then [] else 1 :: V).length)), .ref (88), .ref (89), .ref (90), .ref (91), .ref (92), .ref (93), .int (nI (tp)), .ref (94), .int (nI (ou))])) → zar h1 87 1000 (if ft = true then [] else 1 :: V) → zP g mX11_seedDigest (zR 5 0 0) Qf 0 0 25 [some (.ref (64)), some (.ref (a)), some (.int (nI (zbi ft))), some (.int (nI (R.length))), some (.int (nI (A.length))), none] [] h1 n := by
    intro h1 s1 z1 o1 x1
    have W1 := hw.sh s1 z1 (fun i q => by unfold zsp at q; unfold zwf; omega)
    have g1 : h1 a = some (.inl (9, [.int (nI (zbi tr)), .int (nI (kd)), .int (nI (st)), .int (nI (iv)), .int (nI (zbi rs)), .int (nI (ct)), .int (dr), .int (nI (sd)), .ref (a + 1), .ref (a + 2)])) := (s1 _ (by unfold zsp; omega)).trans hg
    have lX : (if ft = true then [] else 1 :: V : List Nat).length ≤ 112 := by split; exact Nat.zero_le _; rw [List.length_cons]; omega
    have R1 := hR.keep (s1 85 (by unfold zsp; omega))
    have A1 := hA.keep (s1 93 (by unfold zsp; omega))
    have C1 := hC.keep (s1 (a + 2) (by unfold zsp; omega))
    have V1 := (hV.keep (s1 (a + 1) (by unfold zsp; omega))).ia
    refine zp_aload_n dX11_seedDigest_25 rfl ?_
    refine zp_aload_n dX11_seedDigest_26 rfl ?_
    refine zp_get dX11_seedDigest_27 gX11_87_10 o1 rfl ?_
    refine zp_iload_n dX11_seedDigest_30 rfl ?_
    refine zp_pc (pc' := 31) rfl ?_
    refine zp_callV (As := [.ref (85), .int (nI (R.length))]) (k := 64) (st := []) (ci := 10) dX11_seedDigest_31 cX11_233 rfl o1 rfl rfl (e_mputs (xs := (if ft = true then [] else 1 :: V)) (ys := R) (q := 85) o1 x1 R1 (by omega) (by simp only [List.length_append, List.length_cons, List.length_nil, List.length_singleton]; omega)) (by decide) (by decide) (Nat.le_of_ble_eq_true rfl) (fun v5 h5 n5 q5 => ?_)
    obtain ⟨rfl, N5, s5, z5, o5, x5⟩ := q5
    rw [N5]
    refine zp_nrm (cells' := 0) (slots' := 0) (st' := []) rfl rfl rfl ?_
    have m6 : h5 (a) = some (.inl (9, [.int (nI (zbi tr)), .int (nI (kd)), .int (nI (st)), .int (nI (iv)), .int (nI (zbi rs)), .int (nI (ct)), .int (dr), .int (nI (sd)), .ref (a + 1), .ref (a + 2)])) := (s5 _ (by unfold zsp; omega)).trans g1
    refine zp_aload_n dX11_seedDigest_34 rfl ?_
    refine zp_aload_n dX11_seedDigest_35 rfl ?_
    refine zp_get dX11_seedDigest_36 gX11_114_10 o5 rfl ?_
    refine zp_iload dX11_seedDigest_39 rfl ?_
    refine zp_pc (pc' := 41) rfl ?_
    refine zp_callV (As := [.ref (93), .int (nI (A.length))]) (k := 64) (st := []) (ci := 10) dX11_seedDigest_41 cX11_233 rfl o5 rfl rfl (e_mputs (xs := ((if ft = true then [] else 1 :: V) ++ R)) (ys := A) (q := 93) o5 x5 (A1).keep (s5 _ (by unfold zsp; omega)) (by omega) (by simp only [List.length_append, List.length_cons, List.length_nil, List.length_singleton]; omega)) (by decide) (by decide) (Nat.le_of_ble_eq_true rfl) (fun v7 h7 n7 q7 => ?_)
    obtain ⟨rfl, N7, s7, z7, o7, x7⟩ := q7
    rw [N7]
    refine zp_nrm (cells' := 0) (slots' := 0) (st' := []) rfl rfl rfl ?_
    have m8 : h7 (a) = some (.inl (9, [.int (nI (zbi tr)), .int (nI (kd)), .int (nI (st)), .int (nI (iv)), .int (nI (zbi rs)), .int (nI (ct)), .int (dr), .int (nI (sd)), .ref (a + 1), .ref (a + 2)])) := (s7 _ (by unfold zsp; omega)).trans m6
    refine zp_aload_n dX11_seedDigest_44 rfl ?_
    refine zp_aload_n dX11_seedDigest_45 rfl ?_
    refine zp_callV (As := []) (k := a) (st := [.ref (64)]) (ci := 9) dX11_seedDigest_46 cX11_235 rfl m8 rfl rfl (e_zgreat m8 hkd) (by decide) (by decide) (Nat.le_of_ble_eq_true rfl) (fun v9 h9 n9 q9 => ?_)
    obtain ⟨rfl, H9, N9⟩ := q9
    rw [N9, H9]
    refine zp_nrm (cells' := 0) (slots' := 0) (st' := [.int (nI (zbi (zgr kd))), .ref (64)]) rfl rfl rfl ?_
    refine zp_i (y := nI (zbi (zod kd))) (by rw [hgr]) ?_
    refine zp_aload_n dX11_seedDigest_49 rfl ?_
    refine zp_get dX11_seedDigest_50 gX11_96_10 o7 rfl ?_
    refine zp_aload_n dX11_seedDigest_53 rfl ?_
    refine zp_get dX11_seedDigest_54 gX11_212_10 o7 rfl ?_
    refine zp_aload_n dX11_seedDigest_57 rfl ?_
    refine zp_get dX11_seedDigest_58 gX11_102_10 o7 rfl ?_
    refine zp_aload_n dX11_seedDigest_61 rfl ?_
    refine zp_callV (As := []) (k := a) (st := [.ref (89), .int (nI ((((if ft = true then [] else 1 :: V) ++ R) ++ A).length)), .ref (87), .int (nI (zbi (zod kd))), .ref (64)]) (ci := 9) dX11_seedDigest_62 cX11_229 rfl m8 rfl rfl (e_zseed m8 hkd) (by decide) (by decide) (Nat.le_of_ble_eq_true rfl) (fun v10 h10 n10 q10 => ?_)
    obtain ⟨rfl, H10, N10⟩ := q10
    rw [N10, H10]
    refine zp_nrm (cells' := 0) (slots' := 0) (st' := [.int (nI (zsd kd)), .ref (89), .int (nI ((((if ft = true then [] else 1 :: V) ++ R) ++ A).length)), .ref (87), .int (nI (zbi (zod kd))), .ref (64)]) rfl rfl rfl ?_
    refine zp_pc (pc' := 65) rfl ?_
    have W11 := zmw.sh W1 (((s5).mono (fun i hi => by unfold zwf; unfold zsp at hi; omega)).trans ((s7).mono (fun i hi => by unfold zwf; unfold zsp at hi; omega))) ((z5).trans z7) (fun i hi => hi)
    have lL : (((if ft = true then [] else 1 :: V) ++ R) ++ A).length = (((if ft = true then [] else 1 :: V) ++ R) ++ A).length := rfl
    refine zp_callV (As := [.int (nI (zbi (zod kd))), .ref (87), .int (nI ((((if ft = true then [] else 1 :: V) ++ R) ++ A).length)), .ref (89), .int (nI (zsd kd))]) (k := 64) (st := []) (ci := 10) dX11_seedDigest_65 cX11_239 rfl o7 rfl rfl (e_mderW (b := (zod kd)) (p := 87) (r := 89) (k := zsd kd) W11 o7 x7 W11.m89 (by omega) (by decide) (by omega) (by decide) (by decide) (by simp only [List.length_append, List.length_cons, List.length_nil, List.length_singleton]; omega) (by omega)) (by decide) (by decide) (Nat.le_of_ble_eq_true rfl) (fun v12 h12 n12 q12 => ?_)
    obtain ⟨rfl, N12, s12, z12, d12⟩ := q12
    rw [N12]
    refine zp_nrm (cells' := 0) (slots' := 0) (st' := []) rfl rfl rfl ?_
    have m13 : h12 (a) = some (.inl (9, [.int (nI (zbi tr)), .int (nI (kd)), .int (nI (st)), .int (nI (iv)), .int (nI (zbi rs)), .int (nI (ct)), .int (dr), .int (nI (sd)), .ref (a + 1), .ref (a + 2)])) := (s12 _ (by unfold zs7; omega)).trans m8
    have m14 : h12 (64) = some (.inl (10, [.int (th), .ref (65), .ref (66), .ref (67), .ref (68), .ref (69), .ref (70), .ref (71), .ref (72), .ref (73), .ref (74), .ref (75), .ref (76), .ref (77), .ref (78), .ref (79), .ref (80), .ref (81), .ref (82), .ref (83), .ref (84), .int (nI (wt)), .int (nI (zbi un)), .int (rp), .int (wi), .int (pa), .int (be), .int (ru), .int (sa), .int (me), .int (se), .int (ta), .int (fa), .ref (85), .ref (86), .ref (87), .int (nI ((((if ft = true then [] else 1 :: V) ++ R) ++ A).length)), .ref (88), .ref (89), .ref (90), .ref (91), .ref (92), .ref (93), .int (nI (tp)), .ref (94), .int (nI (ou))])) := (s12 _ (by unfold zs7; omega)).trans o7
    have lD := zder_len (zod kd) ((if ft = true then [] else 1 :: V) ++ R ++ A) (zsd kd)
    obtain ⟨la15, lb15, lc15, lf15, ld15, le15⟩ := id d12
    obtain ⟨if16, ih16⟩ := id ((((V1).keep (s5 _ (by unfold zsp; omega))).keep (s7 _ (by unfold zsp; omega))).keep (s12 _ (by unfold zs7; omega)))
    refine zp_iconst (v := nI (0)) dX11_seedDigest_68 (by decide) ?_
    refine zp_istore (ls' := [some (.ref (64)), some (.ref (a)), some (.int (nI (zbi ft))), some (.int (nI (R.length))), some (.int (nI (A.length))), some (.int (nI (0)))]) dX11_seedDigest_69 (by decide) rfl ?_
    refine zp_pc (pc' := 71) rfl ?_
    have lp17 : zP g mX11_seedDigest (zR 5 0 0) Qf 0 0 100 [some (.ref (64)), some (.ref (a)), some (.int (nI (zbi ft))), some (.int (nI (R.length))), some (.int (nI (A.length))), some (.int (nI (zsd kd)))] [] (va_up h12 (a + 1) (some (.inr (111, .inl (zfl if16 (0) (zsd kd) (fun i => nI ((zder (zod kd) ((if ft = true then [] else 1 :: V) ++ R ++ A) (zsd kd)).getD i 0))))))) n → ∀ (m k17 : Nat), m = (zsd kd) - k17 → k17 ≤ (zsd kd) → zP g mX11_seedDigest (zR 5 0 0) Qf 0 0 71 [some (.ref (64)), some (.ref (a)), some (.int (nI (zbi ft))), some (.int (nI (R.length))), some (.int (nI (A.length))), some (.int (nI (k17)))] [] (va_up h12 (a + 1) (some (.inr (111, .inl (zfl if16 (0) (k17) (fun i => nI ((zder (zod kd) ((if ft = true then [] else 1 :: V) ++ R ++ A) (zsd kd)).getD i 0))))))) n := by
      intro kk m
      induction m using Nat.strongRecOn with
      | _ m ih =>
        intro k17 hm17 hk17
        refine zp_nh (fun hX17 eX17 => ?_)
        have k18_0 := (congrFun eX17 (a)).trans ((va_up_ne _ _ (by omega)).trans m13)
        have k18_1 := (congrFun eX17 (64)).trans ((va_up_ne _ _ (by omega)).trans m14)
        have k18_2 := (congrFun eX17 (89)).trans ((va_up_ne _ _ (by omega)).trans ld15)
        have k18_3 : hX17 (a + 1) = some (.inr (111, .inl (zfl if16 (0) (k17) (fun i => nI ((zder (zod kd) ((if ft = true then [] else 1 :: V) ++ R ++ A) (zsd kd)).getD i 0))))) := by rw [eX17]; exact va_up_self _ _ _
        refine zp_iload dX11_seedDigest_71 rfl ?_
        refine zp_aload_n dX11_seedDigest_73 rfl ?_
        refine zp_callV (As := []) (k := a) (st := [.int (nI (k17))]) (ci := 9) dX11_seedDigest_74 cX11_229 rfl k18_0 rfl rfl (e_zseed k18_0 hkd) (by decide) (by decide) (Nat.le_of_ble_eq_true rfl) (fun v19 h19 n19 q19 => ?_)
        obtain ⟨rfl, H19, N19⟩ := q19
        rw [N19, H19]
        refine zp_nrm (cells' := 0) (slots' := 0) (st' := [.int (nI (zsd kd)), .int (nI (k17))]) rfl rfl rfl ?_
        refine zp_pc (pc' := 77) rfl ?_
        refine zn_icmp_ge (tgt := 100) dX11_seedDigest_77 (by decide) (by omega) (by omega) (fun c77 => ?_) (fun c77 => ?_)
        · have e17 : k17 = (zsd kd) := by omega
          subst e17
          rw [eX17]
          exact kk
        · refine zp_aload_n dX11_seedDigest_80 rfl ?_
          refine zp_get dX11_seedDigest_81 gX11_226_9 k18_0 rfl ?_
          refine zp_iload dX11_seedDigest_84 rfl ?_
          refine zp_aload_n dX11_seedDigest_86 rfl ?_
          refine zp_get dX11_seedDigest_87 gX11_102_10 k18_1 rfl ?_
          refine zp_iload dX11_seedDigest_90 rfl ?_
          refine zp_pc (pc' := 92) rfl ?_
          refine zn_iald (j := k17) dX11_seedDigest_92 k18_2 (by omega) (by omega) ?_
          refine zp_i (y := nI ((zder (zod kd) ((if ft = true then [] else 1 :: V) ++ R ++ A) (zsd kd)).getD k17 0)) (le15 _ (by rw [lD]; omega)) ?_
          refine zn_iast dX11_seedDigest_93 (by omega) k18_3 (by omega) (by omega) ?_
          refine zp_nh (fun h20x eh20x => ?_)
          have k20_0 := (congrFun eh20x (a)).trans ((va_up_ne _ _ (by omega)).trans k18_0)
          have k20_1 := (congrFun eh20x (64)).trans ((va_up_ne _ _ (by omega)).trans k18_1)
          have k20_2 := (congrFun eh20x (89)).trans ((va_up_ne _ _ (by omega)).trans k18_2)
          have k20_3 : h20x (a + 1) = some (.inr (111, .inl (va_up (zfl if16 (0) (k17) (fun i => nI ((zder (zod kd) ((if ft = true then [] else 1 :: V) ++ R ++ A) (zsd kd)).getD i 0))) (k17) (nI ((zder (zod kd) ((if ft = true then [] else 1 :: V) ++ R ++ A) (zsd kd)).getD k17 0))))) := by rw [eh20x]; exact va_up_self _ _ _
          have sw21 : zsm hX17 h20x (zon (a + 1)) := zsm.rf.up eh20x rfl
          have zw21 : zsh hX17 h20x := zsh.fill eh20x k18_3
          refine zp_pc (pc' := 94) rfl ?_
          refine zn_iinc 1 (ls' := [some (.ref (64)), some (.ref (a)), some (.int (nI (zbi ft))), some (.int (nI (R.length))), some (.int (nI (A.length))), some (.int (nI (k17 + 1)))]) dX11_seedDigest_94 (by decide) (by decide) rfl rfl ?_
          refine zp_goto (tgt := 71) dX11_seedDigest_97 (by decide) ?_
          refine zp_pc (pc' := 71) rfl ?_
          rw [zfl_step eX17 eh20x (by omega) rfl]
          exact ih ((zsd kd) - (k17 + 1)) (by omega) (k17 + 1) rfl (by omega)
    suffices K17 : zP g mX11_seedDigest (zR 5 0 0) Qf 0 0 100 [some (.ref (64)), some (.ref (a)), some (.int (nI (zbi ft))), some (.int (nI (R.length))), some (.int (nI (A.length))), some (.int (nI (zsd kd)))] [] (va_up h12 (a + 1) (some (.inr (111, .inl (zfl if16 (0) (zsd kd) (fun i => nI ((zder (zod kd) ((if ft = true then [] else 1 :: V) ++ R ++ A) (zsd kd)).getD i 0))))))) n by
      have q := lp17 K17 ((zsd kd) - 0) 0 rfl (Nat.zero_le _)
      rw [zfl_0, zup_same ih16] at q
      exact q
    refine zp_nh (fun hY17 eY17 => ?_)
    have k22_0 := (congrFun eY17 (a)).trans ((va_up_ne _ _ (by omega)).trans m13)
    have k22_1 := (congrFun eY17 (64)).trans ((va_up_ne _ _ (by omega)).trans m14)
    have k22_2 := (congrFun eY17 (89)).trans ((va_up_ne _ _ (by omega)).trans ld15)
    have k22_3 : hY17 (a + 1) = some (.inr (111, .inl (zfl if16 (0) (zsd kd) (fun i => nI ((zder (zod kd) ((if ft = true then [] else 1 :: V) ++ R ++ A) (zsd kd)).getD i 0))))) := by rw [eY17]; exact va_up_self _ _ _
    have sf23 := (zsm.fill eY17)
    have zf23 := zsh.fill eY17 ih16
    refine zp_aload_n dX11_seedDigest_100 rfl ?_
    refine zp_pc (pc' := 101) rfl ?_
    have aV : zar hY17 (a + 1) 111 (zder (zod kd) ((if ft = true then [] else 1 :: V) ++ R ++ A) (zsd kd)) := zar.mk (L := zsd kd) k22_3 lD (by omega) (by decide) lc15 (fun j hj => zfl_in0 hj)
    refine zp_callV (As := []) (k := 64) (st := []) (ci := 10) dX11_seedDigest_101 cX11_223 rfl k22_1 rfl rfl (e_mbegin k22_1) (by decide) (by decide) (Nat.le_of_ble_eq_true rfl) (fun v24 h24 n24 q24 => ?_)
    obtain ⟨rfl, N24, s24, z24, o24⟩ := q24
    rw [N24]
    refine zp_nrm (cells' := 0) (slots' := 0) (st' := []) rfl rfl rfl ?_
    have m25 : h24 (a) = some (.inl (9, [.int (nI (zbi tr)), .int (nI (kd)), .int (nI (st)), .int (nI (iv)), .int (nI (zbi rs)), .int (nI (ct)), .int (dr), .int (nI (sd)), .ref (a + 1), .ref (a + 2)])) := (s24 _ (by unfold zon; omega)).trans k22_0
    have m26 : h24 (89) = some (.inr (111, .inl lf15)) := (s24 _ (by unfold zon; omega)).trans k22_2
    have m27 : h24 (a + 1) = some (.inr (111, .inl (zfl if16 (0) (zsd kd) (fun i => nI ((zder (zod kd) ((if ft = true then [] else 1 :: V) ++ R ++ A) (zsd kd)).getD i 0))))) := (s24 _ (by unfold zon; omega)).trans k22_3
    have W28 := zmw.sh W11 ((((s12).mono (fun i hi => by unfold zwf; unfold zs7 at hi; omega)).trans ((sf23).mono (fun i hi => by unfold zwf; unfold zon at hi; omega))).trans ((s24).mono (fun i hi => by unfold zwf; unfold zon at hi; omega))) (((z12).trans zf23).trans z24) (fun i hi => hi)
    have xx24 : zar h24 87 1000 [] := zar.nil W28.m87 (by decide)
    refine zp_aload_n dX11_seedDigest_104 rfl ?_
    refine zp_iconst (v := nI (0)) dX11_seedDigest_105 (by decide) ?_
    refine zp_pc (pc' := 106) rfl ?_
    refine zp_callV (As := [.int (nI (0))]) (k := 64) (st := []) (ci := 10) dX11_seedDigest_106 cX11_215 rfl o24 rfl rfl (e_mput (xs := []) (x := 0) o24 xx24 (by decide) (by simp only [List.length_append, List.length_cons, List.length_nil, List.length_singleton]; omega)) (by decide) (by decide) (Nat.le_of_ble_eq_true rfl) (fun v29 h29 n29 q29 => ?_)
    obtain ⟨rfl, N29, s29, z29, o29, x29⟩ := q29
    rw [N29]
    refine zp_nrm (cells' := 0) (slots' := 0) (st' := []) rfl rfl rfl ?_
    have m30 : h29 (a) = some (.inl (9, [.int (nI (zbi tr)), .int (nI (kd)), .int (nI (st)), .int (nI (iv)), .int (nI (zbi rs)), .int (nI (ct)), .int (dr), .int (nI (sd)), .ref (a + 1), .ref (a + 2)])) := (s29 _ (by unfold zsp; omega)).trans m25
    have m31 : h29 (89) = some (.inr (111, .inl lf15)) := (s29 _ (by unfold zsp; omega)).trans m26
    have m32 : h29 (a + 1) = some (.inr (111, .inl (zfl if16 (0) (zsd kd) (fun i => nI ((zder (zod kd) ((if ft = true then [] else 1 :: V) ++ R ++ A) (zsd kd)).getD i 0))))) := (s29 _ (by unfold zsp; omega)).trans m27
    refine zp_aload_n dX11_seedDigest_109 rfl ?_
    refine zp_aload_n dX11_seedDigest_110 rfl ?_
    refine zp_get dX11_seedDigest_111 gX11_226_9 m30 rfl ?_
    refine zp_aload_n dX11_seedDigest_114 rfl ?_
    refine zp_pc (pc' := 115) rfl ?_
    refine zp_callV (As := []) (k := a) (st := [.ref (a + 1), .ref (64)]) (ci := 9) dX11_seedDigest_115 cX11_229 rfl m30 rfl rfl (e_zseed m30 hkd) (by decide) (by decide) (Nat.le_of_ble_eq_true rfl) (fun v33 h33 n33 q33 => ?_)
    obtain ⟨rfl, H33, N33⟩ := q33
    rw [N33, H33]
    refine zp_nrm (cells' := 0) (slots' := 0) (st' := [.int (nI (zsd kd)), .ref (a + 1), .ref (64)]) rfl rfl rfl ?_
    refine zp_i (y := nI ((zder (zod kd) ((if ft = true then [] else 1 :: V) ++ R ++ A) (zsd kd)).length)) (by rw [lD]) ?_
    refine zp_callV (As := [.ref (a + 1), .int (nI ((zder (zod kd) ((if ft = true then [] else 1 :: V) ++ R ++ A) (zsd kd)).length))]) (k := 64) (st := []) (ci := 10) dX11_seedDigest_118 cX11_233 rfl o29 rfl rfl (e_mputs (xs := ([] ++ [0])) (ys := (zder (zod kd) ((if ft = true then [] else 1 :: V) ++ R ++ A) (zsd kd))) (q := a + 1) o29 x29 ((aV).keep (s24 _ (by unfold zon; omega))).keep (s29 _ (by unfold zsp; omega)) (by omega) (by simp only [List.length_append, List.length_cons, List.length_nil, List.length_singleton]; omega)) (by decide) (by decide) (Nat.le_of_ble_eq_true rfl) (fun v34 h34 n34 q34 => ?_)
    obtain ⟨rfl, N34, s34, z34, o34, x34⟩ := q34
    rw [N34]
    refine zp_nrm (cells' := 0) (slots' := 0) (st' := []) rfl rfl rfl ?_
    have m35 : h34 (a) = some (.inl (9, [.int (nI (zbi tr)), .int (nI (kd)), .int (nI (st)), .int (nI (iv)), .int (nI (zbi rs)), .int (nI (ct)), .int (dr), .int (nI (sd)), .ref (a + 1), .ref (a + 2)])) := (s34 _ (by unfold zsp; omega)).trans m30
    have m36 : h34 (89) = some (.inr (111, .inl lf15)) := (s34 _ (by unfold zsp; omega)).trans m31
    have m37 : h34 (a + 1) = some (.inr (111, .inl (zfl if16 (0) (zsd kd) (fun i => nI ((zder (zod kd) ((if ft = true then [] else 1 :: V) ++ R ++ A) (zsd kd)).getD i 0))))) := (s34 _ (by unfold zsp; omega)).trans m32
    refine zp_aload_n dX11_seedDigest_121 rfl ?_
    refine zp_aload_n dX11_seedDigest_122 rfl ?_
    refine zp_callV (As := []) (k := a) (st := [.ref (64)]) (ci := 9) dX11_seedDigest_123 cX11_235 rfl m35 rfl rfl (e_zgreat m35 hkd) (by decide) (by decide) (Nat.le_of_ble_eq_true rfl) (fun v38 h38 n38 q38 => ?_)
    obtain ⟨rfl, H38, N38⟩ := q38
    rw [N38, H38]
    refine zp_nrm (cells' := 0) (slots' := 0) (st' := [.int (nI (zbi (zgr kd))), .ref (64)]) rfl rfl rfl ?_
    refine zp_i (y := nI (zbi (zod kd))) (by rw [hgr]) ?_
    refine zp_aload_n dX11_seedDigest_126 rfl ?_
    refine zp_get dX11_seedDigest_127 gX11_96_10 o34 rfl ?_
    refine zp_aload_n dX11_seedDigest_130 rfl ?_
    refine zp_get dX11_seedDigest_131 gX11_212_10 o34 rfl ?_
    refine zp_aload_n dX11_seedDigest_134 rfl ?_
    refine zp_get dX11_seedDigest_135 gX11_243_9 m35 rfl ?_
    refine zp_aload_n dX11_seedDigest_138 rfl ?_
    refine zp_callV (As := []) (k := a) (st := [.ref (a + 2), .int (nI ((([] ++ [0]) ++ (zder (zod kd) ((if ft = true then [] else 1 :: V) ++ R ++ A) (zsd kd))).length)), .ref (87), .int (nI (zbi (zod kd))), .ref (64)]) (ci := 9) dX11_seedDigest_139 cX11_229 rfl m35 rfl rfl (e_zseed m35 hkd) (by decide) (by decide) (Nat.le_of_ble_eq_true rfl) (fun v39 h39 n39 q39 => ?_)
    obtain ⟨rfl, H39, N39⟩ := q39
    rw [N39, H39]
    refine zp_nrm (cells' := 0) (slots' := 0) (st' := [.int (nI (zsd kd)), .ref (a + 2), .int (nI ((([] ++ [0]) ++ (zder (zod kd) ((if ft = true then [] else 1 :: V) ++ R ++ A) (zsd kd))).length)), .ref (87), .int (nI (zbi (zod kd))), .ref (64)]) rfl rfl rfl ?_
    refine zp_pc (pc' := 142) rfl ?_
    have W40 := zmw.sh W28 (((s29).mono (fun i hi => by unfold zwf; unfold zsp at hi; omega)).trans ((s34).mono (fun i hi => by unfold zwf; unfold zsp at hi; omega))) ((z29).trans z34) (fun i hi => hi)
    refine zp_callV (As := [.int (nI (zbi (zod kd))), .ref (87), .int (nI ((([] ++ [0]) ++ (zder (zod kd) ((if ft = true then [] else 1 :: V) ++ R ++ A) (zsd kd))).length)), .ref (a + 2), .int (nI (zsd kd))]) (k := 64) (st := []) (ci := 10) dX11_seedDigest_142 cX11_239 rfl o34 rfl rfl (e_mderW (b := (zod kd)) (p := 87) (r := a + 2) (k := zsd kd) W40 o34 x34 ((((((((C1).keep (s5 _ (by unfold zsp; omega))).keep (s7 _ (by unfold zsp; omega))).keep (s12 _ (by unfold zs7; omega))).keep (sf23 _ (by unfold zon; omega))).keep (s24 _ (by unfold zon; omega))).keep (s29 _ (by unfold zsp; omega))).keep (s34 _ (by unfold zsp; omega))) (by omega) (by decide) (by omega) (by omega) (by omega) (by simp only [List.length_append, List.length_cons, List.length_nil, List.length_singleton]; omega) (by omega)) (by decide) (by decide) (Nat.le_of_ble_eq_true rfl) (fun v41 h41 n41 q41 => ?_)
    obtain ⟨rfl, N41, s41, z41, d41⟩ := q41
    rw [N41]
    refine zp_nrm (cells' := 0) (slots' := 0) (st' := []) rfl rfl rfl ?_
    have m42 : h41 (a) = some (.inl (9, [.int (nI (zbi tr)), .int (nI (kd)), .int (nI (st)), .int (nI (iv)), .int (nI (zbi rs)), .int (nI (ct)), .int (dr), .int (nI (sd)), .ref (a + 1), .ref (a + 2)])) := (s41 _ (by unfold zs7; omega)).trans m35
    have m43 : h41 (89) = some (.inr (111, .inl lf15)) := (s41 _ (by unfold zs7; omega)).trans m36
    have m44 : h41 (a + 1) = some (.inr (111, .inl (zfl if16 (0) (zsd kd) (fun i => nI ((zder (zod kd) ((if ft = true then [] else 1 :: V) ++ R ++ A) (zsd kd)).getD i 0))))) := (s41 _ (by unfold zs7; omega)).trans m37
    have m45 : h41 (64) = some (.inl (10, [.int (th), .ref (65), .ref (66), .ref (67), .ref (68), .ref (69), .ref (70), .ref (71), .ref (72), .ref (73), .ref (74), .ref (75), .ref (76), .ref (77), .ref (78), .ref (79), .ref (80), .ref (81), .ref (82), .ref (83), .ref (84), .int (nI (wt)), .int (nI (zbi un)), .int (rp), .int (wi), .int (pa), .int (be), .int (ru), .int (sa), .int (me), .int (se), .int (ta), .int (fa), .ref (85), .ref (86), .ref (87), .int (nI ((([] ++ [0]) ++ (zder (zod kd) ((if ft = true then [] else 1 :: V) ++ R ++ A) (zsd kd))).length)), .ref (88), .ref (89), .ref (90), .ref (91), .ref (92), .ref (93), .int (nI (tp)), .ref (94), .int (nI (ou))])) := (s41 _ (by unfold zs7; omega)).trans o34
    refine zp_pc (pc' := 145) rfl ?_
    refine zp_ret (v := none) dX11_seedDigest_145 ⟨rfl, rfl⟩ (by decide) (by decide) ?_
    rw [hQ]
    exact ⟨rfl, rfl, (s1.mono (fun i hi => by unfold zsg; unfold zsp at hi; omega)).trans (((((((((s5).mono (fun i hi => by unfold zsg; unfold zsp at hi; omega)).trans ((s7).mono (fun i hi => by unfold zsg; unfold zsp at hi; omega))).trans ((s12).mono (fun i hi => by unfold zsg; unfold zs7 at hi; omega))).trans ((sf23).mono (fun i hi => by unfold zsg; unfold zon at hi; omega))).trans ((s24).mono (fun i hi => by unfold zsg; unfold zon at hi; omega))).trans ((s29).mono (fun i hi => by unfold zsg; unfold zsp at hi; omega))).trans ((s34).mono (fun i hi => by unfold zsg; unfold zsp at hi; omega))).trans ((s41).mono (fun i hi => by unfold zsg; unfold zs7 at hi; omega))), z1.trans ((((((((z5).trans z7).trans z12).trans zf23).trans z24).trans z29).trans z34).trans z41), ⟨_, m45⟩, ((((aV).keep (s24 _ (by unfold zon; omega))).keep (s29 _ (by unfold zsp; omega))).keep (s34 _ (by unfold zsp; omega))).keep (s41 _ (by unfold zs7; omega)), d41⟩
  refine zn_if_ne (tgt := 25) dX11_seedDigest_5 (by decide) (by have := zbi_lt ft; omega) (fun c5 => ?_) (fun c5 => ?_)
  · have bt : ft = true := by cases ft; exact absurd rfl c5; rfl
    exact kt4 h1 ((s1).mono (fun i hi => by unfold zsp; unfold zon at hi; omega)) (z1) (by rw [if_pos bt]; exact o1) (by rw [if_pos bt]; exact xx1)
  · have bt : ft = false := by cases ft; rfl; exact absurd c5 (by decide)
    have lV := lV bt
    refine zp_aload_n dX11_seedDigest_8 rfl ?_
    refine zp_iconst (v := nI (1)) dX11_seedDigest_9 (by decide) ?_
    refine zp_pc (pc' := 10) rfl ?_
    refine zp_callV (As := [.int (nI (1))]) (k := 64) (st := []) (ci := 10) dX11_seedDigest_10 cX11_215 rfl o1 rfl rfl (e_mput (xs := []) (x := 1) o1 xx1 (by decide) (by simp only [List.length_append, List.length_cons, List.length_nil, List.length_singleton]; omega)) (by decide) (by decide) (Nat.le_of_ble_eq_true rfl) (fun v46 h46 n46 q46 => ?_)
    obtain ⟨rfl, N46, s46, z46, o46, x46⟩ := q46
    rw [N46]
    refine zp_nrm (cells' := 0) (slots' := 0) (st' := []) rfl rfl rfl ?_
    have m47 : h46 (a) = some (.inl (9, [.int (nI (zbi tr)), .int (nI (kd)), .int (nI (st)), .int (nI (iv)), .int (nI (zbi rs)), .int (nI (ct)), .int (dr), .int (nI (sd)), .ref (a + 1), .ref (a + 2)])) := (s46 _ (by unfold zsp; omega)).trans m2
    refine zp_aload_n dX11_seedDigest_13 rfl ?_
    refine zp_aload_n dX11_seedDigest_14 rfl ?_
    refine zp_get dX11_seedDigest_15 gX11_226_9 m47 rfl ?_
    refine zp_aload_n dX11_seedDigest_18 rfl ?_
    refine zp_pc (pc' := 19) rfl ?_
    refine zp_callV (As := []) (k := a) (st := [.ref (a + 1), .ref (64)]) (ci := 9) dX11_seedDigest_19 cX11_229 rfl m47 rfl rfl (e_zseed m47 hkd) (by decide) (by decide) (Nat.le_of_ble_eq_true rfl) (fun v48 h48 n48 q48 => ?_)
    obtain ⟨rfl, H48, N48⟩ := q48
    rw [N48, H48]
    refine zp_nrm (cells' := 0) (slots' := 0) (st' := [.int (nI (zsd kd)), .ref (a + 1), .ref (64)]) rfl rfl rfl ?_
    refine zp_i (y := nI (V.length)) (by rw [lV]) ?_
    refine zp_callV (As := [.ref (a + 1), .int (nI (V.length))]) (k := 64) (st := []) (ci := 10) dX11_seedDigest_22 cX11_233 rfl o46 rfl rfl (e_mputs (xs := ([] ++ [1])) (ys := V) (q := a + 1) o46 x46 ((hV).keep (s1 _ (by unfold zon; omega))).keep (s46 _ (by unfold zsp; omega)) (by omega) (by simp only [List.length_append, List.length_cons, List.length_nil, List.length_singleton]; omega)) (by decide) (by decide) (Nat.le_of_ble_eq_true rfl) (fun v49 h49 n49 q49 => ?_)
    obtain ⟨rfl, N49, s49, z49, o49, x49⟩ := q49
    rw [N49]
    refine zp_nrm (cells' := 0) (slots' := 0) (st' := []) rfl rfl rfl ?_
    have m50 : h49 (a) = some (.inl (9, [.int (nI (zbi tr)), .int (nI (kd)), .int (nI (st)), .int (nI (iv)), .int (nI (zbi rs)), .int (nI (ct)), .int (dr), .int (nI (sd)), .ref (a + 1), .ref (a + 2)])) := (s49 _ (by unfold zsp; omega)).trans m47
    refine zp_pc (pc' := 25) rfl ?_
    exact kt4 h49 ((((s1).mono (fun i hi => by unfold zsp; unfold zon at hi; omega)).trans ((s46).mono (fun i hi => by unfold zsp; unfold zsp at hi; omega))).trans ((s49).mono (fun i hi => by unfold zsp; unfold zsp at hi; omega))) (((z1).trans z46).trans z49) (by rw [if_neg (by rw [bt]; decide)]; exact o49) (by rw [if_neg (by rw [bt]; decide)]; exact x49)
set_option maxRecDepth 10000 in
set_option maxHeartbeats 2000000 in
theorem e_zdrawD {g : ZG} {h : ZH} {n : Nat} {a kd st iv ct sd : Nat} {tr rs : Bool} {dr : Int32} {V C A : List Nat} {k : Nat} {th : Int32} {wt : Nat} {un : Bool} {rp wi pa be ru sa me se ta fa : Int32} {mn tp ou : Nat} (hw : zmw h) (ho : h 64 = some (.inl (10, [.int (th), .ref (65), .ref (66), .ref (67), .ref (68), .ref (69), .ref (70), .ref (71), .ref (72), .ref (73), .ref (74), .ref (75), .ref (76), .ref (77), .ref (78), .ref (79), .ref (80), .ref (81), .ref (82), .ref (83), .ref (84), .int (nI (wt)), .int (nI (zbi un)), .int (rp), .int (wi), .int (pa), .int (be), .int (ru), .int (sa), .int (me), .int (se), .int (ta), .int (fa), .ref (85), .ref (86), .ref (87), .int (nI (mn)), .ref (88), .ref (89), .ref (90), .ref (91), .ref (92), .ref (93), .int (nI (tp)), .ref (94), .int (nI (ou))]))) (hg : h a = some (.inl (9, [.int (nI (zbi tr)), .int (nI (kd)), .int (nI (st)), .int (nI (iv)), .int (nI (zbi rs)), .int (nI (ct)), .int (dr), .int (nI (sd)), .ref (a + 1), .ref (a + 2)]))) (ha : a = 95 ∨ a = 98 ∨ a = 101 ∨ a = 104) (hkd : kd < 8) (hk2 : kd < 2) (hV : zar h (a + 1) 111 V) (hC : zar h (a + 2) 111 C) (hA : zar h 93 240 A) (hO : zia h 94 4096) (lV : V.length = zsd kd) (lC : C.length = zsd kd) (hk : k ≤ 4096) (hct : ct < 2 ^ 31) : zMt g mX11_drawDigest (zR 5 0 0) [.ref (64), .ref (a), .int (nI (k)), .int (nI (A.length))] h n (fun v h' n' => v = none ∧ n' = n ∧ zsm h h' (zsgo a) ∧ zsh h h' ∧ (∃ mn', h' 64 = some (.inl (10, [.int (th), .ref (65), .ref (66), .ref (67), .ref (68), .ref (69), .ref (70), .ref (71), .ref (72), .ref (73), .ref (74), .ref (75), .ref (76), .ref (77), .ref (78), .ref (79), .ref (80), .ref (81), .ref (82), .ref (83), .ref (84), .int (nI (wt)), .int (nI (zbi un)), .int (rp), .int (wi), .int (pa), .int (be), .int (ru), .int (sa), .int (me), .int (se), .int (ta), .int (fa), .ref (85), .ref (86), .ref (87), .int (nI (mn')), .ref (88), .ref (89), .ref (90), .ref (91), .ref (92), .ref (93), .int (nI (tp)), .ref (94), .int (nI (ou))]))) ∧ zar h' 94 4096 (zpr kd ct k V C A).1 ∧ zar h' (a + 1) 111 (zpr kd ct k V C A).2.1 ∧ zar h' (a + 2) 111 (zpr kd ct k V C A).2.2) := by
  refine zMt.of [some (.ref (64)), some (.ref (a)), some (.int (nI (k))), some (.int (nI (A.length))), none, none, none] (by decide) rfl (Nat.le_of_ble_eq_true rfl) ?_
  obtain ⟨Qf, hQ⟩ : ∃ Qf : ZQ, Qf = (fun v h' n' => v = none ∧ n' = n ∧ zsm h h' (zsgo a) ∧ zsh h h' ∧ (∃ mn', h' 64 = some (.inl (10, [.int (th), .ref (65), .ref (66), .ref (67), .ref (68), .ref (69), .ref (70), .ref (71), .ref (72), .ref (73), .ref (74), .ref (75), .ref (76), .ref (77), .ref (78), .ref (79), .ref (80), .ref (81), .ref (82), .ref (83), .ref (84), .int (nI (wt)), .int (nI (zbi un)), .int (rp), .int (wi), .int (pa), .int (be), .int (ru), .int (sa), .int (me), .int (se), .int (ta), .int (fa), .ref (85), .ref (86), .ref (87), .int (nI (mn')), .ref (88), .ref (89), .ref (90), .ref (91), .ref (92), .ref (93), .int (nI (tp)), .ref (94), .int (nI (ou))]))) ∧ zar h' 94 4096 (zpr kd ct k V C A).1 ∧ zar h' (a + 1) 111 (zpr kd ct k V C A).2.1 ∧ zar h' (a + 2) 111 (zpr kd ct k V C A).2.2) := ⟨_, rfl⟩
  rw [← hQ]
  have hgr := zgr_odd (show kd < 4 by omega)
  have hs := zsd_le hkd
  have hz := zwb_or (zod kd)
  have lA := hA.1
  have vb := hV.bytes
  have hsz : 8 * zwb (zod kd) ≤ zsd kd := by have : kd = 0 ∨ kd = 1 := by omega
      rcases this with rfl | rfl <;> decide
  obtain ⟨V1, eV1⟩ : ∃ V1 : List Nat, V1 = (if 0 < A.length then zplus V (zval (zhash (zod kd) (2 :: (V ++ A)))) else V) := ⟨_, rfl⟩
  have lV1 : V1.length = zsd kd := by rw [eV1]; split; rw [zplus_len, lV]; exact lV
  have vb1 : ∀ x ∈ V1, x < 256 := by rw [eV1]; split; exact znum_lt _ _; exact vb
  have ep : zpr kd ct k V C A = zpr4 (zod kd) ct k V C V1 := by rw [eV1]; exact if_pos hk2
  rw [ep] at hQ
  refine zp_aload_n dX11_drawDigest_0 rfl ?_
  refine zp_callV (As := []) (k := a) (st := []) (ci := 9) dX11_drawDigest_1 cX11_235 rfl hg rfl rfl (e_zgreat hg hkd) (by decide) (by decide) (Nat.le_of_ble_eq_true rfl) (fun v1 h1 n1 q1 => ?_)
  obtain ⟨rfl, H1, N1⟩ := q1
  rw [N1, H1]
  refine zp_nrm (cells' := 0) (slots' := 0) (st' := [.int (nI (zbi (zgr kd)))]) rfl rfl rfl ?_
  refine zp_i (y := nI (zbi (zod kd))) (by rw [hgr]) ?_
  refine zp_callS (As := [.int (nI (zbi (zod kd)))]) (st := []) dX11_drawDigest_4 cX11_166 rfl (e_sizeOf (b := (zod kd))) (by decide) (by decide) (Nat.le_of_ble_eq_true rfl) (fun v2 h2 n2 q2 => ?_)
  obtain ⟨rfl, H2, N2⟩ := q2
  rw [N2, H2]
  refine zp_nrm (cells' := 0) (slots' := 0) (st' := [.int (nI (8 * zwb (zod kd)))]) rfl rfl rfl ?_
  refine zp_istore (ls' := [some (.ref (64)), some (.ref (a)), some (.int (nI (k))), some (.int (nI (A.length))), some (.int (nI (8 * zwb (zod kd)))), none, none]) dX11_drawDigest_7 (by decide) rfl ?_
  refine zp_iload_n dX11_drawDigest_9 rfl ?_
  refine zp_pc (pc' := 10) rfl ?_
  have kt3 : ∀ (h1 : ZH), zsm h h1 (zsgo a) → zsh h h1 → (∃ mn1, h1 64 = some (.inl (10, [.int (th), .ref (65), .ref (66), .ref (67), .ref (68), .ref (69), .ref (70), .ref (71), .ref (72), .ref (73), .ref (74), .ref (75), .ref (76), .ref (77), .ref (78), .ref (79), .ref (80), .ref (81), .ref (82), .ref (83), .ref (84), .int (nI (wt)), .int (nI (zbi un)), .int (rp), .int (wi), .int (pa), .int (be), .int (ru), .int (sa), .int (me), .int (se), .int (ta), .int (fa), .ref (85), .ref (86), .ref (87), .int (nI (mn1)), .ref (88), .ref (89), .ref (90), .ref (91), .ref (92), .ref (93), .int (nI (tp)), .ref (94), .int (nI (ou))]))) → zar h1 (a + 1) 111 V1 → zar h1 (a + 2) 111 C → zia h1 94 4096 → zP g mX11_drawDigest (zR 5 0 0) Qf 0 0 76 [some (.ref (64)), some (.ref (a)), some (.int (nI (k))), some (.int (nI (A.length))), some (.int (nI (8 * zwb (zod kd)))), none, none] [] h1 n := by
    intro h1 s1 z1 o1 V1h C1h hO1
    have W1 := hw.sh s1 z1 (fun i q => by unfold zsgo at q; unfold zwf; omega)
    obtain ⟨mn1, o1⟩ := o1
    have g1 : h1 a = some (.inl (9, [.int (nI (zbi tr)), .int (nI (kd)), .int (nI (st)), .int (nI (iv)), .int (nI (zbi rs)), .int (nI (ct)), .int (dr), .int (nI (sd)), .ref (a + 1), .ref (a + 2)])) := (s1 _ (by unfold zsgo; omega)).trans hg
    obtain ⟨la4, lb4, lc4, lf4, ld4, le4⟩ := id V1h
    obtain ⟨if5, ih5⟩ := id (W1.m89)
    refine zp_iconst (v := nI (0)) dX11_drawDigest_76 (by decide) ?_
    refine zp_istore (ls' := [some (.ref (64)), some (.ref (a)), some (.int (nI (k))), some (.int (nI (A.length))), some (.int (nI (8 * zwb (zod kd)))), some (.int (nI (0))), none]) dX11_drawDigest_77 (by decide) rfl ?_
    refine zp_pc (pc' := 79) rfl ?_
    have lp6 : zP g mX11_drawDigest (zR 5 0 0) Qf 0 0 108 [some (.ref (64)), some (.ref (a)), some (.int (nI (k))), some (.int (nI (A.length))), some (.int (nI (8 * zwb (zod kd)))), some (.int (nI (zsd kd))), none] [] (va_up h1 (89) (some (.inr (111, .inl (zfl if5 (0) (zsd kd) (fun i => nI (V1.getD i 0))))))) n → ∀ (m k6 : Nat), m = (zsd kd) - k6 → k6 ≤ (zsd kd) → zP g mX11_drawDigest (zR 5 0 0) Qf 0 0 79 [some (.ref (64)), some (.ref (a)), some (.int (nI (k))), some (.int (nI (A.length))), some (.int (nI (8 * zwb (zod kd)))), some (.int (nI (k6))), none] [] (va_up h1 (89) (some (.inr (111, .inl (zfl if5 (0) (k6) (fun i => nI (V1.getD i 0))))))) n := by
      intro kk m
      induction m using Nat.strongRecOn with
      | _ m ih =>
        intro k6 hm6 hk6
        refine zp_nh (fun hX6 eX6 => ?_)
        have k7_0 := (congrFun eX6 (a)).trans ((va_up_ne _ _ (by omega)).trans g1)
        have k7_1 := (congrFun eX6 (64)).trans ((va_up_ne _ _ (by omega)).trans o1)
        have k7_2 := (congrFun eX6 (a + 1)).trans ((va_up_ne _ _ (by omega)).trans ld4)
        have k7_3 : hX6 (89) = some (.inr (111, .inl (zfl if5 (0) (k6) (fun i => nI (V1.getD i 0))))) := by rw [eX6]; exact va_up_self _ _ _
        refine zp_iload dX11_drawDigest_79 rfl ?_
        refine zp_aload_n dX11_drawDigest_81 rfl ?_
        refine zp_callV (As := []) (k := a) (st := [.int (nI (k6))]) (ci := 9) dX11_drawDigest_82 cX11_229 rfl k7_0 rfl rfl (e_zseed k7_0 hkd) (by decide) (by decide) (Nat.le_of_ble_eq_true rfl) (fun v8 h8 n8 q8 => ?_)
        obtain ⟨rfl, H8, N8⟩ := q8
        rw [N8, H8]
        refine zp_nrm (cells' := 0) (slots' := 0) (st' := [.int (nI (zsd kd)), .int (nI (k6))]) rfl rfl rfl ?_
        refine zp_pc (pc' := 85) rfl ?_
        refine zn_icmp_ge (tgt := 108) dX11_drawDigest_85 (by decide) (by omega) (by omega) (fun c85 => ?_) (fun c85 => ?_)
        · have e6 : k6 = (zsd kd) := by omega
          subst e6
          rw [eX6]
          exact kk
        · refine zp_aload_n dX11_drawDigest_88 rfl ?_
          refine zp_get dX11_drawDigest_89 gX11_102_10 k7_1 rfl ?_
          refine zp_iload dX11_drawDigest_92 rfl ?_
          refine zp_aload_n dX11_drawDigest_94 rfl ?_
          refine zp_get dX11_drawDigest_95 gX11_226_9 k7_0 rfl ?_
          refine zp_iload dX11_drawDigest_98 rfl ?_
          refine zp_pc (pc' := 100) rfl ?_
          refine zn_iald (j := k6) dX11_drawDigest_100 k7_2 (by omega) (by omega) ?_
          refine zp_i (y := nI (V1.getD k6 0)) (le4 _ (by omega)) ?_
          refine zn_iast dX11_drawDigest_101 (by omega) k7_3 (by omega) (by omega) ?_
          refine zp_nh (fun h9x eh9x => ?_)
          have k9_0 := (congrFun eh9x (a)).trans ((va_up_ne _ _ (by omega)).trans k7_0)
          have k9_1 := (congrFun eh9x (64)).trans ((va_up_ne _ _ (by omega)).trans k7_1)
          have k9_2 := (congrFun eh9x (a + 1)).trans ((va_up_ne _ _ (by omega)).trans k7_2)
          have k9_3 : h9x (89) = some (.inr (111, .inl (va_up (zfl if5 (0) (k6) (fun i => nI (V1.getD i 0))) (k6) (nI (V1.getD k6 0))))) := by rw [eh9x]; exact va_up_self _ _ _
          have sw10 : zsm hX6 h9x (zon (89)) := zsm.rf.up eh9x rfl
          have zw10 : zsh hX6 h9x := zsh.fill eh9x k7_3
          refine zp_pc (pc' := 102) rfl ?_
          refine zn_iinc 1 (ls' := [some (.ref (64)), some (.ref (a)), some (.int (nI (k))), some (.int (nI (A.length))), some (.int (nI (8 * zwb (zod kd)))), some (.int (nI (k6 + 1))), none]) dX11_drawDigest_102 (by decide) (by decide) rfl rfl ?_
          refine zp_goto (tgt := 79) dX11_drawDigest_105 (by decide) ?_
          refine zp_pc (pc' := 79) rfl ?_
          rw [zfl_step eX6 eh9x (by omega) rfl]
          exact ih ((zsd kd) - (k6 + 1)) (by omega) (k6 + 1) rfl (by omega)
    suffices K6 : zP g mX11_drawDigest (zR 5 0 0) Qf 0 0 108 [some (.ref (64)), some (.ref (a)), some (.int (nI (k))), some (.int (nI (A.length))), some (.int (nI (8 * zwb (zod kd)))), some (.int (nI (zsd kd))), none] [] (va_up h1 (89) (some (.inr (111, .inl (zfl if5 (0) (zsd kd) (fun i => nI (V1.getD i 0))))))) n by
      have q := lp6 K6 ((zsd kd) - 0) 0 rfl (Nat.zero_le _)
      rw [zfl_0, zup_same ih5] at q
      exact q
    refine zp_nh (fun hY6 eY6 => ?_)
    have k11_0 := (congrFun eY6 (a)).trans ((va_up_ne _ _ (by omega)).trans g1)
    have k11_1 := (congrFun eY6 (64)).trans ((va_up_ne _ _ (by omega)).trans o1)
    have k11_2 := (congrFun eY6 (a + 1)).trans ((va_up_ne _ _ (by omega)).trans ld4)
    have k11_3 : hY6 (89) = some (.inr (111, .inl (zfl if5 (0) (zsd kd) (fun i => nI (V1.getD i 0))))) := by rw [eY6]; exact va_up_self _ _ _
    have sf12 := (zsm.fill eY6)
    have zf12 := zsh.fill eY6 ih5
    refine zp_iconst (v := nI (0)) dX11_drawDigest_108 (by decide) ?_
    refine zp_istore (ls' := [some (.ref (64)), some (.ref (a)), some (.int (nI (k))), some (.int (nI (A.length))), some (.int (nI (8 * zwb (zod kd)))), some (.int (nI (0))), none]) dX11_drawDigest_109 (by decide) rfl ?_
    refine zp_pc (pc' := 111) rfl ?_
    refine zp_ls (ls' := [some (.ref (64)), some (.ref (a)), some (.int (nI (k))), some (.int (nI (A.length))), some (.int (nI (8 * zwb (zod kd)))), some (.int (nI (8 * zwb (zod kd) * 0))), none]) (by rw [Nat.mul_zero]) ?_
    have aF : zar hY6 89 111 (zplus V1 0) := by rw [zplus_0 vb1]; exact zar.mk (L := zsd kd) k11_3 lV1 (by omega) (by decide) vb1 (fun j hj => zfl_in0 hj)
    obtain ⟨gO, hO1⟩ := hO1
    have hO2 : hY6 94 = some (.inr (4096, .inl gO)) := (sf12 94 (by unfold zon; omega)).trans hO1
    have W13 := zmw.sh W1 ((sf12).mono (fun i hi => by unfold zwf; unfold zon at hi; omega)) (zf12) (fun i hi => hi)
    have aVb := (V1h).keep (sf12 _ (by unfold zon; omega))
    have aCb := (C1h).keep (sf12 _ (by unfold zon; omega))
    have sBB : zsm h hY6 (zsgo a) := s1.trans ((sf12).mono (fun i hi => by unfold zsgo; unfold zon at hi; omega))
    have zBB : zsh h hY6 := z1.trans (zf12)
    have lp : ∀ (m : Nat) (c : Nat) (h2 : ZH) (go : Nat → Int32), m = k - c → c ≤ k → zsm hY6 h2 zsq → zsh hY6 h2 → h2 94 = some (.inr (4096, .inl go)) → zar h2 89 111 (zplus V1 c) → (∀ j, j < k → j < 8 * zwb (zod kd) * c → go j = nI ((zdcat (zod kd) V1 k).getD j 0)) → zP g mX11_drawDigest (zR 5 0 0) Qf 0 0 111 [some (.ref (64)), some (.ref (a)), some (.int (nI (k))), some (.int (nI (A.length))), some (.int (nI (8 * zwb (zod kd)))), some (.int (nI (8 * zwb (zod kd) * c))), none] [] h2 n := by
      intro m
      induction m using Nat.strongRecOn with
      | _ m ih =>
        intro c h2 go hm2 hc2 s2 z2 er aF2 egr
        have o2 : h2 (64) = some (.inl (10, [.int (th), .ref (65), .ref (66), .ref (67), .ref (68), .ref (69), .ref (70), .ref (71), .ref (72), .ref (73), .ref (74), .ref (75), .ref (76), .ref (77), .ref (78), .ref (79), .ref (80), .ref (81), .ref (82), .ref (83), .ref (84), .int (nI (wt)), .int (nI (zbi un)), .int (rp), .int (wi), .int (pa), .int (be), .int (ru), .int (sa), .int (me), .int (se), .int (ta), .int (fa), .ref (85), .ref (86), .ref (87), .int (nI (mn1)), .ref (88), .ref (89), .ref (90), .ref (91), .ref (92), .ref (93), .int (nI (tp)), .ref (94), .int (nI (ou))])) := (s2 _ (by unfold zsq; omega)).trans k11_1
        have g2 : h2 (a) = some (.inl (9, [.int (nI (zbi tr)), .int (nI (kd)), .int (nI (st)), .int (nI (iv)), .int (nI (zbi rs)), .int (nI (ct)), .int (dr), .int (nI (sd)), .ref (a + 1), .ref (a + 2)])) := (s2 _ (by unfold zsq; omega)).trans k11_0
        have W2 := W13.sh s2 z2 (fun i q => by unfold zsq at q; unfold zwf; omega)
        have hcB := Nat.mul_le_mul (show 8 * zwb (zod kd) ≤ 64 by omega) (show c ≤ 4096 by omega)
        have hc1 := Nat.mul_le_mul (show 1 ≤ 8 * zwb (zod kd) by omega) (Nat.le_refl c)
        rw [Nat.one_mul] at hc1
        refine zp_iload dX11_drawDigest_111 rfl ?_
        refine zp_iload_n dX11_drawDigest_113 rfl ?_
        refine zp_pc (pc' := 114) rfl ?_
        refine zn_icmp_ge (tgt := 198) dX11_drawDigest_114 (by decide) (by omega) (by omega) (fun c114 => ?_) (fun c114 => ?_)
        · have O2 : zar h2 94 4096 ((zdcat (zod kd) V1 k).take k) := zar.mk (L := k) er (by rw [List.length_take, zdcat_len]; have := Nat.mul_le_mul (Nat.le_refl k) (show 1 ≤ 8 * zwb (zod kd) by omega); omega) hk (by decide) (fun x hx => zdcat_lt _ _ _ x (List.mem_of_mem_take hx)) (fun j hj => by rw [ztake_get hj]; exact egr j hj (by omega))
          have aV2 := aVb.keep (s2 (a + 1) (by unfold zsq; omega))
          have aC2 := aCb.keep (s2 (a + 2) (by unfold zsq; omega))
          refine zp_aload_n dX11_drawDigest_198 rfl ?_
          refine zp_pc (pc' := 199) rfl ?_
          refine zp_callV (As := []) (k := 64) (st := []) (ci := 10) dX11_drawDigest_199 cX11_223 rfl o2 rfl rfl (e_mbegin o2) (by decide) (by decide) (Nat.le_of_ble_eq_true rfl) (fun v14 h14 n14 q14 => ?_)
          obtain ⟨rfl, N14, s14, z14, o14⟩ := q14
          rw [N14]
          refine zp_nrm (cells' := 0) (slots' := 0) (st' := []) rfl rfl rfl ?_
          have m15 : h14 (a) = some (.inl (9, [.int (nI (zbi tr)), .int (nI (kd)), .int (nI (st)), .int (nI (iv)), .int (nI (zbi rs)), .int (nI (ct)), .int (dr), .int (nI (sd)), .ref (a + 1), .ref (a + 2)])) := (s14 _ (by unfold zon; omega)).trans g2
          have m16 : h14 (94) = some (.inr (4096, .inl go)) := (s14 _ (by unfold zon; omega)).trans er
          have W17 := zmw.sh W2 ((s14).mono (fun i hi => by unfold zwf; unfold zon at hi; omega)) (z14) (fun i hi => hi)
          have xx14 : zar h14 87 1000 [] := zar.nil W17.m87 (by decide)
          refine zp_aload_n dX11_drawDigest_202 rfl ?_
          refine zp_iconst (v := nI (3)) dX11_drawDigest_203 (by decide) ?_
          refine zp_pc (pc' := 204) rfl ?_
          refine zp_callV (As := [.int (nI (3))]) (k := 64) (st := []) (ci := 10) dX11_drawDigest_204 cX11_215 rfl o14 rfl rfl (e_mput (xs := []) (x := 3) o14 xx14 (by decide) (by simp only [List.length_append, List.length_cons, List.length_nil, List.length_singleton]; omega)) (by decide) (by decide) (Nat.le_of_ble_eq_true rfl) (fun v18 h18 n18 q18 => ?_)
          obtain ⟨rfl, N18, s18, z18, o18, x18⟩ := q18
          rw [N18]
          refine zp_nrm (cells' := 0) (slots' := 0) (st' := []) rfl rfl rfl ?_
          have m19 : h18 (a) = some (.inl (9, [.int (nI (zbi tr)), .int (nI (kd)), .int (nI (st)), .int (nI (iv)), .int (nI (zbi rs)), .int (nI (ct)), .int (dr), .int (nI (sd)), .ref (a + 1), .ref (a + 2)])) := (s18 _ (by unfold zsp; omega)).trans m15
          have m20 : h18 (94) = some (.inr (4096, .inl go)) := (s18 _ (by unfold zsp; omega)).trans m16
          refine zp_aload_n dX11_drawDigest_207 rfl ?_
          refine zp_aload_n dX11_drawDigest_208 rfl ?_
          refine zp_get dX11_drawDigest_209 gX11_226_9 m19 rfl ?_
          refine zp_aload_n dX11_drawDigest_212 rfl ?_
          refine zp_pc (pc' := 213) rfl ?_
          refine zp_callV (As := []) (k := a) (st := [.ref (a + 1), .ref (64)]) (ci := 9) dX11_drawDigest_213 cX11_229 rfl m19 rfl rfl (e_zseed m19 hkd) (by decide) (by decide) (Nat.le_of_ble_eq_true rfl) (fun v21 h21 n21 q21 => ?_)
          obtain ⟨rfl, H21, N21⟩ := q21
          rw [N21, H21]
          refine zp_nrm (cells' := 0) (slots' := 0) (st' := [.int (nI (zsd kd)), .ref (a + 1), .ref (64)]) rfl rfl rfl ?_
          refine zp_i (y := nI (V1.length)) (by rw [lV1]) ?_
          refine zp_callV (As := [.ref (a + 1), .int (nI (V1.length))]) (k := 64) (st := []) (ci := 10) dX11_drawDigest_216 cX11_233 rfl o18 rfl rfl (e_mputs (xs := ([] ++ [3])) (ys := V1) (q := a + 1) o18 x18 ((aV2).keep (s14 _ (by unfold zon; omega))).keep (s18 _ (by unfold zsp; omega)) (by omega) (by simp only [List.length_append, List.length_cons, List.length_nil, List.length_singleton]; omega)) (by decide) (by decide) (Nat.le_of_ble_eq_true rfl) (fun v22 h22 n22 q22 => ?_)
          obtain ⟨rfl, N22, s22, z22, o22, x22⟩ := q22
          rw [N22]
          refine zp_nrm (cells' := 0) (slots' := 0) (st' := []) rfl rfl rfl ?_
          have m23 : h22 (a) = some (.inl (9, [.int (nI (zbi tr)), .int (nI (kd)), .int (nI (st)), .int (nI (iv)), .int (nI (zbi rs)), .int (nI (ct)), .int (dr), .int (nI (sd)), .ref (a + 1), .ref (a + 2)])) := (s22 _ (by unfold zsp; omega)).trans m19
          have m24 : h22 (94) = some (.inr (4096, .inl go)) := (s22 _ (by unfold zsp; omega)).trans m20
          refine zp_aload_n dX11_drawDigest_219 rfl ?_
          refine zp_aload_n dX11_drawDigest_220 rfl ?_
          refine zp_callV (As := []) (k := a) (st := [.ref (64)]) (ci := 9) dX11_drawDigest_221 cX11_235 rfl m23 rfl rfl (e_zgreat m23 hkd) (by decide) (by decide) (Nat.le_of_ble_eq_true rfl) (fun v25 h25 n25 q25 => ?_)
          obtain ⟨rfl, H25, N25⟩ := q25
          rw [N25, H25]
          refine zp_nrm (cells' := 0) (slots' := 0) (st' := [.int (nI (zbi (zgr kd))), .ref (64)]) rfl rfl rfl ?_
          refine zp_i (y := nI (zbi (zod kd))) (by rw [hgr]) ?_
          refine zp_aload_n dX11_drawDigest_224 rfl ?_
          refine zp_get dX11_drawDigest_225 gX11_96_10 o22 rfl ?_
          refine zp_aload_n dX11_drawDigest_228 rfl ?_
          refine zp_get dX11_drawDigest_229 gX11_212_10 o22 rfl ?_
          refine zp_pc (pc' := 232) rfl ?_
          have W26 := zmw.sh W17 (((s18).mono (fun i hi => by unfold zwf; unfold zsp at hi; omega)).trans ((s22).mono (fun i hi => by unfold zwf; unfold zsp at hi; omega))) ((z18).trans z22) (fun i hi => hi)
          refine zp_callV (As := [.int (nI (zbi (zod kd))), .ref (87), .int (nI ((([] ++ [3]) ++ V1).length))]) (k := 64) (st := []) (ci := 10) dX11_drawDigest_232 cX11_170 rfl o22 rfl rfl (e_mdigW (b := (zod kd)) (p := 87) W26 o22 x22 (by omega) (by simp only [List.length_append, List.length_cons, List.length_nil, List.length_singleton]; omega)) (by decide) (by decide) (Nat.le_of_ble_eq_true rfl) (fun v27 h27 n27 q27 => ?_)
          obtain ⟨rfl, N27, s27, z27, d27⟩ := q27
          rw [N27]
          refine zp_nrm (cells' := 0) (slots' := 0) (st' := []) rfl rfl rfl ?_
          have m28 : h27 (a) = some (.inl (9, [.int (nI (zbi tr)), .int (nI (kd)), .int (nI (st)), .int (nI (iv)), .int (nI (zbi rs)), .int (nI (ct)), .int (dr), .int (nI (sd)), .ref (a + 1), .ref (a + 2)])) := (s27 _ (by unfold zb3; omega)).trans m23
          have m29 : h27 (94) = some (.inr (4096, .inl go)) := (s27 _ (by unfold zb3; omega)).trans m24
          have m30 : h27 (64) = some (.inl (10, [.int (th), .ref (65), .ref (66), .ref (67), .ref (68), .ref (69), .ref (70), .ref (71), .ref (72), .ref (73), .ref (74), .ref (75), .ref (76), .ref (77), .ref (78), .ref (79), .ref (80), .ref (81), .ref (82), .ref (83), .ref (84), .int (nI (wt)), .int (nI (zbi un)), .int (rp), .int (wi), .int (pa), .int (be), .int (ru), .int (sa), .int (me), .int (se), .int (ta), .int (fa), .ref (85), .ref (86), .ref (87), .int (nI ((([] ++ [3]) ++ V1).length)), .ref (88), .ref (89), .ref (90), .ref (91), .ref (92), .ref (93), .int (nI (tp)), .ref (94), .int (nI (ou))])) := (s27 _ (by unfold zb3; omega)).trans o22
          have hd : zar h27 74 64 (zhash (zod kd) (3 :: V1)) := d27
          refine zp_aload_n dX11_drawDigest_235 rfl ?_
          refine zp_get dX11_drawDigest_236 gX11_226_9 m28 rfl ?_
          refine zp_aload_n dX11_drawDigest_239 rfl ?_
          refine zp_pc (pc' := 240) rfl ?_
          refine zp_callV (As := []) (k := a) (st := [.ref (a + 1)]) (ci := 9) dX11_drawDigest_240 cX11_229 rfl m28 rfl rfl (e_zseed m28 hkd) (by decide) (by decide) (Nat.le_of_ble_eq_true rfl) (fun v31 h31 n31 q31 => ?_)
          obtain ⟨rfl, H31, N31⟩ := q31
          rw [N31, H31]
          refine zp_nrm (cells' := 0) (slots' := 0) (st' := [.int (nI (zsd kd)), .ref (a + 1)]) rfl rfl rfl ?_
          refine zp_i (y := nI (V1.length)) (by rw [lV1]) ?_
          refine zp_aload_n dX11_drawDigest_243 rfl ?_
          refine zp_get dX11_drawDigest_244 gX11_38_10 m30 rfl ?_
          refine zp_iload dX11_drawDigest_247 rfl ?_
          refine zp_pc (pc' := 249) rfl ?_
          refine zp_i (y := nI ((zhash (zod kd) (3 :: V1)).length)) (by rw [zhash_len]) ?_
          refine zp_callS (As := [.ref (a + 1), .int (nI (V1.length)), .ref (74), .int (nI ((zhash (zod kd) (3 :: V1)).length))]) (st := []) dX11_drawDigest_249 cX11_219 rfl (e_madds ((((aV2).keep (s14 _ (by unfold zon; omega))).keep (s18 _ (by unfold zsp; omega))).keep (s22 _ (by unfold zsp; omega))).keep (s27 _ (by unfold zb3; omega)) hd (by omega) (by omega) (by rw [zhash_len, lV1]; exact hsz)) (by decide) (by decide) (Nat.le_of_ble_eq_true rfl) (fun v32 h32 n32 q32 => ?_)
          obtain ⟨rfl, N32, s32, z32, d32⟩ := q32
          rw [N32]
          refine zp_nrm (cells' := 0) (slots' := 0) (st' := []) rfl rfl rfl ?_
          have m33 : h32 (a) = some (.inl (9, [.int (nI (zbi tr)), .int (nI (kd)), .int (nI (st)), .int (nI (iv)), .int (nI (zbi rs)), .int (nI (ct)), .int (dr), .int (nI (sd)), .ref (a + 1), .ref (a + 2)])) := (s32 _ (by unfold zon; omega)).trans m28
          have m34 : h32 (94) = some (.inr (4096, .inl go)) := (s32 _ (by unfold zon; omega)).trans m29
          have m35 : h32 (64) = some (.inl (10, [.int (th), .ref (65), .ref (66), .ref (67), .ref (68), .ref (69), .ref (70), .ref (71), .ref (72), .ref (73), .ref (74), .ref (75), .ref (76), .ref (77), .ref (78), .ref (79), .ref (80), .ref (81), .ref (82), .ref (83), .ref (84), .int (nI (wt)), .int (nI (zbi un)), .int (rp), .int (wi), .int (pa), .int (be), .int (ru), .int (sa), .int (me), .int (se), .int (ta), .int (fa), .ref (85), .ref (86), .ref (87), .int (nI ((([] ++ [3]) ++ V1).length)), .ref (88), .ref (89), .ref (90), .ref (91), .ref (92), .ref (93), .int (nI (tp)), .ref (94), .int (nI (ou))])) := (s32 _ (by unfold zon; omega)).trans m30
          have v1 : zar h32 (a + 1) 111 (zplus V1 (zval (zhash (zod kd) (3 :: V1)))) := d32
          have l1 : (zplus V1 (zval (zhash (zod kd) (3 :: V1)))).length = zsd kd := by rw [zplus_len, lV1]
          refine zp_aload_n dX11_drawDigest_252 rfl ?_
          refine zp_get dX11_drawDigest_253 gX11_226_9 m33 rfl ?_
          refine zp_aload_n dX11_drawDigest_256 rfl ?_
          refine zp_pc (pc' := 257) rfl ?_
          refine zp_callV (As := []) (k := a) (st := [.ref (a + 1)]) (ci := 9) dX11_drawDigest_257 cX11_229 rfl m33 rfl rfl (e_zseed m33 hkd) (by decide) (by decide) (Nat.le_of_ble_eq_true rfl) (fun v36 h36 n36 q36 => ?_)
          obtain ⟨rfl, H36, N36⟩ := q36
          rw [N36, H36]
          refine zp_nrm (cells' := 0) (slots' := 0) (st' := [.int (nI (zsd kd)), .ref (a + 1)]) rfl rfl rfl ?_
          refine zp_i (y := nI ((zplus V1 (zval (zhash (zod kd) (3 :: V1)))).length)) (by rw [l1]) ?_
          refine zp_aload_n dX11_drawDigest_260 rfl ?_
          refine zp_get dX11_drawDigest_261 gX11_243_9 m33 rfl ?_
          refine zp_aload_n dX11_drawDigest_264 rfl ?_
          refine zp_pc (pc' := 265) rfl ?_
          refine zp_callV (As := []) (k := a) (st := [.ref (a + 2), .int (nI ((zplus V1 (zval (zhash (zod kd) (3 :: V1)))).length)), .ref (a + 1)]) (ci := 9) dX11_drawDigest_265 cX11_229 rfl m33 rfl rfl (e_zseed m33 hkd) (by decide) (by decide) (Nat.le_of_ble_eq_true rfl) (fun v37 h37 n37 q37 => ?_)
          obtain ⟨rfl, H37, N37⟩ := q37
          rw [N37, H37]
          refine zp_nrm (cells' := 0) (slots' := 0) (st' := [.int (nI (zsd kd)), .ref (a + 2), .int (nI ((zplus V1 (zval (zhash (zod kd) (3 :: V1)))).length)), .ref (a + 1)]) rfl rfl rfl ?_
          refine zp_i (y := nI (C.length)) (by rw [lC]) ?_
          refine zp_callS (As := [.ref (a + 1), .int (nI ((zplus V1 (zval (zhash (zod kd) (3 :: V1)))).length)), .ref (a + 2), .int (nI (C.length))]) (st := []) dX11_drawDigest_268 cX11_219 rfl (e_madds v1 ((((((aC2).keep (s14 _ (by unfold zon; omega))).keep (s18 _ (by unfold zsp; omega))).keep (s22 _ (by unfold zsp; omega))).keep (s27 _ (by unfold zb3; omega))).keep (s32 _ (by unfold zon; omega))) (by omega) (by omega) (by rw [lC, l1]; exact Nat.le_refl _)) (by decide) (by decide) (Nat.le_of_ble_eq_true rfl) (fun v38 h38 n38 q38 => ?_)
          obtain ⟨rfl, N38, s38, z38, d38⟩ := q38
          rw [N38]
          refine zp_nrm (cells' := 0) (slots' := 0) (st' := []) rfl rfl rfl ?_
          have m39 : h38 (a) = some (.inl (9, [.int (nI (zbi tr)), .int (nI (kd)), .int (nI (st)), .int (nI (iv)), .int (nI (zbi rs)), .int (nI (ct)), .int (dr), .int (nI (sd)), .ref (a + 1), .ref (a + 2)])) := (s38 _ (by unfold zon; omega)).trans m33
          have m40 : h38 (94) = some (.inr (4096, .inl go)) := (s38 _ (by unfold zon; omega)).trans m34
          have m41 : h38 (64) = some (.inl (10, [.int (th), .ref (65), .ref (66), .ref (67), .ref (68), .ref (69), .ref (70), .ref (71), .ref (72), .ref (73), .ref (74), .ref (75), .ref (76), .ref (77), .ref (78), .ref (79), .ref (80), .ref (81), .ref (82), .ref (83), .ref (84), .int (nI (wt)), .int (nI (zbi un)), .int (rp), .int (wi), .int (pa), .int (be), .int (ru), .int (sa), .int (me), .int (se), .int (ta), .int (fa), .ref (85), .ref (86), .ref (87), .int (nI ((([] ++ [3]) ++ V1).length)), .ref (88), .ref (89), .ref (90), .ref (91), .ref (92), .ref (93), .int (nI (tp)), .ref (94), .int (nI (ou))])) := (s38 _ (by unfold zon; omega)).trans m35
          have v2 : zar h38 (a + 1) 111 (zplus (zplus V1 (zval (zhash (zod kd) (3 :: V1)))) (zval C)) := d38
          have l2 : (zplus (zplus V1 (zval (zhash (zod kd) (3 :: V1)))) (zval C)).length = zsd kd := by rw [zplus_len, l1]
          refine zp_aload_n dX11_drawDigest_271 rfl ?_
          refine zp_aload_n dX11_drawDigest_272 rfl ?_
          refine zp_get dX11_drawDigest_273 gX11_226_9 m39 rfl ?_
          refine zp_aload_n dX11_drawDigest_276 rfl ?_
          refine zp_pc (pc' := 277) rfl ?_
          refine zp_callV (As := []) (k := a) (st := [.ref (a + 1), .ref (64)]) (ci := 9) dX11_drawDigest_277 cX11_229 rfl m39 rfl rfl (e_zseed m39 hkd) (by decide) (by decide) (Nat.le_of_ble_eq_true rfl) (fun v42 h42 n42 q42 => ?_)
          obtain ⟨rfl, H42, N42⟩ := q42
          rw [N42, H42]
          refine zp_nrm (cells' := 0) (slots' := 0) (st' := [.int (nI (zsd kd)), .ref (a + 1), .ref (64)]) rfl rfl rfl ?_
          refine zp_i (y := nI ((zplus (zplus V1 (zval (zhash (zod kd) (3 :: V1)))) (zval C)).length)) (by rw [l2]) ?_
          refine zp_aload_n dX11_drawDigest_280 rfl ?_
          refine zp_get dX11_drawDigest_281 gX11_250_9 m39 rfl ?_
          refine zp_pc (pc' := 284) rfl ?_
          have W43 := zmw.sh W26 ((((s27).mono (fun i hi => by unfold zwf; unfold zb3 at hi; omega)).trans ((s32).mono (fun i hi => by unfold zwf; unfold zon at hi; omega))).trans ((s38).mono (fun i hi => by unfold zwf; unfold zon at hi; omega))) (((z27).trans z32).trans z38) (fun i hi => hi)
          refine zp_callV (As := [.ref (a + 1), .int (nI ((zplus (zplus V1 (zval (zhash (zod kd) (3 :: V1)))) (zval C)).length)), .int (nI (ct))]) (k := 64) (st := []) (ci := 10) dX11_drawDigest_284 cX11_246 rfl m41 rfl rfl (e_maddsN m41 W43.m88 v2 (by omega) (by omega) (by rw [l2]; omega) hct) (by decide) (by decide) (Nat.le_of_ble_eq_true rfl) (fun v44 h44 n44 q44 => ?_)
          obtain ⟨rfl, N44, s44, z44, d44⟩ := q44
          rw [N44]
          refine zp_nrm (cells' := 0) (slots' := 0) (st' := []) rfl rfl rfl ?_
          have m45 : h44 (a) = some (.inl (9, [.int (nI (zbi tr)), .int (nI (kd)), .int (nI (st)), .int (nI (iv)), .int (nI (zbi rs)), .int (nI (ct)), .int (dr), .int (nI (sd)), .ref (a + 1), .ref (a + 2)])) := (s44 _ (by unfold zsa; omega)).trans m39
          have m46 : h44 (94) = some (.inr (4096, .inl go)) := (s44 _ (by unfold zsa; omega)).trans m40
          have m47 : h44 (64) = some (.inl (10, [.int (th), .ref (65), .ref (66), .ref (67), .ref (68), .ref (69), .ref (70), .ref (71), .ref (72), .ref (73), .ref (74), .ref (75), .ref (76), .ref (77), .ref (78), .ref (79), .ref (80), .ref (81), .ref (82), .ref (83), .ref (84), .int (nI (wt)), .int (nI (zbi un)), .int (rp), .int (wi), .int (pa), .int (be), .int (ru), .int (sa), .int (me), .int (se), .int (ta), .int (fa), .ref (85), .ref (86), .ref (87), .int (nI ((([] ++ [3]) ++ V1).length)), .ref (88), .ref (89), .ref (90), .ref (91), .ref (92), .ref (93), .int (nI (tp)), .ref (94), .int (nI (ou))])) := (s44 _ (by unfold zsa; omega)).trans m41
          refine zp_pc (pc' := 287) rfl ?_
          refine zp_ret (v := none) dX11_drawDigest_287 ⟨rfl, rfl⟩ (by decide) (by decide) ?_
          rw [hQ]
          exact ⟨rfl, rfl, (sBB.trans (s2.mono (fun i hi => by unfold zsgo; unfold zsq at hi; omega))).trans ((((((((s14).mono (fun i hi => by unfold zsgo; unfold zon at hi; omega)).trans ((s18).mono (fun i hi => by unfold zsgo; unfold zsp at hi; omega))).trans ((s22).mono (fun i hi => by unfold zsgo; unfold zsp at hi; omega))).trans ((s27).mono (fun i hi => by unfold zsgo; unfold zb3 at hi; omega))).trans ((s32).mono (fun i hi => by unfold zsgo; unfold zon at hi; omega))).trans ((s38).mono (fun i hi => by unfold zsgo; unfold zon at hi; omega))).trans ((s44).mono (fun i hi => by unfold zsgo; unfold zsa at hi; omega))), (zBB.trans z2).trans (((((((z14).trans z18).trans z22).trans z27).trans z32).trans z38).trans z44), ⟨_, m47⟩, (((((((O2).keep (s14 _ (by unfold zon; omega))).keep (s18 _ (by unfold zsp; omega))).keep (s22 _ (by unfold zsp; omega))).keep (s27 _ (by unfold zb3; omega))).keep (s32 _ (by unfold zon; omega))).keep (s38 _ (by unfold zon; omega))).keep (s44 _ (by unfold zsa; omega)), d44, (((((((aC2).keep (s14 _ (by unfold zon; omega))).keep (s18 _ (by unfold zsp; omega))).keep (s22 _ (by unfold zsp; omega))).keep (s27 _ (by unfold zb3; omega))).keep (s32 _ (by unfold zon; omega))).keep (s38 _ (by unfold zon; omega))).keep (s44 _ (by unfold zsa; omega))⟩
        · refine zp_aload_n dX11_drawDigest_117 rfl ?_
          refine zp_aload_n dX11_drawDigest_118 rfl ?_
          refine zp_callV (As := []) (k := a) (st := [.ref (64)]) (ci := 9) dX11_drawDigest_119 cX11_235 rfl g2 rfl rfl (e_zgreat g2 hkd) (by decide) (by decide) (Nat.le_of_ble_eq_true rfl) (fun v48 h48 n48 q48 => ?_)
          obtain ⟨rfl, H48, N48⟩ := q48
          rw [N48, H48]
          refine zp_nrm (cells' := 0) (slots' := 0) (st' := [.int (nI (zbi (zgr kd))), .ref (64)]) rfl rfl rfl ?_
          refine zp_i (y := nI (zbi (zod kd))) (by rw [hgr]) ?_
          refine zp_aload_n dX11_drawDigest_122 rfl ?_
          refine zp_get dX11_drawDigest_123 gX11_102_10 o2 rfl ?_
          refine zp_aload_n dX11_drawDigest_126 rfl ?_
          refine zp_pc (pc' := 127) rfl ?_
          refine zp_callV (As := []) (k := a) (st := [.ref (89), .int (nI (zbi (zod kd))), .ref (64)]) (ci := 9) dX11_drawDigest_127 cX11_229 rfl g2 rfl rfl (e_zseed g2 hkd) (by decide) (by decide) (Nat.le_of_ble_eq_true rfl) (fun v49 h49 n49 q49 => ?_)
          obtain ⟨rfl, H49, N49⟩ := q49
          rw [N49, H49]
          refine zp_nrm (cells' := 0) (slots' := 0) (st' := [.int (nI (zsd kd)), .ref (89), .int (nI (zbi (zod kd))), .ref (64)]) rfl rfl rfl ?_
          refine zp_i (y := nI ((zplus V1 c).length)) (by rw [zplus_len, lV1]) ?_
          refine zp_callV (As := [.int (nI (zbi (zod kd))), .ref (89), .int (nI ((zplus V1 c).length))]) (k := 64) (st := []) (ci := 10) dX11_drawDigest_130 cX11_170 rfl o2 rfl rfl (e_mdigW (b := (zod kd)) (p := 89) W2 o2 aF2 (by omega) (by rw [zplus_len, lV1]; omega)) (by decide) (by decide) (Nat.le_of_ble_eq_true rfl) (fun v50 h50 n50 q50 => ?_)
          obtain ⟨rfl, N50, s50, z50, d50⟩ := q50
          rw [N50]
          refine zp_nrm (cells' := 0) (slots' := 0) (st' := []) rfl rfl rfl ?_
          have m51 : h50 (64) = some (.inl (10, [.int (th), .ref (65), .ref (66), .ref (67), .ref (68), .ref (69), .ref (70), .ref (71), .ref (72), .ref (73), .ref (74), .ref (75), .ref (76), .ref (77), .ref (78), .ref (79), .ref (80), .ref (81), .ref (82), .ref (83), .ref (84), .int (nI (wt)), .int (nI (zbi un)), .int (rp), .int (wi), .int (pa), .int (be), .int (ru), .int (sa), .int (me), .int (se), .int (ta), .int (fa), .ref (85), .ref (86), .ref (87), .int (nI (mn1)), .ref (88), .ref (89), .ref (90), .ref (91), .ref (92), .ref (93), .int (nI (tp)), .ref (94), .int (nI (ou))])) := (s50 _ (by unfold zb3; omega)).trans o2
          have m52 : h50 (a) = some (.inl (9, [.int (nI (zbi tr)), .int (nI (kd)), .int (nI (st)), .int (nI (iv)), .int (nI (zbi rs)), .int (nI (ct)), .int (dr), .int (nI (sd)), .ref (a + 1), .ref (a + 2)])) := (s50 _ (by unfold zb3; omega)).trans g2
          have m53 : h50 (94) = some (.inr (4096, .inl go)) := (s50 _ (by unfold zb3; omega)).trans er
          have yl := zhash_len (zod kd) (zplus V1 c)
          obtain ⟨la54, lb54, lc54, lf54, ld54, le54⟩ := id d50
          refine zp_iconst (v := nI (0)) dX11_drawDigest_133 (by decide) ?_
          refine zp_istore (ls' := [some (.ref (64)), some (.ref (a)), some (.int (nI (k))), some (.int (nI (A.length))), some (.int (nI (8 * zwb (zod kd)))), some (.int (nI (8 * zwb (zod kd) * c))), some (.int (nI (0)))]) dX11_drawDigest_134 (by decide) rfl ?_
          refine zp_pc (pc' := 136) rfl ?_
          have lp55 : zP g mX11_drawDigest (zR 5 0 0) Qf 0 0 175 [some (.ref (64)), some (.ref (a)), some (.int (nI (k))), some (.int (nI (A.length))), some (.int (nI (8 * zwb (zod kd)))), some (.int (nI (8 * zwb (zod kd) * c))), some (.int (nI (min (8 * zwb (zod kd)) (k - 8 * zwb (zod kd) * c))))] [] (va_up h50 (94) (some (.inr (4096, .inl (zfl go (8 * zwb (zod kd) * c) (min (8 * zwb (zod kd)) (k - 8 * zwb (zod kd) * c)) (fun i => nI ((zdcat (zod kd) V1 k).getD (8 * zwb (zod kd) * c + i) 0))))))) n → ∀ (m k55 : Nat), m = (min (8 * zwb (zod kd)) (k - 8 * zwb (zod kd) * c)) - k55 → k55 ≤ (min (8 * zwb (zod kd)) (k - 8 * zwb (zod kd) * c)) → zP g mX11_drawDigest (zR 5 0 0) Qf 0 0 136 [some (.ref (64)), some (.ref (a)), some (.int (nI (k))), some (.int (nI (A.length))), some (.int (nI (8 * zwb (zod kd)))), some (.int (nI (8 * zwb (zod kd) * c))), some (.int (nI (k55)))] [] (va_up h50 (94) (some (.inr (4096, .inl (zfl go (8 * zwb (zod kd) * c) (k55) (fun i => nI ((zdcat (zod kd) V1 k).getD (8 * zwb (zod kd) * c + i) 0))))))) n := by
            intro kk m
            induction m using Nat.strongRecOn with
            | _ m ih =>
              intro k55 hm55 hk55
              refine zp_nh (fun hX55 eX55 => ?_)
              have k56_0 := (congrFun eX55 (64)).trans ((va_up_ne _ _ (by omega)).trans m51)
              have k56_1 := (congrFun eX55 (a)).trans ((va_up_ne _ _ (by omega)).trans m52)
              have k56_2 : hX55 (94) = some (.inr (4096, .inl (zfl go (8 * zwb (zod kd) * c) (k55) (fun i => nI ((zdcat (zod kd) V1 k).getD (8 * zwb (zod kd) * c + i) 0))))) := by rw [eX55]; exact va_up_self _ _ _
              have k56_3 := (congrFun eX55 (74)).trans ((va_up_ne _ _ (by omega)).trans ld54)
              refine zp_iload dX11_drawDigest_136 rfl ?_
              refine zp_iload dX11_drawDigest_138 rfl ?_
              refine zp_pc (pc' := 140) rfl ?_
              refine zn_icmp_ge (tgt := 175) dX11_drawDigest_140 (by decide) (by omega) (by omega) (fun c140 => ?_) (fun c140 => ?_)
              · have e55 : k55 = (min (8 * zwb (zod kd)) (k - 8 * zwb (zod kd) * c)) := by omega
                subst e55
                rw [eX55]
                exact kk
              · refine zp_iload dX11_drawDigest_143 rfl ?_
                refine zp_iload dX11_drawDigest_145 rfl ?_
                refine zn_iadd dX11_drawDigest_147 ?_
                refine zp_iload_n dX11_drawDigest_148 rfl ?_
                refine zp_pc (pc' := 149) rfl ?_
                refine zn_icmp_ge (tgt := 175) dX11_drawDigest_149 (by decide) (by omega) (by omega) (fun c149 => ?_) (fun c149 => ?_)
                · have e55 : k55 = (min (8 * zwb (zod kd)) (k - 8 * zwb (zod kd) * c)) := by omega
                  subst e55
                  rw [eX55]
                  exact kk
                · refine zp_aload_n dX11_drawDigest_152 rfl ?_
                  refine zp_get dX11_drawDigest_153 gX11_117_10 k56_0 rfl ?_
                  refine zp_iload dX11_drawDigest_156 rfl ?_
                  refine zp_iload dX11_drawDigest_158 rfl ?_
                  refine zn_iadd dX11_drawDigest_160 ?_
                  refine zp_aload_n dX11_drawDigest_161 rfl ?_
                  refine zp_get dX11_drawDigest_162 gX11_38_10 k56_0 rfl ?_
                  refine zp_iload dX11_drawDigest_165 rfl ?_
                  refine zp_pc (pc' := 167) rfl ?_
                  refine zn_iald (j := k55) dX11_drawDigest_167 k56_3 (by omega) (by omega) ?_
                  refine zp_i (y := nI ((zdcat (zod kd) V1 k).getD (8 * zwb (zod kd) * c + k55) 0)) (by rw [le54 _ (by omega), zdcat_get (zod kd) V1 (by omega) (by omega)]) ?_
                  refine zn_iast dX11_drawDigest_168 (by omega) k56_2 (by omega) (by omega) ?_
                  refine zp_nh (fun h57x eh57x => ?_)
                  have k57_0 := (congrFun eh57x (64)).trans ((va_up_ne _ _ (by omega)).trans k56_0)
                  have k57_1 := (congrFun eh57x (a)).trans ((va_up_ne _ _ (by omega)).trans k56_1)
                  have k57_2 : h57x (94) = some (.inr (4096, .inl (va_up (zfl go (8 * zwb (zod kd) * c) (k55) (fun i => nI ((zdcat (zod kd) V1 k).getD (8 * zwb (zod kd) * c + i) 0))) ((8 * zwb (zod kd) * c) + (k55)) (nI ((zdcat (zod kd) V1 k).getD (8 * zwb (zod kd) * c + k55) 0))))) := by rw [eh57x]; exact va_up_self _ _ _
                  have k57_3 := (congrFun eh57x (74)).trans ((va_up_ne _ _ (by omega)).trans k56_3)
                  have sw58 : zsm hX55 h57x (zon (94)) := zsm.rf.up eh57x rfl
                  have zw58 : zsh hX55 h57x := zsh.fill eh57x k56_2
                  refine zp_pc (pc' := 169) rfl ?_
                  refine zn_iinc 1 (ls' := [some (.ref (64)), some (.ref (a)), some (.int (nI (k))), some (.int (nI (A.length))), some (.int (nI (8 * zwb (zod kd)))), some (.int (nI (8 * zwb (zod kd) * c))), some (.int (nI (k55 + 1)))]) dX11_drawDigest_169 (by decide) (by decide) rfl rfl ?_
                  refine zp_goto (tgt := 136) dX11_drawDigest_172 (by decide) ?_
                  refine zp_pc (pc' := 136) rfl ?_
                  rw [zfl_step eX55 eh57x (by omega) rfl]
                  exact ih ((min (8 * zwb (zod kd)) (k - 8 * zwb (zod kd) * c)) - (k55 + 1)) (by omega) (k55 + 1) rfl (by omega)
          suffices K55 : zP g mX11_drawDigest (zR 5 0 0) Qf 0 0 175 [some (.ref (64)), some (.ref (a)), some (.int (nI (k))), some (.int (nI (A.length))), some (.int (nI (8 * zwb (zod kd)))), some (.int (nI (8 * zwb (zod kd) * c))), some (.int (nI (min (8 * zwb (zod kd)) (k - 8 * zwb (zod kd) * c))))] [] (va_up h50 (94) (some (.inr (4096, .inl (zfl go (8 * zwb (zod kd) * c) (min (8 * zwb (zod kd)) (k - 8 * zwb (zod kd) * c)) (fun i => nI ((zdcat (zod kd) V1 k).getD (8 * zwb (zod kd) * c + i) 0))))))) n by
            have q := lp55 K55 ((min (8 * zwb (zod kd)) (k - 8 * zwb (zod kd) * c)) - 0) 0 rfl (Nat.zero_le _)
            rw [zfl_0, zup_same m53] at q
            exact q
          refine zp_nh (fun hY55 eY55 => ?_)
          have k59_0 := (congrFun eY55 (64)).trans ((va_up_ne _ _ (by omega)).trans m51)
          have k59_1 := (congrFun eY55 (a)).trans ((va_up_ne _ _ (by omega)).trans m52)
          have k59_2 : hY55 (94) = some (.inr (4096, .inl (zfl go (8 * zwb (zod kd) * c) (min (8 * zwb (zod kd)) (k - 8 * zwb (zod kd) * c)) (fun i => nI ((zdcat (zod kd) V1 k).getD (8 * zwb (zod kd) * c + i) 0))))) := by rw [eY55]; exact va_up_self _ _ _
          have k59_3 := (congrFun eY55 (74)).trans ((va_up_ne _ _ (by omega)).trans ld54)
          have sf60 := (zsm.fill eY55)
          have zf60 := zsh.fill eY55 m53
          refine zp_aload_n dX11_drawDigest_175 rfl ?_
          refine zp_aload_n dX11_drawDigest_176 rfl ?_
          refine zp_get dX11_drawDigest_177 gX11_102_10 k59_0 rfl ?_
          refine zp_aload_n dX11_drawDigest_180 rfl ?_
          refine zp_pc (pc' := 181) rfl ?_
          refine zp_callV (As := []) (k := a) (st := [.ref (89), .ref (64)]) (ci := 9) dX11_drawDigest_181 cX11_229 rfl k59_1 rfl rfl (e_zseed k59_1 hkd) (by decide) (by decide) (Nat.le_of_ble_eq_true rfl) (fun v61 h61 n61 q61 => ?_)
          obtain ⟨rfl, H61, N61⟩ := q61
          rw [N61, H61]
          refine zp_nrm (cells' := 0) (slots' := 0) (st' := [.int (nI (zsd kd)), .ref (89), .ref (64)]) rfl rfl rfl ?_
          refine zp_i (y := nI ((zplus V1 c).length)) (by rw [zplus_len, lV1]) ?_
          refine zp_iconst (v := nI (1)) dX11_drawDigest_184 (by decide) ?_
          refine zp_pc (pc' := 185) rfl ?_
          have W62 := zmw.sh W2 (((s50).mono (fun i hi => by unfold zwf; unfold zb3 at hi; omega)).trans ((sf60).mono (fun i hi => by unfold zwf; unfold zon at hi; omega))) ((z50).trans zf60) (fun i hi => hi)
          refine zp_callV (As := [.ref (89), .int (nI ((zplus V1 c).length)), .int (nI (1))]) (k := 64) (st := []) (ci := 10) dX11_drawDigest_185 cX11_246 rfl k59_0 rfl rfl (e_maddsN (x := 1) k59_0 W62.m88 (((aF2).keep (s50 _ (by unfold zb3; omega))).keep (sf60 _ (by unfold zon; omega))) (by decide) (by decide) (by rw [zplus_len, lV1]; omega) (by decide)) (by decide) (by decide) (Nat.le_of_ble_eq_true rfl) (fun v63 h63 n63 q63 => ?_)
          obtain ⟨rfl, N63, s63, z63, d63⟩ := q63
          rw [N63]
          refine zp_nrm (cells' := 0) (slots' := 0) (st' := []) rfl rfl rfl ?_
          have m64 : h63 (64) = some (.inl (10, [.int (th), .ref (65), .ref (66), .ref (67), .ref (68), .ref (69), .ref (70), .ref (71), .ref (72), .ref (73), .ref (74), .ref (75), .ref (76), .ref (77), .ref (78), .ref (79), .ref (80), .ref (81), .ref (82), .ref (83), .ref (84), .int (nI (wt)), .int (nI (zbi un)), .int (rp), .int (wi), .int (pa), .int (be), .int (ru), .int (sa), .int (me), .int (se), .int (ta), .int (fa), .ref (85), .ref (86), .ref (87), .int (nI (mn1)), .ref (88), .ref (89), .ref (90), .ref (91), .ref (92), .ref (93), .int (nI (tp)), .ref (94), .int (nI (ou))])) := (s63 _ (by unfold zsa; omega)).trans k59_0
          have m65 : h63 (a) = some (.inl (9, [.int (nI (zbi tr)), .int (nI (kd)), .int (nI (st)), .int (nI (iv)), .int (nI (zbi rs)), .int (nI (ct)), .int (dr), .int (nI (sd)), .ref (a + 1), .ref (a + 2)])) := (s63 _ (by unfold zsa; omega)).trans k59_1
          have m66 : h63 (94) = some (.inr (4096, .inl (zfl go (8 * zwb (zod kd) * c) (min (8 * zwb (zod kd)) (k - 8 * zwb (zod kd) * c)) (fun i => nI ((zdcat (zod kd) V1 k).getD (8 * zwb (zod kd) * c + i) 0))))) := (s63 _ (by unfold zsa; omega)).trans k59_2
          have m67 : h63 (74) = some (.inr (64, .inl lf54)) := (s63 _ (by unfold zsa; omega)).trans k59_3
          rw [zplus_plus] at d63
          refine zp_iload dX11_drawDigest_188 rfl ?_
          refine zp_iload dX11_drawDigest_190 rfl ?_
          refine zn_iadd dX11_drawDigest_192 ?_
          refine zp_istore (ls' := [some (.ref (64)), some (.ref (a)), some (.int (nI (k))), some (.int (nI (A.length))), some (.int (nI (8 * zwb (zod kd)))), some (.int (nI ((8 * zwb (zod kd) * c) + (8 * zwb (zod kd))))), some (.int (nI (min (8 * zwb (zod kd)) (k - 8 * zwb (zod kd) * c))))]) dX11_drawDigest_193 (by decide) rfl ?_
          refine zp_pc (pc' := 195) rfl ?_
          refine zp_ls (ls' := [some (.ref (64)), some (.ref (a)), some (.int (nI (k))), some (.int (nI (A.length))), some (.int (nI (8 * zwb (zod kd)))), some (.int (nI (8 * zwb (zod kd) * (c + 1)))), some (.int (nI (min (8 * zwb (zod kd)) (k - 8 * zwb (zod kd) * c))))]) (by rw [Nat.mul_add, Nat.mul_one]) ?_
          refine zp_goto (tgt := 111) dX11_drawDigest_195 (by decide) ?_
          refine zp_pc (pc' := 111) rfl ?_
          refine zp_drop (ls' := [some (.ref (64)), some (.ref (a)), some (.int (nI (k))), some (.int (nI (A.length))), some (.int (nI (8 * zwb (zod kd)))), some (.int (nI (8 * zwb (zod kd) * (c + 1)))), none]) (fun i v hv => ?_) ?_
          · rcases i with _ | _ | _ | _ | _ | _ | _ | i <;> simp at hv ⊢ <;> exact hv
          refine ih (k - (c + 1)) (by omega) (c + 1) h63 _ rfl (by omega) (s2.trans ((((s50).mono (fun i hi => by unfold zsq; unfold zb3 at hi; omega)).trans ((sf60).mono (fun i hi => by unfold zsq; unfold zon at hi; omega))).trans ((s63).mono (fun i hi => by unfold zsq; unfold zsa at hi; omega)))) (z2.trans (((z50).trans zf60).trans z63)) m66 d63 (fun j hj hj2 => ?_)
          rw [Nat.mul_add, Nat.mul_one] at hj2
          rcases Nat.lt_or_ge j (8 * zwb (zod kd) * c) with q | q
          · rw [zfl_out (Or.inl q)]; exact egr j hj q
          · obtain ⟨d, rfl⟩ := Nat.exists_eq_add_of_le q
            rw [zfl_in (by omega)]
    exact lp _ 0 hY6 gO rfl (Nat.zero_le _) zsm.rf zsh.rf hO2 aF (fun j _ hj => absurd hj (by omega))
  refine zn_if_le (tgt := 76) dX11_drawDigest_10 (by decide) (by omega) (fun c10 => ?_) (fun c10 => ?_)
  · exact kt3 h zsm.rf zsh.rf ⟨_, ho⟩ (by rw [eV1, if_neg (by omega)]; exact hV) hC hO
  · refine zp_aload_n dX11_drawDigest_13 rfl ?_
    refine zp_pc (pc' := 14) rfl ?_
    refine zp_callV (As := []) (k := 64) (st := []) (ci := 10) dX11_drawDigest_14 cX11_223 rfl ho rfl rfl (e_mbegin ho) (by decide) (by decide) (Nat.le_of_ble_eq_true rfl) (fun v68 h68 n68 q68 => ?_)
    obtain ⟨rfl, N68, s68, z68, o68⟩ := q68
    rw [N68]
    refine zp_nrm (cells' := 0) (slots' := 0) (st' := []) rfl rfl rfl ?_
    have m69 : h68 (a) = some (.inl (9, [.int (nI (zbi tr)), .int (nI (kd)), .int (nI (st)), .int (nI (iv)), .int (nI (zbi rs)), .int (nI (ct)), .int (dr), .int (nI (sd)), .ref (a + 1), .ref (a + 2)])) := (s68 _ (by unfold zon; omega)).trans hg
    have W70 := zmw.sh hw ((s68).mono (fun i hi => by unfold zwf; unfold zon at hi; omega)) (z68) (fun i hi => hi)
    have xx68 : zar h68 87 1000 [] := zar.nil W70.m87 (by decide)
    refine zp_aload_n dX11_drawDigest_17 rfl ?_
    refine zp_iconst (v := nI (2)) dX11_drawDigest_18 (by decide) ?_
    refine zp_pc (pc' := 19) rfl ?_
    refine zp_callV (As := [.int (nI (2))]) (k := 64) (st := []) (ci := 10) dX11_drawDigest_19 cX11_215 rfl o68 rfl rfl (e_mput (xs := []) (x := 2) o68 xx68 (by decide) (by simp only [List.length_append, List.length_cons, List.length_nil, List.length_singleton]; omega)) (by decide) (by decide) (Nat.le_of_ble_eq_true rfl) (fun v71 h71 n71 q71 => ?_)
    obtain ⟨rfl, N71, s71, z71, o71, x71⟩ := q71
    rw [N71]
    refine zp_nrm (cells' := 0) (slots' := 0) (st' := []) rfl rfl rfl ?_
    have m72 : h71 (a) = some (.inl (9, [.int (nI (zbi tr)), .int (nI (kd)), .int (nI (st)), .int (nI (iv)), .int (nI (zbi rs)), .int (nI (ct)), .int (dr), .int (nI (sd)), .ref (a + 1), .ref (a + 2)])) := (s71 _ (by unfold zsp; omega)).trans m69
    refine zp_aload_n dX11_drawDigest_22 rfl ?_
    refine zp_aload_n dX11_drawDigest_23 rfl ?_
    refine zp_get dX11_drawDigest_24 gX11_226_9 m72 rfl ?_
    refine zp_aload_n dX11_drawDigest_27 rfl ?_
    refine zp_pc (pc' := 28) rfl ?_
    refine zp_callV (As := []) (k := a) (st := [.ref (a + 1), .ref (64)]) (ci := 9) dX11_drawDigest_28 cX11_229 rfl m72 rfl rfl (e_zseed m72 hkd) (by decide) (by decide) (Nat.le_of_ble_eq_true rfl) (fun v73 h73 n73 q73 => ?_)
    obtain ⟨rfl, H73, N73⟩ := q73
    rw [N73, H73]
    refine zp_nrm (cells' := 0) (slots' := 0) (st' := [.int (nI (zsd kd)), .ref (a + 1), .ref (64)]) rfl rfl rfl ?_
    refine zp_i (y := nI (V.length)) (by rw [lV]) ?_
    refine zp_callV (As := [.ref (a + 1), .int (nI (V.length))]) (k := 64) (st := []) (ci := 10) dX11_drawDigest_31 cX11_233 rfl o71 rfl rfl (e_mputs (xs := ([] ++ [2])) (ys := V) (q := a + 1) o71 x71 ((hV).keep (s68 _ (by unfold zon; omega))).keep (s71 _ (by unfold zsp; omega)) (by omega) (by simp only [List.length_append, List.length_cons, List.length_nil, List.length_singleton]; omega)) (by decide) (by decide) (Nat.le_of_ble_eq_true rfl) (fun v74 h74 n74 q74 => ?_)
    obtain ⟨rfl, N74, s74, z74, o74, x74⟩ := q74
    rw [N74]
    refine zp_nrm (cells' := 0) (slots' := 0) (st' := []) rfl rfl rfl ?_
    have m75 : h74 (a) = some (.inl (9, [.int (nI (zbi tr)), .int (nI (kd)), .int (nI (st)), .int (nI (iv)), .int (nI (zbi rs)), .int (nI (ct)), .int (dr), .int (nI (sd)), .ref (a + 1), .ref (a + 2)])) := (s74 _ (by unfold zsp; omega)).trans m72
    refine zp_aload_n dX11_drawDigest_34 rfl ?_
    refine zp_aload_n dX11_drawDigest_35 rfl ?_
    refine zp_get dX11_drawDigest_36 gX11_114_10 o74 rfl ?_
    refine zp_iload_n dX11_drawDigest_39 rfl ?_
    refine zp_pc (pc' := 40) rfl ?_
    refine zp_callV (As := [.ref (93), .int (nI (A.length))]) (k := 64) (st := []) (ci := 10) dX11_drawDigest_40 cX11_233 rfl o74 rfl rfl (e_mputs (xs := (([] ++ [2]) ++ V)) (ys := A) (q := 93) o74 x74 (((hA).keep (s68 _ (by unfold zon; omega))).keep (s71 _ (by unfold zsp; omega))).keep (s74 _ (by unfold zsp; omega)) (by omega) (by simp only [List.length_append, List.length_cons, List.length_nil, List.length_singleton]; omega)) (by decide) (by decide) (Nat.le_of_ble_eq_true rfl) (fun v76 h76 n76 q76 => ?_)
    obtain ⟨rfl, N76, s76, z76, o76, x76⟩ := q76
    rw [N76]
    refine zp_nrm (cells' := 0) (slots' := 0) (st' := []) rfl rfl rfl ?_
    have m77 : h76 (a) = some (.inl (9, [.int (nI (zbi tr)), .int (nI (kd)), .int (nI (st)), .int (nI (iv)), .int (nI (zbi rs)), .int (nI (ct)), .int (dr), .int (nI (sd)), .ref (a + 1), .ref (a + 2)])) := (s76 _ (by unfold zsp; omega)).trans m75
    refine zp_aload_n dX11_drawDigest_43 rfl ?_
    refine zp_aload_n dX11_drawDigest_44 rfl ?_
    refine zp_callV (As := []) (k := a) (st := [.ref (64)]) (ci := 9) dX11_drawDigest_45 cX11_235 rfl m77 rfl rfl (e_zgreat m77 hkd) (by decide) (by decide) (Nat.le_of_ble_eq_true rfl) (fun v78 h78 n78 q78 => ?_)
    obtain ⟨rfl, H78, N78⟩ := q78
    rw [N78, H78]
    refine zp_nrm (cells' := 0) (slots' := 0) (st' := [.int (nI (zbi (zgr kd))), .ref (64)]) rfl rfl rfl ?_
    refine zp_i (y := nI (zbi (zod kd))) (by rw [hgr]) ?_
    refine zp_aload_n dX11_drawDigest_48 rfl ?_
    refine zp_get dX11_drawDigest_49 gX11_96_10 o76 rfl ?_
    refine zp_aload_n dX11_drawDigest_52 rfl ?_
    refine zp_get dX11_drawDigest_53 gX11_212_10 o76 rfl ?_
    refine zp_pc (pc' := 56) rfl ?_
    have W79 := zmw.sh W70 ((((s71).mono (fun i hi => by unfold zwf; unfold zsp at hi; omega)).trans ((s74).mono (fun i hi => by unfold zwf; unfold zsp at hi; omega))).trans ((s76).mono (fun i hi => by unfold zwf; unfold zsp at hi; omega))) (((z71).trans z74).trans z76) (fun i hi => hi)
    refine zp_callV (As := [.int (nI (zbi (zod kd))), .ref (87), .int (nI (((([] ++ [2]) ++ V) ++ A).length))]) (k := 64) (st := []) (ci := 10) dX11_drawDigest_56 cX11_170 rfl o76 rfl rfl (e_mdigW (b := (zod kd)) (p := 87) W79 o76 x76 (by omega) (by simp only [List.length_append, List.length_cons, List.length_nil, List.length_singleton]; omega)) (by decide) (by decide) (Nat.le_of_ble_eq_true rfl) (fun v80 h80 n80 q80 => ?_)
    obtain ⟨rfl, N80, s80, z80, d80⟩ := q80
    rw [N80]
    refine zp_nrm (cells' := 0) (slots' := 0) (st' := []) rfl rfl rfl ?_
    have m81 : h80 (a) = some (.inl (9, [.int (nI (zbi tr)), .int (nI (kd)), .int (nI (st)), .int (nI (iv)), .int (nI (zbi rs)), .int (nI (ct)), .int (dr), .int (nI (sd)), .ref (a + 1), .ref (a + 2)])) := (s80 _ (by unfold zb3; omega)).trans m77
    have m82 : h80 (64) = some (.inl (10, [.int (th), .ref (65), .ref (66), .ref (67), .ref (68), .ref (69), .ref (70), .ref (71), .ref (72), .ref (73), .ref (74), .ref (75), .ref (76), .ref (77), .ref (78), .ref (79), .ref (80), .ref (81), .ref (82), .ref (83), .ref (84), .int (nI (wt)), .int (nI (zbi un)), .int (rp), .int (wi), .int (pa), .int (be), .int (ru), .int (sa), .int (me), .int (se), .int (ta), .int (fa), .ref (85), .ref (86), .ref (87), .int (nI (((([] ++ [2]) ++ V) ++ A).length)), .ref (88), .ref (89), .ref (90), .ref (91), .ref (92), .ref (93), .int (nI (tp)), .ref (94), .int (nI (ou))])) := (s80 _ (by unfold zb3; omega)).trans o76
    have hd : zar h80 74 64 (zhash (zod kd) (2 :: (V ++ A))) := d80
    refine zp_aload_n dX11_drawDigest_59 rfl ?_
    refine zp_get dX11_drawDigest_60 gX11_226_9 m81 rfl ?_
    refine zp_aload_n dX11_drawDigest_63 rfl ?_
    refine zp_pc (pc' := 64) rfl ?_
    refine zp_callV (As := []) (k := a) (st := [.ref (a + 1)]) (ci := 9) dX11_drawDigest_64 cX11_229 rfl m81 rfl rfl (e_zseed m81 hkd) (by decide) (by decide) (Nat.le_of_ble_eq_true rfl) (fun v83 h83 n83 q83 => ?_)
    obtain ⟨rfl, H83, N83⟩ := q83
    rw [N83, H83]
    refine zp_nrm (cells' := 0) (slots' := 0) (st' := [.int (nI (zsd kd)), .ref (a + 1)]) rfl rfl rfl ?_
    refine zp_i (y := nI (V.length)) (by rw [lV]) ?_
    refine zp_aload_n dX11_drawDigest_67 rfl ?_
    refine zp_get dX11_drawDigest_68 gX11_38_10 m82 rfl ?_
    refine zp_iload dX11_drawDigest_71 rfl ?_
    refine zp_pc (pc' := 73) rfl ?_
    refine zp_i (y := nI ((zhash (zod kd) (2 :: (V ++ A))).length)) (by rw [zhash_len]) ?_
    refine zp_callS (As := [.ref (a + 1), .int (nI (V.length)), .ref (74), .int (nI ((zhash (zod kd) (2 :: (V ++ A))).length))]) (st := []) dX11_drawDigest_73 cX11_219 rfl (e_madds ((((((hV).keep (s68 _ (by unfold zon; omega))).keep (s71 _ (by unfold zsp; omega))).keep (s74 _ (by unfold zsp; omega))).keep (s76 _ (by unfold zsp; omega))).keep (s80 _ (by unfold zb3; omega))) hd (by omega) (by omega) (by rw [zhash_len, lV]; exact hsz)) (by decide) (by decide) (Nat.le_of_ble_eq_true rfl) (fun v84 h84 n84 q84 => ?_)
    obtain ⟨rfl, N84, s84, z84, d84⟩ := q84
    rw [N84]
    refine zp_nrm (cells' := 0) (slots' := 0) (st' := []) rfl rfl rfl ?_
    have m85 : h84 (a) = some (.inl (9, [.int (nI (zbi tr)), .int (nI (kd)), .int (nI (st)), .int (nI (iv)), .int (nI (zbi rs)), .int (nI (ct)), .int (dr), .int (nI (sd)), .ref (a + 1), .ref (a + 2)])) := (s84 _ (by unfold zon; omega)).trans m81
    have m86 : h84 (64) = some (.inl (10, [.int (th), .ref (65), .ref (66), .ref (67), .ref (68), .ref (69), .ref (70), .ref (71), .ref (72), .ref (73), .ref (74), .ref (75), .ref (76), .ref (77), .ref (78), .ref (79), .ref (80), .ref (81), .ref (82), .ref (83), .ref (84), .int (nI (wt)), .int (nI (zbi un)), .int (rp), .int (wi), .int (pa), .int (be), .int (ru), .int (sa), .int (me), .int (se), .int (ta), .int (fa), .ref (85), .ref (86), .ref (87), .int (nI (((([] ++ [2]) ++ V) ++ A).length)), .ref (88), .ref (89), .ref (90), .ref (91), .ref (92), .ref (93), .int (nI (tp)), .ref (94), .int (nI (ou))])) := (s84 _ (by unfold zon; omega)).trans m82
    refine zp_pc (pc' := 76) rfl ?_
    exact kt3 h84 (((((((s68).mono (fun i hi => by unfold zsgo; unfold zon at hi; omega)).trans ((s71).mono (fun i hi => by unfold zsgo; unfold zsp at hi; omega))).trans ((s74).mono (fun i hi => by unfold zsgo; unfold zsp at hi; omega))).trans ((s76).mono (fun i hi => by unfold zsgo; unfold zsp at hi; omega))).trans ((s80).mono (fun i hi => by unfold zsgo; unfold zb3 at hi; omega))).trans ((s84).mono (fun i hi => by unfold zsgo; unfold zon at hi; omega))) ((((((z68).trans z71).trans z74).trans z76).trans z80).trans z84) ⟨_, m86⟩ (by rw [eV1, if_pos c10]; exact d84) (((((((hC).keep (s68 _ (by unfold zon; omega))).keep (s71 _ (by unfold zsp; omega))).keep (s74 _ (by unfold zsp; omega))).keep (s76 _ (by unfold zsp; omega))).keep (s80 _ (by unfold zb3; omega))).keep (s84 _ (by unfold zon; omega))) (((((((hO).keep (s68 _ (by unfold zon; omega))).keep (s71 _ (by unfold zsp; omega))).keep (s74 _ (by unfold zsp; omega))).keep (s76 _ (by unfold zsp; omega))).keep (s80 _ (by unfold zb3; omega))).keep (s84 _ (by unfold zon; omega)))
