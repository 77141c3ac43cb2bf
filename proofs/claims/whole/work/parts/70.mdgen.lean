theorem zmw.m87 {h : ZH} (H : zmw h) : zia h 87 1000 := H.2.2.2.2.2.2.2.2.1
theorem zmw.m88 {h : ZH} (H : zmw h) : zia h 88 4 := H.2.2.2.2.2.2.2.2.2.1
theorem zmw.m89 {h : ZH} (H : zmw h) : zia h 89 111 := H.2.2.2.2.2.2.2.2.2.2.1
theorem zmw.m90 {h : ZH} (H : zmw h) : zia h 90 400 := H.2.2.2.2.2.2.2.2.2.2.2.1
theorem zmw.m91 {h : ZH} (H : zmw h) : zia h 91 16 := H.2.2.2.2.2.2.2.2.2.2.2.2.1
theorem zmw.m92 {h : ZH} (H : zmw h) : zia h 92 48 := H.2.2.2.2.2.2.2.2.2.2.2.2.2
theorem zar.nil {h : ZH} {k N : Nat} (H : zia h k N) (hN : N < 1000000) : zar h k N [] := by
  obtain ⟨f, hf⟩ := H
  exact ⟨Nat.zero_le _, hN, fun x hx => absurd hx List.not_mem_nil, f, hf, fun j hj => absurd hj (Nat.not_lt_zero j)⟩
/-- what a generator's methods write -/
abbrev zsg (a : Nat) : Nat → Prop := fun i => i = 64 ∨ (70 ≤ i ∧ i ≤ 76) ∨ (78 ≤ i ∧ i ≤ 83) ∨ (87 ≤ i ∧ i ≤ 92) ∨ i = a + 1 ∨ i = a + 2
abbrev zsgo (a : Nat) : Nat → Prop := fun i => i = 64 ∨ (70 ≤ i ∧ i ≤ 76) ∨ (78 ≤ i ∧ i ≤ 83) ∨ (87 ≤ i ∧ i ≤ 92) ∨ i = a + 1 ∨ i = a + 2 ∨ i = 94
theorem zdcat_get (b : Bool) (V : List Nat) {k c j : Nat} (hc : c < k) (hj : j < 8 * zwb b) : (zdcat b V k).getD (8 * zwb b * c + j) 0 = (zhash b (zplus V c)).getD j 0 := by
  have hz := zwb_or b
  unfold zdcat
  rw [zflat_getD _ (8 * zwb b) (by omega) (fun k => zhash_len _ _) _ _ (by have := Nat.mul_le_mul_right (8 * zwb b) (show c + 1 ≤ k by omega); rw [Nat.add_mul, Nat.mul_comm c] at this; omega), Nat.mul_add_div (by omega), Nat.mul_add_mod, Nat.div_eq_of_lt hj, Nat.mod_eq_of_lt hj, Nat.add_zero]
abbrev zsq : Nat → Prop := fun i => (70 ≤ i ∧ i ≤ 74) ∨ i = 88 ∨ i = 89 ∨ i = 94
theorem zdcat_lt (b : Bool) (V : List Nat) (c : Nat) : ∀ x ∈ zdcat b V c, x < 256 := fun x h => by
  obtain ⟨i, -, h2⟩ := List.mem_flatMap.mp h
  exact zhash_lt _ _ x h2
set_option maxRecDepth 10000 in
set_option maxHeartbeats 2000000 in
theorem e_zseedD {g : ZG} {h : ZH} {n : Nat} {a kd st iv ct sd : Nat} {tr rs : Bool} {dr : Int32} {V R A : List Nat} {ft : Bool} {th : Int32} {wt : Nat} {un : Bool} {rp wi pa be ru sa me se ta fa : Int32} {mn tp ou : Nat} (hw : zmw h) (ho : h 64 = some (.inl (10, [.int (th), .ref (65), .ref (66), .ref (67), .ref (68), .ref (69), .ref (70), .ref (71), .ref (72), .ref (73), .ref (74), .ref (75), .ref (76), .ref (77), .ref (78), .ref (79), .ref (80), .ref (81), .ref (82), .ref (83), .ref (84), .int (nI (wt)), .int (nI (zbi un)), .int (rp), .int (wi), .int (pa), .int (be), .int (ru), .int (sa), .int (me), .int (se), .int (ta), .int (fa), .ref (85), .ref (86), .ref (87), .int (nI (mn)), .ref (88), .ref (89), .ref (90), .ref (91), .ref (92), .ref (93), .int (nI (tp)), .ref (94), .int (nI (ou))]))) (hg : h a = some (.inl (9, [.int (nI (zbi tr)), .int (nI (kd)), .int (nI (st)), .int (nI (iv)), .int (nI (zbi rs)), .int (nI (ct)), .int (dr), .int (nI (sd)), .ref (a + 1), .ref (a + 2)]))) (ha : a = 95 ∨ a = 98 ∨ a = 101 ∨ a = 104) (hkd : kd < 8) (hk2 : kd < 2) (hV : zar h (a + 1) 111 V) (hC : zia h (a + 2) 111) (hR : zar h 85 100 R) (hA : zar h 93 240 A) (lV : ft = false → V.length = zsd kd) : zMt g mX11_seedDigest (zR 5 0 0) [.ref (64), .ref (a), .int (nI (zbi ft)), .int (nI (R.length)), .int (nI (A.length))] h n (fun v h' n' => v = none ∧ n' = n ∧ zsm h h' (zsg a) ∧ zsh h h' ∧ (∃ mn', h' 64 = some (.inl (10, [.int (th), .ref (65), .ref (66), .ref (67), .ref (68), .ref (69), .ref (70), .ref (71), .ref (72), .ref (73), .ref (74), .ref (75), .ref (76), .ref (77), .ref (78), .ref (79), .ref (80), .ref (81), .ref (82), .ref (83), .ref (84), .int (nI (wt)), .int (nI (zbi un)), .int (rp), .int (wi), .int (pa), .int (be), .int (ru), .int (sa), .int (me), .int (se), .int (ta), .int (fa), .ref (85), .ref (86), .ref (87), .int (nI (mn')), .ref (88), .ref (89), .ref (90), .ref (91), .ref (92), .ref (93), .int (nI (tp)), .ref (94), .int (nI (ou))]))) ∧ zar h' (a + 1) 111 (zder (zod kd) ((if ft = true then [] else 1 :: V) ++ R ++ A) (zsd kd)) ∧ zar h' (a + 2) 111 (zder (zod kd) (0 :: (zder (zod kd) ((if ft = true then [] else 1 :: V) ++ R ++ A) (zsd kd))) (zsd kd))) := by
  refine zMt.of [some (.ref (64)), some (.ref (a)), some (.int (nI (zbi ft))), some (.int (nI (R.length))), some (.int (nI (A.length))), none] (by decide) rfl (Nat.le_of_ble_eq_true rfl) ?_
  obtain ⟨Qf, hQ⟩ : ∃ Qf : ZQ, Qf = (fun v h' n' => v = none ∧ n' = n ∧ zsm h h' (zsg a) ∧ zsh h h' ∧ (∃ mn', h' 64 = some (.inl (10, [.int (th), .ref (65), .ref (66), .ref (67), .ref (68), .ref (69), .ref (70), .ref (71), .ref (72), .ref (73), .ref (74), .ref (75), .ref (76), .ref (77), .ref (78), .ref (79), .ref (80), .ref (81), .ref (82), .ref (83), .ref (84), .int (nI (wt)), .int (nI (zbi un)), .int (rp), .int (wi), .int (pa), .int (be), .int (ru), .int (sa), .int (me), .int (se), .int (ta), .int (fa), .ref (85), .ref (86), .ref (87), .int (nI (mn')), .ref (88), .ref (89), .ref (90), .ref (91), .ref (92), .ref (93), .int (nI (tp)), .ref (94), .int (nI (ou))]))) ∧ zar h' (a + 1) 111 (zder (zod kd) ((if ft = true then [] else 1 :: V) ++ R ++ A) (zsd kd)) ∧ zar h' (a + 2) 111 (zder (zod kd) (0 :: (zder (zod kd) ((if ft = true then [] else 1 :: V) ++ R ++ A) (zsd kd))) (zsd kd))) := ⟨_, rfl⟩
  rw [← hQ]
  have hgr := zgr_odd (show kd < 4 by omega)
  have hs := zsd_le hkd
  have lR := hR.1
  have lA := hA.1
  have lV1 := hV.1
  refine zp_aload_n dX11_seedDigest_0 rfl ?_
  refine zp_pc (pc' := 1) rfl ?_
  refine zp_callV (As := []) (k := 64) (st := []) (ci := 10) dX11_seedDigest_1 cX11_223 rfl ho rfl rfl (e_mbegin ho) (by decide) (by decide) (Nat.le_of_ble_eq_true rfl) (fun v101 h101 n101 q101 => ?_)
  obtain ⟨rfl, N101, s101, z101, o101⟩ := q101
  rw [N101]
  refine zp_nrm (cells' := 0) (slots' := 0) (st' := []) rfl rfl rfl ?_
  have m102 : h101 (a) = some (.inl (9, [.int (nI (zbi tr)), .int (nI (kd)), .int (nI (st)), .int (nI (iv)), .int (nI (zbi rs)), .int (nI (ct)), .int (dr), .int (nI (sd)), .ref (a + 1), .ref (a + 2)])) := (s101 _ (by unfold zon; omega)).trans hg
  have W103 := zmw.sh hw ((s101).mono (fun i hi => by unfold zwf; unfold zon at hi; omega)) (z101) (fun i hi => hi)
  have xx101 : zar h101 87 1000 [] := zar.nil W103.m87 (by decide)
  refine zp_iload_n dX11_seedDigest_4 rfl ?_
  refine zp_pc (pc' := 5) rfl ?_
  have kt104 : ∀ (h1 : ZH), zsm h h1 zsp → zsh h h1 → h1 64 = some (.inl (10, [.int (th), .ref (65), .ref (66), .ref (67), .ref (68), .ref (69), .ref (70), .ref (71), .ref (72), .ref (73), .ref (74), .ref (75), .ref (76), .ref (77), .ref (78), .ref (79), .ref (80), .ref (81), .ref (82), .ref (83), .ref (84), .int (nI (wt)), .int (nI (zbi un)), .int (rp), .int (wi), .int (pa), .int (be), .int (ru), .int (sa), .int (me), .int (se), .int (ta), .int (fa), .ref (85), .ref (86), .ref (87), .int (nI ((if ft = true then [] else 1 :: V).length)), .ref (88), .ref (89), .ref (90), .ref (91), .ref (92), .ref (93), .int (nI (tp)), .ref (94), .int (nI (ou))])) → zar h1 87 1000 (if ft = true then [] else 1 :: V) → zP g mX11_seedDigest (zR 5 0 0) Qf 0 0 25 [some (.ref (64)), some (.ref (a)), some (.int (nI (zbi ft))), some (.int (nI (R.length))), some (.int (nI (A.length))), none] [] h1 n := by
    intro h1 s1 z1 o1 x1
    have W1 := hw.sh s1 z1 (fun i q => by unfold zsp at q; unfold zwf; omega)
    have g1 : h1 a = some (.inl (9, [.int (nI (zbi tr)), .int (nI (kd)), .int (nI (st)), .int (nI (iv)), .int (nI (zbi rs)), .int (nI (ct)), .int (dr), .int (nI (sd)), .ref (a + 1), .ref (a + 2)])) := (s1 _ (by unfold zsp; omega)).trans hg
    have lX : (if ft = true then [] else 1 :: V : List Nat).length ≤ 112 := by split; exact Nat.zero_le _; rw [List.length_cons]; omega
    have R1 := hR.keep (s1 85 (by unfold zsp; omega))
    have A1 := hA.keep (s1 93 (by unfold zsp; omega))
    have C1 := hC.keep (s1 (a + 2) (by unfold zsp; omega))
    have V1 := (hV.keep (s1 (a + 1) (by unfold zsp; omega))).ia
    refine zp_aload_n dX11_seedDigest_25 rfl ?_
    refine zp_aload_n dX11_seedDigest_26 rfl ?_
    refine zp_get dX11_seedDigest_27 gX11_87_10 o1 rfl ?_
    refine zp_iload_n dX11_seedDigest_30 rfl ?_
    refine zp_pc (pc' := 31) rfl ?_
    refine zp_callV (As := [.ref (85), .int (nI (R.length))]) (k := 64) (st := []) (ci := 10) dX11_seedDigest_31 cX11_233 rfl o1 rfl rfl (e_mputs (xs := (if ft = true then [] else 1 :: V)) (ys := R) (q := 85) o1 x1 R1 (by omega) (by (try simp only [List.length_append, List.length_cons, List.length_nil, List.length_singleton]); omega)) (by decide) (by decide) (Nat.le_of_ble_eq_true rfl) (fun v105 h105 n105 q105 => ?_)
    obtain ⟨rfl, N105, s105, z105, o105, x105⟩ := q105
    rw [N105]
    refine zp_nrm (cells' := 0) (slots' := 0) (st' := []) rfl rfl rfl ?_
    have m106 : h105 (a) = some (.inl (9, [.int (nI (zbi tr)), .int (nI (kd)), .int (nI (st)), .int (nI (iv)), .int (nI (zbi rs)), .int (nI (ct)), .int (dr), .int (nI (sd)), .ref (a + 1), .ref (a + 2)])) := (s105 _ (by unfold zsp; omega)).trans g1
    refine zp_aload_n dX11_seedDigest_34 rfl ?_
    refine zp_aload_n dX11_seedDigest_35 rfl ?_
    refine zp_get dX11_seedDigest_36 gX11_114_10 o105 rfl ?_
    refine zp_iload dX11_seedDigest_39 rfl ?_
    refine zp_pc (pc' := 41) rfl ?_
    refine zp_callV (As := [.ref (93), .int (nI (A.length))]) (k := 64) (st := []) (ci := 10) dX11_seedDigest_41 cX11_233 rfl o105 rfl rfl (e_mputs (xs := ((if ft = true then [] else 1 :: V) ++ R)) (ys := A) (q := 93) o105 x105 ((A1).keep (s105 _ (by unfold zsp; omega))) (by omega) (by (try simp only [List.length_append, List.length_cons, List.length_nil, List.length_singleton]); omega)) (by decide) (by decide) (Nat.le_of_ble_eq_true rfl) (fun v107 h107 n107 q107 => ?_)
    obtain ⟨rfl, N107, s107, z107, o107, x107⟩ := q107
    rw [N107]
    refine zp_nrm (cells' := 0) (slots' := 0) (st' := []) rfl rfl rfl ?_
    have m108 : h107 (a) = some (.inl (9, [.int (nI (zbi tr)), .int (nI (kd)), .int (nI (st)), .int (nI (iv)), .int (nI (zbi rs)), .int (nI (ct)), .int (dr), .int (nI (sd)), .ref (a + 1), .ref (a + 2)])) := (s107 _ (by unfold zsp; omega)).trans m106
    refine zp_aload_n dX11_seedDigest_44 rfl ?_
    refine zp_aload_n dX11_seedDigest_45 rfl ?_
    refine zp_callV (As := []) (k := a) (st := [.ref (64)]) (ci := 9) dX11_seedDigest_46 cX11_235 rfl m108 rfl rfl (e_zgreat m108 hkd) (by decide) (by decide) (Nat.le_of_ble_eq_true rfl) (fun v109 h109 n109 q109 => ?_)
    obtain ⟨rfl, H109, N109⟩ := q109
    rw [N109, H109]
    refine zp_nrm (cells' := 0) (slots' := 0) (st' := [.int (nI (zbi (zgr kd))), .ref (64)]) rfl rfl rfl ?_
    refine zp_i (y := nI (zbi (zod kd))) (by rw [hgr]) ?_
    refine zp_aload_n dX11_seedDigest_49 rfl ?_
    refine zp_get dX11_seedDigest_50 gX11_96_10 o107 rfl ?_
    refine zp_aload_n dX11_seedDigest_53 rfl ?_
    refine zp_get dX11_seedDigest_54 gX11_212_10 o107 rfl ?_
    refine zp_aload_n dX11_seedDigest_57 rfl ?_
    refine zp_get dX11_seedDigest_58 gX11_102_10 o107 rfl ?_
    refine zp_aload_n dX11_seedDigest_61 rfl ?_
    refine zp_callV (As := []) (k := a) (st := [.ref (89), .int (nI ((((if ft = true then [] else 1 :: V) ++ R) ++ A).length)), .ref (87), .int (nI (zbi (zod kd))), .ref (64)]) (ci := 9) dX11_seedDigest_62 cX11_229 rfl m108 rfl rfl (e_zseed m108 hkd) (by decide) (by decide) (Nat.le_of_ble_eq_true rfl) (fun v110 h110 n110 q110 => ?_)
    obtain ⟨rfl, H110, N110⟩ := q110
    rw [N110, H110]
    refine zp_nrm (cells' := 0) (slots' := 0) (st' := [.int (nI (zsd kd)), .ref (89), .int (nI ((((if ft = true then [] else 1 :: V) ++ R) ++ A).length)), .ref (87), .int (nI (zbi (zod kd))), .ref (64)]) rfl rfl rfl ?_
    refine zp_pc (pc' := 65) rfl ?_
    have W111 := zmw.sh W1 (((s105).mono (fun i hi => by unfold zwf; unfold zsp at hi; omega)).trans ((s107).mono (fun i hi => by unfold zwf; unfold zsp at hi; omega))) ((z105).trans z107) (fun i hi => hi)
    have lL : (((if ft = true then [] else 1 :: V) ++ R) ++ A).length = (((if ft = true then [] else 1 :: V) ++ R) ++ A).length := rfl
    refine zp_callV (As := [.int (nI (zbi (zod kd))), .ref (87), .int (nI ((((if ft = true then [] else 1 :: V) ++ R) ++ A).length)), .ref (89), .int (nI (zsd kd))]) (k := 64) (st := []) (ci := 10) dX11_seedDigest_65 cX11_239 rfl o107 rfl rfl (e_mderW (b := (zod kd)) (p := 87) (r := 89) (k := zsd kd) W111 o107 x107 W111.m89 (by omega) (by decide) (by omega) (by decide) (by decide) (by (try simp only [List.length_append, List.length_cons, List.length_nil, List.length_singleton]); omega) (by omega)) (by decide) (by decide) (Nat.le_of_ble_eq_true rfl) (fun v112 h112 n112 q112 => ?_)
    obtain ⟨rfl, N112, s112, z112, d112⟩ := q112
    rw [N112]
    refine zp_nrm (cells' := 0) (slots' := 0) (st' := []) rfl rfl rfl ?_
    have m113 : h112 (a) = some (.inl (9, [.int (nI (zbi tr)), .int (nI (kd)), .int (nI (st)), .int (nI (iv)), .int (nI (zbi rs)), .int (nI (ct)), .int (dr), .int (nI (sd)), .ref (a + 1), .ref (a + 2)])) := (s112 _ (by unfold zs7; omega)).trans m108
    have m114 : h112 (64) = some (.inl (10, [.int (th), .ref (65), .ref (66), .ref (67), .ref (68), .ref (69), .ref (70), .ref (71), .ref (72), .ref (73), .ref (74), .ref (75), .ref (76), .ref (77), .ref (78), .ref (79), .ref (80), .ref (81), .ref (82), .ref (83), .ref (84), .int (nI (wt)), .int (nI (zbi un)), .int (rp), .int (wi), .int (pa), .int (be), .int (ru), .int (sa), .int (me), .int (se), .int (ta), .int (fa), .ref (85), .ref (86), .ref (87), .int (nI ((((if ft = true then [] else 1 :: V) ++ R) ++ A).length)), .ref (88), .ref (89), .ref (90), .ref (91), .ref (92), .ref (93), .int (nI (tp)), .ref (94), .int (nI (ou))])) := (s112 _ (by unfold zs7; omega)).trans o107
    have lD := zder_len (zod kd) ((if ft = true then [] else 1 :: V) ++ R ++ A) (zsd kd)
    obtain ⟨la115, lb115, lc115, lf115, ld115, le115⟩ := id d112
    obtain ⟨if116, ih116⟩ := id (((((V1).keep (s105 _ (by unfold zsp; omega))).keep (s107 _ (by unfold zsp; omega))).keep (s112 _ (by unfold zs7; omega))))
    refine zp_iconst (v := nI (0)) dX11_seedDigest_68 (by decide) ?_
    refine zp_istore (ls' := [some (.ref (64)), some (.ref (a)), some (.int (nI (zbi ft))), some (.int (nI (R.length))), some (.int (nI (A.length))), some (.int (nI (0)))]) dX11_seedDigest_69 (by decide) rfl ?_
    refine zp_pc (pc' := 71) rfl ?_
    have lp117 : zP g mX11_seedDigest (zR 5 0 0) Qf 0 0 100 [some (.ref (64)), some (.ref (a)), some (.int (nI (zbi ft))), some (.int (nI (R.length))), some (.int (nI (A.length))), some (.int (nI (zsd kd)))] [] (va_up h112 (a + 1) (some (.inr (111, .inl (zfl if116 (0) (zsd kd) (fun i => nI ((zder (zod kd) ((if ft = true then [] else 1 :: V) ++ R ++ A) (zsd kd)).getD i 0))))))) n → ∀ (m k117 : Nat), m = (zsd kd) - k117 → k117 ≤ (zsd kd) → zP g mX11_seedDigest (zR 5 0 0) Qf 0 0 71 [some (.ref (64)), some (.ref (a)), some (.int (nI (zbi ft))), some (.int (nI (R.length))), some (.int (nI (A.length))), some (.int (nI (k117)))] [] (va_up h112 (a + 1) (some (.inr (111, .inl (zfl if116 (0) (k117) (fun i => nI ((zder (zod kd) ((if ft = true then [] else 1 :: V) ++ R ++ A) (zsd kd)).getD i 0))))))) n := by
      intro kk m
      induction m using Nat.strongRecOn with
      | _ m ih =>
        intro k117 hm117 hk117
        refine zp_nh (fun hX117 eX117 => ?_)
        have k118_0 := (congrFun eX117 (a)).trans ((va_up_ne _ _ (by omega)).trans m113)
        have k118_1 := (congrFun eX117 (64)).trans ((va_up_ne _ _ (by omega)).trans m114)
        have k118_2 := (congrFun eX117 (89)).trans ((va_up_ne _ _ (by omega)).trans ld115)
        have k118_3 : hX117 (a + 1) = some (.inr (111, .inl (zfl if116 (0) (k117) (fun i => nI ((zder (zod kd) ((if ft = true then [] else 1 :: V) ++ R ++ A) (zsd kd)).getD i 0))))) := by rw [eX117]; exact va_up_self _ _ _
        refine zp_iload dX11_seedDigest_71 rfl ?_
        refine zp_aload_n dX11_seedDigest_73 rfl ?_
        refine zp_callV (As := []) (k := a) (st := [.int (nI (k117))]) (ci := 9) dX11_seedDigest_74 cX11_229 rfl k118_0 rfl rfl (e_zseed k118_0 hkd) (by decide) (by decide) (Nat.le_of_ble_eq_true rfl) (fun v119 h119 n119 q119 => ?_)
        obtain ⟨rfl, H119, N119⟩ := q119
        rw [N119, H119]
        refine zp_nrm (cells' := 0) (slots' := 0) (st' := [.int (nI (zsd kd)), .int (nI (k117))]) rfl rfl rfl ?_
        refine zp_pc (pc' := 77) rfl ?_
        refine zn_icmp_ge (tgt := 100) dX11_seedDigest_77 (by decide) (by omega) (by omega) (fun c77 => ?_) (fun c77 => ?_)
        · have e117 : k117 = (zsd kd) := by omega
          subst e117
          rw [eX117]
          exact kk
        · refine zp_aload_n dX11_seedDigest_80 rfl ?_
          refine zp_get dX11_seedDigest_81 gX11_226_9 k118_0 rfl ?_
          refine zp_iload dX11_seedDigest_84 rfl ?_
          refine zp_aload_n dX11_seedDigest_86 rfl ?_
          refine zp_get dX11_seedDigest_87 gX11_102_10 k118_1 rfl ?_
          refine zp_iload dX11_seedDigest_90 rfl ?_
          refine zp_pc (pc' := 92) rfl ?_
          refine zn_iald (j := k117) dX11_seedDigest_92 k118_2 (by omega) (by omega) ?_
          refine zp_i (y := nI ((zder (zod kd) ((if ft = true then [] else 1 :: V) ++ R ++ A) (zsd kd)).getD k117 0)) (le115 _ (by rw [lD]; omega)) ?_
          refine zn_iast dX11_seedDigest_93 (by omega) k118_3 (by omega) (by omega) ?_
          refine zp_nh (fun h120x eh120x => ?_)
          have k120_0 := (congrFun eh120x (a)).trans ((va_up_ne _ _ (by omega)).trans k118_0)
          have k120_1 := (congrFun eh120x (64)).trans ((va_up_ne _ _ (by omega)).trans k118_1)
          have k120_2 := (congrFun eh120x (89)).trans ((va_up_ne _ _ (by omega)).trans k118_2)
          have k120_3 : h120x (a + 1) = some (.inr (111, .inl (va_up (zfl if116 (0) (k117) (fun i => nI ((zder (zod kd) ((if ft = true then [] else 1 :: V) ++ R ++ A) (zsd kd)).getD i 0))) (k117) (nI ((zder (zod kd) ((if ft = true then [] else 1 :: V) ++ R ++ A) (zsd kd)).getD k117 0))))) := by rw [eh120x]; exact va_up_self _ _ _
          have sw121 : zsm hX117 h120x (zon (a + 1)) := zsm.rf.up eh120x rfl
          have zw121 : zsh hX117 h120x := zsh.fill eh120x k118_3
          refine zp_pc (pc' := 94) rfl ?_
          refine zn_iinc 1 (ls' := [some (.ref (64)), some (.ref (a)), some (.int (nI (zbi ft))), some (.int (nI (R.length))), some (.int (nI (A.length))), some (.int (nI (k117 + 1)))]) dX11_seedDigest_94 (by decide) (by decide) rfl rfl ?_
          refine zp_goto (tgt := 71) dX11_seedDigest_97 (by decide) ?_
          refine zp_pc (pc' := 71) rfl ?_
          rw [zfl_step eX117 eh120x (by omega) rfl]
          exact ih ((zsd kd) - (k117 + 1)) (by omega) (k117 + 1) rfl (by omega)
    suffices K117 : zP g mX11_seedDigest (zR 5 0 0) Qf 0 0 100 [some (.ref (64)), some (.ref (a)), some (.int (nI (zbi ft))), some (.int (nI (R.length))), some (.int (nI (A.length))), some (.int (nI (zsd kd)))] [] (va_up h112 (a + 1) (some (.inr (111, .inl (zfl if116 (0) (zsd kd) (fun i => nI ((zder (zod kd) ((if ft = true then [] else 1 :: V) ++ R ++ A) (zsd kd)).getD i 0))))))) n by
      have q := lp117 K117 ((zsd kd) - 0) 0 rfl (Nat.zero_le _)
      rw [zfl_0, zup_same ih116] at q
      exact q
    refine zp_nh (fun hY117 eY117 => ?_)
    have k122_0 := (congrFun eY117 (a)).trans ((va_up_ne _ _ (by omega)).trans m113)
    have k122_1 := (congrFun eY117 (64)).trans ((va_up_ne _ _ (by omega)).trans m114)
    have k122_2 := (congrFun eY117 (89)).trans ((va_up_ne _ _ (by omega)).trans ld115)
    have k122_3 : hY117 (a + 1) = some (.inr (111, .inl (zfl if116 (0) (zsd kd) (fun i => nI ((zder (zod kd) ((if ft = true then [] else 1 :: V) ++ R ++ A) (zsd kd)).getD i 0))))) := by rw [eY117]; exact va_up_self _ _ _
    have sf123 := (zsm.fill eY117)
    have zf123 := zsh.fill eY117 ih116
    refine zp_aload_n dX11_seedDigest_100 rfl ?_
    refine zp_pc (pc' := 101) rfl ?_
    have aV : zar hY117 (a + 1) 111 (zder (zod kd) ((if ft = true then [] else 1 :: V) ++ R ++ A) (zsd kd)) := zar.mk (L := zsd kd) k122_3 lD (by omega) (by decide) lc115 (fun j hj => zfl_in0 hj)
    refine zp_callV (As := []) (k := 64) (st := []) (ci := 10) dX11_seedDigest_101 cX11_223 rfl k122_1 rfl rfl (e_mbegin k122_1) (by decide) (by decide) (Nat.le_of_ble_eq_true rfl) (fun v124 h124 n124 q124 => ?_)
    obtain ⟨rfl, N124, s124, z124, o124⟩ := q124
    rw [N124]
    refine zp_nrm (cells' := 0) (slots' := 0) (st' := []) rfl rfl rfl ?_
    have m125 : h124 (a) = some (.inl (9, [.int (nI (zbi tr)), .int (nI (kd)), .int (nI (st)), .int (nI (iv)), .int (nI (zbi rs)), .int (nI (ct)), .int (dr), .int (nI (sd)), .ref (a + 1), .ref (a + 2)])) := (s124 _ (by unfold zon; omega)).trans k122_0
    have m126 : h124 (89) = some (.inr (111, .inl lf115)) := (s124 _ (by unfold zon; omega)).trans k122_2
    have m127 : h124 (a + 1) = some (.inr (111, .inl (zfl if116 (0) (zsd kd) (fun i => nI ((zder (zod kd) ((if ft = true then [] else 1 :: V) ++ R ++ A) (zsd kd)).getD i 0))))) := (s124 _ (by unfold zon; omega)).trans k122_3
    have W128 := zmw.sh W111 ((((s112).mono (fun i hi => by unfold zwf; unfold zs7 at hi; omega)).trans ((sf123).mono (fun i hi => by unfold zwf; unfold zon at hi; omega))).trans ((s124).mono (fun i hi => by unfold zwf; unfold zon at hi; omega))) (((z112).trans zf123).trans z124) (fun i hi => hi)
    have xx124 : zar h124 87 1000 [] := zar.nil W128.m87 (by decide)
    refine zp_aload_n dX11_seedDigest_104 rfl ?_
    refine zp_iconst (v := nI (0)) dX11_seedDigest_105 (by decide) ?_
    refine zp_pc (pc' := 106) rfl ?_
    refine zp_callV (As := [.int (nI (0))]) (k := 64) (st := []) (ci := 10) dX11_seedDigest_106 cX11_215 rfl o124 rfl rfl (e_mput (xs := []) (x := 0) o124 xx124 (by decide) (by (try simp only [List.length_append, List.length_cons, List.length_nil, List.length_singleton]); omega)) (by decide) (by decide) (Nat.le_of_ble_eq_true rfl) (fun v129 h129 n129 q129 => ?_)
    obtain ⟨rfl, N129, s129, z129, o129, x129⟩ := q129
    rw [N129]
    refine zp_nrm (cells' := 0) (slots' := 0) (st' := []) rfl rfl rfl ?_
    have m130 : h129 (a) = some (.inl (9, [.int (nI (zbi tr)), .int (nI (kd)), .int (nI (st)), .int (nI (iv)), .int (nI (zbi rs)), .int (nI (ct)), .int (dr), .int (nI (sd)), .ref (a + 1), .ref (a + 2)])) := (s129 _ (by unfold zsp; omega)).trans m125
    have m131 : h129 (89) = some (.inr (111, .inl lf115)) := (s129 _ (by unfold zsp; omega)).trans m126
    have m132 : h129 (a + 1) = some (.inr (111, .inl (zfl if116 (0) (zsd kd) (fun i => nI ((zder (zod kd) ((if ft = true then [] else 1 :: V) ++ R ++ A) (zsd kd)).getD i 0))))) := (s129 _ (by unfold zsp; omega)).trans m127
    refine zp_aload_n dX11_seedDigest_109 rfl ?_
    refine zp_aload_n dX11_seedDigest_110 rfl ?_
    refine zp_get dX11_seedDigest_111 gX11_226_9 m130 rfl ?_
    refine zp_aload_n dX11_seedDigest_114 rfl ?_
    refine zp_pc (pc' := 115) rfl ?_
    refine zp_callV (As := []) (k := a) (st := [.ref (a + 1), .ref (64)]) (ci := 9) dX11_seedDigest_115 cX11_229 rfl m130 rfl rfl (e_zseed m130 hkd) (by decide) (by decide) (Nat.le_of_ble_eq_true rfl) (fun v133 h133 n133 q133 => ?_)
    obtain ⟨rfl, H133, N133⟩ := q133
    rw [N133, H133]
    refine zp_nrm (cells' := 0) (slots' := 0) (st' := [.int (nI (zsd kd)), .ref (a + 1), .ref (64)]) rfl rfl rfl ?_
    refine zp_i (y := nI ((zder (zod kd) ((if ft = true then [] else 1 :: V) ++ R ++ A) (zsd kd)).length)) (by rw [lD]) ?_
    refine zp_callV (As := [.ref (a + 1), .int (nI ((zder (zod kd) ((if ft = true then [] else 1 :: V) ++ R ++ A) (zsd kd)).length))]) (k := 64) (st := []) (ci := 10) dX11_seedDigest_118 cX11_233 rfl o129 rfl rfl (e_mputs (xs := ([] ++ [0])) (ys := (zder (zod kd) ((if ft = true then [] else 1 :: V) ++ R ++ A) (zsd kd))) (q := a + 1) o129 x129 (((aV).keep (s124 _ (by unfold zon; omega))).keep (s129 _ (by unfold zsp; omega))) (by omega) (by (try simp only [List.length_append, List.length_cons, List.length_nil, List.length_singleton]); omega)) (by decide) (by decide) (Nat.le_of_ble_eq_true rfl) (fun v134 h134 n134 q134 => ?_)
    obtain ⟨rfl, N134, s134, z134, o134, x134⟩ := q134
    rw [N134]
    refine zp_nrm (cells' := 0) (slots' := 0) (st' := []) rfl rfl rfl ?_
    have m135 : h134 (a) = some (.inl (9, [.int (nI (zbi tr)), .int (nI (kd)), .int (nI (st)), .int (nI (iv)), .int (nI (zbi rs)), .int (nI (ct)), .int (dr), .int (nI (sd)), .ref (a + 1), .ref (a + 2)])) := (s134 _ (by unfold zsp; omega)).trans m130
    have m136 : h134 (89) = some (.inr (111, .inl lf115)) := (s134 _ (by unfold zsp; omega)).trans m131
    have m137 : h134 (a + 1) = some (.inr (111, .inl (zfl if116 (0) (zsd kd) (fun i => nI ((zder (zod kd) ((if ft = true then [] else 1 :: V) ++ R ++ A) (zsd kd)).getD i 0))))) := (s134 _ (by unfold zsp; omega)).trans m132
    refine zp_aload_n dX11_seedDigest_121 rfl ?_
    refine zp_aload_n dX11_seedDigest_122 rfl ?_
    refine zp_callV (As := []) (k := a) (st := [.ref (64)]) (ci := 9) dX11_seedDigest_123 cX11_235 rfl m135 rfl rfl (e_zgreat m135 hkd) (by decide) (by decide) (Nat.le_of_ble_eq_true rfl) (fun v138 h138 n138 q138 => ?_)
    obtain ⟨rfl, H138, N138⟩ := q138
    rw [N138, H138]
    refine zp_nrm (cells' := 0) (slots' := 0) (st' := [.int (nI (zbi (zgr kd))), .ref (64)]) rfl rfl rfl ?_
    refine zp_i (y := nI (zbi (zod kd))) (by rw [hgr]) ?_
    refine zp_aload_n dX11_seedDigest_126 rfl ?_
    refine zp_get dX11_seedDigest_127 gX11_96_10 o134 rfl ?_
    refine zp_aload_n dX11_seedDigest_130 rfl ?_
    refine zp_get dX11_seedDigest_131 gX11_212_10 o134 rfl ?_
    refine zp_aload_n dX11_seedDigest_134 rfl ?_
    refine zp_get dX11_seedDigest_135 gX11_243_9 m135 rfl ?_
    refine zp_aload_n dX11_seedDigest_138 rfl ?_
    refine zp_callV (As := []) (k := a) (st := [.ref (a + 2), .int (nI ((([] ++ [0]) ++ (zder (zod kd) ((if ft = true then [] else 1 :: V) ++ R ++ A) (zsd kd))).length)), .ref (87), .int (nI (zbi (zod kd))), .ref (64)]) (ci := 9) dX11_seedDigest_139 cX11_229 rfl m135 rfl rfl (e_zseed m135 hkd) (by decide) (by decide) (Nat.le_of_ble_eq_true rfl) (fun v139 h139 n139 q139 => ?_)
    obtain ⟨rfl, H139, N139⟩ := q139
    rw [N139, H139]
    refine zp_nrm (cells' := 0) (slots' := 0) (st' := [.int (nI (zsd kd)), .ref (a + 2), .int (nI ((([] ++ [0]) ++ (zder (zod kd) ((if ft = true then [] else 1 :: V) ++ R ++ A) (zsd kd))).length)), .ref (87), .int (nI (zbi (zod kd))), .ref (64)]) rfl rfl rfl ?_
    refine zp_pc (pc' := 142) rfl ?_
    have W140 := zmw.sh W128 (((s129).mono (fun i hi => by unfold zwf; unfold zsp at hi; omega)).trans ((s134).mono (fun i hi => by unfold zwf; unfold zsp at hi; omega))) ((z129).trans z134) (fun i hi => hi)
    refine zp_callV (As := [.int (nI (zbi (zod kd))), .ref (87), .int (nI ((([] ++ [0]) ++ (zder (zod kd) ((if ft = true then [] else 1 :: V) ++ R ++ A) (zsd kd))).length)), .ref (a + 2), .int (nI (zsd kd))]) (k := 64) (st := []) (ci := 10) dX11_seedDigest_142 cX11_239 rfl o134 rfl rfl (e_mderW (b := (zod kd)) (p := 87) (r := a + 2) (k := zsd kd) W140 o134 x134 (((((((((C1).keep (s105 _ (by unfold zsp; omega))).keep (s107 _ (by unfold zsp; omega))).keep (s112 _ (by unfold zs7; omega))).keep (sf123 _ (by unfold zon; omega))).keep (s124 _ (by unfold zon; omega))).keep (s129 _ (by unfold zsp; omega))).keep (s134 _ (by unfold zsp; omega)))) (by omega) (by decide) (by omega) (by omega) (by omega) (by (try simp only [List.length_append, List.length_cons, List.length_nil, List.length_singleton]); omega) (by omega)) (by decide) (by decide) (Nat.le_of_ble_eq_true rfl) (fun v141 h141 n141 q141 => ?_)
    obtain ⟨rfl, N141, s141, z141, d141⟩ := q141
    rw [N141]
    refine zp_nrm (cells' := 0) (slots' := 0) (st' := []) rfl rfl rfl ?_
    have m142 : h141 (a) = some (.inl (9, [.int (nI (zbi tr)), .int (nI (kd)), .int (nI (st)), .int (nI (iv)), .int (nI (zbi rs)), .int (nI (ct)), .int (dr), .int (nI (sd)), .ref (a + 1), .ref (a + 2)])) := (s141 _ (by unfold zs7; omega)).trans m135
    have m143 : h141 (89) = some (.inr (111, .inl lf115)) := (s141 _ (by unfold zs7; omega)).trans m136
    have m144 : h141 (a + 1) = some (.inr (111, .inl (zfl if116 (0) (zsd kd) (fun i => nI ((zder (zod kd) ((if ft = true then [] else 1 :: V) ++ R ++ A) (zsd kd)).getD i 0))))) := (s141 _ (by unfold zs7; omega)).trans m137
    have m145 : h141 (64) = some (.inl (10, [.int (th), .ref (65), .ref (66), .ref (67), .ref (68), .ref (69), .ref (70), .ref (71), .ref (72), .ref (73), .ref (74), .ref (75), .ref (76), .ref (77), .ref (78), .ref (79), .ref (80), .ref (81), .ref (82), .ref (83), .ref (84), .int (nI (wt)), .int (nI (zbi un)), .int (rp), .int (wi), .int (pa), .int (be), .int (ru), .int (sa), .int (me), .int (se), .int (ta), .int (fa), .ref (85), .ref (86), .ref (87), .int (nI ((([] ++ [0]) ++ (zder (zod kd) ((if ft = true then [] else 1 :: V) ++ R ++ A) (zsd kd))).length)), .ref (88), .ref (89), .ref (90), .ref (91), .ref (92), .ref (93), .int (nI (tp)), .ref (94), .int (nI (ou))])) := (s141 _ (by unfold zs7; omega)).trans o134
    refine zp_pc (pc' := 145) rfl ?_
    refine zp_ret (v := none) dX11_seedDigest_145 ⟨rfl, rfl⟩ (by decide) (by decide) ?_
    rw [hQ]
    exact ⟨rfl, rfl, (s1.mono (fun i hi => by unfold zsg; unfold zsp at hi; omega)).trans (((((((((s105).mono (fun i hi => by unfold zsg; unfold zsp at hi; omega)).trans ((s107).mono (fun i hi => by unfold zsg; unfold zsp at hi; omega))).trans ((s112).mono (fun i hi => by unfold zsg; unfold zs7 at hi; omega))).trans ((sf123).mono (fun i hi => by unfold zsg; unfold zon at hi; omega))).trans ((s124).mono (fun i hi => by unfold zsg; unfold zon at hi; omega))).trans ((s129).mono (fun i hi => by unfold zsg; unfold zsp at hi; omega))).trans ((s134).mono (fun i hi => by unfold zsg; unfold zsp at hi; omega))).trans ((s141).mono (fun i hi => by unfold zsg; unfold zs7 at hi; omega))), z1.trans ((((((((z105).trans z107).trans z112).trans zf123).trans z124).trans z129).trans z134).trans z141), ⟨_, m145⟩, (((((aV).keep (s124 _ (by unfold zon; omega))).keep (s129 _ (by unfold zsp; omega))).keep (s134 _ (by unfold zsp; omega))).keep (s141 _ (by unfold zs7; omega))), d141⟩
  refine zn_if_ne (tgt := 25) dX11_seedDigest_5 (by decide) (by have := zbi_lt ft; omega) (fun c5 => ?_) (fun c5 => ?_)
  · have bt : ft = true := by cases ft; exact absurd rfl c5; rfl
    exact kt104 h101 ((s101).mono (fun i hi => by unfold zsp; unfold zon at hi; omega)) (z101) (by rw [if_pos bt]; exact o101) (by rw [if_pos bt]; exact xx101)
  · have bt : ft = false := by cases ft; rfl; exact absurd c5 (by decide)
    have lV := lV bt
    refine zp_aload_n dX11_seedDigest_8 rfl ?_
    refine zp_iconst (v := nI (1)) dX11_seedDigest_9 (by decide) ?_
    refine zp_pc (pc' := 10) rfl ?_
    refine zp_callV (As := [.int (nI (1))]) (k := 64) (st := []) (ci := 10) dX11_seedDigest_10 cX11_215 rfl o101 rfl rfl (e_mput (xs := []) (x := 1) o101 xx101 (by decide) (by (try simp only [List.length_append, List.length_cons, List.length_nil, List.length_singleton]); omega)) (by decide) (by decide) (Nat.le_of_ble_eq_true rfl) (fun v146 h146 n146 q146 => ?_)
    obtain ⟨rfl, N146, s146, z146, o146, x146⟩ := q146
    rw [N146]
    refine zp_nrm (cells' := 0) (slots' := 0) (st' := []) rfl rfl rfl ?_
    have m147 : h146 (a) = some (.inl (9, [.int (nI (zbi tr)), .int (nI (kd)), .int (nI (st)), .int (nI (iv)), .int (nI (zbi rs)), .int (nI (ct)), .int (dr), .int (nI (sd)), .ref (a + 1), .ref (a + 2)])) := (s146 _ (by unfold zsp; omega)).trans m102
    refine zp_aload_n dX11_seedDigest_13 rfl ?_
    refine zp_aload_n dX11_seedDigest_14 rfl ?_
    refine zp_get dX11_seedDigest_15 gX11_226_9 m147 rfl ?_
    refine zp_aload_n dX11_seedDigest_18 rfl ?_
    refine zp_pc (pc' := 19) rfl ?_
    refine zp_callV (As := []) (k := a) (st := [.ref (a + 1), .ref (64)]) (ci := 9) dX11_seedDigest_19 cX11_229 rfl m147 rfl rfl (e_zseed m147 hkd) (by decide) (by decide) (Nat.le_of_ble_eq_true rfl) (fun v148 h148 n148 q148 => ?_)
    obtain ⟨rfl, H148, N148⟩ := q148
    rw [N148, H148]
    refine zp_nrm (cells' := 0) (slots' := 0) (st' := [.int (nI (zsd kd)), .ref (a + 1), .ref (64)]) rfl rfl rfl ?_
    refine zp_i (y := nI (V.length)) (by rw [lV]) ?_
    refine zp_callV (As := [.ref (a + 1), .int (nI (V.length))]) (k := 64) (st := []) (ci := 10) dX11_seedDigest_22 cX11_233 rfl o146 rfl rfl (e_mputs (xs := ([] ++ [1])) (ys := V) (q := a + 1) o146 x146 (((hV).keep (s101 _ (by unfold zon; omega))).keep (s146 _ (by unfold zsp; omega))) (by omega) (by (try simp only [List.length_append, List.length_cons, List.length_nil, List.length_singleton]); omega)) (by decide) (by decide) (Nat.le_of_ble_eq_true rfl) (fun v149 h149 n149 q149 => ?_)
    obtain ⟨rfl, N149, s149, z149, o149, x149⟩ := q149
    rw [N149]
    refine zp_nrm (cells' := 0) (slots' := 0) (st' := []) rfl rfl rfl ?_
    have m150 : h149 (a) = some (.inl (9, [.int (nI (zbi tr)), .int (nI (kd)), .int (nI (st)), .int (nI (iv)), .int (nI (zbi rs)), .int (nI (ct)), .int (dr), .int (nI (sd)), .ref (a + 1), .ref (a + 2)])) := (s149 _ (by unfold zsp; omega)).trans m147
    refine zp_pc (pc' := 25) rfl ?_
    exact kt104 h149 ((((s101).mono (fun i hi => by unfold zsp; unfold zon at hi; omega)).trans ((s146).mono (fun i hi => by unfold zsp; unfold zsp at hi; omega))).trans ((s149).mono (fun i hi => by unfold zsp; unfold zsp at hi; omega))) (((z101).trans z146).trans z149) (by rw [if_neg (by rw [bt]; decide)]; exact o149) (by rw [if_neg (by rw [bt]; decide)]; exact x149)
set_option maxRecDepth 10000 in
set_option maxHeartbeats 2000000 in
theorem e_zdrawD {g : ZG} {h : ZH} {n : Nat} {a kd st iv ct sd : Nat} {tr rs : Bool} {dr : Int32} {V C A : List Nat} {k : Nat} {th : Int32} {wt : Nat} {un : Bool} {rp wi pa be ru sa me se ta fa : Int32} {mn tp ou : Nat} (hw : zmw h) (ho : h 64 = some (.inl (10, [.int (th), .ref (65), .ref (66), .ref (67), .ref (68), .ref (69), .ref (70), .ref (71), .ref (72), .ref (73), .ref (74), .ref (75), .ref (76), .ref (77), .ref (78), .ref (79), .ref (80), .ref (81), .ref (82), .ref (83), .ref (84), .int (nI (wt)), .int (nI (zbi un)), .int (rp), .int (wi), .int (pa), .int (be), .int (ru), .int (sa), .int (me), .int (se), .int (ta), .int (fa), .ref (85), .ref (86), .ref (87), .int (nI (mn)), .ref (88), .ref (89), .ref (90), .ref (91), .ref (92), .ref (93), .int (nI (tp)), .ref (94), .int (nI (ou))]))) (hg : h a = some (.inl (9, [.int (nI (zbi tr)), .int (nI (kd)), .int (nI (st)), .int (nI (iv)), .int (nI (zbi rs)), .int (nI (ct)), .int (dr), .int (nI (sd)), .ref (a + 1), .ref (a + 2)]))) (ha : a = 95 ∨ a = 98 ∨ a = 101 ∨ a = 104) (hkd : kd < 8) (hk2 : kd < 2) (hV : zar h (a + 1) 111 V) (hC : zar h (a + 2) 111 C) (hA : zar h 93 240 A) (hO : zia h 94 4096) (lV : V.length = zsd kd) (lC : C.length = zsd kd) (hk : k ≤ 4096) (hct : ct < 2 ^ 31) : zMt g mX11_drawDigest (zR 5 0 0) [.ref (64), .ref (a), .int (nI (k)), .int (nI (A.length))] h n (fun v h' n' => v = none ∧ n' = n ∧ zsm h h' (zsgo a) ∧ zsh h h' ∧ (∃ mn', h' 64 = some (.inl (10, [.int (th), .ref (65), .ref (66), .ref (67), .ref (68), .ref (69), .ref (70), .ref (71), .ref (72), .ref (73), .ref (74), .ref (75), .ref (76), .ref (77), .ref (78), .ref (79), .ref (80), .ref (81), .ref (82), .ref (83), .ref (84), .int (nI (wt)), .int (nI (zbi un)), .int (rp), .int (wi), .int (pa), .int (be), .int (ru), .int (sa), .int (me), .int (se), .int (ta), .int (fa), .ref (85), .ref (86), .ref (87), .int (nI (mn')), .ref (88), .ref (89), .ref (90), .ref (91), .ref (92), .ref (93), .int (nI (tp)), .ref (94), .int (nI (ou))]))) ∧ zar h' 94 4096 (zpr kd ct k V C A).1 ∧ zar h' (a + 1) 111 (zpr kd ct k V C A).2.1 ∧ zar h' (a + 2) 111 (zpr kd ct k V C A).2.2) := by
  refine zMt.of [some (.ref (64)), some (.ref (a)), some (.int (nI (k))), some (.int (nI (A.length))), none, none, none] (by decide) rfl (Nat.le_of_ble_eq_true rfl) ?_
  obtain ⟨Qf, hQ⟩ : ∃ Qf : ZQ, Qf = (fun v h' n' => v = none ∧ n' = n ∧ zsm h h' (zsgo a) ∧ zsh h h' ∧ (∃ mn', h' 64 = some (.inl (10, [.int (th), .ref (65), .ref (66), .ref (67), .ref (68), .ref (69), .ref (70), .ref (71), .ref (72), .ref (73), .ref (74), .ref (75), .ref (76), .ref (77), .ref (78), .ref (79), .ref (80), .ref (81), .ref (82), .ref (83), .ref (84), .int (nI (wt)), .int (nI (zbi un)), .int (rp), .int (wi), .int (pa), .int (be), .int (ru), .int (sa), .int (me), .int (se), .int (ta), .int (fa), .ref (85), .ref (86), .ref (87), .int (nI (mn')), .ref (88), .ref (89), .ref (90), .ref (91), .ref (92), .ref (93), .int (nI (tp)), .ref (94), .int (nI (ou))]))) ∧ zar h' 94 4096 (zpr kd ct k V C A).1 ∧ zar h' (a + 1) 111 (zpr kd ct k V C A).2.1 ∧ zar h' (a + 2) 111 (zpr kd ct k V C A).2.2) := ⟨_, rfl⟩
  rw [← hQ]
  have hgr := zgr_odd (show kd < 4 by omega)
  have hs := zsd_le hkd
  have hz := zwb_or (zod kd)
  have lA := hA.1
  have vb := hV.bytes
  have hk01 : kd = 0 ∨ kd = 1 := by omega
  have hsz : 8 * zwb (zod kd) ≤ zsd kd := by rcases hk01 with rfl | rfl <;> decide
  obtain ⟨V1, eV1⟩ : ∃ V1 : List Nat, V1 = (if 0 < A.length then zplus V (zval (zhash (zod kd) (2 :: (V ++ A)))) else V) := ⟨_, rfl⟩
  have lV1 : V1.length = zsd kd := by rw [eV1]; split; rw [zplus_len, lV]; exact lV
  have vb1 : ∀ x ∈ V1, x < 256 := by rw [eV1]; split; exact znum_lt _ _; exact vb
  have ep : zpr kd ct k V C A = zpr4 (zod kd) ct k V C V1 := by rw [eV1]; exact if_pos hk2
  rw [ep] at hQ
  refine zp_aload_n dX11_drawDigest_0 rfl ?_
  refine zp_callV (As := []) (k := a) (st := []) (ci := 9) dX11_drawDigest_1 cX11_235 rfl hg rfl rfl (e_zgreat hg hkd) (by decide) (by decide) (Nat.le_of_ble_eq_true rfl) (fun v101 h101 n101 q101 => ?_)
  obtain ⟨rfl, H101, N101⟩ := q101
  rw [N101, H101]
  refine zp_nrm (cells' := 0) (slots' := 0) (st' := [.int (nI (zbi (zgr kd)))]) rfl rfl rfl ?_
  refine zp_i (y := nI (zbi (zod kd))) (by rw [hgr]) ?_
  refine zp_callS (As := [.int (nI (zbi (zod kd)))]) (st := []) dX11_drawDigest_4 cX11_166 rfl (e_sizeOf (b := (zod kd))) (by decide) (by decide) (Nat.le_of_ble_eq_true rfl) (fun v102 h102 n102 q102 => ?_)
  obtain ⟨rfl, H102, N102⟩ := q102
  rw [N102, H102]
  refine zp_nrm (cells' := 0) (slots' := 0) (st' := [.int (nI (8 * zwb (zod kd)))]) rfl rfl rfl ?_
  refine zp_istore (ls' := [some (.ref (64)), some (.ref (a)), some (.int (nI (k))), some (.int (nI (A.length))), some (.int (nI (8 * zwb (zod kd)))), none, none]) dX11_drawDigest_7 (by decide) rfl ?_
  refine zp_iload_n dX11_drawDigest_9 rfl ?_
  refine zp_pc (pc' := 10) rfl ?_
  have kt103 : ∀ (h1 : ZH), zsm h h1 (zsgo a) → zsh h h1 → (∃ mn1, h1 64 = some (.inl (10, [.int (th), .ref (65), .ref (66), .ref (67), .ref (68), .ref (69), .ref (70), .ref (71), .ref (72), .ref (73), .ref (74), .ref (75), .ref (76), .ref (77), .ref (78), .ref (79), .ref (80), .ref (81), .ref (82), .ref (83), .ref (84), .int (nI (wt)), .int (nI (zbi un)), .int (rp), .int (wi), .int (pa), .int (be), .int (ru), .int (sa), .int (me), .int (se), .int (ta), .int (fa), .ref (85), .ref (86), .ref (87), .int (nI (mn1)), .ref (88), .ref (89), .ref (90), .ref (91), .ref (92), .ref (93), .int (nI (tp)), .ref (94), .int (nI (ou))]))) → zar h1 (a + 1) 111 V1 → zar h1 (a + 2) 111 C → zia h1 94 4096 → zP g mX11_drawDigest (zR 5 0 0) Qf 0 0 76 [some (.ref (64)), some (.ref (a)), some (.int (nI (k))), some (.int (nI (A.length))), some (.int (nI (8 * zwb (zod kd)))), none, none] [] h1 n := by
    intro h1 s1 z1 o1 V1h C1h hO1
    have W1 := hw.sh s1 z1 (fun i q => by unfold zsgo at q; unfold zwf; omega)
    obtain ⟨mn1, o1⟩ := o1
    have g1 : h1 a = some (.inl (9, [.int (nI (zbi tr)), .int (nI (kd)), .int (nI (st)), .int (nI (iv)), .int (nI (zbi rs)), .int (nI (ct)), .int (dr), .int (nI (sd)), .ref (a + 1), .ref (a + 2)])) := (s1 _ (by unfold zsgo; omega)).trans hg
    obtain ⟨la104, lb104, lc104, lf104, ld104, le104⟩ := id V1h
    obtain ⟨if105, ih105⟩ := id (W1.m89)
    refine zp_iconst (v := nI (0)) dX11_drawDigest_76 (by decide) ?_
    refine zp_istore (ls' := [some (.ref (64)), some (.ref (a)), some (.int (nI (k))), some (.int (nI (A.length))), some (.int (nI (8 * zwb (zod kd)))), some (.int (nI (0))), none]) dX11_drawDigest_77 (by decide) rfl ?_
    refine zp_pc (pc' := 79) rfl ?_
    have lp106 : zP g mX11_drawDigest (zR 5 0 0) Qf 0 0 108 [some (.ref (64)), some (.ref (a)), some (.int (nI (k))), some (.int (nI (A.length))), some (.int (nI (8 * zwb (zod kd)))), some (.int (nI (zsd kd))), none] [] (va_up h1 (89) (some (.inr (111, .inl (zfl if105 (0) (zsd kd) (fun i => nI (V1.getD i 0))))))) n → ∀ (m k106 : Nat), m = (zsd kd) - k106 → k106 ≤ (zsd kd) → zP g mX11_drawDigest (zR 5 0 0) Qf 0 0 79 [some (.ref (64)), some (.ref (a)), some (.int (nI (k))), some (.int (nI (A.length))), some (.int (nI (8 * zwb (zod kd)))), some (.int (nI (k106))), none] [] (va_up h1 (89) (some (.inr (111, .inl (zfl if105 (0) (k106) (fun i => nI (V1.getD i 0))))))) n := by
      intro kk m
      induction m using Nat.strongRecOn with
      | _ m ih =>
        intro k106 hm106 hk106
        refine zp_nh (fun hX106 eX106 => ?_)
        have k107_0 := (congrFun eX106 (a)).trans ((va_up_ne _ _ (by omega)).trans g1)
        have k107_1 := (congrFun eX106 (64)).trans ((va_up_ne _ _ (by omega)).trans o1)
        have k107_2 := (congrFun eX106 (a + 1)).trans ((va_up_ne _ _ (by omega)).trans ld104)
        have k107_3 : hX106 (89) = some (.inr (111, .inl (zfl if105 (0) (k106) (fun i => nI (V1.getD i 0))))) := by rw [eX106]; exact va_up_self _ _ _
        refine zp_iload dX11_drawDigest_79 rfl ?_
        refine zp_aload_n dX11_drawDigest_81 rfl ?_
        refine zp_callV (As := []) (k := a) (st := [.int (nI (k106))]) (ci := 9) dX11_drawDigest_82 cX11_229 rfl k107_0 rfl rfl (e_zseed k107_0 hkd) (by decide) (by decide) (Nat.le_of_ble_eq_true rfl) (fun v108 h108 n108 q108 => ?_)
        obtain ⟨rfl, H108, N108⟩ := q108
        rw [N108, H108]
        refine zp_nrm (cells' := 0) (slots' := 0) (st' := [.int (nI (zsd kd)), .int (nI (k106))]) rfl rfl rfl ?_
        refine zp_pc (pc' := 85) rfl ?_
        refine zn_icmp_ge (tgt := 108) dX11_drawDigest_85 (by decide) (by omega) (by omega) (fun c85 => ?_) (fun c85 => ?_)
        · have e106 : k106 = (zsd kd) := by omega
          subst e106
          rw [eX106]
          exact kk
        · refine zp_aload_n dX11_drawDigest_88 rfl ?_
          refine zp_get dX11_drawDigest_89 gX11_102_10 k107_1 rfl ?_
          refine zp_iload dX11_drawDigest_92 rfl ?_
          refine zp_aload_n dX11_drawDigest_94 rfl ?_
          refine zp_get dX11_drawDigest_95 gX11_226_9 k107_0 rfl ?_
          refine zp_iload dX11_drawDigest_98 rfl ?_
          refine zp_pc (pc' := 100) rfl ?_
          refine zn_iald (j := k106) dX11_drawDigest_100 k107_2 (by omega) (by omega) ?_
          refine zp_i (y := nI (V1.getD k106 0)) (le104 _ (by omega)) ?_
          refine zn_iast dX11_drawDigest_101 (by omega) k107_3 (by omega) (by omega) ?_
          refine zp_nh (fun h109x eh109x => ?_)
          have k109_0 := (congrFun eh109x (a)).trans ((va_up_ne _ _ (by omega)).trans k107_0)
          have k109_1 := (congrFun eh109x (64)).trans ((va_up_ne _ _ (by omega)).trans k107_1)
          have k109_2 := (congrFun eh109x (a + 1)).trans ((va_up_ne _ _ (by omega)).trans k107_2)
          have k109_3 : h109x (89) = some (.inr (111, .inl (va_up (zfl if105 (0) (k106) (fun i => nI (V1.getD i 0))) (k106) (nI (V1.getD k106 0))))) := by rw [eh109x]; exact va_up_self _ _ _
          have sw110 : zsm hX106 h109x (zon (89)) := zsm.rf.up eh109x rfl
          have zw110 : zsh hX106 h109x := zsh.fill eh109x k107_3
          refine zp_pc (pc' := 102) rfl ?_
          refine zn_iinc 1 (ls' := [some (.ref (64)), some (.ref (a)), some (.int (nI (k))), some (.int (nI (A.length))), some (.int (nI (8 * zwb (zod kd)))), some (.int (nI (k106 + 1))), none]) dX11_drawDigest_102 (by decide) (by decide) rfl rfl ?_
          refine zp_goto (tgt := 79) dX11_drawDigest_105 (by decide) ?_
          refine zp_pc (pc' := 79) rfl ?_
          rw [zfl_step eX106 eh109x (by omega) rfl]
          exact ih ((zsd kd) - (k106 + 1)) (by omega) (k106 + 1) rfl (by omega)
    suffices K106 : zP g mX11_drawDigest (zR 5 0 0) Qf 0 0 108 [some (.ref (64)), some (.ref (a)), some (.int (nI (k))), some (.int (nI (A.length))), some (.int (nI (8 * zwb (zod kd)))), some (.int (nI (zsd kd))), none] [] (va_up h1 (89) (some (.inr (111, .inl (zfl if105 (0) (zsd kd) (fun i => nI (V1.getD i 0))))))) n by
      have q := lp106 K106 ((zsd kd) - 0) 0 rfl (Nat.zero_le _)
      rw [zfl_0, zup_same ih105] at q
      exact q
    refine zp_nh (fun hY106 eY106 => ?_)
    have k111_0 := (congrFun eY106 (a)).trans ((va_up_ne _ _ (by omega)).trans g1)
    have k111_1 := (congrFun eY106 (64)).trans ((va_up_ne _ _ (by omega)).trans o1)
    have k111_2 := (congrFun eY106 (a + 1)).trans ((va_up_ne _ _ (by omega)).trans ld104)
    have k111_3 : hY106 (89) = some (.inr (111, .inl (zfl if105 (0) (zsd kd) (fun i => nI (V1.getD i 0))))) := by rw [eY106]; exact va_up_self _ _ _
    have sf112 := (zsm.fill eY106)
    have zf112 := zsh.fill eY106 ih105
    refine zp_iconst (v := nI (0)) dX11_drawDigest_108 (by decide) ?_
    refine zp_istore (ls' := [some (.ref (64)), some (.ref (a)), some (.int (nI (k))), some (.int (nI (A.length))), some (.int (nI (8 * zwb (zod kd)))), some (.int (nI (0))), none]) dX11_drawDigest_109 (by decide) rfl ?_
    refine zp_pc (pc' := 111) rfl ?_
    refine zp_ls (ls' := [some (.ref (64)), some (.ref (a)), some (.int (nI (k))), some (.int (nI (A.length))), some (.int (nI (8 * zwb (zod kd)))), some (.int (nI (8 * zwb (zod kd) * 0))), none]) (by rw [Nat.mul_zero]) ?_
    have aF : zar hY106 89 111 (zplus V1 0) := by rw [zplus_0 vb1]; exact zar.mk (L := zsd kd) k111_3 lV1 (by omega) (by decide) vb1 (fun j hj => zfl_in0 hj)
    obtain ⟨gO, hO1⟩ := hO1
    have hO2 : hY106 94 = some (.inr (4096, .inl gO)) := ((sf112 94 (by unfold zon; omega)).trans hO1)
    have W113 := zmw.sh W1 ((sf112).mono (fun i hi => by unfold zwf; unfold zon at hi; omega)) (zf112) (fun i hi => hi)
    have aVb := ((V1h).keep (sf112 _ (by unfold zon; omega)))
    have aCb := ((C1h).keep (sf112 _ (by unfold zon; omega)))
    have sBB : zsm h hY106 (zsgo a) := s1.trans ((sf112).mono (fun i hi => by unfold zsgo; unfold zon at hi; omega))
    have zBB : zsh h hY106 := z1.trans (zf112)
    have lp : ∀ (m : Nat) (c : Nat) (h2 : ZH) (go : Nat → Int32), m = k - c → c ≤ k → zsm hY106 h2 zsq → zsh hY106 h2 → h2 94 = some (.inr (4096, .inl go)) → zar h2 89 111 (zplus V1 c) → (∀ j, j < k → j < 8 * zwb (zod kd) * c → go j = nI ((zdcat (zod kd) V1 k).getD j 0)) → zP g mX11_drawDigest (zR 5 0 0) Qf 0 0 111 [some (.ref (64)), some (.ref (a)), some (.int (nI (k))), some (.int (nI (A.length))), some (.int (nI (8 * zwb (zod kd)))), some (.int (nI (8 * zwb (zod kd) * c))), none] [] h2 n := by
      intro m
      induction m using Nat.strongRecOn with
      | _ m ih =>
        intro c h2 go hm2 hc2 s2 z2 er aF2 egr
        have o2 : h2 (64) = some (.inl (10, [.int (th), .ref (65), .ref (66), .ref (67), .ref (68), .ref (69), .ref (70), .ref (71), .ref (72), .ref (73), .ref (74), .ref (75), .ref (76), .ref (77), .ref (78), .ref (79), .ref (80), .ref (81), .ref (82), .ref (83), .ref (84), .int (nI (wt)), .int (nI (zbi un)), .int (rp), .int (wi), .int (pa), .int (be), .int (ru), .int (sa), .int (me), .int (se), .int (ta), .int (fa), .ref (85), .ref (86), .ref (87), .int (nI (mn1)), .ref (88), .ref (89), .ref (90), .ref (91), .ref (92), .ref (93), .int (nI (tp)), .ref (94), .int (nI (ou))])) := (s2 _ (by unfold zsq; omega)).trans k111_1
        have g2 : h2 (a) = some (.inl (9, [.int (nI (zbi tr)), .int (nI (kd)), .int (nI (st)), .int (nI (iv)), .int (nI (zbi rs)), .int (nI (ct)), .int (dr), .int (nI (sd)), .ref (a + 1), .ref (a + 2)])) := (s2 _ (by unfold zsq; omega)).trans k111_0
        have W2 := W113.sh s2 z2 (fun i q => by unfold zsq at q; unfold zwf; omega)
        have hcB := Nat.mul_le_mul (show 8 * zwb (zod kd) ≤ 64 by omega) (show c ≤ 4096 by omega)
        have hc1 := Nat.mul_le_mul (show 1 ≤ 8 * zwb (zod kd) by omega) (Nat.le_refl c)
        rw [Nat.one_mul] at hc1
        refine zp_iload dX11_drawDigest_111 rfl ?_
        refine zp_iload_n dX11_drawDigest_113 rfl ?_
        refine zp_pc (pc' := 114) rfl ?_
        refine zn_icmp_ge (tgt := 198) dX11_drawDigest_114 (by decide) (by omega) (by omega) (fun c114 => ?_) (fun c114 => ?_)
        · have O2 : zar h2 94 4096 ((zdcat (zod kd) V1 k).take k) := zar.mk (L := k) er (by rw [List.length_take, zdcat_len]; have := Nat.mul_le_mul (Nat.le_refl k) (show 1 ≤ 8 * zwb (zod kd) by omega); omega) hk (by decide) (fun x hx => zdcat_lt _ _ _ x (List.mem_of_mem_take hx)) (fun j hj => by rw [ztake_get hj]; exact egr j hj (by omega))
          have aV2 := aVb.keep (s2 (a + 1) (by unfold zsq; omega))
          have aC2 := aCb.keep (s2 (a + 2) (by unfold zsq; omega))
          refine zp_aload_n dX11_drawDigest_198 rfl ?_
          refine zp_pc (pc' := 199) rfl ?_
          refine zp_callV (As := []) (k := 64) (st := []) (ci := 10) dX11_drawDigest_199 cX11_223 rfl o2 rfl rfl (e_mbegin o2) (by decide) (by decide) (Nat.le_of_ble_eq_true rfl) (fun v114 h114 n114 q114 => ?_)
          obtain ⟨rfl, N114, s114, z114, o114⟩ := q114
          rw [N114]
          refine zp_nrm (cells' := 0) (slots' := 0) (st' := []) rfl rfl rfl ?_
          have m115 : h114 (a) = some (.inl (9, [.int (nI (zbi tr)), .int (nI (kd)), .int (nI (st)), .int (nI (iv)), .int (nI (zbi rs)), .int (nI (ct)), .int (dr), .int (nI (sd)), .ref (a + 1), .ref (a + 2)])) := (s114 _ (by unfold zon; omega)).trans g2
          have m116 : h114 (94) = some (.inr (4096, .inl go)) := (s114 _ (by unfold zon; omega)).trans er
          have W117 := zmw.sh W2 ((s114).mono (fun i hi => by unfold zwf; unfold zon at hi; omega)) (z114) (fun i hi => hi)
          have xx114 : zar h114 87 1000 [] := zar.nil W117.m87 (by decide)
          refine zp_aload_n dX11_drawDigest_202 rfl ?_
          refine zp_iconst (v := nI (3)) dX11_drawDigest_203 (by decide) ?_
          refine zp_pc (pc' := 204) rfl ?_
          refine zp_callV (As := [.int (nI (3))]) (k := 64) (st := []) (ci := 10) dX11_drawDigest_204 cX11_215 rfl o114 rfl rfl (e_mput (xs := []) (x := 3) o114 xx114 (by decide) (by (try simp only [List.length_append, List.length_cons, List.length_nil, List.length_singleton]); omega)) (by decide) (by decide) (Nat.le_of_ble_eq_true rfl) (fun v118 h118 n118 q118 => ?_)
          obtain ⟨rfl, N118, s118, z118, o118, x118⟩ := q118
          rw [N118]
          refine zp_nrm (cells' := 0) (slots' := 0) (st' := []) rfl rfl rfl ?_
          have m119 : h118 (a) = some (.inl (9, [.int (nI (zbi tr)), .int (nI (kd)), .int (nI (st)), .int (nI (iv)), .int (nI (zbi rs)), .int (nI (ct)), .int (dr), .int (nI (sd)), .ref (a + 1), .ref (a + 2)])) := (s118 _ (by unfold zsp; omega)).trans m115
          have m120 : h118 (94) = some (.inr (4096, .inl go)) := (s118 _ (by unfold zsp; omega)).trans m116
          refine zp_aload_n dX11_drawDigest_207 rfl ?_
          refine zp_aload_n dX11_drawDigest_208 rfl ?_
          refine zp_get dX11_drawDigest_209 gX11_226_9 m119 rfl ?_
          refine zp_aload_n dX11_drawDigest_212 rfl ?_
          refine zp_pc (pc' := 213) rfl ?_
          refine zp_callV (As := []) (k := a) (st := [.ref (a + 1), .ref (64)]) (ci := 9) dX11_drawDigest_213 cX11_229 rfl m119 rfl rfl (e_zseed m119 hkd) (by decide) (by decide) (Nat.le_of_ble_eq_true rfl) (fun v121 h121 n121 q121 => ?_)
          obtain ⟨rfl, H121, N121⟩ := q121
          rw [N121, H121]
          refine zp_nrm (cells' := 0) (slots' := 0) (st' := [.int (nI (zsd kd)), .ref (a + 1), .ref (64)]) rfl rfl rfl ?_
          refine zp_i (y := nI (V1.length)) (by rw [lV1]) ?_
          refine zp_callV (As := [.ref (a + 1), .int (nI (V1.length))]) (k := 64) (st := []) (ci := 10) dX11_drawDigest_216 cX11_233 rfl o118 rfl rfl (e_mputs (xs := ([] ++ [3])) (ys := V1) (q := a + 1) o118 x118 (((aV2).keep (s114 _ (by unfold zon; omega))).keep (s118 _ (by unfold zsp; omega))) (by omega) (by (try simp only [List.length_append, List.length_cons, List.length_nil, List.length_singleton]); omega)) (by decide) (by decide) (Nat.le_of_ble_eq_true rfl) (fun v122 h122 n122 q122 => ?_)
          obtain ⟨rfl, N122, s122, z122, o122, x122⟩ := q122
          rw [N122]
          refine zp_nrm (cells' := 0) (slots' := 0) (st' := []) rfl rfl rfl ?_
          have m123 : h122 (a) = some (.inl (9, [.int (nI (zbi tr)), .int (nI (kd)), .int (nI (st)), .int (nI (iv)), .int (nI (zbi rs)), .int (nI (ct)), .int (dr), .int (nI (sd)), .ref (a + 1), .ref (a + 2)])) := (s122 _ (by unfold zsp; omega)).trans m119
          have m124 : h122 (94) = some (.inr (4096, .inl go)) := (s122 _ (by unfold zsp; omega)).trans m120
          refine zp_aload_n dX11_drawDigest_219 rfl ?_
          refine zp_aload_n dX11_drawDigest_220 rfl ?_
          refine zp_callV (As := []) (k := a) (st := [.ref (64)]) (ci := 9) dX11_drawDigest_221 cX11_235 rfl m123 rfl rfl (e_zgreat m123 hkd) (by decide) (by decide) (Nat.le_of_ble_eq_true rfl) (fun v125 h125 n125 q125 => ?_)
          obtain ⟨rfl, H125, N125⟩ := q125
          rw [N125, H125]
          refine zp_nrm (cells' := 0) (slots' := 0) (st' := [.int (nI (zbi (zgr kd))), .ref (64)]) rfl rfl rfl ?_
          refine zp_i (y := nI (zbi (zod kd))) (by rw [hgr]) ?_
          refine zp_aload_n dX11_drawDigest_224 rfl ?_
          refine zp_get dX11_drawDigest_225 gX11_96_10 o122 rfl ?_
          refine zp_aload_n dX11_drawDigest_228 rfl ?_
          refine zp_get dX11_drawDigest_229 gX11_212_10 o122 rfl ?_
          refine zp_pc (pc' := 232) rfl ?_
          have W126 := zmw.sh W117 (((s118).mono (fun i hi => by unfold zwf; unfold zsp at hi; omega)).trans ((s122).mono (fun i hi => by unfold zwf; unfold zsp at hi; omega))) ((z118).trans z122) (fun i hi => hi)
          refine zp_callV (As := [.int (nI (zbi (zod kd))), .ref (87), .int (nI ((([] ++ [3]) ++ V1).length))]) (k := 64) (st := []) (ci := 10) dX11_drawDigest_232 cX11_170 rfl o122 rfl rfl (e_mdigW (b := (zod kd)) (p := 87) W126 o122 x122 (by omega) (by (try simp only [List.length_append, List.length_cons, List.length_nil, List.length_singleton]); omega)) (by decide) (by decide) (Nat.le_of_ble_eq_true rfl) (fun v127 h127 n127 q127 => ?_)
          obtain ⟨rfl, N127, s127, z127, d127⟩ := q127
          rw [N127]
          refine zp_nrm (cells' := 0) (slots' := 0) (st' := []) rfl rfl rfl ?_
          have m128 : h127 (a) = some (.inl (9, [.int (nI (zbi tr)), .int (nI (kd)), .int (nI (st)), .int (nI (iv)), .int (nI (zbi rs)), .int (nI (ct)), .int (dr), .int (nI (sd)), .ref (a + 1), .ref (a + 2)])) := (s127 _ (by unfold zb3; omega)).trans m123
          have m129 : h127 (94) = some (.inr (4096, .inl go)) := (s127 _ (by unfold zb3; omega)).trans m124
          have m130 : h127 (64) = some (.inl (10, [.int (th), .ref (65), .ref (66), .ref (67), .ref (68), .ref (69), .ref (70), .ref (71), .ref (72), .ref (73), .ref (74), .ref (75), .ref (76), .ref (77), .ref (78), .ref (79), .ref (80), .ref (81), .ref (82), .ref (83), .ref (84), .int (nI (wt)), .int (nI (zbi un)), .int (rp), .int (wi), .int (pa), .int (be), .int (ru), .int (sa), .int (me), .int (se), .int (ta), .int (fa), .ref (85), .ref (86), .ref (87), .int (nI ((([] ++ [3]) ++ V1).length)), .ref (88), .ref (89), .ref (90), .ref (91), .ref (92), .ref (93), .int (nI (tp)), .ref (94), .int (nI (ou))])) := (s127 _ (by unfold zb3; omega)).trans o122
          have hd : zar h127 74 64 (zhash (zod kd) (3 :: V1)) := d127
          refine zp_aload_n dX11_drawDigest_235 rfl ?_
          refine zp_get dX11_drawDigest_236 gX11_226_9 m128 rfl ?_
          refine zp_aload_n dX11_drawDigest_239 rfl ?_
          refine zp_pc (pc' := 240) rfl ?_
          refine zp_callV (As := []) (k := a) (st := [.ref (a + 1)]) (ci := 9) dX11_drawDigest_240 cX11_229 rfl m128 rfl rfl (e_zseed m128 hkd) (by decide) (by decide) (Nat.le_of_ble_eq_true rfl) (fun v131 h131 n131 q131 => ?_)
          obtain ⟨rfl, H131, N131⟩ := q131
          rw [N131, H131]
          refine zp_nrm (cells' := 0) (slots' := 0) (st' := [.int (nI (zsd kd)), .ref (a + 1)]) rfl rfl rfl ?_
          refine zp_i (y := nI (V1.length)) (by rw [lV1]) ?_
          refine zp_aload_n dX11_drawDigest_243 rfl ?_
          refine zp_get dX11_drawDigest_244 gX11_38_10 m130 rfl ?_
          refine zp_iload dX11_drawDigest_247 rfl ?_
          refine zp_pc (pc' := 249) rfl ?_
          refine zp_i (y := nI ((zhash (zod kd) (3 :: V1)).length)) (by rw [zhash_len]) ?_
          refine zp_callS (As := [.ref (a + 1), .int (nI (V1.length)), .ref (74), .int (nI ((zhash (zod kd) (3 :: V1)).length))]) (st := []) dX11_drawDigest_249 cX11_219 rfl (e_madds (((((aV2).keep (s114 _ (by unfold zon; omega))).keep (s118 _ (by unfold zsp; omega))).keep (s122 _ (by unfold zsp; omega))).keep (s127 _ (by unfold zb3; omega))) hd (by omega) (by omega) (by rw [zhash_len, lV1]; exact hsz)) (by decide) (by decide) (Nat.le_of_ble_eq_true rfl) (fun v132 h132 n132 q132 => ?_)
          obtain ⟨rfl, N132, s132, z132, d132⟩ := q132
          rw [N132]
          refine zp_nrm (cells' := 0) (slots' := 0) (st' := []) rfl rfl rfl ?_
          have m133 : h132 (a) = some (.inl (9, [.int (nI (zbi tr)), .int (nI (kd)), .int (nI (st)), .int (nI (iv)), .int (nI (zbi rs)), .int (nI (ct)), .int (dr), .int (nI (sd)), .ref (a + 1), .ref (a + 2)])) := (s132 _ (by unfold zon; omega)).trans m128
          have m134 : h132 (94) = some (.inr (4096, .inl go)) := (s132 _ (by unfold zon; omega)).trans m129
          have m135 : h132 (64) = some (.inl (10, [.int (th), .ref (65), .ref (66), .ref (67), .ref (68), .ref (69), .ref (70), .ref (71), .ref (72), .ref (73), .ref (74), .ref (75), .ref (76), .ref (77), .ref (78), .ref (79), .ref (80), .ref (81), .ref (82), .ref (83), .ref (84), .int (nI (wt)), .int (nI (zbi un)), .int (rp), .int (wi), .int (pa), .int (be), .int (ru), .int (sa), .int (me), .int (se), .int (ta), .int (fa), .ref (85), .ref (86), .ref (87), .int (nI ((([] ++ [3]) ++ V1).length)), .ref (88), .ref (89), .ref (90), .ref (91), .ref (92), .ref (93), .int (nI (tp)), .ref (94), .int (nI (ou))])) := (s132 _ (by unfold zon; omega)).trans m130
          have v1 : zar h132 (a + 1) 111 (zplus V1 (zval (zhash (zod kd) (3 :: V1)))) := d132
          have l1 : (zplus V1 (zval (zhash (zod kd) (3 :: V1)))).length = zsd kd := by rw [zplus_len, lV1]
          refine zp_aload_n dX11_drawDigest_252 rfl ?_
          refine zp_get dX11_drawDigest_253 gX11_226_9 m133 rfl ?_
          refine zp_aload_n dX11_drawDigest_256 rfl ?_
          refine zp_pc (pc' := 257) rfl ?_
          refine zp_callV (As := []) (k := a) (st := [.ref (a + 1)]) (ci := 9) dX11_drawDigest_257 cX11_229 rfl m133 rfl rfl (e_zseed m133 hkd) (by decide) (by decide) (Nat.le_of_ble_eq_true rfl) (fun v136 h136 n136 q136 => ?_)
          obtain ⟨rfl, H136, N136⟩ := q136
          rw [N136, H136]
          refine zp_nrm (cells' := 0) (slots' := 0) (st' := [.int (nI (zsd kd)), .ref (a + 1)]) rfl rfl rfl ?_
          refine zp_i (y := nI ((zplus V1 (zval (zhash (zod kd) (3 :: V1)))).length)) (by rw [l1]) ?_
          refine zp_aload_n dX11_drawDigest_260 rfl ?_
          refine zp_get dX11_drawDigest_261 gX11_243_9 m133 rfl ?_
          refine zp_aload_n dX11_drawDigest_264 rfl ?_
          refine zp_pc (pc' := 265) rfl ?_
          refine zp_callV (As := []) (k := a) (st := [.ref (a + 2), .int (nI ((zplus V1 (zval (zhash (zod kd) (3 :: V1)))).length)), .ref (a + 1)]) (ci := 9) dX11_drawDigest_265 cX11_229 rfl m133 rfl rfl (e_zseed m133 hkd) (by decide) (by decide) (Nat.le_of_ble_eq_true rfl) (fun v137 h137 n137 q137 => ?_)
          obtain ⟨rfl, H137, N137⟩ := q137
          rw [N137, H137]
          refine zp_nrm (cells' := 0) (slots' := 0) (st' := [.int (nI (zsd kd)), .ref (a + 2), .int (nI ((zplus V1 (zval (zhash (zod kd) (3 :: V1)))).length)), .ref (a + 1)]) rfl rfl rfl ?_
          refine zp_i (y := nI (C.length)) (by rw [lC]) ?_
          refine zp_callS (As := [.ref (a + 1), .int (nI ((zplus V1 (zval (zhash (zod kd) (3 :: V1)))).length)), .ref (a + 2), .int (nI (C.length))]) (st := []) dX11_drawDigest_268 cX11_219 rfl (e_madds v1 (((((((aC2).keep (s114 _ (by unfold zon; omega))).keep (s118 _ (by unfold zsp; omega))).keep (s122 _ (by unfold zsp; omega))).keep (s127 _ (by unfold zb3; omega))).keep (s132 _ (by unfold zon; omega)))) (by omega) (by omega) (by rw [lC, l1]; exact Nat.le_refl _)) (by decide) (by decide) (Nat.le_of_ble_eq_true rfl) (fun v138 h138 n138 q138 => ?_)
          obtain ⟨rfl, N138, s138, z138, d138⟩ := q138
          rw [N138]
          refine zp_nrm (cells' := 0) (slots' := 0) (st' := []) rfl rfl rfl ?_
          have m139 : h138 (a) = some (.inl (9, [.int (nI (zbi tr)), .int (nI (kd)), .int (nI (st)), .int (nI (iv)), .int (nI (zbi rs)), .int (nI (ct)), .int (dr), .int (nI (sd)), .ref (a + 1), .ref (a + 2)])) := (s138 _ (by unfold zon; omega)).trans m133
          have m140 : h138 (94) = some (.inr (4096, .inl go)) := (s138 _ (by unfold zon; omega)).trans m134
          have m141 : h138 (64) = some (.inl (10, [.int (th), .ref (65), .ref (66), .ref (67), .ref (68), .ref (69), .ref (70), .ref (71), .ref (72), .ref (73), .ref (74), .ref (75), .ref (76), .ref (77), .ref (78), .ref (79), .ref (80), .ref (81), .ref (82), .ref (83), .ref (84), .int (nI (wt)), .int (nI (zbi un)), .int (rp), .int (wi), .int (pa), .int (be), .int (ru), .int (sa), .int (me), .int (se), .int (ta), .int (fa), .ref (85), .ref (86), .ref (87), .int (nI ((([] ++ [3]) ++ V1).length)), .ref (88), .ref (89), .ref (90), .ref (91), .ref (92), .ref (93), .int (nI (tp)), .ref (94), .int (nI (ou))])) := (s138 _ (by unfold zon; omega)).trans m135
          have v2 : zar h138 (a + 1) 111 (zplus (zplus V1 (zval (zhash (zod kd) (3 :: V1)))) (zval C)) := d138
          have l2 : (zplus (zplus V1 (zval (zhash (zod kd) (3 :: V1)))) (zval C)).length = zsd kd := by rw [zplus_len, l1]
          refine zp_aload_n dX11_drawDigest_271 rfl ?_
          refine zp_aload_n dX11_drawDigest_272 rfl ?_
          refine zp_get dX11_drawDigest_273 gX11_226_9 m139 rfl ?_
          refine zp_aload_n dX11_drawDigest_276 rfl ?_
          refine zp_pc (pc' := 277) rfl ?_
          refine zp_callV (As := []) (k := a) (st := [.ref (a + 1), .ref (64)]) (ci := 9) dX11_drawDigest_277 cX11_229 rfl m139 rfl rfl (e_zseed m139 hkd) (by decide) (by decide) (Nat.le_of_ble_eq_true rfl) (fun v142 h142 n142 q142 => ?_)
          obtain ⟨rfl, H142, N142⟩ := q142
          rw [N142, H142]
          refine zp_nrm (cells' := 0) (slots' := 0) (st' := [.int (nI (zsd kd)), .ref (a + 1), .ref (64)]) rfl rfl rfl ?_
          refine zp_i (y := nI ((zplus (zplus V1 (zval (zhash (zod kd) (3 :: V1)))) (zval C)).length)) (by rw [l2]) ?_
          refine zp_aload_n dX11_drawDigest_280 rfl ?_
          refine zp_get dX11_drawDigest_281 gX11_250_9 m139 rfl ?_
          refine zp_pc (pc' := 284) rfl ?_
          have W143 := zmw.sh W126 ((((s127).mono (fun i hi => by unfold zwf; unfold zb3 at hi; omega)).trans ((s132).mono (fun i hi => by unfold zwf; unfold zon at hi; omega))).trans ((s138).mono (fun i hi => by unfold zwf; unfold zon at hi; omega))) (((z127).trans z132).trans z138) (fun i hi => hi)
          refine zp_callV (As := [.ref (a + 1), .int (nI ((zplus (zplus V1 (zval (zhash (zod kd) (3 :: V1)))) (zval C)).length)), .int (nI (ct))]) (k := 64) (st := []) (ci := 10) dX11_drawDigest_284 cX11_246 rfl m141 rfl rfl (e_maddsN m141 W143.m88 v2 (by omega) (by omega) (by rw [l2]; omega) hct) (by decide) (by decide) (Nat.le_of_ble_eq_true rfl) (fun v144 h144 n144 q144 => ?_)
          obtain ⟨rfl, N144, s144, z144, d144⟩ := q144
          rw [N144]
          refine zp_nrm (cells' := 0) (slots' := 0) (st' := []) rfl rfl rfl ?_
          have m145 : h144 (a) = some (.inl (9, [.int (nI (zbi tr)), .int (nI (kd)), .int (nI (st)), .int (nI (iv)), .int (nI (zbi rs)), .int (nI (ct)), .int (dr), .int (nI (sd)), .ref (a + 1), .ref (a + 2)])) := (s144 _ (by unfold zsa; omega)).trans m139
          have m146 : h144 (94) = some (.inr (4096, .inl go)) := (s144 _ (by unfold zsa; omega)).trans m140
          have m147 : h144 (64) = some (.inl (10, [.int (th), .ref (65), .ref (66), .ref (67), .ref (68), .ref (69), .ref (70), .ref (71), .ref (72), .ref (73), .ref (74), .ref (75), .ref (76), .ref (77), .ref (78), .ref (79), .ref (80), .ref (81), .ref (82), .ref (83), .ref (84), .int (nI (wt)), .int (nI (zbi un)), .int (rp), .int (wi), .int (pa), .int (be), .int (ru), .int (sa), .int (me), .int (se), .int (ta), .int (fa), .ref (85), .ref (86), .ref (87), .int (nI ((([] ++ [3]) ++ V1).length)), .ref (88), .ref (89), .ref (90), .ref (91), .ref (92), .ref (93), .int (nI (tp)), .ref (94), .int (nI (ou))])) := (s144 _ (by unfold zsa; omega)).trans m141
          refine zp_pc (pc' := 287) rfl ?_
          refine zp_ret (v := none) dX11_drawDigest_287 ⟨rfl, rfl⟩ (by decide) (by decide) ?_
          rw [hQ]
          exact ⟨rfl, rfl, (sBB.trans (s2.mono (fun i hi => by unfold zsgo; unfold zsq at hi; omega))).trans ((((((((s114).mono (fun i hi => by unfold zsgo; unfold zon at hi; omega)).trans ((s118).mono (fun i hi => by unfold zsgo; unfold zsp at hi; omega))).trans ((s122).mono (fun i hi => by unfold zsgo; unfold zsp at hi; omega))).trans ((s127).mono (fun i hi => by unfold zsgo; unfold zb3 at hi; omega))).trans ((s132).mono (fun i hi => by unfold zsgo; unfold zon at hi; omega))).trans ((s138).mono (fun i hi => by unfold zsgo; unfold zon at hi; omega))).trans ((s144).mono (fun i hi => by unfold zsgo; unfold zsa at hi; omega))), (zBB.trans z2).trans (((((((z114).trans z118).trans z122).trans z127).trans z132).trans z138).trans z144), ⟨_, m147⟩, ((((((((O2).keep (s114 _ (by unfold zon; omega))).keep (s118 _ (by unfold zsp; omega))).keep (s122 _ (by unfold zsp; omega))).keep (s127 _ (by unfold zb3; omega))).keep (s132 _ (by unfold zon; omega))).keep (s138 _ (by unfold zon; omega))).keep (s144 _ (by unfold zsa; omega))), d144, ((((((((aC2).keep (s114 _ (by unfold zon; omega))).keep (s118 _ (by unfold zsp; omega))).keep (s122 _ (by unfold zsp; omega))).keep (s127 _ (by unfold zb3; omega))).keep (s132 _ (by unfold zon; omega))).keep (s138 _ (by unfold zon; omega))).keep (s144 _ (by unfold zsa; omega)))⟩
        · refine zp_aload_n dX11_drawDigest_117 rfl ?_
          refine zp_aload_n dX11_drawDigest_118 rfl ?_
          refine zp_callV (As := []) (k := a) (st := [.ref (64)]) (ci := 9) dX11_drawDigest_119 cX11_235 rfl g2 rfl rfl (e_zgreat g2 hkd) (by decide) (by decide) (Nat.le_of_ble_eq_true rfl) (fun v148 h148 n148 q148 => ?_)
          obtain ⟨rfl, H148, N148⟩ := q148
          rw [N148, H148]
          refine zp_nrm (cells' := 0) (slots' := 0) (st' := [.int (nI (zbi (zgr kd))), .ref (64)]) rfl rfl rfl ?_
          refine zp_i (y := nI (zbi (zod kd))) (by rw [hgr]) ?_
          refine zp_aload_n dX11_drawDigest_122 rfl ?_
          refine zp_get dX11_drawDigest_123 gX11_102_10 o2 rfl ?_
          refine zp_aload_n dX11_drawDigest_126 rfl ?_
          refine zp_pc (pc' := 127) rfl ?_
          refine zp_callV (As := []) (k := a) (st := [.ref (89), .int (nI (zbi (zod kd))), .ref (64)]) (ci := 9) dX11_drawDigest_127 cX11_229 rfl g2 rfl rfl (e_zseed g2 hkd) (by decide) (by decide) (Nat.le_of_ble_eq_true rfl) (fun v149 h149 n149 q149 => ?_)
          obtain ⟨rfl, H149, N149⟩ := q149
          rw [N149, H149]
          refine zp_nrm (cells' := 0) (slots' := 0) (st' := [.int (nI (zsd kd)), .ref (89), .int (nI (zbi (zod kd))), .ref (64)]) rfl rfl rfl ?_
          refine zp_i (y := nI ((zplus V1 c).length)) (by rw [zplus_len, lV1]) ?_
          refine zp_callV (As := [.int (nI (zbi (zod kd))), .ref (89), .int (nI ((zplus V1 c).length))]) (k := 64) (st := []) (ci := 10) dX11_drawDigest_130 cX11_170 rfl o2 rfl rfl (e_mdigW (b := (zod kd)) (p := 89) W2 o2 aF2 (by omega) (by rw [zplus_len, lV1]; omega)) (by decide) (by decide) (Nat.le_of_ble_eq_true rfl) (fun v150 h150 n150 q150 => ?_)
          obtain ⟨rfl, N150, s150, z150, d150⟩ := q150
          rw [N150]
          refine zp_nrm (cells' := 0) (slots' := 0) (st' := []) rfl rfl rfl ?_
          have m151 : h150 (64) = some (.inl (10, [.int (th), .ref (65), .ref (66), .ref (67), .ref (68), .ref (69), .ref (70), .ref (71), .ref (72), .ref (73), .ref (74), .ref (75), .ref (76), .ref (77), .ref (78), .ref (79), .ref (80), .ref (81), .ref (82), .ref (83), .ref (84), .int (nI (wt)), .int (nI (zbi un)), .int (rp), .int (wi), .int (pa), .int (be), .int (ru), .int (sa), .int (me), .int (se), .int (ta), .int (fa), .ref (85), .ref (86), .ref (87), .int (nI (mn1)), .ref (88), .ref (89), .ref (90), .ref (91), .ref (92), .ref (93), .int (nI (tp)), .ref (94), .int (nI (ou))])) := (s150 _ (by unfold zb3; omega)).trans o2
          have m152 : h150 (a) = some (.inl (9, [.int (nI (zbi tr)), .int (nI (kd)), .int (nI (st)), .int (nI (iv)), .int (nI (zbi rs)), .int (nI (ct)), .int (dr), .int (nI (sd)), .ref (a + 1), .ref (a + 2)])) := (s150 _ (by unfold zb3; omega)).trans g2
          have m153 : h150 (94) = some (.inr (4096, .inl go)) := (s150 _ (by unfold zb3; omega)).trans er
          have yl := zhash_len (zod kd) (zplus V1 c)
          obtain ⟨la154, lb154, lc154, lf154, ld154, le154⟩ := id d150
          refine zp_iconst (v := nI (0)) dX11_drawDigest_133 (by decide) ?_
          refine zp_istore (ls' := [some (.ref (64)), some (.ref (a)), some (.int (nI (k))), some (.int (nI (A.length))), some (.int (nI (8 * zwb (zod kd)))), some (.int (nI (8 * zwb (zod kd) * c))), some (.int (nI (0)))]) dX11_drawDigest_134 (by decide) rfl ?_
          refine zp_pc (pc' := 136) rfl ?_
          have lp155 : zP g mX11_drawDigest (zR 5 0 0) Qf 0 0 175 [some (.ref (64)), some (.ref (a)), some (.int (nI (k))), some (.int (nI (A.length))), some (.int (nI (8 * zwb (zod kd)))), some (.int (nI (8 * zwb (zod kd) * c))), some (.int (nI (min (8 * zwb (zod kd)) (k - 8 * zwb (zod kd) * c))))] [] (va_up h150 (94) (some (.inr (4096, .inl (zfl go (8 * zwb (zod kd) * c) (min (8 * zwb (zod kd)) (k - 8 * zwb (zod kd) * c)) (fun i => nI ((zdcat (zod kd) V1 k).getD (8 * zwb (zod kd) * c + i) 0))))))) n → ∀ (m k155 : Nat), m = (min (8 * zwb (zod kd)) (k - 8 * zwb (zod kd) * c)) - k155 → k155 ≤ (min (8 * zwb (zod kd)) (k - 8 * zwb (zod kd) * c)) → zP g mX11_drawDigest (zR 5 0 0) Qf 0 0 136 [some (.ref (64)), some (.ref (a)), some (.int (nI (k))), some (.int (nI (A.length))), some (.int (nI (8 * zwb (zod kd)))), some (.int (nI (8 * zwb (zod kd) * c))), some (.int (nI (k155)))] [] (va_up h150 (94) (some (.inr (4096, .inl (zfl go (8 * zwb (zod kd) * c) (k155) (fun i => nI ((zdcat (zod kd) V1 k).getD (8 * zwb (zod kd) * c + i) 0))))))) n := by
            intro kk m
            induction m using Nat.strongRecOn with
            | _ m ih =>
              intro k155 hm155 hk155
              refine zp_nh (fun hX155 eX155 => ?_)
              have k156_0 := (congrFun eX155 (64)).trans ((va_up_ne _ _ (by omega)).trans m151)
              have k156_1 := (congrFun eX155 (a)).trans ((va_up_ne _ _ (by omega)).trans m152)
              have k156_2 : hX155 (94) = some (.inr (4096, .inl (zfl go (8 * zwb (zod kd) * c) (k155) (fun i => nI ((zdcat (zod kd) V1 k).getD (8 * zwb (zod kd) * c + i) 0))))) := by rw [eX155]; exact va_up_self _ _ _
              have k156_3 := (congrFun eX155 (74)).trans ((va_up_ne _ _ (by omega)).trans ld154)
              refine zp_iload dX11_drawDigest_136 rfl ?_
              refine zp_iload dX11_drawDigest_138 rfl ?_
              refine zp_pc (pc' := 140) rfl ?_
              refine zn_icmp_ge (tgt := 175) dX11_drawDigest_140 (by decide) (by omega) (by omega) (fun c140 => ?_) (fun c140 => ?_)
              · have e155 : k155 = (min (8 * zwb (zod kd)) (k - 8 * zwb (zod kd) * c)) := by omega
                subst e155
                rw [eX155]
                exact kk
              · refine zp_iload dX11_drawDigest_143 rfl ?_
                refine zp_iload dX11_drawDigest_145 rfl ?_
                refine zn_iadd dX11_drawDigest_147 ?_
                refine zp_iload_n dX11_drawDigest_148 rfl ?_
                refine zp_pc (pc' := 149) rfl ?_
                refine zn_icmp_ge (tgt := 175) dX11_drawDigest_149 (by decide) (by omega) (by omega) (fun c149 => ?_) (fun c149 => ?_)
                · have e155 : k155 = (min (8 * zwb (zod kd)) (k - 8 * zwb (zod kd) * c)) := by omega
                  subst e155
                  rw [eX155]
                  exact kk
                · refine zp_aload_n dX11_drawDigest_152 rfl ?_
                  refine zp_get dX11_drawDigest_153 gX11_117_10 k156_0 rfl ?_
                  refine zp_iload dX11_drawDigest_156 rfl ?_
                  refine zp_iload dX11_drawDigest_158 rfl ?_
                  refine zn_iadd dX11_drawDigest_160 ?_
                  refine zp_aload_n dX11_drawDigest_161 rfl ?_
                  refine zp_get dX11_drawDigest_162 gX11_38_10 k156_0 rfl ?_
                  refine zp_iload dX11_drawDigest_165 rfl ?_
                  refine zp_pc (pc' := 167) rfl ?_
                  refine zn_iald (j := k155) dX11_drawDigest_167 k156_3 (by omega) (by omega) ?_
                  refine zp_i (y := nI ((zdcat (zod kd) V1 k).getD (8 * zwb (zod kd) * c + k155) 0)) (by rw [le154 _ (by omega), zdcat_get (zod kd) V1 (by omega) (by omega)]) ?_
                  refine zn_iast dX11_drawDigest_168 (by omega) k156_2 (by omega) (by omega) ?_
                  refine zp_nh (fun h157x eh157x => ?_)
                  have k157_0 := (congrFun eh157x (64)).trans ((va_up_ne _ _ (by omega)).trans k156_0)
                  have k157_1 := (congrFun eh157x (a)).trans ((va_up_ne _ _ (by omega)).trans k156_1)
                  have k157_2 : h157x (94) = some (.inr (4096, .inl (va_up (zfl go (8 * zwb (zod kd) * c) (k155) (fun i => nI ((zdcat (zod kd) V1 k).getD (8 * zwb (zod kd) * c + i) 0))) ((8 * zwb (zod kd) * c) + (k155)) (nI ((zdcat (zod kd) V1 k).getD (8 * zwb (zod kd) * c + k155) 0))))) := by rw [eh157x]; exact va_up_self _ _ _
                  have k157_3 := (congrFun eh157x (74)).trans ((va_up_ne _ _ (by omega)).trans k156_3)
                  have sw158 : zsm hX155 h157x (zon (94)) := zsm.rf.up eh157x rfl
                  have zw158 : zsh hX155 h157x := zsh.fill eh157x k156_2
                  refine zp_pc (pc' := 169) rfl ?_
                  refine zn_iinc 1 (ls' := [some (.ref (64)), some (.ref (a)), some (.int (nI (k))), some (.int (nI (A.length))), some (.int (nI (8 * zwb (zod kd)))), some (.int (nI (8 * zwb (zod kd) * c))), some (.int (nI (k155 + 1)))]) dX11_drawDigest_169 (by decide) (by decide) rfl rfl ?_
                  refine zp_goto (tgt := 136) dX11_drawDigest_172 (by decide) ?_
                  refine zp_pc (pc' := 136) rfl ?_
                  rw [zfl_step eX155 eh157x (by omega) rfl]
                  exact ih ((min (8 * zwb (zod kd)) (k - 8 * zwb (zod kd) * c)) - (k155 + 1)) (by omega) (k155 + 1) rfl (by omega)
          suffices K155 : zP g mX11_drawDigest (zR 5 0 0) Qf 0 0 175 [some (.ref (64)), some (.ref (a)), some (.int (nI (k))), some (.int (nI (A.length))), some (.int (nI (8 * zwb (zod kd)))), some (.int (nI (8 * zwb (zod kd) * c))), some (.int (nI (min (8 * zwb (zod kd)) (k - 8 * zwb (zod kd) * c))))] [] (va_up h150 (94) (some (.inr (4096, .inl (zfl go (8 * zwb (zod kd) * c) (min (8 * zwb (zod kd)) (k - 8 * zwb (zod kd) * c)) (fun i => nI ((zdcat (zod kd) V1 k).getD (8 * zwb (zod kd) * c + i) 0))))))) n by
            have q := lp155 K155 ((min (8 * zwb (zod kd)) (k - 8 * zwb (zod kd) * c)) - 0) 0 rfl (Nat.zero_le _)
            rw [zfl_0, zup_same m153] at q
            exact q
          refine zp_nh (fun hY155 eY155 => ?_)
          have k159_0 := (congrFun eY155 (64)).trans ((va_up_ne _ _ (by omega)).trans m151)
          have k159_1 := (congrFun eY155 (a)).trans ((va_up_ne _ _ (by omega)).trans m152)
          have k159_2 : hY155 (94) = some (.inr (4096, .inl (zfl go (8 * zwb (zod kd) * c) (min (8 * zwb (zod kd)) (k - 8 * zwb (zod kd) * c)) (fun i => nI ((zdcat (zod kd) V1 k).getD (8 * zwb (zod kd) * c + i) 0))))) := by rw [eY155]; exact va_up_self _ _ _
          have k159_3 := (congrFun eY155 (74)).trans ((va_up_ne _ _ (by omega)).trans ld154)
          have sf160 := (zsm.fill eY155)
          have zf160 := zsh.fill eY155 m153
          refine zp_aload_n dX11_drawDigest_175 rfl ?_
          refine zp_aload_n dX11_drawDigest_176 rfl ?_
          refine zp_get dX11_drawDigest_177 gX11_102_10 k159_0 rfl ?_
          refine zp_aload_n dX11_drawDigest_180 rfl ?_
          refine zp_pc (pc' := 181) rfl ?_
          refine zp_callV (As := []) (k := a) (st := [.ref (89), .ref (64)]) (ci := 9) dX11_drawDigest_181 cX11_229 rfl k159_1 rfl rfl (e_zseed k159_1 hkd) (by decide) (by decide) (Nat.le_of_ble_eq_true rfl) (fun v161 h161 n161 q161 => ?_)
          obtain ⟨rfl, H161, N161⟩ := q161
          rw [N161, H161]
          refine zp_nrm (cells' := 0) (slots' := 0) (st' := [.int (nI (zsd kd)), .ref (89), .ref (64)]) rfl rfl rfl ?_
          refine zp_i (y := nI ((zplus V1 c).length)) (by rw [zplus_len, lV1]) ?_
          refine zp_iconst (v := nI (1)) dX11_drawDigest_184 (by decide) ?_
          refine zp_pc (pc' := 185) rfl ?_
          have W162 := zmw.sh W2 (((s150).mono (fun i hi => by unfold zwf; unfold zb3 at hi; omega)).trans ((sf160).mono (fun i hi => by unfold zwf; unfold zon at hi; omega))) ((z150).trans zf160) (fun i hi => hi)
          refine zp_callV (As := [.ref (89), .int (nI ((zplus V1 c).length)), .int (nI (1))]) (k := 64) (st := []) (ci := 10) dX11_drawDigest_185 cX11_246 rfl k159_0 rfl rfl (e_maddsN (x := 1) k159_0 W162.m88 ((((aF2).keep (s150 _ (by unfold zb3; omega))).keep (sf160 _ (by unfold zon; omega)))) (by decide) (by decide) (by rw [zplus_len, lV1]; omega) (by decide)) (by decide) (by decide) (Nat.le_of_ble_eq_true rfl) (fun v163 h163 n163 q163 => ?_)
          obtain ⟨rfl, N163, s163, z163, d163⟩ := q163
          rw [N163]
          refine zp_nrm (cells' := 0) (slots' := 0) (st' := []) rfl rfl rfl ?_
          have m164 : h163 (64) = some (.inl (10, [.int (th), .ref (65), .ref (66), .ref (67), .ref (68), .ref (69), .ref (70), .ref (71), .ref (72), .ref (73), .ref (74), .ref (75), .ref (76), .ref (77), .ref (78), .ref (79), .ref (80), .ref (81), .ref (82), .ref (83), .ref (84), .int (nI (wt)), .int (nI (zbi un)), .int (rp), .int (wi), .int (pa), .int (be), .int (ru), .int (sa), .int (me), .int (se), .int (ta), .int (fa), .ref (85), .ref (86), .ref (87), .int (nI (mn1)), .ref (88), .ref (89), .ref (90), .ref (91), .ref (92), .ref (93), .int (nI (tp)), .ref (94), .int (nI (ou))])) := (s163 _ (by unfold zsa; omega)).trans k159_0
          have m165 : h163 (a) = some (.inl (9, [.int (nI (zbi tr)), .int (nI (kd)), .int (nI (st)), .int (nI (iv)), .int (nI (zbi rs)), .int (nI (ct)), .int (dr), .int (nI (sd)), .ref (a + 1), .ref (a + 2)])) := (s163 _ (by unfold zsa; omega)).trans k159_1
          have m166 : h163 (94) = some (.inr (4096, .inl (zfl go (8 * zwb (zod kd) * c) (min (8 * zwb (zod kd)) (k - 8 * zwb (zod kd) * c)) (fun i => nI ((zdcat (zod kd) V1 k).getD (8 * zwb (zod kd) * c + i) 0))))) := (s163 _ (by unfold zsa; omega)).trans k159_2
          have m167 : h163 (74) = some (.inr (64, .inl lf154)) := (s163 _ (by unfold zsa; omega)).trans k159_3
          rw [zplus_plus] at d163
          refine zp_iload dX11_drawDigest_188 rfl ?_
          refine zp_iload dX11_drawDigest_190 rfl ?_
          refine zn_iadd dX11_drawDigest_192 ?_
          refine zp_istore (ls' := [some (.ref (64)), some (.ref (a)), some (.int (nI (k))), some (.int (nI (A.length))), some (.int (nI (8 * zwb (zod kd)))), some (.int (nI ((8 * zwb (zod kd) * c) + (8 * zwb (zod kd))))), some (.int (nI (min (8 * zwb (zod kd)) (k - 8 * zwb (zod kd) * c))))]) dX11_drawDigest_193 (by decide) rfl ?_
          refine zp_pc (pc' := 195) rfl ?_
          refine zp_ls (ls' := [some (.ref (64)), some (.ref (a)), some (.int (nI (k))), some (.int (nI (A.length))), some (.int (nI (8 * zwb (zod kd)))), some (.int (nI (8 * zwb (zod kd) * (c + 1)))), some (.int (nI (min (8 * zwb (zod kd)) (k - 8 * zwb (zod kd) * c))))]) (by rw [Nat.mul_add, Nat.mul_one]) ?_
          refine zp_goto (tgt := 111) dX11_drawDigest_195 (by decide) ?_
          refine zp_pc (pc' := 111) rfl ?_
          refine zp_drop (ls' := [some (.ref (64)), some (.ref (a)), some (.int (nI (k))), some (.int (nI (A.length))), some (.int (nI (8 * zwb (zod kd)))), some (.int (nI (8 * zwb (zod kd) * (c + 1)))), none]) (fun i v hv => ?_) ?_
          · rcases i with _ | _ | _ | _ | _ | _ | _ | i <;> simp at hv ⊢ <;> exact hv
          refine ih (k - (c + 1)) (by omega) (c + 1) h163 _ rfl (by omega) (s2.trans ((((s150).mono (fun i hi => by unfold zsq; unfold zb3 at hi; omega)).trans ((sf160).mono (fun i hi => by unfold zsq; unfold zon at hi; omega))).trans ((s163).mono (fun i hi => by unfold zsq; unfold zsa at hi; omega)))) (z2.trans (((z150).trans zf160).trans z163)) m166 d163 (fun j hj hj2 => ?_)
          rw [Nat.mul_add, Nat.mul_one] at hj2
          rcases Nat.lt_or_ge j (8 * zwb (zod kd) * c) with q | q
          · rw [zfl_out (Or.inl q)]; exact egr j hj q
          · obtain ⟨d, rfl⟩ := Nat.exists_eq_add_of_le q
            rw [zfl_in (by omega)]
    exact lp _ 0 hY106 gO rfl (Nat.zero_le _) zsm.rf zsh.rf hO2 aF (fun j _ hj => absurd hj (by omega))
  refine zn_if_le (tgt := 76) dX11_drawDigest_10 (by decide) (by omega) (fun c10 => ?_) (fun c10 => ?_)
  · exact kt103 h zsm.rf zsh.rf ⟨_, ho⟩ (by rw [eV1, if_neg (by omega)]; exact hV) hC hO
  · refine zp_aload_n dX11_drawDigest_13 rfl ?_
    refine zp_pc (pc' := 14) rfl ?_
    refine zp_callV (As := []) (k := 64) (st := []) (ci := 10) dX11_drawDigest_14 cX11_223 rfl ho rfl rfl (e_mbegin ho) (by decide) (by decide) (Nat.le_of_ble_eq_true rfl) (fun v168 h168 n168 q168 => ?_)
    obtain ⟨rfl, N168, s168, z168, o168⟩ := q168
    rw [N168]
    refine zp_nrm (cells' := 0) (slots' := 0) (st' := []) rfl rfl rfl ?_
    have m169 : h168 (a) = some (.inl (9, [.int (nI (zbi tr)), .int (nI (kd)), .int (nI (st)), .int (nI (iv)), .int (nI (zbi rs)), .int (nI (ct)), .int (dr), .int (nI (sd)), .ref (a + 1), .ref (a + 2)])) := (s168 _ (by unfold zon; omega)).trans hg
    have W170 := zmw.sh hw ((s168).mono (fun i hi => by unfold zwf; unfold zon at hi; omega)) (z168) (fun i hi => hi)
    have xx168 : zar h168 87 1000 [] := zar.nil W170.m87 (by decide)
    refine zp_aload_n dX11_drawDigest_17 rfl ?_
    refine zp_iconst (v := nI (2)) dX11_drawDigest_18 (by decide) ?_
    refine zp_pc (pc' := 19) rfl ?_
    refine zp_callV (As := [.int (nI (2))]) (k := 64) (st := []) (ci := 10) dX11_drawDigest_19 cX11_215 rfl o168 rfl rfl (e_mput (xs := []) (x := 2) o168 xx168 (by decide) (by (try simp only [List.length_append, List.length_cons, List.length_nil, List.length_singleton]); omega)) (by decide) (by decide) (Nat.le_of_ble_eq_true rfl) (fun v171 h171 n171 q171 => ?_)
    obtain ⟨rfl, N171, s171, z171, o171, x171⟩ := q171
    rw [N171]
    refine zp_nrm (cells' := 0) (slots' := 0) (st' := []) rfl rfl rfl ?_
    have m172 : h171 (a) = some (.inl (9, [.int (nI (zbi tr)), .int (nI (kd)), .int (nI (st)), .int (nI (iv)), .int (nI (zbi rs)), .int (nI (ct)), .int (dr), .int (nI (sd)), .ref (a + 1), .ref (a + 2)])) := (s171 _ (by unfold zsp; omega)).trans m169
    refine zp_aload_n dX11_drawDigest_22 rfl ?_
    refine zp_aload_n dX11_drawDigest_23 rfl ?_
    refine zp_get dX11_drawDigest_24 gX11_226_9 m172 rfl ?_
    refine zp_aload_n dX11_drawDigest_27 rfl ?_
    refine zp_pc (pc' := 28) rfl ?_
    refine zp_callV (As := []) (k := a) (st := [.ref (a + 1), .ref (64)]) (ci := 9) dX11_drawDigest_28 cX11_229 rfl m172 rfl rfl (e_zseed m172 hkd) (by decide) (by decide) (Nat.le_of_ble_eq_true rfl) (fun v173 h173 n173 q173 => ?_)
    obtain ⟨rfl, H173, N173⟩ := q173
    rw [N173, H173]
    refine zp_nrm (cells' := 0) (slots' := 0) (st' := [.int (nI (zsd kd)), .ref (a + 1), .ref (64)]) rfl rfl rfl ?_
    refine zp_i (y := nI (V.length)) (by rw [lV]) ?_
    refine zp_callV (As := [.ref (a + 1), .int (nI (V.length))]) (k := 64) (st := []) (ci := 10) dX11_drawDigest_31 cX11_233 rfl o171 rfl rfl (e_mputs (xs := ([] ++ [2])) (ys := V) (q := a + 1) o171 x171 (((hV).keep (s168 _ (by unfold zon; omega))).keep (s171 _ (by unfold zsp; omega))) (by omega) (by (try simp only [List.length_append, List.length_cons, List.length_nil, List.length_singleton]); omega)) (by decide) (by decide) (Nat.le_of_ble_eq_true rfl) (fun v174 h174 n174 q174 => ?_)
    obtain ⟨rfl, N174, s174, z174, o174, x174⟩ := q174
    rw [N174]
    refine zp_nrm (cells' := 0) (slots' := 0) (st' := []) rfl rfl rfl ?_
    have m175 : h174 (a) = some (.inl (9, [.int (nI (zbi tr)), .int (nI (kd)), .int (nI (st)), .int (nI (iv)), .int (nI (zbi rs)), .int (nI (ct)), .int (dr), .int (nI (sd)), .ref (a + 1), .ref (a + 2)])) := (s174 _ (by unfold zsp; omega)).trans m172
    refine zp_aload_n dX11_drawDigest_34 rfl ?_
    refine zp_aload_n dX11_drawDigest_35 rfl ?_
    refine zp_get dX11_drawDigest_36 gX11_114_10 o174 rfl ?_
    refine zp_iload_n dX11_drawDigest_39 rfl ?_
    refine zp_pc (pc' := 40) rfl ?_
    refine zp_callV (As := [.ref (93), .int (nI (A.length))]) (k := 64) (st := []) (ci := 10) dX11_drawDigest_40 cX11_233 rfl o174 rfl rfl (e_mputs (xs := (([] ++ [2]) ++ V)) (ys := A) (q := 93) o174 x174 ((((hA).keep (s168 _ (by unfold zon; omega))).keep (s171 _ (by unfold zsp; omega))).keep (s174 _ (by unfold zsp; omega))) (by omega) (by (try simp only [List.length_append, List.length_cons, List.length_nil, List.length_singleton]); omega)) (by decide) (by decide) (Nat.le_of_ble_eq_true rfl) (fun v176 h176 n176 q176 => ?_)
    obtain ⟨rfl, N176, s176, z176, o176, x176⟩ := q176
    rw [N176]
    refine zp_nrm (cells' := 0) (slots' := 0) (st' := []) rfl rfl rfl ?_
    have m177 : h176 (a) = some (.inl (9, [.int (nI (zbi tr)), .int (nI (kd)), .int (nI (st)), .int (nI (iv)), .int (nI (zbi rs)), .int (nI (ct)), .int (dr), .int (nI (sd)), .ref (a + 1), .ref (a + 2)])) := (s176 _ (by unfold zsp; omega)).trans m175
    refine zp_aload_n dX11_drawDigest_43 rfl ?_
    refine zp_aload_n dX11_drawDigest_44 rfl ?_
    refine zp_callV (As := []) (k := a) (st := [.ref (64)]) (ci := 9) dX11_drawDigest_45 cX11_235 rfl m177 rfl rfl (e_zgreat m177 hkd) (by decide) (by decide) (Nat.le_of_ble_eq_true rfl) (fun v178 h178 n178 q178 => ?_)
    obtain ⟨rfl, H178, N178⟩ := q178
    rw [N178, H178]
    refine zp_nrm (cells' := 0) (slots' := 0) (st' := [.int (nI (zbi (zgr kd))), .ref (64)]) rfl rfl rfl ?_
    refine zp_i (y := nI (zbi (zod kd))) (by rw [hgr]) ?_
    refine zp_aload_n dX11_drawDigest_48 rfl ?_
    refine zp_get dX11_drawDigest_49 gX11_96_10 o176 rfl ?_
    refine zp_aload_n dX11_drawDigest_52 rfl ?_
    refine zp_get dX11_drawDigest_53 gX11_212_10 o176 rfl ?_
    refine zp_pc (pc' := 56) rfl ?_
    have W179 := zmw.sh W170 ((((s171).mono (fun i hi => by unfold zwf; unfold zsp at hi; omega)).trans ((s174).mono (fun i hi => by unfold zwf; unfold zsp at hi; omega))).trans ((s176).mono (fun i hi => by unfold zwf; unfold zsp at hi; omega))) (((z171).trans z174).trans z176) (fun i hi => hi)
    refine zp_callV (As := [.int (nI (zbi (zod kd))), .ref (87), .int (nI (((([] ++ [2]) ++ V) ++ A).length))]) (k := 64) (st := []) (ci := 10) dX11_drawDigest_56 cX11_170 rfl o176 rfl rfl (e_mdigW (b := (zod kd)) (p := 87) W179 o176 x176 (by omega) (by (try simp only [List.length_append, List.length_cons, List.length_nil, List.length_singleton]); omega)) (by decide) (by decide) (Nat.le_of_ble_eq_true rfl) (fun v180 h180 n180 q180 => ?_)
    obtain ⟨rfl, N180, s180, z180, d180⟩ := q180
    rw [N180]
    refine zp_nrm (cells' := 0) (slots' := 0) (st' := []) rfl rfl rfl ?_
    have m181 : h180 (a) = some (.inl (9, [.int (nI (zbi tr)), .int (nI (kd)), .int (nI (st)), .int (nI (iv)), .int (nI (zbi rs)), .int (nI (ct)), .int (dr), .int (nI (sd)), .ref (a + 1), .ref (a + 2)])) := (s180 _ (by unfold zb3; omega)).trans m177
    have m182 : h180 (64) = some (.inl (10, [.int (th), .ref (65), .ref (66), .ref (67), .ref (68), .ref (69), .ref (70), .ref (71), .ref (72), .ref (73), .ref (74), .ref (75), .ref (76), .ref (77), .ref (78), .ref (79), .ref (80), .ref (81), .ref (82), .ref (83), .ref (84), .int (nI (wt)), .int (nI (zbi un)), .int (rp), .int (wi), .int (pa), .int (be), .int (ru), .int (sa), .int (me), .int (se), .int (ta), .int (fa), .ref (85), .ref (86), .ref (87), .int (nI (((([] ++ [2]) ++ V) ++ A).length)), .ref (88), .ref (89), .ref (90), .ref (91), .ref (92), .ref (93), .int (nI (tp)), .ref (94), .int (nI (ou))])) := (s180 _ (by unfold zb3; omega)).trans o176
    have hd : zar h180 74 64 (zhash (zod kd) (2 :: (V ++ A))) := d180
    refine zp_aload_n dX11_drawDigest_59 rfl ?_
    refine zp_get dX11_drawDigest_60 gX11_226_9 m181 rfl ?_
    refine zp_aload_n dX11_drawDigest_63 rfl ?_
    refine zp_pc (pc' := 64) rfl ?_
    refine zp_callV (As := []) (k := a) (st := [.ref (a + 1)]) (ci := 9) dX11_drawDigest_64 cX11_229 rfl m181 rfl rfl (e_zseed m181 hkd) (by decide) (by decide) (Nat.le_of_ble_eq_true rfl) (fun v183 h183 n183 q183 => ?_)
    obtain ⟨rfl, H183, N183⟩ := q183
    rw [N183, H183]
    refine zp_nrm (cells' := 0) (slots' := 0) (st' := [.int (nI (zsd kd)), .ref (a + 1)]) rfl rfl rfl ?_
    refine zp_i (y := nI (V.length)) (by rw [lV]) ?_
    refine zp_aload_n dX11_drawDigest_67 rfl ?_
    refine zp_get dX11_drawDigest_68 gX11_38_10 m182 rfl ?_
    refine zp_iload dX11_drawDigest_71 rfl ?_
    refine zp_pc (pc' := 73) rfl ?_
    refine zp_i (y := nI ((zhash (zod kd) (2 :: (V ++ A))).length)) (by rw [zhash_len]) ?_
    refine zp_callS (As := [.ref (a + 1), .int (nI (V.length)), .ref (74), .int (nI ((zhash (zod kd) (2 :: (V ++ A))).length))]) (st := []) dX11_drawDigest_73 cX11_219 rfl (e_madds (((((((hV).keep (s168 _ (by unfold zon; omega))).keep (s171 _ (by unfold zsp; omega))).keep (s174 _ (by unfold zsp; omega))).keep (s176 _ (by unfold zsp; omega))).keep (s180 _ (by unfold zb3; omega)))) hd (by omega) (by omega) (by rw [zhash_len, lV]; exact hsz)) (by decide) (by decide) (Nat.le_of_ble_eq_true rfl) (fun v184 h184 n184 q184 => ?_)
    obtain ⟨rfl, N184, s184, z184, d184⟩ := q184
    rw [N184]
    refine zp_nrm (cells' := 0) (slots' := 0) (st' := []) rfl rfl rfl ?_
    have m185 : h184 (a) = some (.inl (9, [.int (nI (zbi tr)), .int (nI (kd)), .int (nI (st)), .int (nI (iv)), .int (nI (zbi rs)), .int (nI (ct)), .int (dr), .int (nI (sd)), .ref (a + 1), .ref (a + 2)])) := (s184 _ (by unfold zon; omega)).trans m181
    have m186 : h184 (64) = some (.inl (10, [.int (th), .ref (65), .ref (66), .ref (67), .ref (68), .ref (69), .ref (70), .ref (71), .ref (72), .ref (73), .ref (74), .ref (75), .ref (76), .ref (77), .ref (78), .ref (79), .ref (80), .ref (81), .ref (82), .ref (83), .ref (84), .int (nI (wt)), .int (nI (zbi un)), .int (rp), .int (wi), .int (pa), .int (be), .int (ru), .int (sa), .int (me), .int (se), .int (ta), .int (fa), .ref (85), .ref (86), .ref (87), .int (nI (((([] ++ [2]) ++ V) ++ A).length)), .ref (88), .ref (89), .ref (90), .ref (91), .ref (92), .ref (93), .int (nI (tp)), .ref (94), .int (nI (ou))])) := (s184 _ (by unfold zon; omega)).trans m182
    refine zp_pc (pc' := 76) rfl ?_
    exact kt103 h184 (((((((s168).mono (fun i hi => by unfold zsgo; unfold zon at hi; omega)).trans ((s171).mono (fun i hi => by unfold zsgo; unfold zsp at hi; omega))).trans ((s174).mono (fun i hi => by unfold zsgo; unfold zsp at hi; omega))).trans ((s176).mono (fun i hi => by unfold zsgo; unfold zsp at hi; omega))).trans ((s180).mono (fun i hi => by unfold zsgo; unfold zb3 at hi; omega))).trans ((s184).mono (fun i hi => by unfold zsgo; unfold zon at hi; omega))) ((((((z168).trans z171).trans z174).trans z176).trans z180).trans z184) ⟨_, m186⟩ (by rw [eV1, if_pos c10]; exact d184) ((((((((hC).keep (s168 _ (by unfold zon; omega))).keep (s171 _ (by unfold zsp; omega))).keep (s174 _ (by unfold zsp; omega))).keep (s176 _ (by unfold zsp; omega))).keep (s180 _ (by unfold zb3; omega))).keep (s184 _ (by unfold zon; omega)))) ((((((((hO).keep (s168 _ (by unfold zon; omega))).keep (s171 _ (by unfold zsp; omega))).keep (s174 _ (by unfold zsp; omega))).keep (s176 _ (by unfold zsp; omega))).keep (s180 _ (by unfold zb3; omega))).keep (s184 _ (by unfold zon; omega))))
