theorem zsome_no {α : Type} {x : Option α} (h : x.isSome = false) : x = none := by cases x; rfl; cases h
theorem zin_not {a b x : Int32} (h : ¬ (a ≤ x ∧ x ≤ b)) : x < a ∨ b < x := by
  rw [Int32.le_iff_toInt_le, Int32.le_iff_toInt_le] at h
  rw [Int32.lt_iff_toInt_lt, Int32.lt_iff_toInt_lt]
  omega
theorem zin_yes {a b x : Int32} (h : a ≤ x ∧ x ≤ b) : ¬ (x < a ∨ b < x) := by
  rw [Int32.le_iff_toInt_le, Int32.le_iff_toInt_le] at h
  rw [Int32.lt_iff_toInt_lt, Int32.lt_iff_toInt_lt]
  omega
theorem zin_nat {b : Nat} {x : Int32} (hb : b < 2 ^ 31) (h : nI 0 ≤ x ∧ x ≤ nI b) : ∃ j, j ≤ b ∧ x = nI j := by
  have h0 : ¬ x < 0 := fun q => zin_yes h (Or.inl q)
  obtain ⟨e, l⟩ := zpos h0
  refine ⟨x.toNatClampNeg, ?_, e⟩
  have h2 := h.2
  rw [e] at h2
  exact (nI_leI l hb).mp h2
theorem zat4_no {α : Type} {f : Nat → Option α} {x : Int32} (h : ¬ (nI 0 ≤ x ∧ x ≤ nI 3)) : zat4 f x = none := by
  unfold zat4
  rcases zin_not h with q | q
  · rw [if_pos (show x < 0 from q)]
  · have h0 : ¬ x < 0 := fun u => by
      rw [Int32.lt_iff_toInt_lt] at u q
      rw [nI_toInt (by decide)] at q
      rw [Int32.toInt_zero] at u
      omega
    rw [if_neg h0, if_pos]
    rw [Int32.le_iff_toInt_le]
    rw [Int32.lt_iff_toInt_lt] at q
    rw [nI_toInt (by decide)] at q ⊢
    omega
theorem zar.num {h h' : ZH} {k N p : Nat} {xs : List Nat} {f : Nat → Int32} {v : Int32} (H : zar h k N xs) (hf : h k = some (.inr (N, .inl f))) (e : h' = va_up h k (some (.inr (N, .inl (zfl f p 4 (fun i => nI ((zn4 v).getD i 0))))))) (hp : p = xs.length) (hl : xs.length + 4 ≤ N) : zar h' k N (xs ++ zn4 v) := by
  obtain ⟨h1, h2, h3, f', h4, h5⟩ := H
  rw [hf] at h4
  injection h4 with h4; injection h4 with h4; injection h4 with h4 h6; injection h6 with h6
  subst h6
  have ln : (zn4 v).length = 4 := znum_len _ _
  refine zar.mk (L := xs.length + 4) (by rw [e]; exact va_up_self _ _ _) (by rw [List.length_append, ln]) hl h2 (zapp_lt h3 (znum_lt _ _)) (fun j hj => ?_)
  rw [zapp_get, hp]
  by_cases q : j < xs.length
  · rw [if_pos q, zfl_out (Or.inl q)]; exact h5 j q
  · obtain ⟨d, rfl⟩ := Nat.exists_eq_add_of_le (Nat.not_lt.mp q)
    rw [if_neg q, zfl_in (by omega), show xs.length + d - xs.length = d by omega]
abbrev zsw4 : Nat → Prop := fun i => i = 64 ∨ i = 94
theorem zin_len {L : Nat} {x : Int32} (hL : L < 2 ^ 20) : (nI 0 ≤ x ∧ x ≤ nI L - nI 1) ↔ ∃ j, j < L ∧ x = nI j := by
  rcases L with _ | L
  · refine ⟨fun h => ?_, fun h => ?_⟩
    · rw [Int32.le_iff_toInt_le, Int32.le_iff_toInt_le] at h
      have e1 : (nI 0).toInt = 0 := by decide
      have e2 : (nI 0 - nI 1).toInt = -1 := by decide
      omega
    · obtain ⟨j, hj, -⟩ := h; omega
  · have e : nI (L + 1) - nI 1 = nI L := by rw [pk_sub (by omega), Nat.add_sub_cancel]
    rw [e]
    refine ⟨fun h => ?_, fun h => ?_⟩
    · obtain ⟨j, hj, rfl⟩ := zin_nat (by omega) h
      exact ⟨j, by omega, rfl⟩
    · obtain ⟨j, hj, rfl⟩ := h
      exact ⟨(nI_leI (by decide) (by omega)).mpr (Nat.zero_le _), (nI_leI (by omega) (by omega)).mpr (by omega)⟩
theorem zat_no {xs : List Nat} {x : Int32} (h : ¬ ∃ j, j < xs.length ∧ x = nI j) : zat xs x = -1 := by
  unfold zat
  by_cases h1 : x < 0
  · rw [if_pos h1]
  · rw [if_neg h1]
    obtain ⟨j, j31, rfl⟩ := nI_of h1
    rw [if_pos]
    exact nI_le (Nat.not_lt.mp (fun q => h ⟨j, q, rfl⟩)) j31
set_option maxRecDepth 10000 in
set_option maxHeartbeats 2000000 in
theorem e_isThere {g : ZG} {h : ZH} {n : Nat} {t : Nat} {x : Int32} {Gs : Nat → Option ZGn} {Aa : Nat → Option Nat} {th : Int32} {wt : Nat} {un : Bool} {rp wi pa be ru sa me se ta fa : Int32} {mn tp ou : Nat} (ho : h 64 = some (.inl (10, [.int (th), .ref (65), .ref (66), .ref (67), .ref (68), .ref (69), .ref (70), .ref (71), .ref (72), .ref (73), .ref (74), .ref (75), .ref (76), .ref (77), .ref (78), .ref (79), .ref (80), .ref (81), .ref (82), .ref (83), .ref (84), .int (nI (wt)), .int (nI (zbi un)), .int (rp), .int (wi), .int (pa), .int (be), .int (ru), .int (sa), .int (me), .int (se), .int (ta), .int (fa), .ref (85), .ref (86), .ref (87), .int (nI (mn)), .ref (88), .ref (89), .ref (90), .ref (91), .ref (92), .ref (93), .int (nI (tp)), .ref (94), .int (nI (ou))]))) (h86 : h 86 = some (.inr (4, .inr (.inr (true, Aa))))) (hAa : ∀ j, j < 4 → Aa j = some (95 + 3 * j)) (hG : ∀ j, j < 4 → zmg h (95 + 3 * j) t (Gs j)) : zMt g mX11_isThere (zR 1 0 0) [.ref (64), .int (x)] h n (fun v h' n' => v = some (.int (nI (zbi (zat4 Gs x).isSome))) ∧ h' = h ∧ n' = n) := by
  refine zMt.of [some (.ref (64)), some (.int (x))] (by decide) rfl (Nat.le_of_ble_eq_true rfl) ?_
  obtain ⟨Qf, hQ⟩ : ∃ Qf : ZQ, Qf = (fun v h' n' => v = some (.int (nI (zbi (zat4 Gs x).isSome))) ∧ h' = h ∧ n' = n) := ⟨_, rfl⟩
  rw [← hQ]
  refine zp_iload_n dX11_isThere_0 rfl ?_
  refine zp_iconst (v := nI (0)) dX11_isThere_1 (by decide) ?_
  refine zp_iconst (v := nI (3)) dX11_isThere_2 (by decide) ?_
  refine zp_pc (pc' := 3) rfl ?_
  refine zp_callS (As := [.int (x), .int (nI (0)), .int (nI (3))]) (st := []) dX11_isThere_3 cX11_297 rfl e_in (by decide) (by decide) (Nat.le_of_ble_eq_true rfl) (fun v101 h101 n101 q101 => ?_)
  obtain ⟨rfl, H101, N101⟩ := q101
  rw [N101, H101]
  refine zp_nrm (cells' := 0) (slots' := 0) (st' := [.int (nI (zbi (decide (nI 0 ≤ x ∧ x ≤ nI 3))))]) rfl rfl rfl ?_
  refine zn_if_eq (tgt := 25) dX11_isThere_6 (by decide) (by have := zbi_lt (decide (nI 0 ≤ x ∧ x ≤ nI 3)); omega) (fun c6 => ?_) (fun c6 => ?_)
  · have bq102F : (decide (nI 0 ≤ x ∧ x ≤ nI 3)) = false := by rcases Bool.eq_false_or_eq_true (decide (nI 0 ≤ x ∧ x ≤ nI 3)) with q | q; rw [q] at c6; exact absurd c6 (by decide); exact q
    refine zp_iconst (v := nI (0)) dX11_isThere_25 (by decide) ?_
    refine zp_pc (pc' := 26) rfl ?_
    refine zp_i (y := nI (zbi (zat4 Gs x).isSome)) (by rw [zat4_no (of_decide_eq_false bq102F)]; rfl) ?_
    refine zp_ret (v := (some (.int (nI (zbi (zat4 Gs x).isSome))))) dX11_isThere_26 ⟨⟨_, rfl, ((zfit_b _) g).1⟩, rfl⟩ (by decide) (by decide) ?_
    rw [hQ]
    exact ⟨rfl, rfl, rfl⟩
  · have bq102T : (decide (nI 0 ≤ x ∧ x ≤ nI 3)) = true := by rcases Bool.eq_false_or_eq_true (decide (nI 0 ≤ x ∧ x ≤ nI 3)) with q | q; exact q; rw [q] at c6; exact absurd rfl c6
    obtain ⟨j, hj3, rfl⟩ := zin_nat (by decide) (of_decide_eq_true bq102T)
    have hj : j < 4 := by omega
    refine zp_aload_n dX11_isThere_9 rfl ?_
    refine zp_get dX11_isThere_10 gX11_92_10 ho rfl ?_
    refine zp_iload_n dX11_isThere_13 rfl ?_
    refine zp_pc (pc' := 14) rfl ?_
    refine zp_aald (v := .ref (95 + 3 * j)) dX11_isThere_14 h86 (by unfold vp_in; rw [nI_clamp (by omega)]; exact fun q => q.elim (nI_pos (by omega)) (fun q => by omega)) (by rw [nI_clamp (by omega), hAa j hj]) ?_
    cases eG : Gs j with
    | none =>
      have g9 := hG j hj
      rw [eG] at g9
      obtain ⟨k1, s1, i1, r1, c1, d1, e1, gc, -⟩ := g9
      refine zp_get dX11_isThere_15 gX11_301_9 gc rfl ?_
      refine zp_pc (pc' := 18) rfl ?_
      refine zn_if_eq (tgt := 25) dX11_isThere_18 (by decide) (by decide) (fun c18 => ?_) (fun c18 => ?_)
      · refine zp_iconst (v := nI (0)) dX11_isThere_25 (by decide) ?_
        refine zp_pc (pc' := 26) rfl ?_
        refine zp_i (y := nI (zbi (zat4 Gs (nI j)).isSome)) (by rw [zat4_nI hj, eG]; rfl) ?_
        refine zp_ret (v := (some (.int (nI (zbi (zat4 Gs (nI j)).isSome))))) dX11_isThere_26 ⟨⟨_, rfl, ((zfit_b _) g).1⟩, rfl⟩ (by decide) (by decide) ?_
        rw [hQ]
        exact ⟨rfl, rfl, rfl⟩
      · exact absurd rfl c18
    | some G =>
      have g9 := hG j hj
      rw [eG] at g9
      obtain ⟨kd, st, rs, iv, ct, dr, sd, V, C⟩ := G
      obtain ⟨-, -, -, -, -, -, gc, -⟩ := g9
      refine zp_get dX11_isThere_15 gX11_301_9 gc rfl ?_
      refine zp_pc (pc' := 18) rfl ?_
      refine zn_if_eq (tgt := 25) dX11_isThere_18 (by decide) (by decide) (fun c18 => ?_) (fun c18 => ?_)
      · exact absurd c18 (by decide)
      · refine zp_iconst (v := nI (1)) dX11_isThere_21 (by decide) ?_
        refine zp_goto (tgt := 26) dX11_isThere_22 (by decide) ?_
        refine zp_pc (pc' := 26) rfl ?_
        refine zp_i (y := nI (zbi (zat4 Gs (nI j)).isSome)) (by rw [zat4_nI hj, eG]; rfl) ?_
        refine zp_ret (v := (some (.int (nI (zbi (zat4 Gs (nI j)).isSome))))) dX11_isThere_26 ⟨⟨_, rfl, ((zfit_b _) g).1⟩, rfl⟩ (by decide) (by decide) ?_
        rw [hQ]
        exact ⟨rfl, rfl, rfl⟩
set_option maxRecDepth 10000 in
set_option maxHeartbeats 2000000 in
theorem e_show {g : ZG} {h : ZH} {n : Nat} {xs : List Nat} {th : Int32} {wt : Nat} {un : Bool} {rp wi pa be ru sa me se ta fa : Int32} {mn tp ou : Nat} (ho : h 64 = some (.inl (10, [.int (th), .ref (65), .ref (66), .ref (67), .ref (68), .ref (69), .ref (70), .ref (71), .ref (72), .ref (73), .ref (74), .ref (75), .ref (76), .ref (77), .ref (78), .ref (79), .ref (80), .ref (81), .ref (82), .ref (83), .ref (84), .int (nI (wt)), .int (nI (zbi un)), .int (rp), .int (wi), .int (pa), .int (be), .int (ru), .int (sa), .int (me), .int (se), .int (ta), .int (fa), .ref (85), .ref (86), .ref (87), .int (nI (mn)), .ref (88), .ref (89), .ref (90), .ref (91), .ref (92), .ref (93), .int (nI (tp)), .ref (94), .int (nI (ou))]))) (hd : zar h 74 64 xs) (hO : zia h 94 4096) : zMt g mX11_show (zR 0 0 0) [.ref (64), .int (nI (xs.length))] h n (fun v h' n' => v = none ∧ n' = n ∧ zsm h h' zsw4 ∧ zsh h h' ∧ h' 64 = some (.inl (10, [.int (th), .ref (65), .ref (66), .ref (67), .ref (68), .ref (69), .ref (70), .ref (71), .ref (72), .ref (73), .ref (74), .ref (75), .ref (76), .ref (77), .ref (78), .ref (79), .ref (80), .ref (81), .ref (82), .ref (83), .ref (84), .int (nI (wt)), .int (nI (zbi un)), .int (rp), .int (wi), .int (pa), .int (be), .int (ru), .int (sa), .int (me), .int (se), .int (ta), .int (fa), .ref (85), .ref (86), .ref (87), .int (nI (mn)), .ref (88), .ref (89), .ref (90), .ref (91), .ref (92), .ref (93), .int (nI (tp)), .ref (94), .int (nI (xs.length))])) ∧ zar h' 94 4096 xs) := by
  refine zMt.of [some (.ref (64)), some (.int (nI (xs.length))), none] (by decide) rfl (Nat.le_of_ble_eq_true rfl) ?_
  obtain ⟨Qf, hQ⟩ : ∃ Qf : ZQ, Qf = (fun v h' n' => v = none ∧ n' = n ∧ zsm h h' zsw4 ∧ zsh h h' ∧ h' 64 = some (.inl (10, [.int (th), .ref (65), .ref (66), .ref (67), .ref (68), .ref (69), .ref (70), .ref (71), .ref (72), .ref (73), .ref (74), .ref (75), .ref (76), .ref (77), .ref (78), .ref (79), .ref (80), .ref (81), .ref (82), .ref (83), .ref (84), .int (nI (wt)), .int (nI (zbi un)), .int (rp), .int (wi), .int (pa), .int (be), .int (ru), .int (sa), .int (me), .int (se), .int (ta), .int (fa), .ref (85), .ref (86), .ref (87), .int (nI (mn)), .ref (88), .ref (89), .ref (90), .ref (91), .ref (92), .ref (93), .int (nI (tp)), .ref (94), .int (nI (xs.length))])) ∧ zar h' 94 4096 xs) := ⟨_, rfl⟩
  rw [← hQ]
  obtain ⟨la101, lb101, lc101, lf101, ld101, le101⟩ := id hd
  obtain ⟨if102, ih102⟩ := id (hO)
  have l6 := hd.1
  refine zp_iconst (v := nI (0)) dX11_show_0 (by decide) ?_
  refine zp_istore_n (ls' := [some (.ref (64)), some (.int (nI (xs.length))), some (.int (nI (0)))]) dX11_show_1 (by decide) rfl ?_
  refine zp_pc (pc' := 2) rfl ?_
  have lp103 : zP g mX11_show (zR 0 0 0) Qf 0 0 25 [some (.ref (64)), some (.int (nI (xs.length))), some (.int (nI (xs.length)))] [] (va_up h (94) (some (.inr (4096, .inl (zfl if102 (0) (xs.length) (fun i => nI (xs.getD i 0))))))) n → ∀ (m k103 : Nat), m = (xs.length) - k103 → k103 ≤ (xs.length) → zP g mX11_show (zR 0 0 0) Qf 0 0 2 [some (.ref (64)), some (.int (nI (xs.length))), some (.int (nI (k103)))] [] (va_up h (94) (some (.inr (4096, .inl (zfl if102 (0) (k103) (fun i => nI (xs.getD i 0))))))) n := by
    intro kk m
    induction m using Nat.strongRecOn with
    | _ m ih =>
      intro k103 hm103 hk103
      refine zp_nh (fun hX103 eX103 => ?_)
      have k104_0 := (congrFun eX103 (64)).trans ((va_up_ne _ _ (by omega)).trans ho)
      have k104_1 := (congrFun eX103 (74)).trans ((va_up_ne _ _ (by omega)).trans ld101)
      have k104_2 : hX103 (94) = some (.inr (4096, .inl (zfl if102 (0) (k103) (fun i => nI (xs.getD i 0))))) := by rw [eX103]; exact va_up_self _ _ _
      refine zp_iload_n dX11_show_2 rfl ?_
      refine zp_iload_n dX11_show_3 rfl ?_
      refine zp_pc (pc' := 4) rfl ?_
      refine zn_icmp_ge (tgt := 25) dX11_show_4 (by decide) (by omega) (by omega) (fun c4 => ?_) (fun c4 => ?_)
      · have e103 : k103 = (xs.length) := by omega
        subst e103
        rw [eX103]
        exact kk
      · refine zp_aload_n dX11_show_7 rfl ?_
        refine zp_get dX11_show_8 gX11_117_10 k104_0 rfl ?_
        refine zp_iload_n dX11_show_11 rfl ?_
        refine zp_aload_n dX11_show_12 rfl ?_
        refine zp_get dX11_show_13 gX11_38_10 k104_0 rfl ?_
        refine zp_iload_n dX11_show_16 rfl ?_
        refine zp_pc (pc' := 17) rfl ?_
        refine zn_iald (j := k103) dX11_show_17 k104_1 (by omega) (by omega) ?_
        refine zp_i (y := nI (xs.getD k103 0)) (le101 _ (by omega)) ?_
        refine zn_iast dX11_show_18 (by omega) k104_2 (by omega) (by omega) ?_
        refine zp_nh (fun h105x eh105x => ?_)
        have k105_0 := (congrFun eh105x (64)).trans ((va_up_ne _ _ (by omega)).trans k104_0)
        have k105_1 := (congrFun eh105x (74)).trans ((va_up_ne _ _ (by omega)).trans k104_1)
        have k105_2 : h105x (94) = some (.inr (4096, .inl (va_up (zfl if102 (0) (k103) (fun i => nI (xs.getD i 0))) (k103) (nI (xs.getD k103 0))))) := by rw [eh105x]; exact va_up_self _ _ _
        have sw106 : zsm hX103 h105x (zon (94)) := zsm.rf.up eh105x rfl
        have zw106 : zsh hX103 h105x := zsh.fill eh105x k104_2
        refine zp_pc (pc' := 19) rfl ?_
        refine zn_iinc 1 (ls' := [some (.ref (64)), some (.int (nI (xs.length))), some (.int (nI (k103 + 1)))]) dX11_show_19 (by decide) (by decide) rfl rfl ?_
        refine zp_goto (tgt := 2) dX11_show_22 (by decide) ?_
        refine zp_pc (pc' := 2) rfl ?_
        rw [zfl_step eX103 eh105x (by omega) rfl]
        exact ih ((xs.length) - (k103 + 1)) (by omega) (k103 + 1) rfl (by omega)
  suffices K103 : zP g mX11_show (zR 0 0 0) Qf 0 0 25 [some (.ref (64)), some (.int (nI (xs.length))), some (.int (nI (xs.length)))] [] (va_up h (94) (some (.inr (4096, .inl (zfl if102 (0) (xs.length) (fun i => nI (xs.getD i 0))))))) n by
    have q := lp103 K103 ((xs.length) - 0) 0 rfl (Nat.zero_le _)
    rw [zfl_0, zup_same ih102] at q
    exact q
  refine zp_nh (fun hY103 eY103 => ?_)
  have k107_0 := (congrFun eY103 (64)).trans ((va_up_ne _ _ (by omega)).trans ho)
  have k107_1 := (congrFun eY103 (74)).trans ((va_up_ne _ _ (by omega)).trans ld101)
  have k107_2 : hY103 (94) = some (.inr (4096, .inl (zfl if102 (0) (xs.length) (fun i => nI (xs.getD i 0))))) := by rw [eY103]; exact va_up_self _ _ _
  have sf108 := (zsm.fill eY103)
  have zf108 := zsh.fill eY103 ih102
  refine zp_aload_n dX11_show_25 rfl ?_
  refine zp_iload_n dX11_show_26 rfl ?_
  refine zp_put (fs' := [.int (th), .ref (65), .ref (66), .ref (67), .ref (68), .ref (69), .ref (70), .ref (71), .ref (72), .ref (73), .ref (74), .ref (75), .ref (76), .ref (77), .ref (78), .ref (79), .ref (80), .ref (81), .ref (82), .ref (83), .ref (84), .int (nI (wt)), .int (nI (zbi un)), .int (rp), .int (wi), .int (pa), .int (be), .int (ru), .int (sa), .int (me), .int (se), .int (ta), .int (fa), .ref (85), .ref (86), .ref (87), .int (nI (mn)), .ref (88), .ref (89), .ref (90), .ref (91), .ref (92), .ref (93), .int (nI (tp)), .ref (94), .int (nI (xs.length))]) dX11_show_27 pX11_342_10 (by omega) k107_0 (Nat.le_of_ble_eq_true rfl) (zfit_i _) rfl ?_
  refine zp_nh (fun h109x eh109x => ?_)
  have k109_0 : h109x (64) = some (.inl (10, [.int (th), .ref (65), .ref (66), .ref (67), .ref (68), .ref (69), .ref (70), .ref (71), .ref (72), .ref (73), .ref (74), .ref (75), .ref (76), .ref (77), .ref (78), .ref (79), .ref (80), .ref (81), .ref (82), .ref (83), .ref (84), .int (nI (wt)), .int (nI (zbi un)), .int (rp), .int (wi), .int (pa), .int (be), .int (ru), .int (sa), .int (me), .int (se), .int (ta), .int (fa), .ref (85), .ref (86), .ref (87), .int (nI (mn)), .ref (88), .ref (89), .ref (90), .ref (91), .ref (92), .ref (93), .int (nI (tp)), .ref (94), .int (nI (xs.length))])) := by rw [eh109x]; exact va_up_self _ _ _
  have k109_1 := (congrFun eh109x (74)).trans ((va_up_ne _ _ (by omega)).trans k107_1)
  have k109_2 := (congrFun eh109x (94)).trans ((va_up_ne _ _ (by omega)).trans k107_2)
  have sw110 : zsm hY103 h109x (zon (64)) := zsm.rf.up eh109x rfl
  have zw110 : zsh hY103 h109x := zsh.obj eh109x k107_0
  refine zp_pc (pc' := 30) rfl ?_
  refine zp_ret (v := none) dX11_show_30 ⟨rfl, rfl⟩ (by decide) (by decide) ?_
  rw [hQ]
  exact ⟨rfl, rfl, ((sf108).mono (fun i hi => by unfold zsw4; unfold zon at hi; omega)).trans ((sw110).mono (fun i hi => by unfold zsw4; unfold zon at hi; omega)), (zf108).trans zw110, k109_0, zar.mk (L := xs.length) k109_2 rfl (by omega) (by decide) lc101 (fun j hj => zfl_in0 hj)⟩
set_option maxRecDepth 10000 in
set_option maxHeartbeats 2000000 in
theorem E_size {g : ZG} {h : ZH} {n : Nat} {t : Nat} {T O w : List Nat} {un : Bool} {rp wi pa la ru sa me se ta fa : Int32} {Gs : Nat → Option ZGn} (H : zMD t h (T, O, (w, rp, wi, pa, un, la, ru, sa, me, se, ta, fa), Gs)) : zMt g mX11_size (zR 1 0 0) [.ref (64)] h n (fun v h' n' => v = some (.int (zqsize (T, O, (w, rp, wi, pa, un, la, ru, sa, me, se, ta, fa), Gs))) ∧ n' = n ∧ zsm h h' zmA ∧ zMD (t + 2) h' (T, O, (w, rp, wi, pa, un, la, ru, sa, me, se, ta, fa), Gs)) := by
  refine zMt.of [some (.ref (64))] (by decide) rfl (Nat.le_of_ble_eq_true rfl) ?_
  obtain ⟨Qf, hQ⟩ : ∃ Qf : ZQ, Qf = (fun v h' n' => v = some (.int (zqsize (T, O, (w, rp, wi, pa, un, la, ru, sa, me, se, ta, fa), Gs))) ∧ n' = n ∧ zsm h h' zmA ∧ zMD (t + 2) h' (T, O, (w, rp, wi, pa, un, la, ru, sa, me, se, ta, fa), Gs)) := ⟨_, rfl⟩
  rw [← hQ]
  obtain ⟨⟨th, mn, mq, sq, ho, hms⟩, hw, hx, h85, ⟨Aa, h86, hAa⟩, hT, hO, hG, hS⟩ := id H
  have ho : h 64 = some (.inl (10, [.int (th), .ref (65), .ref (66), .ref (67), .ref (68), .ref (69), .ref (70), .ref (71), .ref (72), .ref (73), .ref (74), .ref (75), .ref (76), .ref (77), .ref (78), .ref (79), .ref (80), .ref (81), .ref (82), .ref (83), .ref (84), .int (nI (w.length)), .int (nI (zbi un)), .int (rp), .int (wi), .int (pa), .int (la), .int (ru), .int (sa), .int (mq), .int (sq), .int (ta), .int (fa), .ref (85), .ref (86), .ref (87), .int (nI (mn)), .ref (88), .ref (89), .ref (90), .ref (91), .ref (92), .ref (93), .int (nI (T.length)), .ref (94), .int (nI (O.length))])) := ho
  have hx : zar h 84 1000 w := hx
  have lT := hT.1
  have lO := hO.1
  have lw := hx.1
  refine zp_aload_n dX11_size_0 rfl ?_
  refine zp_iconst (v := nI (0)) dX11_size_1 (by decide) ?_
  refine zp_put (fs' := [.int (nI (0)), .ref (65), .ref (66), .ref (67), .ref (68), .ref (69), .ref (70), .ref (71), .ref (72), .ref (73), .ref (74), .ref (75), .ref (76), .ref (77), .ref (78), .ref (79), .ref (80), .ref (81), .ref (82), .ref (83), .ref (84), .int (nI (w.length)), .int (nI (zbi un)), .int (rp), .int (wi), .int (pa), .int (la), .int (ru), .int (sa), .int (mq), .int (sq), .int (ta), .int (fa), .ref (85), .ref (86), .ref (87), .int (nI (mn)), .ref (88), .ref (89), .ref (90), .ref (91), .ref (92), .ref (93), .int (nI (T.length)), .ref (94), .int (nI (O.length))]) dX11_size_2 pX11_133_10 (by omega) ho (Nat.le_of_ble_eq_true rfl) (zfit_i _) rfl ?_
  refine zp_nh (fun h101x eh101x => ?_)
  have k101_0 : h101x (64) = some (.inl (10, [.int (nI (0)), .ref (65), .ref (66), .ref (67), .ref (68), .ref (69), .ref (70), .ref (71), .ref (72), .ref (73), .ref (74), .ref (75), .ref (76), .ref (77), .ref (78), .ref (79), .ref (80), .ref (81), .ref (82), .ref (83), .ref (84), .int (nI (w.length)), .int (nI (zbi un)), .int (rp), .int (wi), .int (pa), .int (la), .int (ru), .int (sa), .int (mq), .int (sq), .int (ta), .int (fa), .ref (85), .ref (86), .ref (87), .int (nI (mn)), .ref (88), .ref (89), .ref (90), .ref (91), .ref (92), .ref (93), .int (nI (T.length)), .ref (94), .int (nI (O.length))])) := by rw [eh101x]; exact va_up_self _ _ _
  have sw102 : zsm h h101x (zon (64)) := zsm.rf.up eh101x rfl
  have zw102 : zsh h h101x := zsh.obj eh101x ho
  refine zp_aload_n dX11_size_5 rfl ?_
  refine zp_get dX11_size_6 gX11_342_10 k101_0 rfl ?_
  refine zp_pc (pc' := 9) rfl ?_
  refine zp_ret (v := (some (.int (nI (O.length))))) dX11_size_9 ⟨⟨_, rfl, rfl⟩, rfl⟩ (by decide) (by decide) ?_
  rw [hQ]
  exact ⟨rfl, rfl, (sw102).mono (fun i hi => by unfold zmA; unfold zon at hi; omega), H.upd ((sw102).mono (fun i hi => by unfold zcz; unfold zon at hi; omega)) (zw102) ⟨_, _, _, _, k101_0, hms⟩ (((hx).keep (sw102 _ (by unfold zon; omega)))) (((hT).keep (sw102 _ (by unfold zon; omega)))) (((hO).keep (sw102 _ (by unfold zon; omega)))) hS (by omega)⟩
set_option maxRecDepth 10000 in
set_option maxHeartbeats 2000000 in
theorem E_drawn {g : ZG} {h : ZH} {n : Nat} {t : Nat} {T O w : List Nat} {un : Bool} {rp wi pa la ru sa me se ta fa : Int32} {Gs : Nat → Option ZGn} {x : Int32} (H : zMD t h (T, O, (w, rp, wi, pa, un, la, ru, sa, me, se, ta, fa), Gs)) : zMt g mX11_drawn (zR 1 0 0) [.ref (64), .int (x)] h n (fun v h' n' => v = some (.int (zqdrawn x (T, O, (w, rp, wi, pa, un, la, ru, sa, me, se, ta, fa), Gs))) ∧ n' = n ∧ zsm h h' zmA ∧ zMD (t + 2) h' (T, O, (w, rp, wi, pa, un, la, ru, sa, me, se, ta, fa), Gs)) := by
  refine zMt.of [some (.ref (64)), some (.int (x))] (by decide) rfl (Nat.le_of_ble_eq_true rfl) ?_
  obtain ⟨Qf, hQ⟩ : ∃ Qf : ZQ, Qf = (fun v h' n' => v = some (.int (zqdrawn x (T, O, (w, rp, wi, pa, un, la, ru, sa, me, se, ta, fa), Gs))) ∧ n' = n ∧ zsm h h' zmA ∧ zMD (t + 2) h' (T, O, (w, rp, wi, pa, un, la, ru, sa, me, se, ta, fa), Gs)) := ⟨_, rfl⟩
  rw [← hQ]
  obtain ⟨⟨th, mn, mq, sq, ho, hms⟩, hw, hx, h85, ⟨Aa, h86, hAa⟩, hT, hO, hG, hS⟩ := id H
  have ho : h 64 = some (.inl (10, [.int (th), .ref (65), .ref (66), .ref (67), .ref (68), .ref (69), .ref (70), .ref (71), .ref (72), .ref (73), .ref (74), .ref (75), .ref (76), .ref (77), .ref (78), .ref (79), .ref (80), .ref (81), .ref (82), .ref (83), .ref (84), .int (nI (w.length)), .int (nI (zbi un)), .int (rp), .int (wi), .int (pa), .int (la), .int (ru), .int (sa), .int (mq), .int (sq), .int (ta), .int (fa), .ref (85), .ref (86), .ref (87), .int (nI (mn)), .ref (88), .ref (89), .ref (90), .ref (91), .ref (92), .ref (93), .int (nI (T.length)), .ref (94), .int (nI (O.length))])) := ho
  have hx : zar h 84 1000 w := hx
  have lT := hT.1
  have lO := hO.1
  have lw := hx.1
  obtain ⟨la101, lb101, lc101, lf101, ld101, le101⟩ := id hO
  refine zp_aload_n dX11_drawn_0 rfl ?_
  refine zp_iconst (v := nI (0)) dX11_drawn_1 (by decide) ?_
  refine zp_put (fs' := [.int (nI (0)), .ref (65), .ref (66), .ref (67), .ref (68), .ref (69), .ref (70), .ref (71), .ref (72), .ref (73), .ref (74), .ref (75), .ref (76), .ref (77), .ref (78), .ref (79), .ref (80), .ref (81), .ref (82), .ref (83), .ref (84), .int (nI (w.length)), .int (nI (zbi un)), .int (rp), .int (wi), .int (pa), .int (la), .int (ru), .int (sa), .int (mq), .int (sq), .int (ta), .int (fa), .ref (85), .ref (86), .ref (87), .int (nI (mn)), .ref (88), .ref (89), .ref (90), .ref (91), .ref (92), .ref (93), .int (nI (T.length)), .ref (94), .int (nI (O.length))]) dX11_drawn_2 pX11_133_10 (by omega) ho (Nat.le_of_ble_eq_true rfl) (zfit_i _) rfl ?_
  refine zp_nh (fun h102x eh102x => ?_)
  have k102_0 : h102x (64) = some (.inl (10, [.int (nI (0)), .ref (65), .ref (66), .ref (67), .ref (68), .ref (69), .ref (70), .ref (71), .ref (72), .ref (73), .ref (74), .ref (75), .ref (76), .ref (77), .ref (78), .ref (79), .ref (80), .ref (81), .ref (82), .ref (83), .ref (84), .int (nI (w.length)), .int (nI (zbi un)), .int (rp), .int (wi), .int (pa), .int (la), .int (ru), .int (sa), .int (mq), .int (sq), .int (ta), .int (fa), .ref (85), .ref (86), .ref (87), .int (nI (mn)), .ref (88), .ref (89), .ref (90), .ref (91), .ref (92), .ref (93), .int (nI (T.length)), .ref (94), .int (nI (O.length))])) := by rw [eh102x]; exact va_up_self _ _ _
  have k102_1 := (congrFun eh102x (94)).trans ((va_up_ne _ _ (by omega)).trans ld101)
  have sw103 : zsm h h102x (zon (64)) := zsm.rf.up eh102x rfl
  have zw103 : zsh h h102x := zsh.obj eh102x ho
  refine zp_iload_n dX11_drawn_5 rfl ?_
  refine zp_iconst (v := nI (0)) dX11_drawn_6 (by decide) ?_
  refine zp_aload_n dX11_drawn_7 rfl ?_
  refine zp_get dX11_drawn_8 gX11_342_10 k102_0 rfl ?_
  refine zp_iconst (v := nI (1)) dX11_drawn_11 (by decide) ?_
  refine zp_pc (pc' := 12) rfl ?_
  have hin : (nI 0 ≤ x ∧ x ≤ nI O.length - nI 1) ↔ ∃ j, j < O.length ∧ x = nI j := zin_len (by omega)
  refine zp_isub dX11_drawn_12 ?_
  refine zp_callS (As := [.int (x), .int (nI (0)), .int ((nI (O.length)) - (nI (1)))]) (st := []) dX11_drawn_13 cX11_297 rfl e_in (by decide) (by decide) (Nat.le_of_ble_eq_true rfl) (fun v104 h104 n104 q104 => ?_)
  obtain ⟨rfl, H104, N104⟩ := q104
  rw [N104, H104]
  refine zp_nrm (cells' := 0) (slots' := 0) (st' := [.int (nI (zbi (decide (nI 0 ≤ x ∧ x ≤ nI O.length - nI 1))))]) rfl rfl rfl ?_
  refine zn_if_eq (tgt := 28) dX11_drawn_16 (by decide) (by have := zbi_lt (decide (nI 0 ≤ x ∧ x ≤ nI O.length - nI 1)); omega) (fun c16 => ?_) (fun c16 => ?_)
  · have bq105F : (decide (nI 0 ≤ x ∧ x ≤ nI O.length - nI 1)) = false := by rcases Bool.eq_false_or_eq_true (decide (nI 0 ≤ x ∧ x ≤ nI O.length - nI 1)) with q | q; rw [q] at c16; exact absurd c16 (by decide); exact q
    refine zp_iconst (v := (-1)) dX11_drawn_28 (by decide) ?_
    refine zp_pc (pc' := 29) rfl ?_
    refine zp_i (y := zqdrawn x (T, O, (w, rp, wi, pa, un, la, ru, sa, me, se, ta, fa), Gs)) (zat_no (fun q => of_decide_eq_false bq105F (hin.mpr q))).symm ?_
    refine zp_ret (v := (some (.int (zqdrawn x (T, O, (w, rp, wi, pa, un, la, ru, sa, me, se, ta, fa), Gs))))) dX11_drawn_29 ⟨⟨_, rfl, rfl⟩, rfl⟩ (by decide) (by decide) ?_
    rw [hQ]
    exact ⟨rfl, rfl, (sw103).mono (fun i hi => by unfold zmA; unfold zon at hi; omega), H.upd ((sw103).mono (fun i hi => by unfold zcz; unfold zon at hi; omega)) (zw103) ⟨_, _, _, _, k102_0, hms⟩ (((hx).keep (sw103 _ (by unfold zon; omega)))) (((hT).keep (sw103 _ (by unfold zon; omega)))) (((hO).keep (sw103 _ (by unfold zon; omega)))) hS (by omega)⟩
  · have bq105T : (decide (nI 0 ≤ x ∧ x ≤ nI O.length - nI 1)) = true := by rcases Bool.eq_false_or_eq_true (decide (nI 0 ≤ x ∧ x ≤ nI O.length - nI 1)) with q | q; exact q; rw [q] at c16; exact absurd rfl c16
    obtain ⟨j, hj, rfl⟩ := hin.mp (of_decide_eq_true bq105T)
    refine zp_aload_n dX11_drawn_19 rfl ?_
    refine zp_get dX11_drawn_20 gX11_117_10 k102_0 rfl ?_
    refine zp_iload_n dX11_drawn_23 rfl ?_
    refine zp_pc (pc' := 24) rfl ?_
    refine zn_iald (j := j) dX11_drawn_24 k102_1 (by omega) (by omega) ?_
    refine zp_i (y := zqdrawn (nI j) (T, O, (w, rp, wi, pa, un, la, ru, sa, me, se, ta, fa), Gs)) (by show _ = zat O (nI j); rw [zat_nI hj (by omega)]; exact le101 _ hj) ?_
    refine zp_goto (tgt := 29) dX11_drawn_25 (by decide) ?_
    refine zp_pc (pc' := 29) rfl ?_
    refine zp_ret (v := (some (.int (zqdrawn (nI j) (T, O, (w, rp, wi, pa, un, la, ru, sa, me, se, ta, fa), Gs))))) dX11_drawn_29 ⟨⟨_, rfl, rfl⟩, rfl⟩ (by decide) (by decide) ?_
    rw [hQ]
    exact ⟨rfl, rfl, (sw103).mono (fun i hi => by unfold zmA; unfold zon at hi; omega), H.upd ((sw103).mono (fun i hi => by unfold zcz; unfold zon at hi; omega)) (zw103) ⟨_, _, _, _, k102_0, hms⟩ (((hx).keep (sw103 _ (by unfold zon; omega)))) (((hT).keep (sw103 _ (by unfold zon; omega)))) (((hO).keep (sw103 _ (by unfold zon; omega)))) hS (by omega)⟩
set_option maxRecDepth 10000 in
set_option maxHeartbeats 2000000 in
theorem E_feed {g : ZG} {h : ZH} {n : Nat} {t : Nat} {T O w : List Nat} {un : Bool} {rp wi pa la ru sa me se ta fa : Int32} {Gs : Nat → Option ZGn} {a b c d e : Int32} (H : zMD t h (T, O, (w, rp, wi, pa, un, la, ru, sa, me, se, ta, fa), Gs)) : zMt g mX11_feed (zR 1 0 0) [.ref (64), .int (a), .int (b), .int (c), .int (d), .int (e)] h n (fun v h' n' => v = some (.int (zqfeed a b c d e (T, O, (w, rp, wi, pa, un, la, ru, sa, me, se, ta, fa), Gs)).1) ∧ n' = n ∧ zsm h h' zmA ∧ zMD (t + 2) h' (zqfeed a b c d e (T, O, (w, rp, wi, pa, un, la, ru, sa, me, se, ta, fa), Gs)).2) := by
  refine zMt.of [some (.ref (64)), some (.int (a)), some (.int (b)), some (.int (c)), some (.int (d)), some (.int (e))] (by decide) rfl (Nat.le_of_ble_eq_true rfl) ?_
  obtain ⟨Qf, hQ⟩ : ∃ Qf : ZQ, Qf = (fun v h' n' => v = some (.int (zqfeed a b c d e (T, O, (w, rp, wi, pa, un, la, ru, sa, me, se, ta, fa), Gs)).1) ∧ n' = n ∧ zsm h h' zmA ∧ zMD (t + 2) h' (zqfeed a b c d e (T, O, (w, rp, wi, pa, un, la, ru, sa, me, se, ta, fa), Gs)).2) := ⟨_, rfl⟩
  rw [← hQ]
  obtain ⟨⟨th, mn, mq, sq, ho, hms⟩, hw, hx, h85, ⟨Aa, h86, hAa⟩, hT, hO, hG, hS⟩ := id H
  have ho : h 64 = some (.inl (10, [.int (th), .ref (65), .ref (66), .ref (67), .ref (68), .ref (69), .ref (70), .ref (71), .ref (72), .ref (73), .ref (74), .ref (75), .ref (76), .ref (77), .ref (78), .ref (79), .ref (80), .ref (81), .ref (82), .ref (83), .ref (84), .int (nI (w.length)), .int (nI (zbi un)), .int (rp), .int (wi), .int (pa), .int (la), .int (ru), .int (sa), .int (mq), .int (sq), .int (ta), .int (fa), .ref (85), .ref (86), .ref (87), .int (nI (mn)), .ref (88), .ref (89), .ref (90), .ref (91), .ref (92), .ref (93), .int (nI (T.length)), .ref (94), .int (nI (O.length))])) := ho
  have hx : zar h 84 1000 w := hx
  have lT := hT.1
  have lO := hO.1
  have lw := hx.1
  obtain ⟨if101, ih101⟩ := id (hT.ia)
  refine zp_aload_n dX11_feed_0 rfl ?_
  refine zp_iconst (v := nI (0)) dX11_feed_1 (by decide) ?_
  refine zp_put (fs' := [.int (nI (0)), .ref (65), .ref (66), .ref (67), .ref (68), .ref (69), .ref (70), .ref (71), .ref (72), .ref (73), .ref (74), .ref (75), .ref (76), .ref (77), .ref (78), .ref (79), .ref (80), .ref (81), .ref (82), .ref (83), .ref (84), .int (nI (w.length)), .int (nI (zbi un)), .int (rp), .int (wi), .int (pa), .int (la), .int (ru), .int (sa), .int (mq), .int (sq), .int (ta), .int (fa), .ref (85), .ref (86), .ref (87), .int (nI (mn)), .ref (88), .ref (89), .ref (90), .ref (91), .ref (92), .ref (93), .int (nI (T.length)), .ref (94), .int (nI (O.length))]) dX11_feed_2 pX11_133_10 (by omega) ho (Nat.le_of_ble_eq_true rfl) (zfit_i _) rfl ?_
  refine zp_nh (fun h102x eh102x => ?_)
  have k102_0 : h102x (64) = some (.inl (10, [.int (nI (0)), .ref (65), .ref (66), .ref (67), .ref (68), .ref (69), .ref (70), .ref (71), .ref (72), .ref (73), .ref (74), .ref (75), .ref (76), .ref (77), .ref (78), .ref (79), .ref (80), .ref (81), .ref (82), .ref (83), .ref (84), .int (nI (w.length)), .int (nI (zbi un)), .int (rp), .int (wi), .int (pa), .int (la), .int (ru), .int (sa), .int (mq), .int (sq), .int (ta), .int (fa), .ref (85), .ref (86), .ref (87), .int (nI (mn)), .ref (88), .ref (89), .ref (90), .ref (91), .ref (92), .ref (93), .int (nI (T.length)), .ref (94), .int (nI (O.length))])) := by rw [eh102x]; exact va_up_self _ _ _
  have k102_1 := (congrFun eh102x (93)).trans ((va_up_ne _ _ (by omega)).trans ih101)
  have sw103 : zsm h h102x (zon (64)) := zsm.rf.up eh102x rfl
  have zw103 : zsh h h102x := zsh.obj eh102x ho
  refine zp_aload_n dX11_feed_5 rfl ?_
  refine zp_get dX11_feed_6 gX11_304_10 k102_0 rfl ?_
  refine zp_bipush (v := nI (20)) dX11_feed_9 (by decide) ?_
  refine zn_iadd dX11_feed_11 ?_
  refine zp_sipush (v := nI (240)) dX11_feed_12 (by decide) ?_
  refine zp_pc (pc' := 15) rfl ?_
  refine zn_icmp_le (tgt := 20) dX11_feed_15 (by decide) (by omega) (by omega) (fun c15 => ?_) (fun c15 => ?_)
  · have hT1 := ((hT).keep (sw103 _ (by unfold zon; omega)))
    refine zp_aload_n dX11_feed_20 rfl ?_
    refine zp_get dX11_feed_21 gX11_114_10 k102_0 rfl ?_
    refine zp_aload_n dX11_feed_24 rfl ?_
    refine zp_get dX11_feed_25 gX11_304_10 k102_0 rfl ?_
    refine zp_iload_n dX11_feed_28 rfl ?_
    refine zp_iconst (v := nI (4)) dX11_feed_29 (by decide) ?_
    refine zp_pc (pc' := 30) rfl ?_
    refine zp_callS (As := [.ref (93), .int (nI (T.length)), .int (a), .int (nI (4))]) (st := []) dX11_feed_30 cX11_174 rfl (e_number (p := 93) (N := 240) (at_ := T.length) (v0 := a) (by decide) k102_1 (by decide) (by omega)) (by decide) (by decide) (Nat.le_of_ble_eq_true rfl) (fun v104 h104 n104 q104 => ?_)
    obtain ⟨rfl, N104, E104⟩ := q104
    rw [N104]
    refine zp_nrm (cells' := 0) (slots' := 0) (st' := []) rfl rfl rfl ?_
    have s104 := zsm.fill E104
    have z104 := zsh.fill E104 k102_1
    have m104_ := congrFun E104 93
    rw [va_up_self] at m104_
    have l104 : (T).length = T.length + 0 := by first | rfl | simp only [List.length_append, zn4_len]
    have hT104 := zar.num hT1 k102_1 E104 (by rw [l104]) (by rw [l104]; omega)
    have m105 : h104 (64) = some (.inl (10, [.int (nI (0)), .ref (65), .ref (66), .ref (67), .ref (68), .ref (69), .ref (70), .ref (71), .ref (72), .ref (73), .ref (74), .ref (75), .ref (76), .ref (77), .ref (78), .ref (79), .ref (80), .ref (81), .ref (82), .ref (83), .ref (84), .int (nI (w.length)), .int (nI (zbi un)), .int (rp), .int (wi), .int (pa), .int (la), .int (ru), .int (sa), .int (mq), .int (sq), .int (ta), .int (fa), .ref (85), .ref (86), .ref (87), .int (nI (mn)), .ref (88), .ref (89), .ref (90), .ref (91), .ref (92), .ref (93), .int (nI (T.length)), .ref (94), .int (nI (O.length))])) := (s104 _ (by unfold zon; omega)).trans k102_0
    refine zp_aload_n dX11_feed_33 rfl ?_
    refine zp_get dX11_feed_34 gX11_114_10 m105 rfl ?_
    refine zp_aload_n dX11_feed_37 rfl ?_
    refine zp_get dX11_feed_38 gX11_304_10 m105 rfl ?_
    refine zp_iconst (v := nI (4)) dX11_feed_41 (by decide) ?_
    refine zn_iadd dX11_feed_42 ?_
    refine zp_iload_n dX11_feed_43 rfl ?_
    refine zp_iconst (v := nI (4)) dX11_feed_44 (by decide) ?_
    refine zp_pc (pc' := 45) rfl ?_
    refine zp_callS (As := [.ref (93), .int (nI ((T.length) + (4))), .int (b), .int (nI (4))]) (st := []) dX11_feed_45 cX11_174 rfl (e_number (p := 93) (N := 240) (at_ := T.length + 4) (v0 := b) (by decide) m104_ (by decide) (by omega)) (by decide) (by decide) (Nat.le_of_ble_eq_true rfl) (fun v106 h106 n106 q106 => ?_)
    obtain ⟨rfl, N106, E106⟩ := q106
    rw [N106]
    refine zp_nrm (cells' := 0) (slots' := 0) (st' := []) rfl rfl rfl ?_
    have s106 := zsm.fill E106
    have z106 := zsh.fill E106 m104_
    have m106_ := congrFun E106 93
    rw [va_up_self] at m106_
    have l106 : (T ++ zn4 a).length = T.length + 4 := by first | rfl | simp only [List.length_append, zn4_len]
    have hT106 := zar.num hT104 m104_ E106 (by rw [l106]) (by rw [l106]; omega)
    have m107 : h106 (64) = some (.inl (10, [.int (nI (0)), .ref (65), .ref (66), .ref (67), .ref (68), .ref (69), .ref (70), .ref (71), .ref (72), .ref (73), .ref (74), .ref (75), .ref (76), .ref (77), .ref (78), .ref (79), .ref (80), .ref (81), .ref (82), .ref (83), .ref (84), .int (nI (w.length)), .int (nI (zbi un)), .int (rp), .int (wi), .int (pa), .int (la), .int (ru), .int (sa), .int (mq), .int (sq), .int (ta), .int (fa), .ref (85), .ref (86), .ref (87), .int (nI (mn)), .ref (88), .ref (89), .ref (90), .ref (91), .ref (92), .ref (93), .int (nI (T.length)), .ref (94), .int (nI (O.length))])) := (s106 _ (by unfold zon; omega)).trans m105
    refine zp_aload_n dX11_feed_48 rfl ?_
    refine zp_get dX11_feed_49 gX11_114_10 m107 rfl ?_
    refine zp_aload_n dX11_feed_52 rfl ?_
    refine zp_get dX11_feed_53 gX11_304_10 m107 rfl ?_
    refine zp_bipush (v := nI (8)) dX11_feed_56 (by decide) ?_
    refine zn_iadd dX11_feed_58 ?_
    refine zp_iload_n dX11_feed_59 rfl ?_
    refine zp_iconst (v := nI (4)) dX11_feed_60 (by decide) ?_
    refine zp_pc (pc' := 61) rfl ?_
    refine zp_callS (As := [.ref (93), .int (nI ((T.length) + (8))), .int (c), .int (nI (4))]) (st := []) dX11_feed_61 cX11_174 rfl (e_number (p := 93) (N := 240) (at_ := T.length + 8) (v0 := c) (by decide) m106_ (by decide) (by omega)) (by decide) (by decide) (Nat.le_of_ble_eq_true rfl) (fun v108 h108 n108 q108 => ?_)
    obtain ⟨rfl, N108, E108⟩ := q108
    rw [N108]
    refine zp_nrm (cells' := 0) (slots' := 0) (st' := []) rfl rfl rfl ?_
    have s108 := zsm.fill E108
    have z108 := zsh.fill E108 m106_
    have m108_ := congrFun E108 93
    rw [va_up_self] at m108_
    have l108 : (T ++ zn4 a ++ zn4 b).length = T.length + 8 := by first | rfl | simp only [List.length_append, zn4_len]
    have hT108 := zar.num hT106 m106_ E108 (by rw [l108]) (by rw [l108]; omega)
    have m109 : h108 (64) = some (.inl (10, [.int (nI (0)), .ref (65), .ref (66), .ref (67), .ref (68), .ref (69), .ref (70), .ref (71), .ref (72), .ref (73), .ref (74), .ref (75), .ref (76), .ref (77), .ref (78), .ref (79), .ref (80), .ref (81), .ref (82), .ref (83), .ref (84), .int (nI (w.length)), .int (nI (zbi un)), .int (rp), .int (wi), .int (pa), .int (la), .int (ru), .int (sa), .int (mq), .int (sq), .int (ta), .int (fa), .ref (85), .ref (86), .ref (87), .int (nI (mn)), .ref (88), .ref (89), .ref (90), .ref (91), .ref (92), .ref (93), .int (nI (T.length)), .ref (94), .int (nI (O.length))])) := (s108 _ (by unfold zon; omega)).trans m107
    refine zp_aload_n dX11_feed_64 rfl ?_
    refine zp_get dX11_feed_65 gX11_114_10 m109 rfl ?_
    refine zp_aload_n dX11_feed_68 rfl ?_
    refine zp_get dX11_feed_69 gX11_304_10 m109 rfl ?_
    refine zp_bipush (v := nI (12)) dX11_feed_72 (by decide) ?_
    refine zn_iadd dX11_feed_74 ?_
    refine zp_iload dX11_feed_75 rfl ?_
    refine zp_iconst (v := nI (4)) dX11_feed_77 (by decide) ?_
    refine zp_pc (pc' := 78) rfl ?_
    refine zp_callS (As := [.ref (93), .int (nI ((T.length) + (12))), .int (d), .int (nI (4))]) (st := []) dX11_feed_78 cX11_174 rfl (e_number (p := 93) (N := 240) (at_ := T.length + 12) (v0 := d) (by decide) m108_ (by decide) (by omega)) (by decide) (by decide) (Nat.le_of_ble_eq_true rfl) (fun v110 h110 n110 q110 => ?_)
    obtain ⟨rfl, N110, E110⟩ := q110
    rw [N110]
    refine zp_nrm (cells' := 0) (slots' := 0) (st' := []) rfl rfl rfl ?_
    have s110 := zsm.fill E110
    have z110 := zsh.fill E110 m108_
    have m110_ := congrFun E110 93
    rw [va_up_self] at m110_
    have l110 : (T ++ zn4 a ++ zn4 b ++ zn4 c).length = T.length + 12 := by first | rfl | simp only [List.length_append, zn4_len]
    have hT110 := zar.num hT108 m108_ E110 (by rw [l110]) (by rw [l110]; omega)
    have m111 : h110 (64) = some (.inl (10, [.int (nI (0)), .ref (65), .ref (66), .ref (67), .ref (68), .ref (69), .ref (70), .ref (71), .ref (72), .ref (73), .ref (74), .ref (75), .ref (76), .ref (77), .ref (78), .ref (79), .ref (80), .ref (81), .ref (82), .ref (83), .ref (84), .int (nI (w.length)), .int (nI (zbi un)), .int (rp), .int (wi), .int (pa), .int (la), .int (ru), .int (sa), .int (mq), .int (sq), .int (ta), .int (fa), .ref (85), .ref (86), .ref (87), .int (nI (mn)), .ref (88), .ref (89), .ref (90), .ref (91), .ref (92), .ref (93), .int (nI (T.length)), .ref (94), .int (nI (O.length))])) := (s110 _ (by unfold zon; omega)).trans m109
    refine zp_aload_n dX11_feed_81 rfl ?_
    refine zp_get dX11_feed_82 gX11_114_10 m111 rfl ?_
    refine zp_aload_n dX11_feed_85 rfl ?_
    refine zp_get dX11_feed_86 gX11_304_10 m111 rfl ?_
    refine zp_bipush (v := nI (16)) dX11_feed_89 (by decide) ?_
    refine zn_iadd dX11_feed_91 ?_
    refine zp_iload dX11_feed_92 rfl ?_
    refine zp_iconst (v := nI (4)) dX11_feed_94 (by decide) ?_
    refine zp_pc (pc' := 95) rfl ?_
    refine zp_callS (As := [.ref (93), .int (nI ((T.length) + (16))), .int (e), .int (nI (4))]) (st := []) dX11_feed_95 cX11_174 rfl (e_number (p := 93) (N := 240) (at_ := T.length + 16) (v0 := e) (by decide) m110_ (by decide) (by omega)) (by decide) (by decide) (Nat.le_of_ble_eq_true rfl) (fun v112 h112 n112 q112 => ?_)
    obtain ⟨rfl, N112, E112⟩ := q112
    rw [N112]
    refine zp_nrm (cells' := 0) (slots' := 0) (st' := []) rfl rfl rfl ?_
    have s112 := zsm.fill E112
    have z112 := zsh.fill E112 m110_
    have m112_ := congrFun E112 93
    rw [va_up_self] at m112_
    have l112 : (T ++ zn4 a ++ zn4 b ++ zn4 c ++ zn4 d).length = T.length + 16 := by first | rfl | simp only [List.length_append, zn4_len]
    have hT112 := zar.num hT110 m110_ E112 (by rw [l112]) (by rw [l112]; omega)
    have m113 : h112 (64) = some (.inl (10, [.int (nI (0)), .ref (65), .ref (66), .ref (67), .ref (68), .ref (69), .ref (70), .ref (71), .ref (72), .ref (73), .ref (74), .ref (75), .ref (76), .ref (77), .ref (78), .ref (79), .ref (80), .ref (81), .ref (82), .ref (83), .ref (84), .int (nI (w.length)), .int (nI (zbi un)), .int (rp), .int (wi), .int (pa), .int (la), .int (ru), .int (sa), .int (mq), .int (sq), .int (ta), .int (fa), .ref (85), .ref (86), .ref (87), .int (nI (mn)), .ref (88), .ref (89), .ref (90), .ref (91), .ref (92), .ref (93), .int (nI (T.length)), .ref (94), .int (nI (O.length))])) := (s112 _ (by unfold zon; omega)).trans m111
    have lx : (T ++ zn4 a ++ zn4 b ++ zn4 c ++ zn4 d ++ zn4 e).length = T.length + 20 := by simp only [List.length_append, zn4_len]
    refine zp_aload_n dX11_feed_98 rfl ?_
    refine zp_dup dX11_feed_99 rfl ?_
    refine zp_get dX11_feed_100 gX11_304_10 m113 rfl ?_
    refine zp_bipush (v := nI (20)) dX11_feed_103 (by decide) ?_
    refine zp_pc (pc' := 105) rfl ?_
    refine zn_iadd dX11_feed_105 ?_
    refine zp_i (y := nI ((T ++ zn4 a ++ zn4 b ++ zn4 c ++ zn4 d ++ zn4 e).length)) (by rw [lx]) ?_
    refine zp_put (fs' := [.int (nI (0)), .ref (65), .ref (66), .ref (67), .ref (68), .ref (69), .ref (70), .ref (71), .ref (72), .ref (73), .ref (74), .ref (75), .ref (76), .ref (77), .ref (78), .ref (79), .ref (80), .ref (81), .ref (82), .ref (83), .ref (84), .int (nI (w.length)), .int (nI (zbi un)), .int (rp), .int (wi), .int (pa), .int (la), .int (ru), .int (sa), .int (mq), .int (sq), .int (ta), .int (fa), .ref (85), .ref (86), .ref (87), .int (nI (mn)), .ref (88), .ref (89), .ref (90), .ref (91), .ref (92), .ref (93), .int (nI ((T ++ zn4 a ++ zn4 b ++ zn4 c ++ zn4 d ++ zn4 e).length)), .ref (94), .int (nI (O.length))]) dX11_feed_106 pX11_304_10 (by omega) m113 (Nat.le_of_ble_eq_true rfl) (zfit_i _) rfl ?_
    refine zp_nh (fun h114x eh114x => ?_)
    have k114_0 : h114x (64) = some (.inl (10, [.int (nI (0)), .ref (65), .ref (66), .ref (67), .ref (68), .ref (69), .ref (70), .ref (71), .ref (72), .ref (73), .ref (74), .ref (75), .ref (76), .ref (77), .ref (78), .ref (79), .ref (80), .ref (81), .ref (82), .ref (83), .ref (84), .int (nI (w.length)), .int (nI (zbi un)), .int (rp), .int (wi), .int (pa), .int (la), .int (ru), .int (sa), .int (mq), .int (sq), .int (ta), .int (fa), .ref (85), .ref (86), .ref (87), .int (nI (mn)), .ref (88), .ref (89), .ref (90), .ref (91), .ref (92), .ref (93), .int (nI ((T ++ zn4 a ++ zn4 b ++ zn4 c ++ zn4 d ++ zn4 e).length)), .ref (94), .int (nI (O.length))])) := by rw [eh114x]; exact va_up_self _ _ _
    have k114_1 := (congrFun eh114x (93)).trans ((va_up_ne _ _ (by omega)).trans m112_)
    have sw115 : zsm h112 h114x (zon (64)) := zsm.rf.up eh114x rfl
    have zw115 : zsh h112 h114x := zsh.obj eh114x m113
    refine zp_aload_n dX11_feed_109 rfl ?_
    refine zp_get dX11_feed_110 gX11_304_10 k114_0 rfl ?_
    refine zp_pc (pc' := 113) rfl ?_
    refine zp_i (y := nI (T.length + 20)) (by rw [lx]) ?_
    have hT9 := ((hT112).keep (sw115 _ (by unfold zon; omega)))
    have eq9 : (zqfeed a b c d e (T, O, (w, rp, wi, pa, un, la, ru, sa, me, se, ta, fa), Gs)) = (nI (T.length + 20), T ++ zn4 a ++ zn4 b ++ zn4 c ++ zn4 d ++ zn4 e, O, (w, rp, wi, pa, un, la, ru, sa, me, se, ta, fa), Gs) := if_neg (by omega)
    refine zp_ret (v := (some (.int (nI (T.length + 20))))) dX11_feed_113 ⟨⟨_, rfl, rfl⟩, rfl⟩ (by decide) (by decide) ?_
    rw [hQ]
    rw [eq9]; exact ⟨rfl, rfl, (((((((sw103).mono (fun i hi => by unfold zmA; unfold zon at hi; omega)).trans ((s104).mono (fun i hi => by unfold zmA; unfold zon at hi; omega))).trans ((s106).mono (fun i hi => by unfold zmA; unfold zon at hi; omega))).trans ((s108).mono (fun i hi => by unfold zmA; unfold zon at hi; omega))).trans ((s110).mono (fun i hi => by unfold zmA; unfold zon at hi; omega))).trans ((s112).mono (fun i hi => by unfold zmA; unfold zon at hi; omega))).trans ((sw115).mono (fun i hi => by unfold zmA; unfold zon at hi; omega)), H.upd ((((((((sw103).mono (fun i hi => by unfold zcz; unfold zon at hi; omega)).trans ((s104).mono (fun i hi => by unfold zcz; unfold zon at hi; omega))).trans ((s106).mono (fun i hi => by unfold zcz; unfold zon at hi; omega))).trans ((s108).mono (fun i hi => by unfold zcz; unfold zon at hi; omega))).trans ((s110).mono (fun i hi => by unfold zcz; unfold zon at hi; omega))).trans ((s112).mono (fun i hi => by unfold zcz; unfold zon at hi; omega))).trans ((sw115).mono (fun i hi => by unfold zcz; unfold zon at hi; omega))) (((((((zw103).trans z104).trans z106).trans z108).trans z110).trans z112).trans zw115) ⟨_, _, _, _, k114_0, hms⟩ (((((((((hx).keep (sw103 _ (by unfold zon; omega))).keep (s104 _ (by unfold zon; omega))).keep (s106 _ (by unfold zon; omega))).keep (s108 _ (by unfold zon; omega))).keep (s110 _ (by unfold zon; omega))).keep (s112 _ (by unfold zon; omega))).keep (sw115 _ (by unfold zon; omega)))) (hT9) (((((((((hO).keep (sw103 _ (by unfold zon; omega))).keep (s104 _ (by unfold zon; omega))).keep (s106 _ (by unfold zon; omega))).keep (s108 _ (by unfold zon; omega))).keep (s110 _ (by unfold zon; omega))).keep (s112 _ (by unfold zon; omega))).keep (sw115 _ (by unfold zon; omega)))) hS (by omega)⟩
  · refine zp_iconst (v := (-1)) dX11_feed_18 (by decide) ?_
    refine zp_pc (pc' := 19) rfl ?_
    have eq9 : (zqfeed a b c d e (T, O, (w, rp, wi, pa, un, la, ru, sa, me, se, ta, fa), Gs)) = (-1, T, O, (w, rp, wi, pa, un, la, ru, sa, me, se, ta, fa), Gs) := if_pos (by omega)
    refine zp_ret (v := (some (.int ((-1))))) dX11_feed_19 ⟨⟨_, rfl, rfl⟩, rfl⟩ (by decide) (by decide) ?_
    rw [hQ]
    rw [eq9]; exact ⟨rfl, rfl, (sw103).mono (fun i hi => by unfold zmA; unfold zon at hi; omega), H.upd ((sw103).mono (fun i hi => by unfold zcz; unfold zon at hi; omega)) (zw103) ⟨_, _, _, _, k102_0, hms⟩ (((hx).keep (sw103 _ (by unfold zon; omega)))) (((hT).keep (sw103 _ (by unfold zon; omega)))) (((hO).keep (sw103 _ (by unfold zon; omega)))) hS (by omega)⟩
set_option maxRecDepth 10000 in
set_option maxHeartbeats 2000000 in
theorem E_end {g : ZG} {h : ZH} {n : Nat} {t : Nat} {T O w : List Nat} {un : Bool} {rp wi pa la ru sa me se ta fa : Int32} {Gs : Nat → Option ZGn} {x : Int32} (H : zMD t h (T, O, (w, rp, wi, pa, un, la, ru, sa, me, se, ta, fa), Gs)) : zMt g mX11_end (zR 1 0 0) [.ref (64), .int (x)] h n (fun v h' n' => v = some (.int (zqend x (T, O, (w, rp, wi, pa, un, la, ru, sa, me, se, ta, fa), Gs)).1) ∧ n' = n ∧ zsm h h' zmA ∧ zMD (t + 2) h' (zqend x (T, O, (w, rp, wi, pa, un, la, ru, sa, me, se, ta, fa), Gs)).2) := by
  refine zMt.of [some (.ref (64)), some (.int (x))] (by decide) rfl (Nat.le_of_ble_eq_true rfl) ?_
  obtain ⟨Qf, hQ⟩ : ∃ Qf : ZQ, Qf = (fun v h' n' => v = some (.int (zqend x (T, O, (w, rp, wi, pa, un, la, ru, sa, me, se, ta, fa), Gs)).1) ∧ n' = n ∧ zsm h h' zmA ∧ zMD (t + 2) h' (zqend x (T, O, (w, rp, wi, pa, un, la, ru, sa, me, se, ta, fa), Gs)).2) := ⟨_, rfl⟩
  rw [← hQ]
  obtain ⟨⟨th, mn, mq, sq, ho, hms⟩, hw, hx, h85, ⟨Aa, h86, hAa⟩, hT, hO, hG, hS⟩ := id H
  have ho : h 64 = some (.inl (10, [.int (th), .ref (65), .ref (66), .ref (67), .ref (68), .ref (69), .ref (70), .ref (71), .ref (72), .ref (73), .ref (74), .ref (75), .ref (76), .ref (77), .ref (78), .ref (79), .ref (80), .ref (81), .ref (82), .ref (83), .ref (84), .int (nI (w.length)), .int (nI (zbi un)), .int (rp), .int (wi), .int (pa), .int (la), .int (ru), .int (sa), .int (mq), .int (sq), .int (ta), .int (fa), .ref (85), .ref (86), .ref (87), .int (nI (mn)), .ref (88), .ref (89), .ref (90), .ref (91), .ref (92), .ref (93), .int (nI (T.length)), .ref (94), .int (nI (O.length))])) := ho
  have hx : zar h 84 1000 w := hx
  have lT := hT.1
  have lO := hO.1
  have lw := hx.1
  refine zp_aload_n dX11_end_0 rfl ?_
  refine zp_iconst (v := nI (0)) dX11_end_1 (by decide) ?_
  refine zp_put (fs' := [.int (nI (0)), .ref (65), .ref (66), .ref (67), .ref (68), .ref (69), .ref (70), .ref (71), .ref (72), .ref (73), .ref (74), .ref (75), .ref (76), .ref (77), .ref (78), .ref (79), .ref (80), .ref (81), .ref (82), .ref (83), .ref (84), .int (nI (w.length)), .int (nI (zbi un)), .int (rp), .int (wi), .int (pa), .int (la), .int (ru), .int (sa), .int (mq), .int (sq), .int (ta), .int (fa), .ref (85), .ref (86), .ref (87), .int (nI (mn)), .ref (88), .ref (89), .ref (90), .ref (91), .ref (92), .ref (93), .int (nI (T.length)), .ref (94), .int (nI (O.length))]) dX11_end_2 pX11_133_10 (by omega) ho (Nat.le_of_ble_eq_true rfl) (zfit_i _) rfl ?_
  refine zp_nh (fun h101x eh101x => ?_)
  have k101_0 : h101x (64) = some (.inl (10, [.int (nI (0)), .ref (65), .ref (66), .ref (67), .ref (68), .ref (69), .ref (70), .ref (71), .ref (72), .ref (73), .ref (74), .ref (75), .ref (76), .ref (77), .ref (78), .ref (79), .ref (80), .ref (81), .ref (82), .ref (83), .ref (84), .int (nI (w.length)), .int (nI (zbi un)), .int (rp), .int (wi), .int (pa), .int (la), .int (ru), .int (sa), .int (mq), .int (sq), .int (ta), .int (fa), .ref (85), .ref (86), .ref (87), .int (nI (mn)), .ref (88), .ref (89), .ref (90), .ref (91), .ref (92), .ref (93), .int (nI (T.length)), .ref (94), .int (nI (O.length))])) := by rw [eh101x]; exact va_up_self _ _ _
  have sw102 : zsm h h101x (zon (64)) := zsm.rf.up eh101x rfl
  have zw102 : zsh h h101x := zsh.obj eh101x ho
  refine zp_iload_n dX11_end_5 rfl ?_
  refine zp_iconst (v := nI (0)) dX11_end_6 (by decide) ?_
  refine zp_aload_n dX11_end_7 rfl ?_
  refine zp_get dX11_end_8 gX11_304_10 k101_0 rfl ?_
  refine zp_pc (pc' := 11) rfl ?_
  refine zp_callS (As := [.int (x), .int (nI (0)), .int (nI (T.length))]) (st := []) dX11_end_11 cX11_297 rfl e_in (by decide) (by decide) (Nat.le_of_ble_eq_true rfl) (fun v103 h103 n103 q103 => ?_)
  obtain ⟨rfl, H103, N103⟩ := q103
  rw [N103, H103]
  refine zp_nrm (cells' := 0) (slots' := 0) (st' := [.int (nI (zbi (decide (nI 0 ≤ x ∧ x ≤ nI T.length))))]) rfl rfl rfl ?_
  refine zn_if_ne (tgt := 19) dX11_end_14 (by decide) (by have := zbi_lt (decide (nI 0 ≤ x ∧ x ≤ nI T.length)); omega) (fun c14 => ?_) (fun c14 => ?_)
  · have bq104T : (decide (nI 0 ≤ x ∧ x ≤ nI T.length)) = true := by rcases Bool.eq_false_or_eq_true (decide (nI 0 ≤ x ∧ x ≤ nI T.length)) with q | q; exact q; rw [q] at c14; exact absurd rfl c14
    obtain ⟨k, hk, rfl⟩ := zin_nat (by omega) (of_decide_eq_true bq104T)
    have lk : (T.take k).length = k := by rw [List.length_take]; omega
    refine zp_aload_n dX11_end_19 rfl ?_
    refine zp_pc (pc' := 20) rfl ?_
    refine zp_iload_n dX11_end_20 rfl ?_
    refine zp_i (y := nI ((T.take k).length)) (by rw [lk]) ?_
    refine zp_put (fs' := [.int (nI (0)), .ref (65), .ref (66), .ref (67), .ref (68), .ref (69), .ref (70), .ref (71), .ref (72), .ref (73), .ref (74), .ref (75), .ref (76), .ref (77), .ref (78), .ref (79), .ref (80), .ref (81), .ref (82), .ref (83), .ref (84), .int (nI (w.length)), .int (nI (zbi un)), .int (rp), .int (wi), .int (pa), .int (la), .int (ru), .int (sa), .int (mq), .int (sq), .int (ta), .int (fa), .ref (85), .ref (86), .ref (87), .int (nI (mn)), .ref (88), .ref (89), .ref (90), .ref (91), .ref (92), .ref (93), .int (nI ((T.take k).length)), .ref (94), .int (nI (O.length))]) dX11_end_21 pX11_304_10 (by omega) k101_0 (Nat.le_of_ble_eq_true rfl) (zfit_i _) rfl ?_
    refine zp_nh (fun h105x eh105x => ?_)
    have k105_0 : h105x (64) = some (.inl (10, [.int (nI (0)), .ref (65), .ref (66), .ref (67), .ref (68), .ref (69), .ref (70), .ref (71), .ref (72), .ref (73), .ref (74), .ref (75), .ref (76), .ref (77), .ref (78), .ref (79), .ref (80), .ref (81), .ref (82), .ref (83), .ref (84), .int (nI (w.length)), .int (nI (zbi un)), .int (rp), .int (wi), .int (pa), .int (la), .int (ru), .int (sa), .int (mq), .int (sq), .int (ta), .int (fa), .ref (85), .ref (86), .ref (87), .int (nI (mn)), .ref (88), .ref (89), .ref (90), .ref (91), .ref (92), .ref (93), .int (nI ((T.take k).length)), .ref (94), .int (nI (O.length))])) := by rw [eh105x]; exact va_up_self _ _ _
    have sw106 : zsm h101x h105x (zon (64)) := zsm.rf.up eh105x rfl
    have zw106 : zsh h101x h105x := zsh.obj eh105x k101_0
    refine zp_iload_n dX11_end_24 rfl ?_
    refine zp_pc (pc' := 25) rfl ?_
    have eq9 : (zqend (nI k) (T, O, (w, rp, wi, pa, un, la, ru, sa, me, se, ta, fa), Gs)) = (nI k, T.take k, O, (w, rp, wi, pa, un, la, ru, sa, me, se, ta, fa), Gs) := by show (if _ then _ else _) = _; rw [if_neg (show ¬ (nI k < 0 ∨ nI T.length < nI k) from zin_yes (of_decide_eq_true bq104T)), nI_clamp (by omega)]
    refine zp_ret (v := (some (.int (nI (k))))) dX11_end_25 ⟨⟨_, rfl, rfl⟩, rfl⟩ (by decide) (by decide) ?_
    rw [hQ]
    rw [eq9]; exact ⟨rfl, rfl, ((sw102).mono (fun i hi => by unfold zmA; unfold zon at hi; omega)).trans ((sw106).mono (fun i hi => by unfold zmA; unfold zon at hi; omega)), H.upd (((sw102).mono (fun i hi => by unfold zcz; unfold zon at hi; omega)).trans ((sw106).mono (fun i hi => by unfold zcz; unfold zon at hi; omega))) ((zw102).trans zw106) ⟨_, _, _, _, k105_0, hms⟩ ((((hx).keep (sw102 _ (by unfold zon; omega))).keep (sw106 _ (by unfold zon; omega)))) ((((hT.take).keep (sw102 _ (by unfold zon; omega))).keep (sw106 _ (by unfold zon; omega)))) ((((hO).keep (sw102 _ (by unfold zon; omega))).keep (sw106 _ (by unfold zon; omega)))) hS (by omega)⟩
  · have bq104F : (decide (nI 0 ≤ x ∧ x ≤ nI T.length)) = false := by rcases Bool.eq_false_or_eq_true (decide (nI 0 ≤ x ∧ x ≤ nI T.length)) with q | q; rw [q] at c14; exact absurd c14 (by decide); exact q
    refine zp_iconst (v := (-1)) dX11_end_17 (by decide) ?_
    refine zp_pc (pc' := 18) rfl ?_
    have eq9 : (zqend x (T, O, (w, rp, wi, pa, un, la, ru, sa, me, se, ta, fa), Gs)) = (-1, T, O, (w, rp, wi, pa, un, la, ru, sa, me, se, ta, fa), Gs) := if_pos (zin_not (of_decide_eq_false bq104F))
    refine zp_ret (v := (some (.int ((-1))))) dX11_end_18 ⟨⟨_, rfl, rfl⟩, rfl⟩ (by decide) (by decide) ?_
    rw [hQ]
    rw [eq9]; exact ⟨rfl, rfl, (sw102).mono (fun i hi => by unfold zmA; unfold zon at hi; omega), H.upd ((sw102).mono (fun i hi => by unfold zcz; unfold zon at hi; omega)) (zw102) ⟨_, _, _, _, k101_0, hms⟩ (((hx).keep (sw102 _ (by unfold zon; omega)))) (((hT).keep (sw102 _ (by unfold zon; omega)))) (((hO).keep (sw102 _ (by unfold zon; omega)))) hS (by omega)⟩
set_option maxRecDepth 10000 in
set_option maxHeartbeats 2000000 in
theorem E_digest {g : ZG} {h : ZH} {n : Nat} {t : Nat} {T O w : List Nat} {un : Bool} {rp wi pa la ru sa me se ta fa : Int32} {Gs : Nat → Option ZGn} {b : Bool} (H : zMD t h (T, O, (w, rp, wi, pa, un, la, ru, sa, me, se, ta, fa), Gs)) : zMt g mX11_digest_ (zR 4 0 0) [.ref (64), .int (nI (zbi b))] h n (fun v h' n' => v = some (.int (zqdigest b (T, O, (w, rp, wi, pa, un, la, ru, sa, me, se, ta, fa), Gs)).1) ∧ n' = n ∧ zsm h h' zmA ∧ zMD (t + 2) h' (zqdigest b (T, O, (w, rp, wi, pa, un, la, ru, sa, me, se, ta, fa), Gs)).2) := by
  refine zMt.of [some (.ref (64)), some (.int (nI (zbi b)))] (by decide) rfl (Nat.le_of_ble_eq_true rfl) ?_
  obtain ⟨Qf, hQ⟩ : ∃ Qf : ZQ, Qf = (fun v h' n' => v = some (.int (zqdigest b (T, O, (w, rp, wi, pa, un, la, ru, sa, me, se, ta, fa), Gs)).1) ∧ n' = n ∧ zsm h h' zmA ∧ zMD (t + 2) h' (zqdigest b (T, O, (w, rp, wi, pa, un, la, ru, sa, me, se, ta, fa), Gs)).2) := ⟨_, rfl⟩
  rw [← hQ]
  obtain ⟨⟨th, mn, mq, sq, ho, hms⟩, hw, hx, h85, ⟨Aa, h86, hAa⟩, hT, hO, hG, hS⟩ := id H
  have ho : h 64 = some (.inl (10, [.int (th), .ref (65), .ref (66), .ref (67), .ref (68), .ref (69), .ref (70), .ref (71), .ref (72), .ref (73), .ref (74), .ref (75), .ref (76), .ref (77), .ref (78), .ref (79), .ref (80), .ref (81), .ref (82), .ref (83), .ref (84), .int (nI (w.length)), .int (nI (zbi un)), .int (rp), .int (wi), .int (pa), .int (la), .int (ru), .int (sa), .int (mq), .int (sq), .int (ta), .int (fa), .ref (85), .ref (86), .ref (87), .int (nI (mn)), .ref (88), .ref (89), .ref (90), .ref (91), .ref (92), .ref (93), .int (nI (T.length)), .ref (94), .int (nI (O.length))])) := ho
  have hx : zar h 84 1000 w := hx
  have lT := hT.1
  have lO := hO.1
  have lw := hx.1
  refine zp_aload_n dX11_digest__0 rfl ?_
  refine zp_iconst (v := nI (0)) dX11_digest__1 (by decide) ?_
  refine zp_put (fs' := [.int (nI (0)), .ref (65), .ref (66), .ref (67), .ref (68), .ref (69), .ref (70), .ref (71), .ref (72), .ref (73), .ref (74), .ref (75), .ref (76), .ref (77), .ref (78), .ref (79), .ref (80), .ref (81), .ref (82), .ref (83), .ref (84), .int (nI (w.length)), .int (nI (zbi un)), .int (rp), .int (wi), .int (pa), .int (la), .int (ru), .int (sa), .int (mq), .int (sq), .int (ta), .int (fa), .ref (85), .ref (86), .ref (87), .int (nI (mn)), .ref (88), .ref (89), .ref (90), .ref (91), .ref (92), .ref (93), .int (nI (T.length)), .ref (94), .int (nI (O.length))]) dX11_digest__2 pX11_133_10 (by omega) ho (Nat.le_of_ble_eq_true rfl) (zfit_i _) rfl ?_
  refine zp_nh (fun h101x eh101x => ?_)
  have k101_0 : h101x (64) = some (.inl (10, [.int (nI (0)), .ref (65), .ref (66), .ref (67), .ref (68), .ref (69), .ref (70), .ref (71), .ref (72), .ref (73), .ref (74), .ref (75), .ref (76), .ref (77), .ref (78), .ref (79), .ref (80), .ref (81), .ref (82), .ref (83), .ref (84), .int (nI (w.length)), .int (nI (zbi un)), .int (rp), .int (wi), .int (pa), .int (la), .int (ru), .int (sa), .int (mq), .int (sq), .int (ta), .int (fa), .ref (85), .ref (86), .ref (87), .int (nI (mn)), .ref (88), .ref (89), .ref (90), .ref (91), .ref (92), .ref (93), .int (nI (T.length)), .ref (94), .int (nI (O.length))])) := by rw [eh101x]; exact va_up_self _ _ _
  have sw102 : zsm h h101x (zon (64)) := zsm.rf.up eh101x rfl
  have zw102 : zsh h h101x := zsh.obj eh101x ho
  refine zp_aload_n dX11_digest__5 rfl ?_
  refine zp_iload_n dX11_digest__6 rfl ?_
  refine zp_aload_n dX11_digest__7 rfl ?_
  refine zp_get dX11_digest__8 gX11_114_10 k101_0 rfl ?_
  refine zp_aload_n dX11_digest__11 rfl ?_
  refine zp_get dX11_digest__12 gX11_304_10 k101_0 rfl ?_
  refine zp_pc (pc' := 15) rfl ?_
  have W103 := zmw.sh hw ((sw102).mono (fun i hi => by unfold zwf; unfold zon at hi; omega)) (zw102) (fun i hi => hi)
  refine zp_callV (As := [.int (nI (zbi b)), .ref (93), .int (nI (T.length))]) (k := 64) (st := []) (ci := 10) dX11_digest__15 cX11_170 rfl k101_0 rfl rfl (e_mdigW (b := b) (p := 93) W103 k101_0 (((hT).keep (sw102 _ (by unfold zon; omega)))) (by decide) (by omega)) (by decide) (by decide) (Nat.le_of_ble_eq_true rfl) (fun v104 h104 n104 q104 => ?_)
  obtain ⟨rfl, N104, s104, z104, d104⟩ := q104
  rw [N104]
  refine zp_nrm (cells' := 0) (slots' := 0) (st' := []) rfl rfl rfl ?_
  have m105 : h104 (64) = some (.inl (10, [.int (nI (0)), .ref (65), .ref (66), .ref (67), .ref (68), .ref (69), .ref (70), .ref (71), .ref (72), .ref (73), .ref (74), .ref (75), .ref (76), .ref (77), .ref (78), .ref (79), .ref (80), .ref (81), .ref (82), .ref (83), .ref (84), .int (nI (w.length)), .int (nI (zbi un)), .int (rp), .int (wi), .int (pa), .int (la), .int (ru), .int (sa), .int (mq), .int (sq), .int (ta), .int (fa), .ref (85), .ref (86), .ref (87), .int (nI (mn)), .ref (88), .ref (89), .ref (90), .ref (91), .ref (92), .ref (93), .int (nI (T.length)), .ref (94), .int (nI (O.length))])) := (s104 _ (by unfold zb3; omega)).trans k101_0
  refine zp_aload_n dX11_digest__18 rfl ?_
  refine zp_iload_n dX11_digest__19 rfl ?_
  refine zp_pc (pc' := 20) rfl ?_
  refine zp_callS (As := [.int (nI (zbi b))]) (st := [.ref (64)]) dX11_digest__20 cX11_166 rfl (e_sizeOf (b := b)) (by decide) (by decide) (Nat.le_of_ble_eq_true rfl) (fun v106 h106 n106 q106 => ?_)
  obtain ⟨rfl, H106, N106⟩ := q106
  rw [N106, H106]
  refine zp_nrm (cells' := 0) (slots' := 0) (st' := [.int (nI (8 * zwb b)), .ref (64)]) rfl rfl rfl ?_
  refine zp_i (y := nI ((zhash b T).length)) (by rw [zhash_len]) ?_
  refine zp_callV (As := [.int (nI ((zhash b T).length))]) (k := 64) (st := []) (ci := 10) dX11_digest__23 cX11_351 rfl m105 rfl rfl (e_show m105 d104 ((((hO.ia).keep (sw102 _ (by unfold zon; omega))).keep (s104 _ (by unfold zb3; omega))))) (by decide) (by decide) (Nat.le_of_ble_eq_true rfl) (fun v107 h107 n107 q107 => ?_)
  obtain ⟨rfl, N107, s107, z107, o107, q107⟩ := q107
  rw [N107]
  refine zp_nrm (cells' := 0) (slots' := 0) (st' := []) rfl rfl rfl ?_
  refine zp_aload_n dX11_digest__26 rfl ?_
  refine zp_get dX11_digest__27 gX11_342_10 o107 rfl ?_
  refine zp_pc (pc' := 30) rfl ?_
  refine zp_i (y := nI (8 * zwb b)) (by rw [zhash_len]) ?_
  have eq9 : (zqdigest b (T, O, (w, rp, wi, pa, un, la, ru, sa, me, se, ta, fa), Gs)) = (nI (8 * zwb b), T, zhash b T, (w, rp, wi, pa, un, la, ru, sa, me, se, ta, fa), Gs) := rfl
  refine zp_ret (v := (some (.int (nI (8 * zwb b))))) dX11_digest__30 ⟨⟨_, rfl, rfl⟩, rfl⟩ (by decide) (by decide) ?_
  rw [hQ]
  rw [eq9]; exact ⟨rfl, rfl, (((sw102).mono (fun i hi => by unfold zmA; unfold zon at hi; omega)).trans ((s104).mono (fun i hi => by unfold zmA; unfold zb3 at hi; omega))).trans ((s107).mono (fun i hi => by unfold zmA; unfold zsw4 at hi; omega)), H.upd ((((sw102).mono (fun i hi => by unfold zcz; unfold zon at hi; omega)).trans ((s104).mono (fun i hi => by unfold zcz; unfold zb3 at hi; omega))).trans ((s107).mono (fun i hi => by unfold zcz; unfold zsw4 at hi; omega))) (((zw102).trans z104).trans z107) ⟨_, _, _, _, o107, hms⟩ (((((hx).keep (sw102 _ (by unfold zon; omega))).keep (s104 _ (by unfold zb3; omega))).keep (s107 _ (by unfold zsw4; omega)))) (((((hT).keep (sw102 _ (by unfold zon; omega))).keep (s104 _ (by unfold zb3; omega))).keep (s107 _ (by unfold zsw4; omega)))) (q107) hS (by omega)⟩
set_option maxRecDepth 10000 in
set_option maxHeartbeats 2000000 in
theorem E_mac {g : ZG} {h : ZH} {n : Nat} {t : Nat} {T O w : List Nat} {un : Bool} {rp wi pa la ru sa me se ta fa : Int32} {Gs : Nat → Option ZGn} {b : Bool} (H : zMD t h (T, O, (w, rp, wi, pa, un, la, ru, sa, me, se, ta, fa), Gs)) : zMt g mX11_mac_ (zR 5 0 0) [.ref (64), .int (nI (zbi b))] h n (fun v h' n' => v = some (.int (nI (zbi (zqmac b (T, O, (w, rp, wi, pa, un, la, ru, sa, me, se, ta, fa), Gs)).1))) ∧ n' = n ∧ zsm h h' zmA ∧ zMD (t + 2) h' (zqmac b (T, O, (w, rp, wi, pa, un, la, ru, sa, me, se, ta, fa), Gs)).2) := by
  refine zMt.of [some (.ref (64)), some (.int (nI (zbi b))), none, none] (by decide) rfl (Nat.le_of_ble_eq_true rfl) ?_
  obtain ⟨Qf, hQ⟩ : ∃ Qf : ZQ, Qf = (fun v h' n' => v = some (.int (nI (zbi (zqmac b (T, O, (w, rp, wi, pa, un, la, ru, sa, me, se, ta, fa), Gs)).1))) ∧ n' = n ∧ zsm h h' zmA ∧ zMD (t + 2) h' (zqmac b (T, O, (w, rp, wi, pa, un, la, ru, sa, me, se, ta, fa), Gs)).2) := ⟨_, rfl⟩
  rw [← hQ]
  obtain ⟨⟨th, mn, mq, sq, ho, hms⟩, hw, hx, h85, ⟨Aa, h86, hAa⟩, hT, hO, hG, hS⟩ := id H
  have ho : h 64 = some (.inl (10, [.int (th), .ref (65), .ref (66), .ref (67), .ref (68), .ref (69), .ref (70), .ref (71), .ref (72), .ref (73), .ref (74), .ref (75), .ref (76), .ref (77), .ref (78), .ref (79), .ref (80), .ref (81), .ref (82), .ref (83), .ref (84), .int (nI (w.length)), .int (nI (zbi un)), .int (rp), .int (wi), .int (pa), .int (la), .int (ru), .int (sa), .int (mq), .int (sq), .int (ta), .int (fa), .ref (85), .ref (86), .ref (87), .int (nI (mn)), .ref (88), .ref (89), .ref (90), .ref (91), .ref (92), .ref (93), .int (nI (T.length)), .ref (94), .int (nI (O.length))])) := ho
  have hx : zar h 84 1000 w := hx
  have lT := hT.1
  have lO := hO.1
  have lw := hx.1
  have hz := zwb_or b
  refine zp_aload_n dX11_mac__0 rfl ?_
  refine zp_iconst (v := nI (0)) dX11_mac__1 (by decide) ?_
  refine zp_put (fs' := [.int (nI (0)), .ref (65), .ref (66), .ref (67), .ref (68), .ref (69), .ref (70), .ref (71), .ref (72), .ref (73), .ref (74), .ref (75), .ref (76), .ref (77), .ref (78), .ref (79), .ref (80), .ref (81), .ref (82), .ref (83), .ref (84), .int (nI (w.length)), .int (nI (zbi un)), .int (rp), .int (wi), .int (pa), .int (la), .int (ru), .int (sa), .int (mq), .int (sq), .int (ta), .int (fa), .ref (85), .ref (86), .ref (87), .int (nI (mn)), .ref (88), .ref (89), .ref (90), .ref (91), .ref (92), .ref (93), .int (nI (T.length)), .ref (94), .int (nI (O.length))]) dX11_mac__2 pX11_133_10 (by omega) ho (Nat.le_of_ble_eq_true rfl) (zfit_i _) rfl ?_
  refine zp_nh (fun h101x eh101x => ?_)
  have k101_0 : h101x (64) = some (.inl (10, [.int (nI (0)), .ref (65), .ref (66), .ref (67), .ref (68), .ref (69), .ref (70), .ref (71), .ref (72), .ref (73), .ref (74), .ref (75), .ref (76), .ref (77), .ref (78), .ref (79), .ref (80), .ref (81), .ref (82), .ref (83), .ref (84), .int (nI (w.length)), .int (nI (zbi un)), .int (rp), .int (wi), .int (pa), .int (la), .int (ru), .int (sa), .int (mq), .int (sq), .int (ta), .int (fa), .ref (85), .ref (86), .ref (87), .int (nI (mn)), .ref (88), .ref (89), .ref (90), .ref (91), .ref (92), .ref (93), .int (nI (T.length)), .ref (94), .int (nI (O.length))])) := by rw [eh101x]; exact va_up_self _ _ _
  have sw102 : zsm h h101x (zon (64)) := zsm.rf.up eh101x rfl
  have zw102 : zsh h h101x := zsh.obj eh101x ho
  refine zp_iload_n dX11_mac__5 rfl ?_
  refine zp_callS (As := [.int (nI (zbi b))]) (st := []) dX11_mac__6 cX11_166 rfl (e_sizeOf (b := b)) (by decide) (by decide) (Nat.le_of_ble_eq_true rfl) (fun v103 h103 n103 q103 => ?_)
  obtain ⟨rfl, H103, N103⟩ := q103
  rw [N103, H103]
  refine zp_nrm (cells' := 0) (slots' := 0) (st' := [.int (nI (8 * zwb b))]) rfl rfl rfl ?_
  refine zp_istore_n (ls' := [some (.ref (64)), some (.int (nI (zbi b))), some (.int (nI (8 * zwb b))), none]) dX11_mac__9 (by decide) rfl ?_
  refine zp_aload_n dX11_mac__10 rfl ?_
  refine zp_get dX11_mac__11 gX11_304_10 k101_0 rfl ?_
  refine zp_iload_n dX11_mac__14 rfl ?_
  refine zp_pc (pc' := 15) rfl ?_
  refine zn_icmp_ge (tgt := 20) dX11_mac__15 (by decide) (by omega) (by omega) (fun c15 => ?_) (fun c15 => ?_)
  · refine zp_aload_n dX11_mac__20 rfl ?_
    refine zp_pc (pc' := 21) rfl ?_
    have W104 := zmw.sh hw ((sw102).mono (fun i hi => by unfold zwf; unfold zon at hi; omega)) (zw102) (fun i hi => hi)
    refine zp_callV (As := []) (k := 64) (st := []) (ci := 10) dX11_mac__21 cX11_223 rfl k101_0 rfl rfl (e_mbegin k101_0) (by decide) (by decide) (Nat.le_of_ble_eq_true rfl) (fun v105 h105 n105 q105 => ?_)
    obtain ⟨rfl, N105, s105, z105, o105⟩ := q105
    rw [N105]
    refine zp_nrm (cells' := 0) (slots' := 0) (st' := []) rfl rfl rfl ?_
    have W106 := zmw.sh W104 ((s105).mono (fun i hi => by unfold zwf; unfold zon at hi; omega)) (z105) (fun i hi => hi)
    have xx105 : zar h105 87 1000 [] := zar.nil W106.m87 (by decide)
    refine zp_iload_n dX11_mac__24 rfl ?_
    refine zp_istore_n (ls' := [some (.ref (64)), some (.int (nI (zbi b))), some (.int (nI (8 * zwb b))), some (.int (nI (8 * zwb b)))]) dX11_mac__25 (by decide) rfl ?_
    refine zp_pc (pc' := 26) rfl ?_
    have T1 := (((hT).keep (sw102 _ (by unfold zon; omega))).keep (s105 _ (by unfold zon; omega)))
    refine zp_ls (ls' := [some (.ref (64)), some (.int (nI (zbi b))), some (.int (nI (8 * zwb b))), some (.int (nI (8 * zwb b + 0)))]) rfl ?_
    have tb := hT.bytes
    have lD : (T.drop (8 * zwb b)).length = T.length - 8 * zwb b := List.length_drop
    have lp : ∀ (m : Nat) (k : Nat) (h1 : ZH), m = T.length - 8 * zwb b - k → k ≤ T.length - 8 * zwb b → zsm h105 h1 zsp → zsh h105 h1 → h1 64 = some (.inl (10, [.int (nI (0)), .ref (65), .ref (66), .ref (67), .ref (68), .ref (69), .ref (70), .ref (71), .ref (72), .ref (73), .ref (74), .ref (75), .ref (76), .ref (77), .ref (78), .ref (79), .ref (80), .ref (81), .ref (82), .ref (83), .ref (84), .int (nI (w.length)), .int (nI (zbi un)), .int (rp), .int (wi), .int (pa), .int (la), .int (ru), .int (sa), .int (mq), .int (sq), .int (ta), .int (fa), .ref (85), .ref (86), .ref (87), .int (nI (((T.drop (8 * zwb b)).take k).length)), .ref (88), .ref (89), .ref (90), .ref (91), .ref (92), .ref (93), .int (nI (T.length)), .ref (94), .int (nI (O.length))])) → zar h1 87 1000 ((T.drop (8 * zwb b)).take k) → zP g mX11_mac_ (zR 5 0 0) Qf 0 0 26 [some (.ref (64)), some (.int (nI (zbi b))), some (.int (nI (8 * zwb b))), some (.int (nI (8 * zwb b + k)))] [] h1 n := by
      intro m
      induction m using Nat.strongRecOn with
      | _ m ih =>
        intro k h1 hm1 hk1 s1 z1 o1 x1
        have T2 := T1.keep (s1 93 (by unfold zsp; omega))
        obtain ⟨la107, lb107, lc107, lf107, ld107, le107⟩ := id T2
        have lk : ((T.drop (8 * zwb b)).take k).length = k := by rw [List.length_take, lD]; omega
        refine zp_iload_n dX11_mac__26 rfl ?_
        refine zp_aload_n dX11_mac__27 rfl ?_
        refine zp_get dX11_mac__28 gX11_304_10 o1 rfl ?_
        refine zp_pc (pc' := 31) rfl ?_
        refine zn_icmp_ge (tgt := 50) dX11_mac__31 (by decide) (by omega) (by omega) (fun c31 => ?_) (fun c31 => ?_)
        · have ek : k = (T.drop (8 * zwb b)).length := by omega
          subst ek
          rw [List.take_length] at o1 x1
          have W1 := W106.sh s1 z1 (fun i q => by unfold zsp at q; unfold zwf; omega)
          refine zp_aload_n dX11_mac__50 rfl ?_
          refine zp_iload_n dX11_mac__51 rfl ?_
          refine zp_aload_n dX11_mac__52 rfl ?_
          refine zp_get dX11_mac__53 gX11_114_10 o1 rfl ?_
          refine zp_aload_n dX11_mac__56 rfl ?_
          refine zp_get dX11_mac__57 gX11_96_10 o1 rfl ?_
          refine zp_aload_n dX11_mac__60 rfl ?_
          refine zp_get dX11_mac__61 gX11_212_10 o1 rfl ?_
          refine zp_pc (pc' := 64) rfl ?_
          refine zp_callV (As := [.int (nI (zbi b)), .ref (93), .ref (87), .int (nI ((T.drop (8 * zwb b)).length))]) (k := 64) (st := []) (ci := 10) dX11_mac__64 cX11_253 rfl o1 rfl rfl (e_mmacW (b := b) (ks := T.take (8 * zwb b)) W1 o1 T2.take x1 (by decide) (by decide) (by rw [List.length_take]; omega) (by omega)) (by decide) (by decide) (Nat.le_of_ble_eq_true rfl) (fun v108 h108 n108 q108 => ?_)
          obtain ⟨rfl, N108, s108, z108, d108⟩ := q108
          rw [N108]
          refine zp_nrm (cells' := 0) (slots' := 0) (st' := []) rfl rfl rfl ?_
          have m109 : h108 (64) = some (.inl (10, [.int (nI (0)), .ref (65), .ref (66), .ref (67), .ref (68), .ref (69), .ref (70), .ref (71), .ref (72), .ref (73), .ref (74), .ref (75), .ref (76), .ref (77), .ref (78), .ref (79), .ref (80), .ref (81), .ref (82), .ref (83), .ref (84), .int (nI (w.length)), .int (nI (zbi un)), .int (rp), .int (wi), .int (pa), .int (la), .int (ru), .int (sa), .int (mq), .int (sq), .int (ta), .int (fa), .ref (85), .ref (86), .ref (87), .int (nI ((T.drop (8 * zwb b)).length)), .ref (88), .ref (89), .ref (90), .ref (91), .ref (92), .ref (93), .int (nI (T.length)), .ref (94), .int (nI (O.length))])) := (s108 _ (by unfold zb3; omega)).trans o1
          have m110 : h108 (93) = some (.inr (240, .inl lf107)) := (s108 _ (by unfold zb3; omega)).trans ld107
          refine zp_aload_n dX11_mac__67 rfl ?_
          refine zp_iload_n dX11_mac__68 rfl ?_
          refine zp_pc (pc' := 69) rfl ?_
          refine zp_i (y := nI ((zmac b (T.take (8 * zwb b)) (T.drop (8 * zwb b))).length)) (by rw [zmac_len]) ?_
          have O1 := (((((hO).keep (sw102 _ (by unfold zon; omega))).keep (s105 _ (by unfold zon; omega)))).keep (s1 94 (by unfold zsp; omega))).keep (s108 94 (by unfold zb3; omega))
          refine zp_callV (As := [.int (nI ((zmac b (T.take (8 * zwb b)) (T.drop (8 * zwb b))).length))]) (k := 64) (st := []) (ci := 10) dX11_mac__69 cX11_351 rfl m109 rfl rfl (e_show m109 d108 O1.ia) (by decide) (by decide) (Nat.le_of_ble_eq_true rfl) (fun v111 h111 n111 q111 => ?_)
          obtain ⟨rfl, N111, s111, z111, o111, q111⟩ := q111
          rw [N111]
          refine zp_nrm (cells' := 0) (slots' := 0) (st' := []) rfl rfl rfl ?_
          have m112 : h111 (93) = some (.inr (240, .inl lf107)) := (s111 _ (by unfold zsw4; omega)).trans m110
          refine zp_iconst (v := nI (1)) dX11_mac__72 (by decide) ?_
          refine zp_pc (pc' := 73) rfl ?_
          refine zp_i (y := nI (zbi true)) rfl ?_
          have eq9 : (zqmac b (T, O, (w, rp, wi, pa, un, la, ru, sa, me, se, ta, fa), Gs)) = (true, T, (zmac b (T.take (8 * zwb b)) (T.drop (8 * zwb b))), (w, rp, wi, pa, un, la, ru, sa, me, se, ta, fa), Gs) := if_neg (by omega)
          refine zp_ret (v := (some (.int (nI (zbi true))))) dX11_mac__73 ⟨⟨_, rfl, ((zfit_b _) g).1⟩, rfl⟩ (by decide) (by decide) ?_
          rw [hQ]
          rw [eq9]; exact ⟨rfl, rfl, (((((sw102).mono (fun i hi => by unfold zmA; unfold zon at hi; omega)).trans ((s105).mono (fun i hi => by unfold zmA; unfold zon at hi; omega))).trans ((s1).mono (fun i hi => by unfold zmA; unfold zsp at hi; omega))).trans ((s108).mono (fun i hi => by unfold zmA; unfold zb3 at hi; omega))).trans ((s111).mono (fun i hi => by unfold zmA; unfold zsw4 at hi; omega)), H.upd ((((((sw102).mono (fun i hi => by unfold zcz; unfold zon at hi; omega)).trans ((s105).mono (fun i hi => by unfold zcz; unfold zon at hi; omega))).trans ((s1).mono (fun i hi => by unfold zcz; unfold zsp at hi; omega))).trans ((s108).mono (fun i hi => by unfold zcz; unfold zb3 at hi; omega))).trans ((s111).mono (fun i hi => by unfold zcz; unfold zsw4 at hi; omega))) (((((zw102).trans z105).trans z1).trans z108).trans z111) ⟨_, _, _, _, o111, hms⟩ (((((((hx).keep (sw102 _ (by unfold zon; omega))).keep (s105 _ (by unfold zon; omega))).keep (s1 _ (by unfold zsp; omega))).keep (s108 _ (by unfold zb3; omega))).keep (s111 _ (by unfold zsw4; omega)))) (((((((hT).keep (sw102 _ (by unfold zon; omega))).keep (s105 _ (by unfold zon; omega))).keep (s1 _ (by unfold zsp; omega))).keep (s108 _ (by unfold zb3; omega))).keep (s111 _ (by unfold zsw4; omega)))) (q111) hS (by omega)⟩
        · have hby := zgetD_lt tb (8 * zwb b + k)
          refine zp_aload_n dX11_mac__34 rfl ?_
          refine zp_aload_n dX11_mac__35 rfl ?_
          refine zp_get dX11_mac__36 gX11_114_10 o1 rfl ?_
          refine zp_iload_n dX11_mac__39 rfl ?_
          refine zp_pc (pc' := 40) rfl ?_
          refine zn_iald (j := 8 * zwb b + k) dX11_mac__40 ld107 (by omega) (by omega) ?_
          refine zp_i (y := nI ((T.drop (8 * zwb b)).getD k 0)) (by rw [zget_drop]; exact le107 _ (by omega)) ?_
          have et : ((T.drop (8 * zwb b)).take k) ++ [(T.drop (8 * zwb b)).getD k 0] = ((T.drop (8 * zwb b)).take (k + 1)) := ztake_step (by omega)
          refine zp_callV (As := [.int (nI ((T.drop (8 * zwb b)).getD k 0))]) (k := 64) (st := []) (ci := 10) dX11_mac__41 cX11_215 rfl o1 rfl rfl (e_mput (xs := ((T.drop (8 * zwb b)).take k)) (x := (T.drop (8 * zwb b)).getD k 0) o1 x1 (by rw [zget_drop]; exact hby) (by omega)) (by decide) (by decide) (Nat.le_of_ble_eq_true rfl) (fun v113 h113 n113 q113 => ?_)
          obtain ⟨rfl, N113, s113, z113, o113, x113⟩ := q113
          rw [N113]
          refine zp_nrm (cells' := 0) (slots' := 0) (st' := []) rfl rfl rfl ?_
          have m114 : h113 (93) = some (.inr (240, .inl lf107)) := (s113 _ (by unfold zsp; omega)).trans ld107
          rw [et] at o113 x113
          refine zn_iinc 1 (ls' := [some (.ref (64)), some (.int (nI (zbi b))), some (.int (nI (8 * zwb b))), some (.int (nI (8 * zwb b + k + 1)))]) dX11_mac__44 (by decide) (by decide) rfl rfl ?_
          refine zp_pc (pc' := 47) rfl ?_
          refine zp_ls (ls' := [some (.ref (64)), some (.int (nI (zbi b))), some (.int (nI (8 * zwb b))), some (.int (nI (8 * zwb b + (k + 1))))]) rfl ?_
          refine zp_goto (tgt := 26) dX11_mac__47 (by decide) ?_
          refine zp_pc (pc' := 26) rfl ?_
          exact ih (T.length - 8 * zwb b - (k + 1)) (by omega) (k + 1) h113 rfl (by omega) (s1.trans s113) (z1.trans z113) o113 x113
    exact lp _ 0 h105 rfl (Nat.zero_le _) zsm.rf zsh.rf o105 xx105
  · refine zp_iconst (v := nI (0)) dX11_mac__18 (by decide) ?_
    refine zp_pc (pc' := 19) rfl ?_
    refine zp_i (y := nI (zbi false)) rfl ?_
    have eq9 : (zqmac b (T, O, (w, rp, wi, pa, un, la, ru, sa, me, se, ta, fa), Gs)) = (false, T, O, (w, rp, wi, pa, un, la, ru, sa, me, se, ta, fa), Gs) := if_pos (by omega)
    refine zp_ret (v := (some (.int (nI (zbi false))))) dX11_mac__19 ⟨⟨_, rfl, ((zfit_b _) g).1⟩, rfl⟩ (by decide) (by decide) ?_
    rw [hQ]
    rw [eq9]; exact ⟨rfl, rfl, (sw102).mono (fun i hi => by unfold zmA; unfold zon at hi; omega), H.upd ((sw102).mono (fun i hi => by unfold zcz; unfold zon at hi; omega)) (zw102) ⟨_, _, _, _, k101_0, hms⟩ (((hx).keep (sw102 _ (by unfold zon; omega)))) (((hT).keep (sw102 _ (by unfold zon; omega)))) (((hO).keep (sw102 _ (by unfold zon; omega)))) hS (by omega)⟩
set_option maxRecDepth 10000 in
set_option maxHeartbeats 2000000 in
theorem E_cipher {g : ZG} {h : ZH} {n : Nat} {t : Nat} {T O w : List Nat} {un : Bool} {rp wi pa la ru sa me se ta fa : Int32} {Gs : Nat → Option ZGn} {b : Bool} (H : zMD t h (T, O, (w, rp, wi, pa, un, la, ru, sa, me, se, ta, fa), Gs)) : zMt g mX11_cipher_ (zR 3 0 0) [.ref (64), .int (nI (zbi b))] h n (fun v h' n' => v = some (.int (nI (zbi (zqcipher b (T, O, (w, rp, wi, pa, un, la, ru, sa, me, se, ta, fa), Gs)).1))) ∧ n' = n ∧ zsm h h' zmA ∧ zMD (t + 2) h' (zqcipher b (T, O, (w, rp, wi, pa, un, la, ru, sa, me, se, ta, fa), Gs)).2) := by
  refine zMt.of [some (.ref (64)), some (.int (nI (zbi b))), none, none] (by decide) rfl (Nat.le_of_ble_eq_true rfl) ?_
  obtain ⟨Qf, hQ⟩ : ∃ Qf : ZQ, Qf = (fun v h' n' => v = some (.int (nI (zbi (zqcipher b (T, O, (w, rp, wi, pa, un, la, ru, sa, me, se, ta, fa), Gs)).1))) ∧ n' = n ∧ zsm h h' zmA ∧ zMD (t + 2) h' (zqcipher b (T, O, (w, rp, wi, pa, un, la, ru, sa, me, se, ta, fa), Gs)).2) := ⟨_, rfl⟩
  rw [← hQ]
  obtain ⟨⟨th, mn, mq, sq, ho, hms⟩, hw, hx, h85, ⟨Aa, h86, hAa⟩, hT, hO, hG, hS⟩ := id H
  have ho : h 64 = some (.inl (10, [.int (th), .ref (65), .ref (66), .ref (67), .ref (68), .ref (69), .ref (70), .ref (71), .ref (72), .ref (73), .ref (74), .ref (75), .ref (76), .ref (77), .ref (78), .ref (79), .ref (80), .ref (81), .ref (82), .ref (83), .ref (84), .int (nI (w.length)), .int (nI (zbi un)), .int (rp), .int (wi), .int (pa), .int (la), .int (ru), .int (sa), .int (mq), .int (sq), .int (ta), .int (fa), .ref (85), .ref (86), .ref (87), .int (nI (mn)), .ref (88), .ref (89), .ref (90), .ref (91), .ref (92), .ref (93), .int (nI (T.length)), .ref (94), .int (nI (O.length))])) := ho
  have hx : zar h 84 1000 w := hx
  have lT := hT.1
  have lO := hO.1
  have lw := hx.1
  have hz := zkl_or b
  refine zp_aload_n dX11_cipher__0 rfl ?_
  refine zp_iconst (v := nI (0)) dX11_cipher__1 (by decide) ?_
  refine zp_put (fs' := [.int (nI (0)), .ref (65), .ref (66), .ref (67), .ref (68), .ref (69), .ref (70), .ref (71), .ref (72), .ref (73), .ref (74), .ref (75), .ref (76), .ref (77), .ref (78), .ref (79), .ref (80), .ref (81), .ref (82), .ref (83), .ref (84), .int (nI (w.length)), .int (nI (zbi un)), .int (rp), .int (wi), .int (pa), .int (la), .int (ru), .int (sa), .int (mq), .int (sq), .int (ta), .int (fa), .ref (85), .ref (86), .ref (87), .int (nI (mn)), .ref (88), .ref (89), .ref (90), .ref (91), .ref (92), .ref (93), .int (nI (T.length)), .ref (94), .int (nI (O.length))]) dX11_cipher__2 pX11_133_10 (by omega) ho (Nat.le_of_ble_eq_true rfl) (zfit_i _) rfl ?_
  refine zp_nh (fun h101x eh101x => ?_)
  have k101_0 : h101x (64) = some (.inl (10, [.int (nI (0)), .ref (65), .ref (66), .ref (67), .ref (68), .ref (69), .ref (70), .ref (71), .ref (72), .ref (73), .ref (74), .ref (75), .ref (76), .ref (77), .ref (78), .ref (79), .ref (80), .ref (81), .ref (82), .ref (83), .ref (84), .int (nI (w.length)), .int (nI (zbi un)), .int (rp), .int (wi), .int (pa), .int (la), .int (ru), .int (sa), .int (mq), .int (sq), .int (ta), .int (fa), .ref (85), .ref (86), .ref (87), .int (nI (mn)), .ref (88), .ref (89), .ref (90), .ref (91), .ref (92), .ref (93), .int (nI (T.length)), .ref (94), .int (nI (O.length))])) := by rw [eh101x]; exact va_up_self _ _ _
  have sw102 : zsm h h101x (zon (64)) := zsm.rf.up eh101x rfl
  have zw102 : zsh h h101x := zsh.obj eh101x ho
  refine zp_iload_n dX11_cipher__5 rfl ?_
  refine zp_pc (pc' := 6) rfl ?_
  have jn103 : zP g mX11_cipher_ (zR 3 0 0) Qf 0 0 16 [some (.ref (64)), some (.int (nI (zbi b))), none, none] [.int (nI (zkl b))] h101x n → zP g mX11_cipher_ (zR 3 0 0) Qf 0 0 6 [some (.ref (64)), some (.int (nI (zbi b))), none, none] [.int (nI (zbi b))] h101x n := by
    intro jk103
    refine zn_if_eq (tgt := 14) dX11_cipher__6 (by decide) (by have := zbi_lt b; omega) (fun c6 => ?_) (fun c6 => ?_)
    · have bb : b = false := by cases b; rfl; exact absurd c6 (by decide)
      refine zp_bipush (v := nI (16)) dX11_cipher__14 (by decide) ?_
      refine zp_pc (pc' := 16) rfl ?_
      refine zp_i (y := nI (zkl b)) (by rw [bb]; rfl) ?_
      exact jk103
    · have bb : b = true := by cases b; exact absurd rfl c6; rfl
      refine zp_bipush (v := nI (32)) dX11_cipher__9 (by decide) ?_
      refine zp_goto (tgt := 16) dX11_cipher__11 (by decide) ?_
      refine zp_pc (pc' := 16) rfl ?_
      refine zp_i (y := nI (zkl b)) (by rw [bb]; rfl) ?_
      exact jk103
  refine jn103 ?_
  refine zp_istore_n (ls' := [some (.ref (64)), some (.int (nI (zbi b))), some (.int (nI (zkl b))), none]) dX11_cipher__16 (by decide) rfl ?_
  refine zp_aload_n dX11_cipher__17 rfl ?_
  refine zp_get dX11_cipher__18 gX11_304_10 k101_0 rfl ?_
  refine zp_iload_n dX11_cipher__21 rfl ?_
  refine zp_bipush (v := nI (16)) dX11_cipher__22 (by decide) ?_
  refine zn_iadd dX11_cipher__24 ?_
  refine zp_pc (pc' := 25) rfl ?_
  refine zn_icmp_eq (tgt := 30) dX11_cipher__25 (by decide) (by omega) (by omega) (fun c25 => ?_) (fun c25 => ?_)
  · have T1 := ((hT).keep (sw102 _ (by unfold zon; omega)))
    obtain ⟨la104, lb104, lc104, lf104, ld104, le104⟩ := id T1
    have W105 := zmw.sh hw ((sw102).mono (fun i hi => by unfold zwf; unfold zon at hi; omega)) (zw102) (fun i hi => hi)
    obtain ⟨if106, ih106⟩ := id (W105.m91)
    have lD : (T.drop (zkl b)).length = 16 := by rw [List.length_drop]; omega
    refine zp_iconst (v := nI (0)) dX11_cipher__30 (by decide) ?_
    refine zp_istore_n (ls' := [some (.ref (64)), some (.int (nI (zbi b))), some (.int (nI (zkl b))), some (.int (nI (0)))]) dX11_cipher__31 (by decide) rfl ?_
    refine zp_pc (pc' := 32) rfl ?_
    have lp107 : zP g mX11_cipher_ (zR 3 0 0) Qf 0 0 58 [some (.ref (64)), some (.int (nI (zbi b))), some (.int (nI (zkl b))), some (.int (nI (16)))] [] (va_up h101x (91) (some (.inr (16, .inl (zfl if106 (0) (16) (fun i => nI ((T.drop (zkl b)).getD i 0))))))) n → ∀ (m k107 : Nat), m = (16) - k107 → k107 ≤ (16) → zP g mX11_cipher_ (zR 3 0 0) Qf 0 0 32 [some (.ref (64)), some (.int (nI (zbi b))), some (.int (nI (zkl b))), some (.int (nI (k107)))] [] (va_up h101x (91) (some (.inr (16, .inl (zfl if106 (0) (k107) (fun i => nI ((T.drop (zkl b)).getD i 0))))))) n := by
      intro kk m
      induction m using Nat.strongRecOn with
      | _ m ih =>
        intro k107 hm107 hk107
        refine zp_nh (fun hX107 eX107 => ?_)
        have k108_0 := (congrFun eX107 (64)).trans ((va_up_ne _ _ (by omega)).trans k101_0)
        have k108_1 := (congrFun eX107 (93)).trans ((va_up_ne _ _ (by omega)).trans ld104)
        have k108_2 : hX107 (91) = some (.inr (16, .inl (zfl if106 (0) (k107) (fun i => nI ((T.drop (zkl b)).getD i 0))))) := by rw [eX107]; exact va_up_self _ _ _
        refine zp_iload_n dX11_cipher__32 rfl ?_
        refine zp_bipush (v := nI (16)) dX11_cipher__33 (by decide) ?_
        refine zp_pc (pc' := 35) rfl ?_
        refine zn_icmp_ge (tgt := 58) dX11_cipher__35 (by decide) (by omega) (by omega) (fun c35 => ?_) (fun c35 => ?_)
        · have e107 : k107 = (16) := by omega
          subst e107
          rw [eX107]
          exact kk
        · refine zp_aload_n dX11_cipher__38 rfl ?_
          refine zp_get dX11_cipher__39 gX11_108_10 k108_0 rfl ?_
          refine zp_iload_n dX11_cipher__42 rfl ?_
          refine zp_aload_n dX11_cipher__43 rfl ?_
          refine zp_get dX11_cipher__44 gX11_114_10 k108_0 rfl ?_
          refine zp_iload_n dX11_cipher__47 rfl ?_
          refine zp_iload_n dX11_cipher__48 rfl ?_
          refine zn_iadd dX11_cipher__49 ?_
          refine zp_pc (pc' := 50) rfl ?_
          refine zn_iald (j := (zkl b) + (k107)) dX11_cipher__50 k108_1 (by omega) (by omega) ?_
          refine zp_i (y := nI ((T.drop (zkl b)).getD k107 0)) (by rw [zget_drop]; exact le104 _ (by omega)) ?_
          refine zn_iast dX11_cipher__51 (by omega) k108_2 (by omega) (by omega) ?_
          refine zp_nh (fun h109x eh109x => ?_)
          have k109_0 := (congrFun eh109x (64)).trans ((va_up_ne _ _ (by omega)).trans k108_0)
          have k109_1 := (congrFun eh109x (93)).trans ((va_up_ne _ _ (by omega)).trans k108_1)
          have k109_2 : h109x (91) = some (.inr (16, .inl (va_up (zfl if106 (0) (k107) (fun i => nI ((T.drop (zkl b)).getD i 0))) (k107) (nI ((T.drop (zkl b)).getD k107 0))))) := by rw [eh109x]; exact va_up_self _ _ _
          have sw110 : zsm hX107 h109x (zon (91)) := zsm.rf.up eh109x rfl
          have zw110 : zsh hX107 h109x := zsh.fill eh109x k108_2
          refine zp_pc (pc' := 52) rfl ?_
          refine zn_iinc 1 (ls' := [some (.ref (64)), some (.int (nI (zbi b))), some (.int (nI (zkl b))), some (.int (nI (k107 + 1)))]) dX11_cipher__52 (by decide) (by decide) rfl rfl ?_
          refine zp_goto (tgt := 32) dX11_cipher__55 (by decide) ?_
          refine zp_pc (pc' := 32) rfl ?_
          rw [zfl_step eX107 eh109x (by omega) rfl]
          exact ih ((16) - (k107 + 1)) (by omega) (k107 + 1) rfl (by omega)
    suffices K107 : zP g mX11_cipher_ (zR 3 0 0) Qf 0 0 58 [some (.ref (64)), some (.int (nI (zbi b))), some (.int (nI (zkl b))), some (.int (nI (16)))] [] (va_up h101x (91) (some (.inr (16, .inl (zfl if106 (0) (16) (fun i => nI ((T.drop (zkl b)).getD i 0))))))) n by
      have q := lp107 K107 ((16) - 0) 0 rfl (Nat.zero_le _)
      rw [zfl_0, zup_same ih106] at q
      exact q
    refine zp_nh (fun hY107 eY107 => ?_)
    have k111_0 := (congrFun eY107 (64)).trans ((va_up_ne _ _ (by omega)).trans k101_0)
    have k111_1 := (congrFun eY107 (93)).trans ((va_up_ne _ _ (by omega)).trans ld104)
    have k111_2 : hY107 (91) = some (.inr (16, .inl (zfl if106 (0) (16) (fun i => nI ((T.drop (zkl b)).getD i 0))))) := by rw [eY107]; exact va_up_self _ _ _
    have sf112 := (zsm.fill eY107)
    have zf112 := zsh.fill eY107 ih106
    have aB : zar hY107 91 16 (T.drop (zkl b)) := zar.mk (L := 16) k111_2 lD (by decide) (by decide) (fun y hy => lc104 y (List.mem_of_mem_drop hy)) (fun j hj => zfl_in0 hj)
    refine zp_aload_n dX11_cipher__58 rfl ?_
    refine zp_aload_n dX11_cipher__59 rfl ?_
    refine zp_get dX11_cipher__60 gX11_114_10 k111_0 rfl ?_
    refine zp_iload_n dX11_cipher__63 rfl ?_
    refine zp_aload_n dX11_cipher__64 rfl ?_
    refine zp_get dX11_cipher__65 gX11_108_10 k111_0 rfl ?_
    refine zp_pc (pc' := 68) rfl ?_
    have W113 := zmw.sh W105 ((sf112).mono (fun i hi => by unfold zwf; unfold zon at hi; omega)) (zf112) (fun i hi => hi)
    refine zp_callV (As := [.ref (93), .int (nI (zkl b)), .ref (91)]) (k := 64) (st := []) (ci := 10) dX11_cipher__68 cX11_186 rfl k111_0 rfl rfl (e_mcipher (b := b) (q := 93) (r := 91) W113.2.2.2.1 k111_0 ((((T1).keep (sf112 _ (by unfold zon; omega)))).take (m := zkl b)) aB (by decide) (by decide) (by rw [List.length_take]; omega) lD) (by decide) (by decide) (Nat.le_of_ble_eq_true rfl) (fun v114 h114 n114 q114 => ?_)
    obtain ⟨rfl, N114, s114, z114, d114⟩ := q114
    rw [N114]
    refine zp_nrm (cells' := 0) (slots' := 0) (st' := []) rfl rfl rfl ?_
    have m115 : h114 (64) = some (.inl (10, [.int (nI (0)), .ref (65), .ref (66), .ref (67), .ref (68), .ref (69), .ref (70), .ref (71), .ref (72), .ref (73), .ref (74), .ref (75), .ref (76), .ref (77), .ref (78), .ref (79), .ref (80), .ref (81), .ref (82), .ref (83), .ref (84), .int (nI (w.length)), .int (nI (zbi un)), .int (rp), .int (wi), .int (pa), .int (la), .int (ru), .int (sa), .int (mq), .int (sq), .int (ta), .int (fa), .ref (85), .ref (86), .ref (87), .int (nI (mn)), .ref (88), .ref (89), .ref (90), .ref (91), .ref (92), .ref (93), .int (nI (T.length)), .ref (94), .int (nI (O.length))])) := (s114 _ (by unfold zs3; omega)).trans k111_0
    have m116 : h114 (93) = some (.inr (240, .inl lf104)) := (s114 _ (by unfold zs3; omega)).trans k111_1
    obtain ⟨la117, lb117, lc117, lf117, ld117, le117⟩ := id d114
    obtain ⟨if118, ih118⟩ := id (((((hO.ia).keep (sw102 _ (by unfold zon; omega))).keep (sf112 _ (by unfold zon; omega))).keep (s114 _ (by unfold zs3; omega))))
    refine zp_iconst (v := nI (0)) dX11_cipher__71 (by decide) ?_
    refine zp_istore_n (ls' := [some (.ref (64)), some (.int (nI (zbi b))), some (.int (nI (zkl b))), some (.int (nI (0)))]) dX11_cipher__72 (by decide) rfl ?_
    refine zp_pc (pc' := 73) rfl ?_
    have lp119 : zP g mX11_cipher_ (zR 3 0 0) Qf 0 0 97 [some (.ref (64)), some (.int (nI (zbi b))), some (.int (nI (zkl b))), some (.int (nI (16)))] [] (va_up h114 (94) (some (.inr (4096, .inl (zfl if118 (0) (16) (fun i => nI ((zenc b (T.take (zkl b)) (T.drop (zkl b))).getD i 0))))))) n → ∀ (m k119 : Nat), m = (16) - k119 → k119 ≤ (16) → zP g mX11_cipher_ (zR 3 0 0) Qf 0 0 73 [some (.ref (64)), some (.int (nI (zbi b))), some (.int (nI (zkl b))), some (.int (nI (k119)))] [] (va_up h114 (94) (some (.inr (4096, .inl (zfl if118 (0) (k119) (fun i => nI ((zenc b (T.take (zkl b)) (T.drop (zkl b))).getD i 0))))))) n := by
      intro kk m
      induction m using Nat.strongRecOn with
      | _ m ih =>
        intro k119 hm119 hk119
        refine zp_nh (fun hX119 eX119 => ?_)
        have k120_0 := (congrFun eX119 (64)).trans ((va_up_ne _ _ (by omega)).trans m115)
        have k120_1 := (congrFun eX119 (93)).trans ((va_up_ne _ _ (by omega)).trans m116)
        have k120_2 := (congrFun eX119 (91)).trans ((va_up_ne _ _ (by omega)).trans ld117)
        have k120_3 : hX119 (94) = some (.inr (4096, .inl (zfl if118 (0) (k119) (fun i => nI ((zenc b (T.take (zkl b)) (T.drop (zkl b))).getD i 0))))) := by rw [eX119]; exact va_up_self _ _ _
        refine zp_iload_n dX11_cipher__73 rfl ?_
        refine zp_bipush (v := nI (16)) dX11_cipher__74 (by decide) ?_
        refine zp_pc (pc' := 76) rfl ?_
        refine zn_icmp_ge (tgt := 97) dX11_cipher__76 (by decide) (by omega) (by omega) (fun c76 => ?_) (fun c76 => ?_)
        · have e119 : k119 = (16) := by omega
          subst e119
          rw [eX119]
          exact kk
        · refine zp_aload_n dX11_cipher__79 rfl ?_
          refine zp_get dX11_cipher__80 gX11_117_10 k120_0 rfl ?_
          refine zp_iload_n dX11_cipher__83 rfl ?_
          refine zp_aload_n dX11_cipher__84 rfl ?_
          refine zp_get dX11_cipher__85 gX11_108_10 k120_0 rfl ?_
          refine zp_iload_n dX11_cipher__88 rfl ?_
          refine zp_pc (pc' := 89) rfl ?_
          refine zn_iald (j := k119) dX11_cipher__89 k120_2 (by omega) (by omega) ?_
          refine zp_i (y := nI ((zenc b (T.take (zkl b)) (T.drop (zkl b))).getD k119 0)) (le117 _ (by rw [zenc_len]; omega)) ?_
          refine zn_iast dX11_cipher__90 (by omega) k120_3 (by omega) (by omega) ?_
          refine zp_nh (fun h121x eh121x => ?_)
          have k121_0 := (congrFun eh121x (64)).trans ((va_up_ne _ _ (by omega)).trans k120_0)
          have k121_1 := (congrFun eh121x (93)).trans ((va_up_ne _ _ (by omega)).trans k120_1)
          have k121_2 := (congrFun eh121x (91)).trans ((va_up_ne _ _ (by omega)).trans k120_2)
          have k121_3 : h121x (94) = some (.inr (4096, .inl (va_up (zfl if118 (0) (k119) (fun i => nI ((zenc b (T.take (zkl b)) (T.drop (zkl b))).getD i 0))) (k119) (nI ((zenc b (T.take (zkl b)) (T.drop (zkl b))).getD k119 0))))) := by rw [eh121x]; exact va_up_self _ _ _
          have sw122 : zsm hX119 h121x (zon (94)) := zsm.rf.up eh121x rfl
          have zw122 : zsh hX119 h121x := zsh.fill eh121x k120_3
          refine zp_pc (pc' := 91) rfl ?_
          refine zn_iinc 1 (ls' := [some (.ref (64)), some (.int (nI (zbi b))), some (.int (nI (zkl b))), some (.int (nI (k119 + 1)))]) dX11_cipher__91 (by decide) (by decide) rfl rfl ?_
          refine zp_goto (tgt := 73) dX11_cipher__94 (by decide) ?_
          refine zp_pc (pc' := 73) rfl ?_
          rw [zfl_step eX119 eh121x (by omega) rfl]
          exact ih ((16) - (k119 + 1)) (by omega) (k119 + 1) rfl (by omega)
    suffices K119 : zP g mX11_cipher_ (zR 3 0 0) Qf 0 0 97 [some (.ref (64)), some (.int (nI (zbi b))), some (.int (nI (zkl b))), some (.int (nI (16)))] [] (va_up h114 (94) (some (.inr (4096, .inl (zfl if118 (0) (16) (fun i => nI ((zenc b (T.take (zkl b)) (T.drop (zkl b))).getD i 0))))))) n by
      have q := lp119 K119 ((16) - 0) 0 rfl (Nat.zero_le _)
      rw [zfl_0, zup_same ih118] at q
      exact q
    refine zp_nh (fun hY119 eY119 => ?_)
    have k123_0 := (congrFun eY119 (64)).trans ((va_up_ne _ _ (by omega)).trans m115)
    have k123_1 := (congrFun eY119 (93)).trans ((va_up_ne _ _ (by omega)).trans m116)
    have k123_2 := (congrFun eY119 (91)).trans ((va_up_ne _ _ (by omega)).trans ld117)
    have k123_3 : hY119 (94) = some (.inr (4096, .inl (zfl if118 (0) (16) (fun i => nI ((zenc b (T.take (zkl b)) (T.drop (zkl b))).getD i 0))))) := by rw [eY119]; exact va_up_self _ _ _
    have sf124 := (zsm.fill eY119)
    have zf124 := zsh.fill eY119 ih118
    have aO : zar hY119 94 4096 (zenc b (T.take (zkl b)) (T.drop (zkl b))) := zar.mk (L := 16) k123_3 (zenc_len ..) (by decide) (by decide) lc117 (fun j hj => zfl_in0 hj)
    refine zp_aload_n dX11_cipher__97 rfl ?_
    refine zp_pc (pc' := 98) rfl ?_
    refine zp_bipush (v := nI (16)) dX11_cipher__98 (by decide) ?_
    refine zp_i (y := nI ((zenc b (T.take (zkl b)) (T.drop (zkl b))).length)) (by rw [zenc_len]) ?_
    refine zp_put (fs' := [.int (nI (0)), .ref (65), .ref (66), .ref (67), .ref (68), .ref (69), .ref (70), .ref (71), .ref (72), .ref (73), .ref (74), .ref (75), .ref (76), .ref (77), .ref (78), .ref (79), .ref (80), .ref (81), .ref (82), .ref (83), .ref (84), .int (nI (w.length)), .int (nI (zbi un)), .int (rp), .int (wi), .int (pa), .int (la), .int (ru), .int (sa), .int (mq), .int (sq), .int (ta), .int (fa), .ref (85), .ref (86), .ref (87), .int (nI (mn)), .ref (88), .ref (89), .ref (90), .ref (91), .ref (92), .ref (93), .int (nI (T.length)), .ref (94), .int (nI ((zenc b (T.take (zkl b)) (T.drop (zkl b))).length))]) dX11_cipher__100 pX11_342_10 (by omega) k123_0 (Nat.le_of_ble_eq_true rfl) (zfit_i _) rfl ?_
    refine zp_nh (fun h125x eh125x => ?_)
    have k125_0 : h125x (64) = some (.inl (10, [.int (nI (0)), .ref (65), .ref (66), .ref (67), .ref (68), .ref (69), .ref (70), .ref (71), .ref (72), .ref (73), .ref (74), .ref (75), .ref (76), .ref (77), .ref (78), .ref (79), .ref (80), .ref (81), .ref (82), .ref (83), .ref (84), .int (nI (w.length)), .int (nI (zbi un)), .int (rp), .int (wi), .int (pa), .int (la), .int (ru), .int (sa), .int (mq), .int (sq), .int (ta), .int (fa), .ref (85), .ref (86), .ref (87), .int (nI (mn)), .ref (88), .ref (89), .ref (90), .ref (91), .ref (92), .ref (93), .int (nI (T.length)), .ref (94), .int (nI ((zenc b (T.take (zkl b)) (T.drop (zkl b))).length))])) := by rw [eh125x]; exact va_up_self _ _ _
    have k125_1 := (congrFun eh125x (93)).trans ((va_up_ne _ _ (by omega)).trans k123_1)
    have k125_2 := (congrFun eh125x (91)).trans ((va_up_ne _ _ (by omega)).trans k123_2)
    have k125_3 := (congrFun eh125x (94)).trans ((va_up_ne _ _ (by omega)).trans k123_3)
    have sw126 : zsm hY119 h125x (zon (64)) := zsm.rf.up eh125x rfl
    have zw126 : zsh hY119 h125x := zsh.obj eh125x k123_0
    refine zp_iconst (v := nI (1)) dX11_cipher__103 (by decide) ?_
    refine zp_pc (pc' := 104) rfl ?_
    refine zp_i (y := nI (zbi true)) rfl ?_
    have aO9 := ((aO).keep (sw126 _ (by unfold zon; omega)))
    have eq9 : (zqcipher b (T, O, (w, rp, wi, pa, un, la, ru, sa, me, se, ta, fa), Gs)) = (true, T, (zenc b (T.take (zkl b)) (T.drop (zkl b))), (w, rp, wi, pa, un, la, ru, sa, me, se, ta, fa), Gs) := if_pos (by omega)
    refine zp_ret (v := (some (.int (nI (zbi true))))) dX11_cipher__104 ⟨⟨_, rfl, ((zfit_b _) g).1⟩, rfl⟩ (by decide) (by decide) ?_
    rw [hQ]
    rw [eq9]; exact ⟨rfl, rfl, (((((sw102).mono (fun i hi => by unfold zmA; unfold zon at hi; omega)).trans ((sf112).mono (fun i hi => by unfold zmA; unfold zon at hi; omega))).trans ((s114).mono (fun i hi => by unfold zmA; unfold zs3 at hi; omega))).trans ((sf124).mono (fun i hi => by unfold zmA; unfold zon at hi; omega))).trans ((sw126).mono (fun i hi => by unfold zmA; unfold zon at hi; omega)), H.upd ((((((sw102).mono (fun i hi => by unfold zcz; unfold zon at hi; omega)).trans ((sf112).mono (fun i hi => by unfold zcz; unfold zon at hi; omega))).trans ((s114).mono (fun i hi => by unfold zcz; unfold zs3 at hi; omega))).trans ((sf124).mono (fun i hi => by unfold zcz; unfold zon at hi; omega))).trans ((sw126).mono (fun i hi => by unfold zcz; unfold zon at hi; omega))) (((((zw102).trans zf112).trans z114).trans zf124).trans zw126) ⟨_, _, _, _, k125_0, hms⟩ (((((((hx).keep (sw102 _ (by unfold zon; omega))).keep (sf112 _ (by unfold zon; omega))).keep (s114 _ (by unfold zs3; omega))).keep (sf124 _ (by unfold zon; omega))).keep (sw126 _ (by unfold zon; omega)))) (((((((hT).keep (sw102 _ (by unfold zon; omega))).keep (sf112 _ (by unfold zon; omega))).keep (s114 _ (by unfold zs3; omega))).keep (sf124 _ (by unfold zon; omega))).keep (sw126 _ (by unfold zon; omega)))) (aO9) hS (by omega)⟩
  · refine zp_iconst (v := nI (0)) dX11_cipher__28 (by decide) ?_
    refine zp_pc (pc' := 29) rfl ?_
    refine zp_i (y := nI (zbi false)) rfl ?_
    have eq9 : (zqcipher b (T, O, (w, rp, wi, pa, un, la, ru, sa, me, se, ta, fa), Gs)) = (false, T, O, (w, rp, wi, pa, un, la, ru, sa, me, se, ta, fa), Gs) := if_neg (by omega)
    refine zp_ret (v := (some (.int (nI (zbi false))))) dX11_cipher__29 ⟨⟨_, rfl, ((zfit_b _) g).1⟩, rfl⟩ (by decide) (by decide) ?_
    rw [hQ]
    rw [eq9]; exact ⟨rfl, rfl, (sw102).mono (fun i hi => by unfold zmA; unfold zon at hi; omega), H.upd ((sw102).mono (fun i hi => by unfold zcz; unfold zon at hi; omega)) (zw102) ⟨_, _, _, _, k101_0, hms⟩ (((hx).keep (sw102 _ (by unfold zon; omega)))) (((hT).keep (sw102 _ (by unfold zon; omega)))) (((hO).keep (sw102 _ (by unfold zon; omega)))) hS (by omega)⟩
