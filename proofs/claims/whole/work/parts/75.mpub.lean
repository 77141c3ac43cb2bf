theorem zin_not {a b x : Int32} (h : ¬ (a ≤ x ∧ x ≤ b)) : x < a ∨ b < x := by
  rw [Int32.le_iff_toInt_le, Int32.le_iff_toInt_le] at h
  rw [Int32.lt_iff_toInt_lt, Int32.lt_iff_toInt_lt]
  omega
theorem zin_yes {a b x : Int32} (h : a ≤ x ∧ x ≤ b) : ¬ (x < a ∨ b < x) := by
  rw [Int32.le_iff_toInt_le, Int32.le_iff_toInt_le] at h
  rw [Int32.lt_iff_toInt_lt, Int32.lt_iff_toInt_lt]
  omega
theorem zin_nat {b : Nat} {x : Int32} (hb : b < 2 ^ 31) (h : nI 0 ≤ x ∧ x ≤ nI b) : ∃ j, j ≤ b ∧ x = nI j := by
  have h0 : ¬ x < 0 := fun q => zin_yes h (Or.inl q)
  obtain ⟨e, l⟩ := zpos h0
  refine ⟨x.toNatClampNeg, ?_, e⟩
  have h2 := h.2
  rw [e] at h2
  exact (nI_leI l hb).mp h2
theorem zat4_no {α : Type} {f : Nat → Option α} {x : Int32} (h : ¬ (nI 0 ≤ x ∧ x ≤ nI 3)) : zat4 f x = none := by
  unfold zat4
  rcases zin_not h with q | q
  · rw [if_pos q]
  · have h0 : ¬ x < 0 := fun u => by
      rw [Int32.lt_iff_toInt_lt] at u q
      rw [nI_toInt (by decide)] at q
      rw [Int32.toInt_zero] at u
      omega
    rw [if_neg h0, if_pos]
    rw [Int32.le_iff_toInt_le]
    rw [Int32.lt_iff_toInt_lt] at q
    rw [nI_toInt (by decide)] at q ⊢
    omega
theorem zar.num {h h' : ZH} {k N p : Nat} {xs : List Nat} {f : Nat → Int32} {v : Int32} (H : zar h k N xs) (hf : h k = some (.inr (N, .inl f))) (e : h' = va_up h k (some (.inr (N, .inl (zfl f p 4 (fun i => nI ((zn4 v).getD i 0))))))) (hp : p = xs.length) (hl : xs.length + 4 ≤ N) : zar h' k N (xs ++ zn4 v) := by
  obtain ⟨h1, h2, h3, f', h4, h5⟩ := H
  rw [hf] at h4
  injection h4 with h4; injection h4 with h4; injection h4 with h4 h6; injection h6 with h6
  subst h6
  have ln : (zn4 v).length = 4 := znum_len _ _
  refine zar.mk (L := xs.length + 4) (by rw [e]; exact va_up_self _ _ _) (by rw [List.length_append, ln]) hl h2 (zapp_lt h3 (znum_lt _ _)) (fun j hj => ?_)
  rw [zapp_get, hp]
  by_cases q : j < xs.length
  · rw [if_pos q, zfl_out (Or.inl q)]; exact h5 j q
  · obtain ⟨d, rfl⟩ := Nat.exists_eq_add_of_le (Nat.not_lt.mp q)
    rw [if_neg q, zfl_in (by omega), show xs.length + d - xs.length = d by omega]
abbrev zsw4 : Nat → Prop := fun i => i = 64 ∨ i = 94
theorem zin_len {L : Nat} {x : Int32} (hL : L < 2 ^ 20) : (nI 0 ≤ x ∧ x ≤ nI L - nI 1) ↔ ∃ j, j < L ∧ x = nI j := by
  rcases L with _ | L
  · refine ⟨fun h => ?_, fun h => ?_⟩
    · rw [Int32.le_iff_toInt_le, Int32.le_iff_toInt_le] at h
      have e1 : (nI 0).toInt = 0 := by decide
      have e2 : (nI 0 - nI 1).toInt = -1 := by decide
      omega
    · obtain ⟨j, hj, -⟩ := h; omega
  · have e : nI (L + 1) - nI 1 = nI L := by rw [nI_sub (by omega), Nat.add_sub_cancel]
    rw [e]
    refine ⟨fun h => ?_, fun h => ?_⟩
    · obtain ⟨j, hj, rfl⟩ := zin_nat (by omega) h
      exact ⟨j, by omega, rfl⟩
    · obtain ⟨j, hj, rfl⟩ := h
      exact ⟨(nI_leI (by decide) (by omega)).mpr (Nat.zero_le _), (nI_leI (by omega) (by omega)).mpr (by omega)⟩
theorem zat_no {xs : List Nat} {x : Int32} (h : ¬ ∃ j, j < xs.length ∧ x = nI j) : zat xs x = -1 := by
  unfold zat
  by_cases h1 : x < 0
  · rw [if_pos h1]
  · rw [if_neg h1]
    obtain ⟨j, j31, rfl⟩ := nI_of h1
    rw [if_pos]
    exact nI_le (Nat.not_lt.mp (fun q => h ⟨j, q, rfl⟩)) j31
theorem zn4_len (v : Int32) : (zn4 v).length = 4 := znum_len _ _
set_option maxRecDepth 10000 in
set_option maxHeartbeats 2000000 in
theorem e_isThere {g : ZG} {h : ZH} {n : Nat} {t : Nat} {x : Int32} {Gs : Nat → Option ZGn} {Aa : Nat → Option Nat} {th : Int32} {wt : Nat} {un : Bool} {rp wi pa be ru sa me se ta fa : Int32} {mn tp ou : Nat} (ho : h 64 = some (.inl (10, [.int (th), .ref (65), .ref (66), .ref (67), .ref (68), .ref (69), .ref (70), .ref (71), .ref (72), .ref (73), .ref (74), .ref (75), .ref (76), .ref (77), .ref (78), .ref (79), .ref (80), .ref (81), .ref (82), .ref (83), .ref (84), .int (nI (wt)), .int (nI (zbi un)), .int (rp), .int (wi), .int (pa), .int (be), .int (ru), .int (sa), .int (me), .int (se), .int (ta), .int (fa), .ref (85), .ref (86), .ref (87), .int (nI (mn)), .ref (88), .ref (89), .ref (90), .ref (91), .ref (92), .ref (93), .int (nI (tp)), .ref (94), .int (nI (ou))]))) (h86 : h 86 = some (.inr (4, .inr (.inr (true, Aa))))) (hAa : ∀ j, j < 4 → Aa j = some (95 + 3 * j)) (hG : ∀ j, j < 4 → zmg h (95 + 3 * j) t (Gs j)) : zMt g mX11_isThere (zR 1 0 0) [.ref (64), .int (x)] h n (fun v h' n' => v = some (.int (nI (zbi (zat4 Gs x).isSome))) ∧ h' = h ∧ n' = n) := by
  refine zMt.of [some (.ref (64)), some (.int (x))] (by decide) rfl (Nat.le_of_ble_eq_true rfl) ?_
  obtain ⟨Qf, hQ⟩ : ∃ Qf : ZQ, Qf = (fun v h' n' => v = some (.int (nI (zbi (zat4 Gs x).isSome))) ∧ h' = h ∧ n' = n) := ⟨_, rfl⟩
  rw [← hQ]
  refine zp_iload_n dX11_isThere_0 rfl ?_
  refine zp_iconst (v := nI (0)) dX11_isThere_1 (by decide) ?_
  refine zp_iconst (v := nI (3)) dX11_isThere_2 (by decide) ?_
  refine zp_pc (pc' := 3) rfl ?_
  refine zp_callS (As := [.int (x), .int (nI (0)), .int (nI (3))]) (st := []) dX11_isThere_3 cX11_297 rfl e_in (by decide) (by decide) (Nat.le_of_ble_eq_true rfl) (fun v1 h1 n1 q1 => ?_)
  obtain ⟨rfl, H1, N1⟩ := q1
  rw [N1, H1]
  refine zp_nrm (cells' := 0) (slots' := 0) (st' := [.int (nI (zbi (decide (nI 0 ≤ x ∧ x ≤ nI 3))))]) rfl rfl rfl ?_
  refine zn_if_eq (tgt := 25) dX11_isThere_6 (by decide) (by have := zbi_lt (decide (nI 0 ≤ x ∧ x ≤ nI 3)); omega) (fun c6 => ?_) (fun c6 => ?_)
  · have bq2F : (decide (nI 0 ≤ x ∧ x ≤ nI 3)) = false := by rcases Bool.eq_false_or_eq_true (decide (nI 0 ≤ x ∧ x ≤ nI 3)) with q | q; rw [q] at c6; exact absurd c6 (by decide); exact q
    refine zp_iconst (v := nI (0)) dX11_isThere_25 (by decide) ?_
    refine zp_pc (pc' := 26) rfl ?_
    refine zp_i (y := nI (zbi (zat4 Gs x).isSome)) (by rw [zat4_no (of_decide_eq_false bq2F)]; rfl) ?_
    refine zp_ret (v := (some (.int (nI (zbi (zat4 Gs x).isSome))))) dX11_isThere_26 ⟨⟨_, rfl, ((zfit_b _) g).1⟩, rfl⟩ (by decide) (by decide) ?_
    rw [hQ]
    exact ⟨rfl, rfl, rfl⟩
  · have bq2T : (decide (nI 0 ≤ x ∧ x ≤ nI 3)) = true := by rcases Bool.eq_false_or_eq_true (decide (nI 0 ≤ x ∧ x ≤ nI 3)) with q | q; exact q; rw [q] at c6; exact absurd rfl c6
    obtain ⟨j, hj3, rfl⟩ := zin_nat (by decide) (of_decide_eq_true bq2T)
    have hj : j < 4 := by omega
    refine zp_aload_n dX11_isThere_9 rfl ?_
    refine zp_get dX11_isThere_10 gX11_92_10 ho rfl ?_
    refine zp_iload_n dX11_isThere_13 rfl ?_
    refine zp_pc (pc' := 14) rfl ?_
    refine zp_aald (v := .ref (95 + 3 * j)) dX11_isThere_14 h86 (by unfold vp_in; rw [nI_clamp (by omega)]; exact fun q => q.elim (nI_pos (by omega)) (fun q => by omega)) (by rw [nI_clamp (by omega), hAa j hj]) ?_
    cases eG : Gs j with
    | none =>
      have g9 := hG j hj
      rw [eG] at g9
      obtain ⟨k1, s1, i1, r1, c1, d1, e1, gc, -⟩ := g9
      refine zp_get dX11_isThere_15 gX11_301_9 gc rfl ?_
      refine zp_pc (pc' := 18) rfl ?_
      refine zn_if_eq (tgt := 25) dX11_isThere_18 (by decide) (by decide) (fun c18 => ?_) (fun c18 => ?_)
      · refine zp_iconst (v := nI (0)) dX11_isThere_25 (by decide) ?_
        refine zp_pc (pc' := 26) rfl ?_
        refine zp_i (y := nI (zbi (zat4 Gs (nI j)).isSome)) (by rw [zat4_nI hj, eG]; rfl) ?_
        refine zp_ret (v := (some (.int (nI (zbi (zat4 Gs (nI j)).isSome))))) dX11_isThere_26 ⟨⟨_, rfl, ((zfit_b _) g).1⟩, rfl⟩ (by decide) (by decide) ?_
        rw [hQ]
        exact ⟨rfl, rfl, rfl⟩
      · exact absurd rfl c18
    | some G =>
      have g9 := hG j hj
      rw [eG] at g9
      obtain ⟨kd, st, rs, iv, ct, dr, sd, V, C⟩ := G
      obtain ⟨-, -, -, -, -, -, gc, -⟩ := g9
      refine zp_get dX11_isThere_15 gX11_301_9 gc rfl ?_
      refine zp_pc (pc' := 18) rfl ?_
      refine zn_if_eq (tgt := 25) dX11_isThere_18 (by decide) (by decide) (fun c18 => ?_) (fun c18 => ?_)
      · exact absurd c18 (by decide)
      · refine zp_iconst (v := nI (1)) dX11_isThere_21 (by decide) ?_
        refine zp_goto (tgt := 26) dX11_isThere_22 (by decide) ?_
        refine zp_pc (pc' := 26) rfl ?_
        refine zp_i (y := nI (zbi (zat4 Gs (nI j)).isSome)) (by rw [zat4_nI hj, eG]; rfl) ?_
        refine zp_ret (v := (some (.int (nI (zbi (zat4 Gs (nI j)).isSome))))) dX11_isThere_26 ⟨⟨_, rfl, ((zfit_b _) g).1⟩, rfl⟩ (by decide) (by decide) ?_
        rw [hQ]
        exact ⟨rfl, rfl, rfl⟩
set_option maxRecDepth 10000 in
set_option maxHeartbeats 2000000 in
theorem e_show {g : ZG} {h : ZH} {n : Nat} {xs : List Nat} {th : Int32} {wt : Nat} {un : Bool} {rp wi pa be ru sa me se ta fa : Int32} {mn tp ou : Nat} (ho : h 64 = some (.inl (10, [.int (th), .ref (65), .ref (66), .ref (67), .ref (68), .ref (69), .ref (70), .ref (71), .ref (72), .ref (73), .ref (74), .ref (75), .ref (76), .ref (77), .ref (78), .ref (79), .ref (80), .ref (81), .ref (82), .ref (83), .ref (84), .int (nI (wt)), .int (nI (zbi un)), .int (rp), .int (wi), .int (pa), .int (be), .int (ru), .int (sa), .int (me), .int (se), .int (ta), .int (fa), .ref (85), .ref (86), .ref (87), .int (nI (mn)), .ref (88), .ref (89), .ref (90), .ref (91), .ref (92), .ref (93), .int (nI (tp)), .ref (94), .int (nI (ou))]))) (hd : zar h 74 64 xs) (hO : zia h 94 4096) : zMt g mX11_show (zR 0 0 0) [.ref (64), .int (nI (xs.length))] h n (fun v h' n' => v = none ∧ n' = n ∧ zsm h h' zsw4 ∧ zsh h h' ∧ h' 64 = some (.inl (10, [.int (th), .ref (65), .ref (66), .ref (67), .ref (68), .ref (69), .ref (70), .ref (71), .ref (72), .ref (73), .ref (74), .ref (75), .ref (76), .ref (77), .ref (78), .ref (79), .ref (80), .ref (81), .ref (82), .ref (83), .ref (84), .int (nI (wt)), .int (nI (zbi un)), .int (rp), .int (wi), .int (pa), .int (be), .int (ru), .int (sa), .int (me), .int (se), .int (ta), .int (fa), .ref (85), .ref (86), .ref (87), .int (nI (mn)), .ref (88), .ref (89), .ref (90), .ref (91), .ref (92), .ref (93), .int (nI (tp)), .ref (94), .int (nI (xs.length))])) ∧ zar h' 94 4096 xs) := by
  refine zMt.of [some (.ref (64)), some (.int (nI (xs.length))), none] (by decide) rfl (Nat.le_of_ble_eq_true rfl) ?_
  obtain ⟨Qf, hQ⟩ : ∃ Qf : ZQ, Qf = (fun v h' n' => v = none ∧ n' = n ∧ zsm h h' zsw4 ∧ zsh h h' ∧ h' 64 = some (.inl (10, [.int (th), .ref (65), .ref (66), .ref (67), .ref (68), .ref (69), .ref (70), .ref (71), .ref (72), .ref (73), .ref (74), .ref (75), .ref (76), .ref (77), .ref (78), .ref (79), .ref (80), .ref (81), .ref (82), .ref (83), .ref (84), .int (nI (wt)), .int (nI (zbi un)), .int (rp), .int (wi), .int (pa), .int (be), .int (ru), .int (sa), .int (me), .int (se), .int (ta), .int (fa), .ref (85), .ref (86), .ref (87), .int (nI (mn)), .ref (88), .ref (89), .ref (90), .ref (91), .ref (92), .ref (93), .int (nI (tp)), .ref (94), .int (nI (xs.length))])) ∧ zar h' 94 4096 xs) := ⟨_, rfl⟩
  rw [← hQ]
  obtain ⟨la1, lb1, lc1, lf1, ld1, le1⟩ := id hd
  obtain ⟨if2, ih2⟩ := id (hO)
  have l6 := hd.1
  refine zp_iconst (v := nI (0)) dX11_show_0 (by decide) ?_
  refine zp_istore_n (ls' := [some (.ref (64)), some (.int (nI (xs.length))), some (.int (nI (0)))]) dX11_show_1 (by decide) rfl ?_
  refine zp_pc (pc' := 2) rfl ?_
  have lp3 : zP g mX11_show (zR 0 0 0) Qf 0 0 25 [some (.ref (64)), some (.int (nI (xs.length))), some (.int (nI (xs.length)))] [] (va_up h (94) (some (.inr (4096, .inl (zfl if2 (0) (xs.length) (fun i => nI (xs.getD i 0))))))) n → ∀ (m k3 : Nat), m = (xs.length) - k3 → k3 ≤ (xs.length) → zP g mX11_show (zR 0 0 0) Qf 0 0 2 [some (.ref (64)), some (.int (nI (xs.length))), some (.int (nI (k3)))] [] (va_up h (94) (some (.inr (4096, .inl (zfl if2 (0) (k3) (fun i => nI (xs.getD i 0))))))) n := by
    intro kk m
    induction m using Nat.strongRecOn with
    | _ m ih =>
      intro k3 hm3 hk3
      refine zp_nh (fun hX3 eX3 => ?_)
      have k4_0 := (congrFun eX3 (64)).trans ((va_up_ne _ _ (by omega)).trans ho)
      have k4_1 := (congrFun eX3 (74)).trans ((va_up_ne _ _ (by omega)).trans ld1)
      have k4_2 : hX3 (94) = some (.inr (4096, .inl (zfl if2 (0) (k3) (fun i => nI (xs.getD i 0))))) := by rw [eX3]; exact va_up_self _ _ _
      refine zp_iload_n dX11_show_2 rfl ?_
      refine zp_iload_n dX11_show_3 rfl ?_
      refine zp_pc (pc' := 4) rfl ?_
      refine zn_icmp_ge (tgt := 25) dX11_show_4 (by decide) (by omega) (by omega) (fun c4 => ?_) (fun c4 => ?_)
      · have e3 : k3 = (xs.length) := by omega
        subst e3
        rw [eX3]
        exact kk
      · refine zp_aload_n dX11_show_7 rfl ?_
        refine zp_get dX11_show_8 gX11_117_10 k4_0 rfl ?_
        refine zp_iload_n dX11_show_11 rfl ?_
        refine zp_aload_n dX11_show_12 rfl ?_
        refine zp_get dX11_show_13 gX11_38_10 k4_0 rfl ?_
        refine zp_iload_n dX11_show_16 rfl ?_
        refine zp_pc (pc' := 17) rfl ?_
        refine zn_iald (j := k3) dX11_show_17 k4_1 (by omega) (by omega) ?_
        refine zp_i (y := nI (xs.getD k3 0)) (le1 _ (by omega)) ?_
        refine zn_iast dX11_show_18 (by omega) k4_2 (by omega) (by omega) ?_
        refine zp_nh (fun h5x eh5x => ?_)
        have k5_0 := (congrFun eh5x (64)).trans ((va_up_ne _ _ (by omega)).trans k4_0)
        have k5_1 := (congrFun eh5x (74)).trans ((va_up_ne _ _ (by omega)).trans k4_1)
        have k5_2 : h5x (94) = some (.inr (4096, .inl (va_up (zfl if2 (0) (k3) (fun i => nI (xs.getD i 0))) (k3) (nI (xs.getD k3 0))))) := by rw [eh5x]; exact va_up_self _ _ _
        have sw6 : zsm hX3 h5x (zon (94)) := zsm.rf.up eh5x rfl
        have zw6 : zsh hX3 h5x := zsh.fill eh5x k4_2
        refine zp_pc (pc' := 19) rfl ?_
        refine zn_iinc 1 (ls' := [some (.ref (64)), some (.int (nI (xs.length))), some (.int (nI (k3 + 1)))]) dX11_show_19 (by decide) (by decide) rfl rfl ?_
        refine zp_goto (tgt := 2) dX11_show_22 (by decide) ?_
        refine zp_pc (pc' := 2) rfl ?_
        rw [zfl_step eX3 eh5x (by omega) rfl]
        exact ih ((xs.length) - (k3 + 1)) (by omega) (k3 + 1) rfl (by omega)
  suffices K3 : zP g mX11_show (zR 0 0 0) Qf 0 0 25 [some (.ref (64)), some (.int (nI (xs.length))), some (.int (nI (xs.length)))] [] (va_up h (94) (some (.inr (4096, .inl (zfl if2 (0) (xs.length) (fun i => nI (xs.getD i 0))))))) n by
    have q := lp3 K3 ((xs.length) - 0) 0 rfl (Nat.zero_le _)
    rw [zfl_0, zup_same ih2] at q
    exact q
  refine zp_nh (fun hY3 eY3 => ?_)
  have k7_0 := (congrFun eY3 (64)).trans ((va_up_ne _ _ (by omega)).trans ho)
  have k7_1 := (congrFun eY3 (74)).trans ((va_up_ne _ _ (by omega)).trans ld1)
  have k7_2 : hY3 (94) = some (.inr (4096, .inl (zfl if2 (0) (xs.length) (fun i => nI (xs.getD i 0))))) := by rw [eY3]; exact va_up_self _ _ _
  have sf8 := (zsm.fill eY3)
  have zf8 := zsh.fill eY3 ih2
  refine zp_aload_n dX11_show_25 rfl ?_
  refine zp_iload_n dX11_show_26 rfl ?_
  refine zp_put (fs' := [.int (th), .ref (65), .ref (66), .ref (67), .ref (68), .ref (69), .ref (70), .ref (71), .ref (72), .ref (73), .ref (74), .ref (75), .ref (76), .ref (77), .ref (78), .ref (79), .ref (80), .ref (81), .ref (82), .ref (83), .ref (84), .int (nI (wt)), .int (nI (zbi un)), .int (rp), .int (wi), .int (pa), .int (be), .int (ru), .int (sa), .int (me), .int (se), .int (ta), .int (fa), .ref (85), .ref (86), .ref (87), .int (nI (mn)), .ref (88), .ref (89), .ref (90), .ref (91), .ref (92), .ref (93), .int (nI (tp)), .ref (94), .int (nI (xs.length))]) dX11_show_27 pX11_342_10 (by omega) k7_0 (Nat.le_of_ble_eq_true rfl) (zfit_i _) rfl ?_
  refine zp_nh (fun h9x eh9x => ?_)
  have k9_0 : h9x (64) = some (.inl (10, [.int (th), .ref (65), .ref (66), .ref (67), .ref (68), .ref (69), .ref (70), .ref (71), .ref (72), .ref (73), .ref (74), .ref (75), .ref (76), .ref (77), .ref (78), .ref (79), .ref (80), .ref (81), .ref (82), .ref (83), .ref (84), .int (nI (wt)), .int (nI (zbi un)), .int (rp), .int (wi), .int (pa), .int (be), .int (ru), .int (sa), .int (me), .int (se), .int (ta), .int (fa), .ref (85), .ref (86), .ref (87), .int (nI (mn)), .ref (88), .ref (89), .ref (90), .ref (91), .ref (92), .ref (93), .int (nI (tp)), .ref (94), .int (nI (xs.length))])) := by rw [eh9x]; exact va_up_self _ _ _
  have k9_1 := (congrFun eh9x (74)).trans ((va_up_ne _ _ (by omega)).trans k7_1)
  have k9_2 := (congrFun eh9x (94)).trans ((va_up_ne _ _ (by omega)).trans k7_2)
  have sw10 : zsm hY3 h9x (zon (64)) := zsm.rf.up eh9x rfl
  have zw10 : zsh hY3 h9x := zsh.obj eh9x k7_0
  refine zp_pc (pc' := 30) rfl ?_
  refine zp_ret (v := none) dX11_show_30 ⟨rfl, rfl⟩ (by decide) (by decide) ?_
  rw [hQ]
  exact ⟨rfl, rfl, ((sf8).mono (fun i hi => by unfold zsw4; unfold zon at hi; omega)).trans ((sw10).mono (fun i hi => by unfold zsw4; unfold zon at hi; omega)), (zf8).trans zw10, k9_0, zar.mk (L := xs.length) k9_2 rfl (by omega) (by decide) lc1 (fun j hj => zfl_in0 hj)⟩
set_option maxRecDepth 10000 in
set_option maxHeartbeats 2000000 in
theorem E_size {g : ZG} {h : ZH} {n : Nat} {t : Nat} {T O w : List Nat} {un : Bool} {rp wi pa la ru sa me se ta fa : Int32} {Gs : Nat → Option ZGn} (H : zMD t h (T, O, (w, rp, wi, pa, un, la, ru, sa, me, se, ta, fa), Gs)) : zMt g mX11_size (zR 1 0 0) [.ref (64)] h n (fun v h' n' => v = some (.int (zqsize (T, O, (w, rp, wi, pa, un, la, ru, sa, me, se, ta, fa), Gs))) ∧ n' = n ∧ zsm h h' zmA ∧ zMD (t + 2) h' (T, O, (w, rp, wi, pa, un, la, ru, sa, me, se, ta, fa), Gs)) := by
  refine zMt.of [some (.ref (64))] (by decide) rfl (Nat.le_of_ble_eq_true rfl) ?_
  obtain ⟨Qf, hQ⟩ : ∃ Qf : ZQ, Qf = (fun v h' n' => v = some (.int (zqsize (T, O, (w, rp, wi, pa, un, la, ru, sa, me, se, ta, fa), Gs))) ∧ n' = n ∧ zsm h h' zmA ∧ zMD (t + 2) h' (T, O, (w, rp, wi, pa, un, la, ru, sa, me, se, ta, fa), Gs)) := ⟨_, rfl⟩
  rw [← hQ]
  obtain ⟨⟨th, mn, m1, s1, ho, hms⟩, hw, hx, h85, ⟨Aa, h86, hAa⟩, hT, hO, hG, hS⟩ := id H
  have ho : h 64 = some (.inl (10, [.int (th), .ref (65), .ref (66), .ref (67), .ref (68), .ref (69), .ref (70), .ref (71), .ref (72), .ref (73), .ref (74), .ref (75), .ref (76), .ref (77), .ref (78), .ref (79), .ref (80), .ref (81), .ref (82), .ref (83), .ref (84), .int (nI (w.length)), .int (nI (zbi un)), .int (rp), .int (wi), .int (pa), .int (la), .int (ru), .int (sa), .int (m1), .int (s1), .int (ta), .int (fa), .ref (85), .ref (86), .ref (87), .int (nI (mn)), .ref (88), .ref (89), .ref (90), .ref (91), .ref (92), .ref (93), .int (nI (T.length)), .ref (94), .int (nI (O.length))])) := ho
  have hx : zar h 84 1000 w := hx
  have lT := hT.1
  have lO := hO.1
  have lw := hx.1
  refine zp_aload_n dX11_size_0 rfl ?_
  refine zp_iconst (v := nI (0)) dX11_size_1 (by decide) ?_
  refine zp_put (fs' := [.int (nI (0)), .ref (65), .ref (66), .ref (67), .ref (68), .ref (69), .ref (70), .ref (71), .ref (72), .ref (73), .ref (74), .ref (75), .ref (76), .ref (77), .ref (78), .ref (79), .ref (80), .ref (81), .ref (82), .ref (83), .ref (84), .int (nI (w.length)), .int (nI (zbi un)), .int (rp), .int (wi), .int (pa), .int (la), .int (ru), .int (sa), .int (m1), .int (s1), .int (ta), .int (fa), .ref (85), .ref (86), .ref (87), .int (nI (mn)), .ref (88), .ref (89), .ref (90), .ref (91), .ref (92), .ref (93), .int (nI (T.length)), .ref (94), .int (nI (O.length))]) dX11_size_2 pX11_133_10 (by omega) ho (Nat.le_of_ble_eq_true rfl) (zfit_i _) rfl ?_
  refine zp_nh (fun h1x eh1x => ?_)
  have k1_0 : h1x (64) = some (.inl (10, [.int (nI (0)), .ref (65), .ref (66), .ref (67), .ref (68), .ref (69), .ref (70), .ref (71), .ref (72), .ref (73), .ref (74), .ref (75), .ref (76), .ref (77), .ref (78), .ref (79), .ref (80), .ref (81), .ref (82), .ref (83), .ref (84), .int (nI (w.length)), .int (nI (zbi un)), .int (rp), .int (wi), .int (pa), .int (la), .int (ru), .int (sa), .int (m1), .int (s1), .int (ta), .int (fa), .ref (85), .ref (86), .ref (87), .int (nI (mn)), .ref (88), .ref (89), .ref (90), .ref (91), .ref (92), .ref (93), .int (nI (T.length)), .ref (94), .int (nI (O.length))])) := by rw [eh1x]; exact va_up_self _ _ _
  have sw2 : zsm h h1x (zon (64)) := zsm.rf.up eh1x rfl
  have zw2 : zsh h h1x := zsh.obj eh1x ho
  refine zp_aload_n dX11_size_5 rfl ?_
  refine zp_get dX11_size_6 gX11_342_10 k1_0 rfl ?_
  refine zp_pc (pc' := 9) rfl ?_
  refine zp_ret (v := (some (.int (nI (O.length))))) dX11_size_9 ⟨⟨_, rfl, rfl⟩, rfl⟩ (by decide) (by decide) ?_
  rw [hQ]
  exact ⟨rfl, rfl, (sw2).mono (fun i hi => by unfold zmA; unfold zon at hi; omega), H.upd ((sw2).mono (fun i hi => by unfold zcz; unfold zon at hi; omega)) (zw2) ⟨_, _, _, _, k1_0, hms⟩ ((hx).keep (sw2 _ (by unfold zon; omega))) ((hT).keep (sw2 _ (by unfold zon; omega))) ((hO).keep (sw2 _ (by unfold zon; omega))) hS (by omega)⟩
set_option maxRecDepth 10000 in
set_option maxHeartbeats 2000000 in
theorem E_drawn {g : ZG} {h : ZH} {n : Nat} {t : Nat} {T O w : List Nat} {un : Bool} {rp wi pa la ru sa me se ta fa : Int32} {Gs : Nat → Option ZGn} {x : Int32} (H : zMD t h (T, O, (w, rp, wi, pa, un, la, ru, sa, me, se, ta, fa), Gs)) : zMt g mX11_drawn (zR 1 0 0) [.ref (64), .int (x)] h n (fun v h' n' => v = some (.int (zqdrawn x (T, O, (w, rp, wi, pa, un, la, ru, sa, me, se, ta, fa), Gs))) ∧ n' = n ∧ zsm h h' zmA ∧ zMD (t + 2) h' (T, O, (w, rp, wi, pa, un, la, ru, sa, me, se, ta, fa), Gs)) := by
  refine zMt.of [some (.ref (64)), some (.int (x))] (by decide) rfl (Nat.le_of_ble_eq_true rfl) ?_
  obtain ⟨Qf, hQ⟩ : ∃ Qf : ZQ, Qf = (fun v h' n' => v = some (.int (zqdrawn x (T, O, (w, rp, wi, pa, un, la, ru, sa, me, se, ta, fa), Gs))) ∧ n' = n ∧ zsm h h' zmA ∧ zMD (t + 2) h' (T, O, (w, rp, wi, pa, un, la, ru, sa, me, se, ta, fa), Gs)) := ⟨_, rfl⟩
  rw [← hQ]
  obtain ⟨⟨th, mn, m1, s1, ho, hms⟩, hw, hx, h85, ⟨Aa, h86, hAa⟩, hT, hO, hG, hS⟩ := id H
  have ho : h 64 = some (.inl (10, [.int (th), .ref (65), .ref (66), .ref (67), .ref (68), .ref (69), .ref (70), .ref (71), .ref (72), .ref (73), .ref (74), .ref (75), .ref (76), .ref (77), .ref (78), .ref (79), .ref (80), .ref (81), .ref (82), .ref (83), .ref (84), .int (nI (w.length)), .int (nI (zbi un)), .int (rp), .int (wi), .int (pa), .int (la), .int (ru), .int (sa), .int (m1), .int (s1), .int (ta), .int (fa), .ref (85), .ref (86), .ref (87), .int (nI (mn)), .ref (88), .ref (89), .ref (90), .ref (91), .ref (92), .ref (93), .int (nI (T.length)), .ref (94), .int (nI (O.length))])) := ho
  have hx : zar h 84 1000 w := hx
  have lT := hT.1
  have lO := hO.1
  have lw := hx.1
  obtain ⟨la1, lb1, lc1, lf1, ld1, le1⟩ := id hO
  refine zp_aload_n dX11_drawn_0 rfl ?_
  refine zp_iconst (v := nI (0)) dX11_drawn_1 (by decide) ?_
  refine zp_put (fs' := [.int (nI (0)), .ref (65), .ref (66), .ref (67), .ref (68), .ref (69), .ref (70), .ref (71), .ref (72), .ref (73), .ref (74), .ref (75), .ref (76), .ref (77), .ref (78), .ref (79), .ref (80), .ref (81), .ref (82), .ref (83), .ref (84), .int (nI (w.length)), .int (nI (zbi un)), .int (rp), .int (wi), .int (pa), .int (la), .int (ru), .int (sa), .int (m1), .int (s1), .int (ta), .int (fa), .ref (85), .ref (86), .ref (87), .int (nI (mn)), .ref (88), .ref (89), .ref (90), .ref (91), .ref (92), .ref (93), .int (nI (T.length)), .ref (94), .int (nI (O.length))]) dX11_drawn_2 pX11_133_10 (by omega) ho (Nat.le_of_ble_eq_true rfl) (zfit_i _) rfl ?_
  refine zp_nh (fun h2x eh2x => ?_)
  have k2_0 : h2x (64) = some (.inl (10, [.int (nI (0)), .ref (65), .ref (66), .ref (67), .ref (68), .ref (69), .ref (70), .ref (71), .ref (72), .ref (73), .ref (74), .ref (75), .ref (76), .ref (77), .ref (78), .ref (79), .ref (80), .ref (81), .ref (82), .ref (83), .ref (84), .int (nI (w.length)), .int (nI (zbi un)), .int (rp), .int (wi), .int (pa), .int (la), .int (ru), .int (sa), .int (m1), .int (s1), .int (ta), .int (fa), .ref (85), .ref (86), .ref (87), .int (nI (mn)), .ref (88), .ref (89), .ref (90), .ref (91), .ref (92), .ref (93), .int (nI (T.length)), .ref (94), .int (nI (O.length))])) := by rw [eh2x]; exact va_up_self _ _ _
  have k2_1 := (congrFun eh2x (94)).trans ((va_up_ne _ _ (by omega)).trans ld1)
  have sw3 : zsm h h2x (zon (64)) := zsm.rf.up eh2x rfl
  have zw3 : zsh h h2x := zsh.obj eh2x ho
  refine zp_iload_n dX11_drawn_5 rfl ?_
  refine zp_iconst (v := nI (0)) dX11_drawn_6 (by decide) ?_
  refine zp_aload_n dX11_drawn_7 rfl ?_
  refine zp_get dX11_drawn_8 gX11_342_10 k2_0 rfl ?_
  refine zp_iconst (v := nI (1)) dX11_drawn_11 (by decide) ?_
  refine zp_pc (pc' := 12) rfl ?_
  have hin : (nI 0 ≤ x ∧ x ≤ nI O.length - nI 1) ↔ ∃ j, j < O.length ∧ x = nI j := zin_len (by omega)
  refine zp_isub dX11_drawn_12 ?_
  refine zp_callS (As := [.int (x), .int (nI (0)), .int ((nI (O.length)) - (nI (1)))]) (st := []) dX11_drawn_13 cX11_297 rfl e_in (by decide) (by decide) (Nat.le_of_ble_eq_true rfl) (fun v4 h4 n4 q4 => ?_)
  obtain ⟨rfl, H4, N4⟩ := q4
  rw [N4, H4]
  refine zp_nrm (cells' := 0) (slots' := 0) (st' := [.int (nI (zbi (decide (nI 0 ≤ x ∧ x ≤ nI O.length - nI 1))))]) rfl rfl rfl ?_
  refine zn_if_eq (tgt := 28) dX11_drawn_16 (by decide) (by have := zbi_lt (decide (nI 0 ≤ x ∧ x ≤ nI O.length - nI 1)); omega) (fun c16 => ?_) (fun c16 => ?_)
  · have bq5F : (decide (nI 0 ≤ x ∧ x ≤ nI O.length - nI 1)) = false := by rcases Bool.eq_false_or_eq_true (decide (nI 0 ≤ x ∧ x ≤ nI O.length - nI 1)) with q | q; rw [q] at c16; exact absurd c16 (by decide); exact q
    refine zp_iconst (v := (-1)) dX11_drawn_28 (by decide) ?_
    refine zp_pc (pc' := 29) rfl ?_
    refine zp_i (y := zqdrawn x (T, O, (w, rp, wi, pa, un, la, ru, sa, me, se, ta, fa), Gs)) (zat_no (fun q => of_decide_eq_false bq5F (hin.mpr q))).symm ?_
    refine zp_ret (v := (some (.int (zqdrawn x (T, O, (w, rp, wi, pa, un, la, ru, sa, me, se, ta, fa), Gs))))) dX11_drawn_29 ⟨⟨_, rfl, rfl⟩, rfl⟩ (by decide) (by decide) ?_
    rw [hQ]
    exact ⟨rfl, rfl, (sw3).mono (fun i hi => by unfold zmA; unfold zon at hi; omega), H.upd ((sw3).mono (fun i hi => by unfold zcz; unfold zon at hi; omega)) (zw3) ⟨_, _, _, _, k2_0, hms⟩ ((hx).keep (sw3 _ (by unfold zon; omega))) ((hT).keep (sw3 _ (by unfold zon; omega))) ((hO).keep (sw3 _ (by unfold zon; omega))) hS (by omega)⟩
  · have bq5T : (decide (nI 0 ≤ x ∧ x ≤ nI O.length - nI 1)) = true := by rcases Bool.eq_false_or_eq_true (decide (nI 0 ≤ x ∧ x ≤ nI O.length - nI 1)) with q | q; exact q; rw [q] at c16; exact absurd rfl c16
    obtain ⟨j, hj, rfl⟩ := hin.mp (of_decide_eq_true bq5T)
    refine zp_aload_n dX11_drawn_19 rfl ?_
    refine zp_get dX11_drawn_20 gX11_117_10 k2_0 rfl ?_
    refine zp_iload_n dX11_drawn_23 rfl ?_
    refine zp_pc (pc' := 24) rfl ?_
    refine zn_iald (j := j) dX11_drawn_24 k2_1 (by omega) (by omega) ?_
    refine zp_i (y := zqdrawn (nI j) (T, O, (w, rp, wi, pa, un, la, ru, sa, me, se, ta, fa), Gs)) (by show _ = zat O (nI j); rw [zat_nI hj (by omega)]; exact le1 _ hj) ?_
    refine zp_goto (tgt := 29) dX11_drawn_25 (by decide) ?_
    refine zp_pc (pc' := 29) rfl ?_
    refine zp_ret (v := (some (.int (zqdrawn (nI j) (T, O, (w, rp, wi, pa, un, la, ru, sa, me, se, ta, fa), Gs))))) dX11_drawn_29 ⟨⟨_, rfl, rfl⟩, rfl⟩ (by decide) (by decide) ?_
    rw [hQ]
    exact ⟨rfl, rfl, (sw3).mono (fun i hi => by unfold zmA; unfold zon at hi; omega), H.upd ((sw3).mono (fun i hi => by unfold zcz; unfold zon at hi; omega)) (zw3) ⟨_, _, _, _, k2_0, hms⟩ ((hx).keep (sw3 _ (by unfold zon; omega))) ((hT).keep (sw3 _ (by unfold zon; omega))) ((hO).keep (sw3 _ (by unfold zon; omega))) hS (by omega)⟩
set_option maxRecDepth 10000 in
set_option maxHeartbeats 2000000 in
theorem E_feed {g : ZG} {h : ZH} {n : Nat} {t : Nat} {T O w : List Nat} {un : Bool} {rp wi pa la ru sa me se ta fa : Int32} {Gs : Nat → Option ZGn} {a b c d e : Int32} (H : zMD t h (T, O, (w, rp, wi, pa, un, la, ru, sa, me, se, ta, fa), Gs)) : zMt g mX11_feed (zR 1 0 0) [.ref (64), .int (a), .int (b), .int (c), .int (d), .int (e)] h n (fun v h' n' => v = some (.int (zqfeed a b c d e (T, O, (w, rp, wi, pa, un, la, ru, sa, me, se, ta, fa), Gs)).1) ∧ n' = n ∧ zsm h h' zmA ∧ zMD (t + 2) h' (zqfeed a b c d e (T, O, (w, rp, wi, pa, un, la, ru, sa, me, se, ta, fa), Gs)).2) := by
  refine zMt.of [some (.ref (64)), some (.int (a)), some (.int (b)), some (.int (c)), some (.int (d)), some (.int (e))] (by decide) rfl (Nat.le_of_ble_eq_true rfl) ?_
  obtain ⟨Qf, hQ⟩ : ∃ Qf : ZQ, Qf = (fun v h' n' => v = some (.int (zqfeed a b c d e (T, O, (w, rp, wi, pa, un, la, ru, sa, me, se, ta, fa), Gs)).1) ∧ n' = n ∧ zsm h h' zmA ∧ zMD (t + 2) h' (zqfeed a b c d e (T, O, (w, rp, wi, pa, un, la, ru, sa, me, se, ta, fa), Gs)).2) := ⟨_, rfl⟩
  rw [← hQ]
  obtain ⟨⟨th, mn, m1, s1, ho, hms⟩, hw, hx, h85, ⟨Aa, h86, hAa⟩, hT, hO, hG, hS⟩ := id H
  have ho : h 64 = some (.inl (10, [.int (th), .ref (65), .ref (66), .ref (67), .ref (68), .ref (69), .ref (70), .ref (71), .ref (72), .ref (73), .ref (74), .ref (75), .ref (76), .ref (77), .ref (78), .ref (79), .ref (80), .ref (81), .ref (82), .ref (83), .ref (84), .int (nI (w.length)), .int (nI (zbi un)), .int (rp), .int (wi), .int (pa), .int (la), .int (ru), .int (sa), .int (m1), .int (s1), .int (ta), .int (fa), .ref (85), .ref (86), .ref (87), .int (nI (mn)), .ref (88), .ref (89), .ref (90), .ref (91), .ref (92), .ref (93), .int (nI (T.length)), .ref (94), .int (nI (O.length))])) := ho
  have hx : zar h 84 1000 w := hx
  have lT := hT.1
  have lO := hO.1
  have lw := hx.1
  obtain ⟨if1, ih1⟩ := id (hT.ia)
  refine zp_aload_n dX11_feed_0 rfl ?_
  refine zp_iconst (v := nI (0)) dX11_feed_1 (by decide) ?_
  refine zp_put (fs' := [.int (nI (0)), .ref (65), .ref (66), .ref (67), .ref (68), .ref (69), .ref (70), .ref (71), .ref (72), .ref (73), .ref (74), .ref (75), .ref (76), .ref (77), .ref (78), .ref (79), .ref (80), .ref (81), .ref (82), .ref (83), .ref (84), .int (nI (w.length)), .int (nI (zbi un)), .int (rp), .int (wi), .int (pa), .int (la), .int (ru), .int (sa), .int (m1), .int (s1), .int (ta), .int (fa), .ref (85), .ref (86), .ref (87), .int (nI (mn)), .ref (88), .ref (89), .ref (90), .ref (91), .ref (92), .ref (93), .int (nI (T.length)), .ref (94), .int (nI (O.length))]) dX11_feed_2 pX11_133_10 (by omega) ho (Nat.le_of_ble_eq_true rfl) (zfit_i _) rfl ?_
  refine zp_nh (fun h2x eh2x => ?_)
  have k2_0 : h2x (64) = some (.inl (10, [.int (nI (0)), .ref (65), .ref (66), .ref (67), .ref (68), .ref (69), .ref (70), .ref (71), .ref (72), .ref (73), .ref (74), .ref (75), .ref (76), .ref (77), .ref (78), .ref (79), .ref (80), .ref (81), .ref (82), .ref (83), .ref (84), .int (nI (w.length)), .int (nI (zbi un)), .int (rp), .int (wi), .int (pa), .int (la), .int (ru), .int (sa), .int (m1), .int (s1), .int (ta), .int (fa), .ref (85), .ref (86), .ref (87), .int (nI (mn)), .ref (88), .ref (89), .ref (90), .ref (91), .ref (92), .ref (93), .int (nI (T.length)), .ref (94), .int (nI (O.length))])) := by rw [eh2x]; exact va_up_self _ _ _
  have k2_1 := (congrFun eh2x (93)).trans ((va_up_ne _ _ (by omega)).trans ih1)
  have sw3 : zsm h h2x (zon (64)) := zsm.rf.up eh2x rfl
  have zw3 : zsh h h2x := zsh.obj eh2x ho
  refine zp_aload_n dX11_feed_5 rfl ?_
  refine zp_get dX11_feed_6 gX11_304_10 k2_0 rfl ?_
  refine zp_bipush (v := nI (20)) dX11_feed_9 (by decide) ?_
  refine zn_iadd dX11_feed_11 ?_
  refine zp_sipush (v := nI (240)) dX11_feed_12 (by decide) ?_
  refine zp_pc (pc' := 15) rfl ?_
  refine zn_icmp_le (tgt := 20) dX11_feed_15 (by decide) (by omega) (by omega) (fun c15 => ?_) (fun c15 => ?_)
  · have hT1 := (hT).keep (sw3 _ (by unfold zon; omega))
    refine zp_aload_n dX11_feed_20 rfl ?_
    refine zp_get dX11_feed_21 gX11_114_10 k2_0 rfl ?_
    refine zp_aload_n dX11_feed_24 rfl ?_
    refine zp_get dX11_feed_25 gX11_304_10 k2_0 rfl ?_
    refine zp_iload_n dX11_feed_28 rfl ?_
    refine zp_iconst (v := nI (4)) dX11_feed_29 (by decide) ?_
    refine zp_pc (pc' := 30) rfl ?_
    refine zp_callS (As := [.ref (93), .int (nI (T.length)), .int (a), .int (nI (4))]) (st := []) dX11_feed_30 cX11_174 rfl (e_number (p := 93) (N := 240) (at_ := T.length) (v0 := a) (by decide) k2_1 (by decide) (by omega)) (by decide) (by decide) (Nat.le_of_ble_eq_true rfl) (fun v4 h4 n4 q4 => ?_)
    obtain ⟨rfl, N4, E4⟩ := q4
    rw [N4]
    refine zp_nrm (cells' := 0) (slots' := 0) (st' := []) rfl rfl rfl ?_
    have s4 := zsm.fill E4
    have z4 := zsh.fill E4 k2_1
    have m4_ := congrFun E4 93
    rw [va_up_self] at m4_
    have l4 : (T).length = T.length + 0 := by simp only [List.length_append, zn4_len]
    have hT4 := zar.num hT1 k2_1 E4 (by rw [l4]) (by rw [l4]; omega)
    have m5 : h4 (64) = some (.inl (10, [.int (nI (0)), .ref (65), .ref (66), .ref (67), .ref (68), .ref (69), .ref (70), .ref (71), .ref (72), .ref (73), .ref (74), .ref (75), .ref (76), .ref (77), .ref (78), .ref (79), .ref (80), .ref (81), .ref (82), .ref (83), .ref (84), .int (nI (w.length)), .int (nI (zbi un)), .int (rp), .int (wi), .int (pa), .int (la), .int (ru), .int (sa), .int (m1), .int (s1), .int (ta), .int (fa), .ref (85), .ref (86), .ref (87), .int (nI (mn)), .ref (88), .ref (89), .ref (90), .ref (91), .ref (92), .ref (93), .int (nI (T.length)), .ref (94), .int (nI (O.length))])) := (s4 _ (by unfold zon; omega)).trans k2_0
    refine zp_aload_n dX11_feed_33 rfl ?_
    refine zp_get dX11_feed_34 gX11_114_10 m5 rfl ?_
    refine zp_aload_n dX11_feed_37 rfl ?_
    refine zp_get dX11_feed_38 gX11_304_10 m5 rfl ?_
    refine zp_iconst (v := nI (4)) dX11_feed_41 (by decide) ?_
    refine zn_iadd dX11_feed_42 ?_
    refine zp_iload_n dX11_feed_43 rfl ?_
    refine zp_iconst (v := nI (4)) dX11_feed_44 (by decide) ?_
    refine zp_pc (pc' := 45) rfl ?_
    refine zp_callS (As := [.ref (93), .int (nI ((T.length) + (4))), .int (b), .int (nI (4))]) (st := []) dX11_feed_45 cX11_174 rfl (e_number (p := 93) (N := 240) (at_ := T.length + 4) (v0 := b) (by decide) m4_ (by decide) (by omega)) (by decide) (by decide) (Nat.le_of_ble_eq_true rfl) (fun v6 h6 n6 q6 => ?_)
    obtain ⟨rfl, N6, E6⟩ := q6
    rw [N6]
    refine zp_nrm (cells' := 0) (slots' := 0) (st' := []) rfl rfl rfl ?_
    have s6 := zsm.fill E6
    have z6 := zsh.fill E6 m4_
    have m6_ := congrFun E6 93
    rw [va_up_self] at m6_
    have l6 : (T ++ zn4 a).length = T.length + 4 := by simp only [List.length_append, zn4_len]
    have hT6 := zar.num hT4 m4_ E6 (by rw [l6]) (by rw [l6]; omega)
    have m7 : h6 (64) = some (.inl (10, [.int (nI (0)), .ref (65), .ref (66), .ref (67), .ref (68), .ref (69), .ref (70), .ref (71), .ref (72), .ref (73), .ref (74), .ref (75), .ref (76), .ref (77), .ref (78), .ref (79), .ref (80), .ref (81), .ref (82), .ref (83), .ref (84), .int (nI (w.length)), .int (nI (zbi un)), .int (rp), .int (wi), .int (pa), .int (la), .int (ru), .int (sa), .int (m1), .int (s1), .int (ta), .int (fa), .ref (85), .ref (86), .ref (87), .int (nI (mn)), .ref (88), .ref (89), .ref (90), .ref (91), .ref (92), .ref (93), .int (nI (T.length)), .ref (94), .int (nI (O.length))])) := (s6 _ (by unfold zon; omega)).trans m5
    refine zp_aload_n dX11_feed_48 rfl ?_
    refine zp_get dX11_feed_49 gX11_114_10 m7 rfl ?_
    refine zp_aload_n dX11_feed_52 rfl ?_
    refine zp_get dX11_feed_53 gX11_304_10 m7 rfl ?_
    refine zp_bipush (v := nI (8)) dX11_feed_56 (by decide) ?_
    refine zn_iadd dX11_feed_58 ?_
    refine zp_iload_n dX11_feed_59 rfl ?_
    refine zp_iconst (v := nI (4)) dX11_feed_60 (by decide) ?_
    refine zp_pc (pc' := 61) rfl ?_
    refine zp_callS (As := [.ref (93), .int (nI ((T.length) + (8))), .int (c), .int (nI (4))]) (st := []) dX11_feed_61 cX11_174 rfl (e_number (p := 93) (N := 240) (at_ := T.length + 8) (v0 := c) (by decide) m6_ (by decide) (by omega)) (by decide) (by decide) (Nat.le_of_ble_eq_true rfl) (fun v8 h8 n8 q8 => ?_)
    obtain ⟨rfl, N8, E8⟩ := q8
    rw [N8]
    refine zp_nrm (cells' := 0) (slots' := 0) (st' := []) rfl rfl rfl ?_
    have s8 := zsm.fill E8
    have z8 := zsh.fill E8 m6_
    have m8_ := congrFun E8 93
    rw [va_up_self] at m8_
    have l8 : (T ++ zn4 a ++ zn4 b).length = T.length + 8 := by simp only [List.length_append, zn4_len]
    have hT8 := zar.num hT6 m6_ E8 (by rw [l8]) (by rw [l8]; omega)
    have m9 : h8 (64) = some (.inl (10, [.int (nI (0)), .ref (65), .ref (66), .ref (67), .ref (68), .ref (69), .ref (70), .ref (71), .ref (72), .ref (73), .ref (74), .ref (75), .ref (76), .ref (77), .ref (78), .ref (79), .ref (80), .ref (81), .ref (82), .ref (83), .ref (84), .int (nI (w.length)), .int (nI (zbi un)), .int (rp), .int (wi), .int (pa), .int (la), .int (ru), .int (sa), .int (m1), .int (s1), .int (ta), .int (fa), .ref (85), .ref (86), .ref (87), .int (nI (mn)), .ref (88), .ref (89), .ref (90), .ref (91), .ref (92), .ref (93), .int (nI (T.length)), .ref (94), .int (nI (O.length))])) := (s8 _ (by unfold zon; omega)).trans m7
    refine zp_aload_n dX11_feed_64 rfl ?_
    refine zp_get dX11_feed_65 gX11_114_10 m9 rfl ?_
    refine zp_aload_n dX11_feed_68 rfl ?_
    refine zp_get dX11_feed_69 gX11_304_10 m9 rfl ?_
    refine zp_bipush (v := nI (12)) dX11_feed_72 (by decide) ?_
    refine zn_iadd dX11_feed_74 ?_
    refine zp_iload dX11_feed_75 rfl ?_
    refine zp_iconst (v := nI (4)) dX11_feed_77 (by decide) ?_
    refine zp_pc (pc' := 78) rfl ?_
    refine zp_callS (As := [.ref (93), .int (nI ((T.length) + (12))), .int (d), .int (nI (4))]) (st := []) dX11_feed_78 cX11_174 rfl (e_number (p := 93) (N := 240) (at_ := T.length + 12) (v0 := d) (by decide) m8_ (by decide) (by omega)) (by decide) (by decide) (Nat.le_of_ble_eq_true rfl) (fun v10 h10 n10 q10 => ?_)
    obtain ⟨rfl, N10, E10⟩ := q10
    rw [N10]
    refine zp_nrm (cells' := 0) (slots' := 0) (st' := []) rfl rfl rfl ?_
    have s10 := zsm.fill E10
    have z10 := zsh.fill E10 m8_
    have m10_ := congrFun E10 93
    rw [va_up_self] at m10_
    have l10 : (T ++ zn4 a ++ zn4 b ++ zn4 c).length = T.length + 12 := by simp only [List.length_append, zn4_len]
    have hT10 := zar.num hT8 m8_ E10 (by rw [l10]) (by rw [l10]; omega)
    have m11 : h10 (64) = some (.inl (10, [.int (nI (0)), .ref (65), .ref (66), .ref (67), .ref (68), .ref (69), .ref (70), .ref (71), .ref (72), .ref (73), .ref (74), .ref (75), .ref (76), .ref (77), .ref (78), .ref (79), .ref (80), .ref (81), .ref (82), .ref (83), .ref (84), .int (nI (w.length)), .int (nI (zbi un)), .int (rp), .int (wi), .int (pa), .int (la), .int (ru), .int (sa), .int (m1), .int (s1), .int (ta), .int (fa), .ref (85), .ref (86), .ref (87), .int (nI (mn)), .ref (88), .ref (89), .ref (90), .ref (91), .ref (92), .ref (93), .int (nI (T.length)), .ref (94), .int (nI (O.length))])) := (s10 _ (by unfold zon; omega)).trans m9
    refine zp_aload_n dX11_feed_81 rfl ?_
    refine zp_get dX11_feed_82 gX11_114_10 m11 rfl ?_
    refine zp_aload_n dX11_feed_85 rfl ?_
    refine zp_get dX11_feed_86 gX11_304_10 m11 rfl ?_
    refine zp_bipush (v := nI (16)) dX11_feed_89 (by decide) ?_
    refine zn_iadd dX11_feed_91 ?_
    refine zp_iload dX11_feed_92 rfl ?_
    refine zp_iconst (v := nI (4)) dX11_feed_94 (by decide) ?_
    refine zp_pc (pc' := 95) rfl ?_
    refine zp_callS (As := [.ref (93), .int (nI ((T.length) + (16))), .int (e), .int (nI (4))]) (st := []) dX11_feed_95 cX11_174 rfl (e_number (p := 93) (N := 240) (at_ := T.length + 16) (v0 := e) (by decide) m10_ (by decide) (by omega)) (by decide) (by decide) (Nat.le_of_ble_eq_true rfl) (fun v12 h12 n12 q12 => ?_)
    obtain ⟨rfl, N12, E12⟩ := q12
    rw [N12]
    refine zp_nrm (cells' := 0) (slots' := 0) (st' := []) rfl rfl rfl ?_
    have s12 := zsm.fill E12
    have z12 := zsh.fill E12 m10_
    have m12_ := congrFun E12 93
    rw [va_up_self] at m12_
    have l12 : (T ++ zn4 a ++ zn4 b ++ zn4 c ++ zn4 d).length = T.length + 16 := by simp only [List.length_append, zn4_len]
    have hT12 := zar.num hT10 m10_ E12 (by rw [l12]) (by rw [l12]; omega)
    have m13 : h12 (64) = some (.inl (10, [.int (nI (0)), .ref (65), .ref (66), .ref (67), .ref (68), .ref (69), .ref (70), .ref (71), .ref (72), .ref (73), .ref (74), .ref (75), .ref (76), .ref (77), .ref (78), .ref (79), .ref (80), .ref (81), .ref (82), .ref (83), .ref (84), .int (nI (w.length)), .int (nI (zbi un)), .int (rp), .int (wi), .int (pa), .int (la), .int (ru), .int (sa), .int (m1), .int (s1), .int (ta), .int (fa), .ref (85), .ref (86), .ref (87), .int (nI (mn)), .ref (88), .ref (89), .ref (90), .ref (91), .ref (92), .ref (93), .int (nI (T.length)), .ref (94), .int (nI (O.length))])) := (s12 _ (by unfold zon; omega)).trans m11
    have lx : (T ++ zn4 a ++ zn4 b ++ zn4 c ++ zn4 d ++ zn4 e).length = T.length + 20 := by simp only [List.length_append, zn4_len]
    refine zp_aload_n dX11_feed_98 rfl ?_
    refine zp_dup dX11_feed_99 rfl ?_
    refine zp_get dX11_feed_100 gX11_304_10 m13 rfl ?_
    refine zp_bipush (v := nI (20)) dX11_feed_103 (by decide) ?_
    refine zp_pc (pc' := 105) rfl ?_
    refine zn_iadd dX11_feed_105 ?_
    refine zp_i (y := nI ((T ++ zn4 a ++ zn4 b ++ zn4 c ++ zn4 d ++ zn4 e).length)) (by rw [lx]) ?_
    refine zp_put (fs' := [.int (nI (0)), .ref (65), .ref (66), .ref (67), .ref (68), .ref (69), .ref (70), .ref (71), .ref (72), .ref (73), .ref (74), .ref (75), .ref (76), .ref (77), .ref (78), .ref (79), .ref (80), .ref (81), .ref (82), .ref (83), .ref (84), .int (nI (w.length)), .int (nI (zbi un)), .int (rp), .int (wi), .int (pa), .int (la), .int (ru), .int (sa), .int (m1), .int (s1), .int (ta), .int (fa), .ref (85), .ref (86), .ref (87), .int (nI (mn)), .ref (88), .ref (89), .ref (90), .ref (91), .ref (92), .ref (93), .int (nI ((T ++ zn4 a ++ zn4 b ++ zn4 c ++ zn4 d ++ zn4 e).length)), .ref (94), .int (nI (O.length))]) dX11_feed_106 pX11_304_10 (by omega) m13 (Nat.le_of_ble_eq_true rfl) (zfit_i _) rfl ?_
    refine zp_nh (fun h14x eh14x => ?_)
    have k14_0 : h14x (64) = some (.inl (10, [.int (nI (0)), .ref (65), .ref (66), .ref (67), .ref (68), .ref (69), .ref (70), .ref (71), .ref (72), .ref (73), .ref (74), .ref (75), .ref (76), .ref (77), .ref (78), .ref (79), .ref (80), .ref (81), .ref (82), .ref (83), .ref (84), .int (nI (w.length)), .int (nI (zbi un)), .int (rp), .int (wi), .int (pa), .int (la), .int (ru), .int (sa), .int (m1), .int (s1), .int (ta), .int (fa), .ref (85), .ref (86), .ref (87), .int (nI (mn)), .ref (88), .ref (89), .ref (90), .ref (91), .ref (92), .ref (93), .int (nI ((T ++ zn4 a ++ zn4 b ++ zn4 c ++ zn4 d ++ zn4 e).length)), .ref (94), .int (nI (O.length))])) := by rw [eh14x]; exact va_up_self _ _ _
    have k14_1 := (congrFun eh14x (93)).trans ((va_up_ne _ _ (by omega)).trans m12_)
    have sw15 : zsm h12 h14x (zon (64)) := zsm.rf.up eh14x rfl
    have zw15 : zsh h12 h14x := zsh.obj eh14x m13
    refine zp_aload_n dX11_feed_109 rfl ?_
    refine zp_get dX11_feed_110 gX11_304_10 k14_0 rfl ?_
    refine zp_pc (pc' := 113) rfl ?_
    refine zp_i (y := nI (T.length + 20)) (by rw [lx]) ?_
    have hT9 := (hT12).keep (sw15 _ (by unfold zon; omega))
    have eq9 : (zqfeed a b c d e (T, O, (w, rp, wi, pa, un, la, ru, sa, me, se, ta, fa), Gs)) = (nI (T.length + 20), T ++ zn4 a ++ zn4 b ++ zn4 c ++ zn4 d ++ zn4 e, O, (w, rp, wi, pa, un, la, ru, sa, me, se, ta, fa), Gs) := if_neg (by omega)
    refine zp_ret (v := (some (.int (nI (T.length + 20))))) dX11_feed_113 ⟨⟨_, rfl, rfl⟩, rfl⟩ (by decide) (by decide) ?_
    rw [hQ]
    rw [eq9]; exact ⟨rfl, rfl, (((((((sw3).mono (fun i hi => by unfold zmA; unfold zon at hi; omega)).trans ((s4).mono (fun i hi => by unfold zmA; unfold zon at hi; omega))).trans ((s6).mono (fun i hi => by unfold zmA; unfold zon at hi; omega))).trans ((s8).mono (fun i hi => by unfold zmA; unfold zon at hi; omega))).trans ((s10).mono (fun i hi => by unfold zmA; unfold zon at hi; omega))).trans ((s12).mono (fun i hi => by unfold zmA; unfold zon at hi; omega))).trans ((sw15).mono (fun i hi => by unfold zmA; unfold zon at hi; omega)), H.upd ((((((((sw3).mono (fun i hi => by unfold zcz; unfold zon at hi; omega)).trans ((s4).mono (fun i hi => by unfold zcz; unfold zon at hi; omega))).trans ((s6).mono (fun i hi => by unfold zcz; unfold zon at hi; omega))).trans ((s8).mono (fun i hi => by unfold zcz; unfold zon at hi; omega))).trans ((s10).mono (fun i hi => by unfold zcz; unfold zon at hi; omega))).trans ((s12).mono (fun i hi => by unfold zcz; unfold zon at hi; omega))).trans ((sw15).mono (fun i hi => by unfold zcz; unfold zon at hi; omega))) (((((((zw3).trans z4).trans z6).trans z8).trans z10).trans z12).trans zw15) ⟨_, _, _, _, k14_0, hms⟩ ((((((((hx).keep (sw3 _ (by unfold zon; omega))).keep (s4 _ (by unfold zon; omega))).keep (s6 _ (by unfold zon; omega))).keep (s8 _ (by unfold zon; omega))).keep (s10 _ (by unfold zon; omega))).keep (s12 _ (by unfold zon; omega))).keep (sw15 _ (by unfold zon; omega))) (hT9) ((((((((hO).keep (sw3 _ (by unfold zon; omega))).keep (s4 _ (by unfold zon; omega))).keep (s6 _ (by unfold zon; omega))).keep (s8 _ (by unfold zon; omega))).keep (s10 _ (by unfold zon; omega))).keep (s12 _ (by unfold zon; omega))).keep (sw15 _ (by unfold zon; omega))) hS (by omega)⟩
  · refine zp_iconst (v := (-1)) dX11_feed_18 (by decide) ?_
    refine zp_pc (pc' := 19) rfl ?_
    have eq9 : (zqfeed a b c d e (T, O, (w, rp, wi, pa, un, la, ru, sa, me, se, ta, fa), Gs)) = (-1, T, O, (w, rp, wi, pa, un, la, ru, sa, me, se, ta, fa), Gs) := if_pos (by omega)
    refine zp_ret (v := (some (.int ((-1))))) dX11_feed_19 ⟨⟨_, rfl, rfl⟩, rfl⟩ (by decide) (by decide) ?_
    rw [hQ]
    rw [eq9]; exact ⟨rfl, rfl, (sw3).mono (fun i hi => by unfold zmA; unfold zon at hi; omega), H.upd ((sw3).mono (fun i hi => by unfold zcz; unfold zon at hi; omega)) (zw3) ⟨_, _, _, _, k2_0, hms⟩ ((hx).keep (sw3 _ (by unfold zon; omega))) ((hT).keep (sw3 _ (by unfold zon; omega))) ((hO).keep (sw3 _ (by unfold zon; omega))) hS (by omega)⟩
set_option maxRecDepth 10000 in
set_option maxHeartbeats 2000000 in
theorem E_end {g : ZG} {h : ZH} {n : Nat} {t : Nat} {T O w : List Nat} {un : Bool} {rp wi pa la ru sa me se ta fa : Int32} {Gs : Nat → Option ZGn} {x : Int32} (H : zMD t h (T, O, (w, rp, wi, pa, un, la, ru, sa, me, se, ta, fa), Gs)) : zMt g mX11_end (zR 1 0 0) [.ref (64), .int (x)] h n (fun v h' n' => v = some (.int (zqend x (T, O, (w, rp, wi, pa, un, la, ru, sa, me, se, ta, fa), Gs)).1) ∧ n' = n ∧ zsm h h' zmA ∧ zMD (t + 2) h' (zqend x (T, O, (w, rp, wi, pa, un, la, ru, sa, me, se, ta, fa), Gs)).2) := by
  refine zMt.of [some (.ref (64)), some (.int (x))] (by decide) rfl (Nat.le_of_ble_eq_true rfl) ?_
  obtain ⟨Qf, hQ⟩ : ∃ Qf : ZQ, Qf = (fun v h' n' => v = some (.int (zqend x (T, O, (w, rp, wi, pa, un, la, ru, sa, me, se, ta, fa), Gs)).1) ∧ n' = n ∧ zsm h h' zmA ∧ zMD (t + 2) h' (zqend x (T, O, (w, rp, wi, pa, un, la, ru, sa, me, se, ta, fa), Gs)).2) := ⟨_, rfl⟩
  rw [← hQ]
  obtain ⟨⟨th, mn, m1, s1, ho, hms⟩, hw, hx, h85, ⟨Aa, h86, hAa⟩, hT, hO, hG, hS⟩ := id H
  have ho : h 64 = some (.inl (10, [.int (th), .ref (65), .ref (66), .ref (67), .ref (68), .ref (69), .ref (70), .ref (71), .ref (72), .ref (73), .ref (74), .ref (75), .ref (76), .ref (77), .ref (78), .ref (79), .ref (80), .ref (81), .ref (82), .ref (83), .ref (84), .int (nI (w.length)), .int (nI (zbi un)), .int (rp), .int (wi), .int (pa), .int (la), .int (ru), .int (sa), .int (m1), .int (s1), .int (ta), .int (fa), .ref (85), .ref (86), .ref (87), .int (nI (mn)), .ref (88), .ref (89), .ref (90), .ref (91), .ref (92), .ref (93), .int (nI (T.length)), .ref (94), .int (nI (O.length))])) := ho
  have hx : zar h 84 1000 w := hx
  have lT := hT.1
  have lO := hO.1
  have lw := hx.1
  refine zp_aload_n dX11_end_0 rfl ?_
  refine zp_iconst (v := nI (0)) dX11_end_1 (by decide) ?_
  refine zp_put (fs' := [.int (nI (0)), .ref (65), .ref (66), .ref (67), .ref (68), .ref (69), .ref (70), .ref (71), .ref (72), .ref (73), .ref (74), .ref (75), .ref (76), .ref (77), .ref (78), .ref (79), .ref (80), .ref (81), .ref (82), .ref (83), .ref (84), .int (nI (w.length)), .int (nI (zbi un)), .int (rp), .int (wi), .int (pa), .int (la), .int (ru), .int (sa), .int (m1), .int (s1), .int (ta), .int (fa), .ref (85), .ref (86), .ref (87), .int (nI (mn)), .ref (88), .ref (89), .ref (90), .ref (91), .ref (92), .ref (93), .int (nI (T.length)), .ref (94), .int (nI (O.length))]) dX11_end_2 pX11_133_10 (by omega) ho (Nat.le_of_ble_eq_true rfl) (zfit_i _) rfl ?_
  refine zp_nh (fun h1x eh1x => ?_)
  have k1_0 : h1x (64) = some (.inl (10, [.int (nI (0)), .ref (65), .ref (66), .ref (67), .ref (68), .ref (69), .ref (70), .ref (71), .ref (72), .ref (73), .ref (74), .ref (75), .ref (76), .ref (77), .ref (78), .ref (79), .ref (80), .ref (81), .ref (82), .ref (83), .ref (84), .int (nI (w.length)), .int (nI (zbi un)), .int (rp), .int (wi), .int (pa), .int (la), .int (ru), .int (sa), .int (m1), .int (s1), .int (ta), .int (fa), .ref (85), .ref (86), .ref (87), .int (nI (mn)), .ref (88), .ref (89), .ref (90), .ref (91), .ref (92), .ref (93), .int (nI (T.length)), .ref (94), .int (nI (O.length))])) := by rw [eh1x]; exact va_up_self _ _ _
  have sw2 : zsm h h1x (zon (64)) := zsm.rf.up eh1x rfl
  have zw2 : zsh h h1x := zsh.obj eh1x ho
  refine zp_iload_n dX11_end_5 rfl ?_
  refine zp_iconst (v := nI (0)) dX11_end_6 (by decide) ?_
  refine zp_aload_n dX11_end_7 rfl ?_
  refine zp_get dX11_end_8 gX11_304_10 k1_0 rfl ?_
  refine zp_pc (pc' := 11) rfl ?_
  refine zp_callS (As := [.int (x), .int (nI (0)), .int (nI (T.length))]) (st := []) dX11_end_11 cX11_297 rfl e_in (by decide) (by decide) (Nat.le_of_ble_eq_true rfl) (fun v3 h3 n3 q3 => ?_)
  obtain ⟨rfl, H3, N3⟩ := q3
  rw [N3, H3]
  refine zp_nrm (cells' := 0) (slots' := 0) (st' := [.int (nI (zbi (decide (nI 0 ≤ x ∧ x ≤ nI T.length))))]) rfl rfl rfl ?_
  refine zn_if_ne (tgt := 19) dX11_end_14 (by decide) (by have := zbi_lt (decide (nI 0 ≤ x ∧ x ≤ nI T.length)); omega) (fun c14 => ?_) (fun c14 => ?_)
  · have bq4T : (decide (nI 0 ≤ x ∧ x ≤ nI T.length)) = true := by rcases Bool.eq_false_or_eq_true (decide (nI 0 ≤ x ∧ x ≤ nI T.length)) with q | q; exact q; rw [q] at c14; exact absurd rfl c14
    obtain ⟨k, hk, rfl⟩ := zin_nat (by omega) (of_decide_eq_true bq4T)
    have lk : (T.take k).length = k := by rw [List.length_take]; omega
    refine zp_aload_n dX11_end_19 rfl ?_
    refine zp_pc (pc' := 20) rfl ?_
    refine zp_iload_n dX11_end_20 rfl ?_
    refine zp_i (y := nI ((T.take k).length)) (by rw [lk]) ?_
    refine zp_put (fs' := [.int (nI (0)), .ref (65), .ref (66), .ref (67), .ref (68), .ref (69), .ref (70), .ref (71), .ref (72), .ref (73), .ref (74), .ref (75), .ref (76), .ref (77), .ref (78), .ref (79), .ref (80), .ref (81), .ref (82), .ref (83), .ref (84), .int (nI (w.length)), .int (nI (zbi un)), .int (rp), .int (wi), .int (pa), .int (la), .int (ru), .int (sa), .int (m1), .int (s1), .int (ta), .int (fa), .ref (85), .ref (86), .ref (87), .int (nI (mn)), .ref (88), .ref (89), .ref (90), .ref (91), .ref (92), .ref (93), .int (nI ((T.take k).length)), .ref (94), .int (nI (O.length))]) dX11_end_21 pX11_304_10 (by omega) k1_0 (Nat.le_of_ble_eq_true rfl) (zfit_i _) rfl ?_
    refine zp_nh (fun h5x eh5x => ?_)
    have k5_0 : h5x (64) = some (.inl (10, [.int (nI (0)), .ref (65), .ref (66), .ref (67), .ref (68), .ref (69), .ref (70), .ref (71), .ref (72), .ref (73), .ref (74), .ref (75), .ref (76), .ref (77), .ref (78), .ref (79), .ref (80), .ref (81), .ref (82), .ref (83), .ref (84), .int (nI (w.length)), .int (nI (zbi un)), .int (rp), .int (wi), .int (pa), .int (la), .int (ru), .int (sa), .int (m1), .int (s1), .int (ta), .int (fa), .ref (85), .ref (86), .ref (87), .int (nI (mn)), .ref (88), .ref (89), .ref (90), .ref (91), .ref (92), .ref (93), .int (nI ((T.take k).length)), .ref (94), .int (nI (O.length))])) := by rw [eh5x]; exact va_up_self _ _ _
    have sw6 : zsm h1x h5x (zon (64)) := zsm.rf.up eh5x rfl
    have zw6 : zsh h1x h5x := zsh.obj eh5x k1_0
    refine zp_iload_n dX11_end_24 rfl ?_
    refine zp_pc (pc' := 25) rfl ?_
    have eq9 : (zqend (nI k) (T, O, (w, rp, wi, pa, un, la, ru, sa, me, se, ta, fa), Gs)) = (nI k, T.take k, O, (w, rp, wi, pa, un, la, ru, sa, me, se, ta, fa), Gs) := by show (if _ then _ else _) = _; rw [if_neg (zin_yes (of_decide_eq_true bq4T)), nI_clamp (by omega)]
    refine zp_ret (v := (some (.int (nI (k))))) dX11_end_25 ⟨⟨_, rfl, rfl⟩, rfl⟩ (by decide) (by decide) ?_
    rw [hQ]
    rw [eq9]; exact ⟨rfl, rfl, ((sw2).mono (fun i hi => by unfold zmA; unfold zon at hi; omega)).trans ((sw6).mono (fun i hi => by unfold zmA; unfold zon at hi; omega)), H.upd (((sw2).mono (fun i hi => by unfold zcz; unfold zon at hi; omega)).trans ((sw6).mono (fun i hi => by unfold zcz; unfold zon at hi; omega))) ((zw2).trans zw6) ⟨_, _, _, _, k5_0, hms⟩ (((hx).keep (sw2 _ (by unfold zon; omega))).keep (sw6 _ (by unfold zon; omega))) (((hT.take).keep (sw2 _ (by unfold zon; omega))).keep (sw6 _ (by unfold zon; omega))) (((hO).keep (sw2 _ (by unfold zon; omega))).keep (sw6 _ (by unfold zon; omega))) hS (by omega)⟩
  · have bq4F : (decide (nI 0 ≤ x ∧ x ≤ nI T.length)) = false := by rcases Bool.eq_false_or_eq_true (decide (nI 0 ≤ x ∧ x ≤ nI T.length)) with q | q; rw [q] at c14; exact absurd c14 (by decide); exact q
    refine zp_iconst (v := (-1)) dX11_end_17 (by decide) ?_
    refine zp_pc (pc' := 18) rfl ?_
    have eq9 : (zqend x (T, O, (w, rp, wi, pa, un, la, ru, sa, me, se, ta, fa), Gs)) = (-1, T, O, (w, rp, wi, pa, un, la, ru, sa, me, se, ta, fa), Gs) := if_pos (zin_not (of_decide_eq_false bq4F))
    refine zp_ret (v := (some (.int ((-1))))) dX11_end_18 ⟨⟨_, rfl, rfl⟩, rfl⟩ (by decide) (by decide) ?_
    rw [hQ]
    rw [eq9]; exact ⟨rfl, rfl, (sw2).mono (fun i hi => by unfold zmA; unfold zon at hi; omega), H.upd ((sw2).mono (fun i hi => by unfold zcz; unfold zon at hi; omega)) (zw2) ⟨_, _, _, _, k1_0, hms⟩ ((hx).keep (sw2 _ (by unfold zon; omega))) ((hT).keep (sw2 _ (by unfold zon; omega))) ((hO).keep (sw2 _ (by unfold zon; omega))) hS (by omega)⟩
set_option maxRecDepth 10000 in
set_option maxHeartbeats 2000000 in
theorem E_digest {g : ZG} {h : ZH} {n : Nat} {t : Nat} {T O w : List Nat} {un : Bool} {rp wi pa la ru sa me se ta fa : Int32} {Gs : Nat → Option ZGn} {b : Bool} (H : zMD t h (T, O, (w, rp, wi, pa, un, la, ru, sa, me, se, ta, fa), Gs)) : zMt g mX11_digest_ (zR 4 0 0) [.ref (64), .int (nI (zbi b))] h n (fun v h' n' => v = some (.int (zqdigest b (T, O, (w, rp, wi, pa, un, la, ru, sa, me, se, ta, fa), Gs)).1) ∧ n' = n ∧ zsm h h' zmA ∧ zMD (t + 2) h' (zqdigest b (T, O, (w, rp, wi, pa, un, la, ru, sa, me, se, ta, fa), Gs)).2) := by
  refine zMt.of [some (.ref (64)), some (.int (nI (zbi b)))] (by decide) rfl (Nat.le_of_ble_eq_true rfl) ?_
  obtain ⟨Qf, hQ⟩ : ∃ Qf : ZQ, Qf = (fun v h' n' => v = some (.int (zqdigest b (T, O, (w, rp, wi, pa, un, la, ru, sa, me, se, ta, fa), Gs)).1) ∧ n' = n ∧ zsm h h' zmA ∧ zMD (t + 2) h' (zqdigest b (T, O, (w, rp, wi, pa, un, la, ru, sa, me, se, ta, fa), Gs)).2) := ⟨_, rfl⟩
  rw [← hQ]
  obtain ⟨⟨th, mn, m1, s1, ho, hms⟩, hw, hx, h85, ⟨Aa, h86, hAa⟩, hT, hO, hG, hS⟩ := id H
  have ho : h 64 = some (.inl (10, [.int (th), .ref (65), .ref (66), .ref (67), .ref (68), .ref (69), .ref (70), .ref (71), .ref (72), .ref (73), .ref (74), .ref (75), .ref (76), .ref (77), .ref (78), .ref (79), .ref (80), .ref (81), .ref (82), .ref (83), .ref (84), .int (nI (w.length)), .int (nI (zbi un)), .int (rp), .int (wi), .int (pa), .int (la), .int (ru), .int (sa), .int (m1), .int (s1), .int (ta), .int (fa), .ref (85), .ref (86), .ref (87), .int (nI (mn)), .ref (88), .ref (89), .ref (90), .ref (91), .ref (92), .ref (93), .int (nI (T.length)), .ref (94), .int (nI (O.length))])) := ho
  have hx : zar h 84 1000 w := hx
  have lT := hT.1
  have lO := hO.1
  have lw := hx.1
  refine zp_aload_n dX11_digest__0 rfl ?_
  refine zp_iconst (v := nI (0)) dX11_digest__1 (by decide) ?_
  refine zp_put (fs' := [.int (nI (0)), .ref (65), .ref (66), .ref (67), .ref (68), .ref (69), .ref (70), .ref (71), .ref (72), .ref (73), .ref (74), .ref (75), .ref (76), .ref (77), .ref (78), .ref (79), .ref (80), .ref (81), .ref (82), .ref (83), .ref (84), .int (nI (w.length)), .int (nI (zbi un)), .int (rp), .int (wi), .int (pa), .int (la), .int (ru), .int (sa), .int (m1), .int (s1), .int (ta), .int (fa), .ref (85), .ref (86), .ref (87), .int (nI (mn)), .ref (88), .ref (89), .ref (90), .ref (91), .ref (92), .ref (93), .int (nI (T.length)), .ref (94), .int (nI (O.length))]) dX11_digest__2 pX11_133_10 (by omega) ho (Nat.le_of_ble_eq_true rfl) (zfit_i _) rfl ?_
  refine zp_nh (fun h1x eh1x => ?_)
  have k1_0 : h1x (64) = some (.inl (10, [.int (nI (0)), .ref (65), .ref (66), .ref (67), .ref (68), .ref (69), .ref (70), .ref (71), .ref (72), .ref (73), .ref (74), .ref (75), .ref (76), .ref (77), .ref (78), .ref (79), .ref (80), .ref (81), .ref (82), .ref (83), .ref (84), .int (nI (w.length)), .int (nI (zbi un)), .int (rp), .int (wi), .int (pa), .int (la), .int (ru), .int (sa), .int (m1), .int (s1), .int (ta), .int (fa), .ref (85), .ref (86), .ref (87), .int (nI (mn)), .ref (88), .ref (89), .ref (90), .ref (91), .ref (92), .ref (93), .int (nI (T.length)), .ref (94), .int (nI (O.length))])) := by rw [eh1x]; exact va_up_self _ _ _
  have sw2 : zsm h h1x (zon (64)) := zsm.rf.up eh1x rfl
  have zw2 : zsh h h1x := zsh.obj eh1x ho
  refine zp_aload_n dX11_digest__5 rfl ?_
  refine zp_iload_n dX11_digest__6 rfl ?_
  refine zp_aload_n dX11_digest__7 rfl ?_
  refine zp_get dX11_digest__8 gX11_114_10 k1_0 rfl ?_
  refine zp_aload_n dX11_digest__11 rfl ?_
  refine zp_get dX11_digest__12 gX11_304_10 k1_0 rfl ?_
  refine zp_pc (pc' := 15) rfl ?_
  have W3 := zmw.sh hw ((sw2).mono (fun i hi => by unfold zwf; unfold zon at hi; omega)) (zw2) (fun i hi => hi)
  refine zp_callV (As := [.int (nI (zbi b)), .ref (93), .int (nI (T.length))]) (k := 64) (st := []) (ci := 10) dX11_digest__15 cX11_170 rfl k1_0 rfl rfl (e_mdigW (b := b) (p := 93) W3 k1_0 ((hT).keep (sw2 _ (by unfold zon; omega))) (by decide) (by omega)) (by decide) (by decide) (Nat.le_of_ble_eq_true rfl) (fun v4 h4 n4 q4 => ?_)
  obtain ⟨rfl, N4, s4, z4, d4⟩ := q4
  rw [N4]
  refine zp_nrm (cells' := 0) (slots' := 0) (st' := []) rfl rfl rfl ?_
  have m5 : h4 (64) = some (.inl (10, [.int (nI (0)), .ref (65), .ref (66), .ref (67), .ref (68), .ref (69), .ref (70), .ref (71), .ref (72), .ref (73), .ref (74), .ref (75), .ref (76), .ref (77), .ref (78), .ref (79), .ref (80), .ref (81), .ref (82), .ref (83), .ref (84), .int (nI (w.length)), .int (nI (zbi un)), .int (rp), .int (wi), .int (pa), .int (la), .int (ru), .int (sa), .int (m1), .int (s1), .int (ta), .int (fa), .ref (85), .ref (86), .ref (87), .int (nI (mn)), .ref (88), .ref (89), .ref (90), .ref (91), .ref (92), .ref (93), .int (nI (T.length)), .ref (94), .int (nI (O.length))])) := (s4 _ (by unfold zb3; omega)).trans k1_0
  refine zp_aload_n dX11_digest__18 rfl ?_
  refine zp_iload_n dX11_digest__19 rfl ?_
  refine zp_pc (pc' := 20) rfl ?_
  refine zp_callS (As := [.int (nI (zbi b))]) (st := [.ref (64)]) dX11_digest__20 cX11_166 rfl (e_sizeOf (b := b)) (by decide) (by decide) (Nat.le_of_ble_eq_true rfl) (fun v6 h6 n6 q6 => ?_)
  obtain ⟨rfl, H6, N6⟩ := q6
  rw [N6, H6]
  refine zp_nrm (cells' := 0) (slots' := 0) (st' := [.int (nI (8 * zwb b)), .ref (64)]) rfl rfl rfl ?_
  refine zp_i (y := nI ((zhash b T).length)) (by rw [zhash_len]) ?_
  refine zp_callV (As := [.int (nI ((zhash b T).length))]) (k := 64) (st := []) (ci := 10) dX11_digest__23 cX11_351 rfl m5 rfl rfl (e_show m5 d4 (((hO.ia).keep (sw2 _ (by unfold zon; omega))).keep (s4 _ (by unfold zb3; omega)))) (by decide) (by decide) (Nat.le_of_ble_eq_true rfl) (fun v7 h7 n7 q7 => ?_)
  obtain ⟨rfl, N7, s7, z7, o7, q7⟩ := q7
  rw [N7]
  refine zp_nrm (cells' := 0) (slots' := 0) (st' := []) rfl rfl rfl ?_
  refine zp_aload_n dX11_digest__26 rfl ?_
  refine zp_get dX11_digest__27 gX11_342_10 o7 rfl ?_
  refine zp_pc (pc' := 30) rfl ?_
  refine zp_i (y := nI (8 * zwb b)) (by rw [zhash_len]) ?_
  have eq9 : (zqdigest b (T, O, (w, rp, wi, pa, un, la, ru, sa, me, se, ta, fa), Gs)) = (nI (8 * zwb b), T, zhash b T, (w, rp, wi, pa, un, la, ru, sa, me, se, ta, fa), Gs) := rfl
  refine zp_ret (v := (some (.int (nI (8 * zwb b))))) dX11_digest__30 ⟨⟨_, rfl, rfl⟩, rfl⟩ (by decide) (by decide) ?_
  rw [hQ]
  rw [eq9]; exact ⟨rfl, rfl, (((sw2).mono (fun i hi => by unfold zmA; unfold zon at hi; omega)).trans ((s4).mono (fun i hi => by unfold zmA; unfold zb3 at hi; omega))).trans ((s7).mono (fun i hi => by unfold zmA; unfold zsw4 at hi; omega)), H.upd ((((sw2).mono (fun i hi => by unfold zcz; unfold zon at hi; omega)).trans ((s4).mono (fun i hi => by unfold zcz; unfold zb3 at hi; omega))).trans ((s7).mono (fun i hi => by unfold zcz; unfold zsw4 at hi; omega))) (((zw2).trans z4).trans z7) ⟨_, _, _, _, o7, hms⟩ ((((hx).keep (sw2 _ (by unfold zon; omega))).keep (s4 _ (by unfold zb3; omega))).keep (s7 _ (by unfold zsw4; omega))) ((((hT).keep (sw2 _ (by unfold zon; omega))).keep (s4 _ (by unfold zb3; omega))).keep (s7 _ (by unfold zsw4; omega))) (q7) hS (by omega)⟩
set_option maxRecDepth 10000 in
set_option maxHeartbeats 2000000 in
theorem E_mac {g : ZG} {h : ZH} {n : Nat} {t : Nat} {T O w : List Nat} {un : Bool} {rp wi pa la ru sa me se ta fa : Int32} {Gs : Nat → Option ZGn} {b : Bool} (H : zMD t h (T, O, (w, rp, wi, pa, un, la, ru, sa, me, se, ta, fa), Gs)) : zMt g mX11_mac_ (zR 5 0 0) [.ref (64), .int (nI (zbi b))] h n (fun v h' n' => v = some (.int (nI (zbi (zqmac b (T, O, (w, rp, wi, pa, un, la, ru, sa, me, se, ta, fa), Gs)).1))) ∧ n' = n ∧ zsm h h' zmA ∧ zMD (t + 2) h' (zqmac b (T, O, (w, rp, wi, pa, un, la, ru, sa, me, se, ta, fa), Gs)).2) := by
  refine zMt.of [some (.ref (64)), some (.int (nI (zbi b))), none, none] (by decide) rfl (Nat.le_of_ble_eq_true rfl) ?_
  obtain ⟨Qf, hQ⟩ : ∃ Qf : ZQ, Qf = (fun v h' n' => v = some (.int (nI (zbi (zqmac b (T, O, (w, rp, wi, pa, un, la, ru, sa, me, se, ta, fa), Gs)).1))) ∧ n' = n ∧ zsm h h' zmA ∧ zMD (t + 2) h' (zqmac b (T, O, (w, rp, wi, pa, un, la, ru, sa, me, se, ta, fa), Gs)).2) := ⟨_, rfl⟩
  rw [← hQ]
  obtain ⟨⟨th, mn, m1, s1, ho, hms⟩, hw, hx, h85, ⟨Aa, h86, hAa⟩, hT, hO, hG, hS⟩ := id H
  have ho : h 64 = some (.inl (10, [.int (th), .ref (65), .ref (66), .ref (67), .ref (68), .ref (69), .ref (70), .ref (71), .ref (72), .ref (73), .ref (74), .ref (75), .ref (76), .ref (77), .ref (78), .ref (79), .ref (80), .ref (81), .ref (82), .ref (83), .ref (84), .int (nI (w.length)), .int (nI (zbi un)), .int (rp), .int (wi), .int (pa), .int (la), .int (ru), .int (sa), .int (m1), .int (s1), .int (ta), .int (fa), .ref (85), .ref (86), .ref (87), .int (nI (mn)), .ref (88), .ref (89), .ref (90), .ref (91), .ref (92), .ref (93), .int (nI (T.length)), .ref (94), .int (nI (O.length))])) := ho
  have hx : zar h 84 1000 w := hx
  have lT := hT.1
  have lO := hO.1
  have lw := hx.1
  have hz := zwb_or b
  refine zp_aload_n dX11_mac__0 rfl ?_
  refine zp_iconst (v := nI (0)) dX11_mac__1 (by decide) ?_
  refine zp_put (fs' := [.int (nI (0)), .ref (65), .ref (66), .ref (67), .ref (68), .ref (69), .ref (70), .ref (71), .ref (72), .ref (73), .ref (74), .ref (75), .ref (76), .ref (77), .ref (78), .ref (79), .ref (80), .ref (81), .ref (82), .ref (83), .ref (84), .int (nI (w.length)), .int (nI (zbi un)), .int (rp), .int (wi), .int (pa), .int (la), .int (ru), .int (sa), .int (m1), .int (s1), .int (ta), .int (fa), .ref (85), .ref (86), .ref (87), .int (nI (mn)), .ref (88), .ref (89), .ref (90), .ref (91), .ref (92), .ref (93), .int (nI (T.length)), .ref (94), .int (nI (O.length))]) dX11_mac__2 pX11_133_10 (by omega) ho (Nat.le_of_ble_eq_true rfl) (zfit_i _) rfl ?_
  refine zp_nh (fun h1x eh1x => ?_)
  have k1_0 : h1x (64) = some (.inl (10, [.int (nI (0)), .ref (65), .ref (66), .ref (67), .ref (68), .ref (69), .ref (70), .ref (71), .ref (72), .ref (73), .ref (74), .ref (75), .ref (76), .ref (77), .ref (78), .ref (79), .ref (80), .ref (81), .ref (82), .ref (83), .ref (84), .int (nI (w.length)), .int (nI (zbi un)), .int (rp), .int (wi), .int (pa), .int (la), .int (ru), .int (sa), .int (m1), .int (s1), .int (ta), .int (fa), .ref (85), .ref (86), .ref (87), .int (nI (mn)), .ref (88), .ref (89), .ref (90), .ref (91), .ref (92), .ref (93), .int (nI (T.length)), .ref (94), .int (nI (O.length))])) := by rw [eh1x]; exact va_up_self _ _ _
  have sw2 : zsm h h1x (zon (64)) := zsm.rf.up eh1x rfl
  have zw2 : zsh h h1x := zsh.obj eh1x ho
  refine zp_iload_n dX11_mac__5 rfl ?_
  refine zp_callS (As := [.int (nI (zbi b))]) (st := []) dX11_mac__6 cX11_166 rfl (e_sizeOf (b := b)) (by decide) (by decide) (Nat.le_of_ble_eq_true rfl) (fun v3 h3 n3 q3 => ?_)
  obtain ⟨rfl, H3, N3⟩ := q3
  rw [N3, H3]
  refine zp_nrm (cells' := 0) (slots' := 0) (st' := [.int (nI (8 * zwb b))]) rfl rfl rfl ?_
  refine zp_istore_n (ls' := [some (.ref (64)), some (.int (nI (zbi b))), some (.int (nI (8 * zwb b))), none]) dX11_mac__9 (by decide) rfl ?_
  refine zp_aload_n dX11_mac__10 rfl ?_
  refine zp_get dX11_mac__11 gX11_304_10 k1_0 rfl ?_
  refine zp_iload_n dX11_mac__14 rfl ?_
  refine zp_pc (pc' := 15) rfl ?_
  refine zn_icmp_ge (tgt := 20) dX11_mac__15 (by decide) (by omega) (by omega) (fun c15 => ?_) (fun c15 => ?_)
  · refine zp_aload_n dX11_mac__20 rfl ?_
    refine zp_pc (pc' := 21) rfl ?_
    have W4 := zmw.sh hw ((sw2).mono (fun i hi => by unfold zwf; unfold zon at hi; omega)) (zw2) (fun i hi => hi)
    refine zp_callV (As := []) (k := 64) (st := []) (ci := 10) dX11_mac__21 cX11_223 rfl k1_0 rfl rfl (e_mbegin k1_0) (by decide) (by decide) (Nat.le_of_ble_eq_true rfl) (fun v5 h5 n5 q5 => ?_)
    obtain ⟨rfl, N5, s5, z5, o5⟩ := q5
    rw [N5]
    refine zp_nrm (cells' := 0) (slots' := 0) (st' := []) rfl rfl rfl ?_
    have W6 := zmw.sh W4 ((s5).mono (fun i hi => by unfold zwf; unfold zon at hi; omega)) (z5) (fun i hi => hi)
    have xx5 : zar h5 87 1000 [] := zar.nil W6.m87 (by decide)
    refine zp_iload_n dX11_mac__24 rfl ?_
    refine zp_istore_n (ls' := [some (.ref (64)), some (.int (nI (zbi b))), some (.int (nI (8 * zwb b))), some (.int (nI (8 * zwb b)))]) dX11_mac__25 (by decide) rfl ?_
    refine zp_pc (pc' := 26) rfl ?_
    have T1 := ((hT).keep (sw2 _ (by unfold zon; omega))).keep (s5 _ (by unfold zon; omega))
    refine zp_ls (ls' := [some (.ref (64)), some (.int (nI (zbi b))), some (.int (nI (8 * zwb b))), some (.int (nI (8 * zwb b + 0)))]) rfl ?_
    have tb := hT.bytes
    have lD : (T.drop (8 * zwb b)).length = T.length - 8 * zwb b := List.length_drop
    have lp : ∀ (m : Nat) (k : Nat) (h1 : ZH), m = T.length - 8 * zwb b - k → k ≤ T.length - 8 * zwb b → zsm h5 h1 zsp → zsh h5 h1 → h1 64 = some (.inl (10, [.int (nI (0)), .ref (65), .ref (66), .ref (67), .ref (68), .ref (69), .ref (70), .ref (71), .ref (72), .ref (73), .ref (74), .ref (75), .ref (76), .ref (77), .ref (78), .ref (79), .ref (80), .ref (81), .ref (82), .ref (83), .ref (84), .int (nI (w.length)), .int (nI (zbi un)), .int (rp), .int (wi), .int (pa), .int (la), .int (ru), .int (sa), .int (m1), .int (s1), .int (ta), .int (fa), .ref (85), .ref (86), .ref (87), .int (nI (((T.drop (8 * zwb b)).take k).length)), .ref (88), .ref (89), .ref (90), .ref (91), .ref (92), .ref (93), .int (nI (T.length)), .ref (94), .int (nI (O.length))])) → zar h1 87 1000 ((T.drop (8 * zwb b)).take k) → zP g mX11_mac_ (zR 5 0 0) Qf 0 0 26 [some (.ref (64)), some (.int (nI (zbi b))), some (.int (nI (8 * zwb b))), some (.int (nI (8 * zwb b + k)))] [] h1 n := by
      intro m
      induction m using Nat.strongRecOn with
      | _ m ih =>
        intro k h1 hm1 hk1 s1 z1 o1 x1
        have T2 := T1.keep (s1 93 (by unfold zsp; omega))
        obtain ⟨la7, lb7, lc7, lf7, ld7, le7⟩ := id T2
        have lk : ((T.drop (8 * zwb b)).take k).length = k := by rw [List.length_take, lD]; omega
        refine zp_iload_n dX11_mac__26 rfl ?_
        refine zp_aload_n dX11_mac__27 rfl ?_
        refine zp_get dX11_mac__28 gX11_304_10 o1 rfl ?_
        refine zp_pc (pc' := 31) rfl ?_
        refine zn_icmp_ge (tgt := 50) dX11_mac__31 (by decide) (by omega) (by omega) (fun c31 => ?_) (fun c31 => ?_)
        · have ek : k = (T.drop (8 * zwb b)).length := by omega
          subst ek
          rw [List.take_length] at o1 x1
          have W1 := W6.sh s1 z1 (fun i q => by unfold zsp at q; unfold zwf; omega)
          refine zp_aload_n dX11_mac__50 rfl ?_
          refine zp_iload_n dX11_mac__51 rfl ?_
          refine zp_aload_n dX11_mac__52 rfl ?_
          refine zp_get dX11_mac__53 gX11_114_10 o1 rfl ?_
          refine zp_aload_n dX11_mac__56 rfl ?_
          refine zp_get dX11_mac__57 gX11_96_10 o1 rfl ?_
          refine zp_aload_n dX11_mac__60 rfl ?_
          refine zp_get dX11_mac__61 gX11_212_10 o1 rfl ?_
          refine zp_pc (pc' := 64) rfl ?_
          refine zp_callV (As := [.int (nI (zbi b)), .ref (93), .ref (87), .int (nI ((T.drop (8 * zwb b)).length))]) (k := 64) (st := []) (ci := 10) dX11_mac__64 cX11_253 rfl o1 rfl rfl (e_mmacW (b := b) (ks := T.take (8 * zwb b)) W1 o1 T2.take x1 (by decide) (by decide) (by rw [List.length_take]; omega) (by omega)) (by decide) (by decide) (Nat.le_of_ble_eq_true rfl) (fun v8 h8 n8 q8 => ?_)
          obtain ⟨rfl, N8, s8, z8, d8⟩ := q8
          rw [N8]
          refine zp_nrm (cells' := 0) (slots' := 0) (st' := []) rfl rfl rfl ?_
          have m9 : h8 (64) = some (.inl (10, [.int (nI (0)), .ref (65), .ref (66), .ref (67), .ref (68), .ref (69), .ref (70), .ref (71), .ref (72), .ref (73), .ref (74), .ref (75), .ref (76), .ref (77), .ref (78), .ref (79), .ref (80), .ref (81), .ref (82), .ref (83), .ref (84), .int (nI (w.length)), .int (nI (zbi un)), .int (rp), .int (wi), .int (pa), .int (la), .int (ru), .int (sa), .int (m1), .int (s1), .int (ta), .int (fa), .ref (85), .ref (86), .ref (87), .int (nI ((T.drop (8 * zwb b)).length)), .ref (88), .ref (89), .ref (90), .ref (91), .ref (92), .ref (93), .int (nI (T.length)), .ref (94), .int (nI (O.length))])) := (s8 _ (by unfold zb3; omega)).trans o1
          have m10 : h8 (93) = some (.inr (240, .inl lf7)) := (s8 _ (by unfold zb3; omega)).trans ld7
          refine zp_aload_n dX11_mac__67 rfl ?_
          refine zp_iload_n dX11_mac__68 rfl ?_
          refine zp_pc (pc' := 69) rfl ?_
          refine zp_i (y := nI ((zmac b (T.take (8 * zwb b)) (T.drop (8 * zwb b))).length)) (by rw [zmac_len]) ?_
          have O1 := ((((hO).keep (sw2 _ (by unfold zon; omega))).keep (s5 _ (by unfold zon; omega))).keep (s1 94 (by unfold zsp; omega))).keep (s8 94 (by unfold zb3; omega))
          refine zp_callV (As := [.int (nI ((zmac b (T.take (8 * zwb b)) (T.drop (8 * zwb b))).length))]) (k := 64) (st := []) (ci := 10) dX11_mac__69 cX11_351 rfl m9 rfl rfl (e_show m9 d8 O1.ia) (by decide) (by decide) (Nat.le_of_ble_eq_true rfl) (fun v11 h11 n11 q11 => ?_)
          obtain ⟨rfl, N11, s11, z11, o11, q11⟩ := q11
          rw [N11]
          refine zp_nrm (cells' := 0) (slots' := 0) (st' := []) rfl rfl rfl ?_
          have m12 : h11 (93) = some (.inr (240, .inl lf7)) := (s11 _ (by unfold zsw4; omega)).trans m10
          refine zp_iconst (v := nI (1)) dX11_mac__72 (by decide) ?_
          refine zp_pc (pc' := 73) rfl ?_
          refine zp_i (y := nI (zbi true)) rfl ?_
          have eq9 : (zqmac b (T, O, (w, rp, wi, pa, un, la, ru, sa, me, se, ta, fa), Gs)) = (true, T, (zmac b (T.take (8 * zwb b)) (T.drop (8 * zwb b))), (w, rp, wi, pa, un, la, ru, sa, me, se, ta, fa), Gs) := if_neg (by omega)
          refine zp_ret (v := (some (.int (nI (zbi true))))) dX11_mac__73 ⟨⟨_, rfl, ((zfit_b _) g).1⟩, rfl⟩ (by decide) (by decide) ?_
          rw [hQ]
          rw [eq9]; exact ⟨rfl, rfl, (((((sw2).mono (fun i hi => by unfold zmA; unfold zon at hi; omega)).trans ((s5).mono (fun i hi => by unfold zmA; unfold zon at hi; omega))).trans ((s1).mono (fun i hi => by unfold zmA; unfold zsp at hi; omega))).trans ((s8).mono (fun i hi => by unfold zmA; unfold zb3 at hi; omega))).trans ((s11).mono (fun i hi => by unfold zmA; unfold zsw4 at hi; omega)), H.upd ((((((sw2).mono (fun i hi => by unfold zcz; unfold zon at hi; omega)).trans ((s5).mono (fun i hi => by unfold zcz; unfold zon at hi; omega))).trans ((s1).mono (fun i hi => by unfold zcz; unfold zsp at hi; omega))).trans ((s8).mono (fun i hi => by unfold zcz; unfold zb3 at hi; omega))).trans ((s11).mono (fun i hi => by unfold zcz; unfold zsw4 at hi; omega))) (((((zw2).trans z5).trans z1).trans z8).trans z11) ⟨_, _, _, _, o11, hms⟩ ((((((hx).keep (sw2 _ (by unfold zon; omega))).keep (s5 _ (by unfold zon; omega))).keep (s1 _ (by unfold zsp; omega))).keep (s8 _ (by unfold zb3; omega))).keep (s11 _ (by unfold zsw4; omega))) ((((((hT).keep (sw2 _ (by unfold zon; omega))).keep (s5 _ (by unfold zon; omega))).keep (s1 _ (by unfold zsp; omega))).keep (s8 _ (by unfold zb3; omega))).keep (s11 _ (by unfold zsw4; omega))) (q11) hS (by omega)⟩
        · have hby := zgetD_lt tb (8 * zwb b + k)
          refine zp_aload_n dX11_mac__34 rfl ?_
          refine zp_aload_n dX11_mac__35 rfl ?_
          refine zp_get dX11_mac__36 gX11_114_10 o1 rfl ?_
          refine zp_iload_n dX11_mac__39 rfl ?_
          refine zp_pc (pc' := 40) rfl ?_
          refine zn_iald (j := 8 * zwb b + k) dX11_mac__40 ld7 (by omega) (by omega) ?_
          refine zp_i (y := nI ((T.drop (8 * zwb b)).getD k 0)) (by rw [zget_drop]; exact le7 _ (by omega)) ?_
          have et : ((T.drop (8 * zwb b)).take k) ++ [(T.drop (8 * zwb b)).getD k 0] = ((T.drop (8 * zwb b)).take (k + 1)) := ztake_step (by omega)
          refine zp_callV (As := [.int (nI ((T.drop (8 * zwb b)).getD k 0))]) (k := 64) (st := []) (ci := 10) dX11_mac__41 cX11_215 rfl o1 rfl rfl (e_mput (xs := ((T.drop (8 * zwb b)).take k)) (x := (T.drop (8 * zwb b)).getD k 0) o1 x1 (by rw [zget_drop]; exact hby) (by omega)) (by decide) (by decide) (Nat.le_of_ble_eq_true rfl) (fun v13 h13 n13 q13 => ?_)
          obtain ⟨rfl, N13, s13, z13, o13, x13⟩ := q13
          rw [N13]
          refine zp_nrm (cells' := 0) (slots' := 0) (st' := []) rfl rfl rfl ?_
          have m14 : h13 (93) = some (.inr (240, .inl lf7)) := (s13 _ (by unfold zsp; omega)).trans ld7
          rw [et] at o13 x13
          refine zn_iinc 1 (ls' := [some (.ref (64)), some (.int (nI (zbi b))), some (.int (nI (8 * zwb b))), some (.int (nI (8 * zwb b + k + 1)))]) dX11_mac__44 (by decide) (by decide) rfl rfl ?_
          refine zp_pc (pc' := 47) rfl ?_
          refine zp_ls (ls' := [some (.ref (64)), some (.int (nI (zbi b))), some (.int (nI (8 * zwb b))), some (.int (nI (8 * zwb b + (k + 1))))]) rfl ?_
          refine zp_goto (tgt := 26) dX11_mac__47 (by decide) ?_
          refine zp_pc (pc' := 26) rfl ?_
          exact ih (T.length - 8 * zwb b - (k + 1)) (by omega) (k + 1) h13 rfl (by omega) (s1.trans s13) (z1.trans z13) o13 x13
    exact lp _ 0 h5 rfl (Nat.zero_le _) zsm.rf zsh.rf o5 xx5
  · refine zp_iconst (v := nI (0)) dX11_mac__18 (by decide) ?_
    refine zp_pc (pc' := 19) rfl ?_
    refine zp_i (y := nI (zbi false)) rfl ?_
    have eq9 : (zqmac b (T, O, (w, rp, wi, pa, un, la, ru, sa, me, se, ta, fa), Gs)) = (false, T, O, (w, rp, wi, pa, un, la, ru, sa, me, se, ta, fa), Gs) := if_pos (by omega)
    refine zp_ret (v := (some (.int (nI (zbi false))))) dX11_mac__19 ⟨⟨_, rfl, ((zfit_b _) g).1⟩, rfl⟩ (by decide) (by decide) ?_
    rw [hQ]
    rw [eq9]; exact ⟨rfl, rfl, (sw2).mono (fun i hi => by unfold zmA; unfold zon at hi; omega), H.upd ((sw2).mono (fun i hi => by unfold zcz; unfold zon at hi; omega)) (zw2) ⟨_, _, _, _, k1_0, hms⟩ ((hx).keep (sw2 _ (by unfold zon; omega))) ((hT).keep (sw2 _ (by unfold zon; omega))) ((hO).keep (sw2 _ (by unfold zon; omega))) hS (by omega)⟩
set_option maxRecDepth 10000 in
set_option maxHeartbeats 2000000 in
theorem E_cipher {g : ZG} {h : ZH} {n : Nat} {t : Nat} {T O w : List Nat} {un : Bool} {rp wi pa la ru sa me se ta fa : Int32} {Gs : Nat → Option ZGn} {b : Bool} (H : zMD t h (T, O, (w, rp, wi, pa, un, la, ru, sa, me, se, ta, fa), Gs)) : zMt g mX11_cipher_ (zR 3 0 0) [.ref (64), .int (nI (zbi b))] h n (fun v h' n' => v = some (.int (nI (zbi (zqcipher b (T, O, (w, rp, wi, pa, un, la, ru, sa, me, se, ta, fa), Gs)).1))) ∧ n' = n ∧ zsm h h' zmA ∧ zMD (t + 2) h' (zqcipher b (T, O, (w, rp, wi, pa, un, la, ru, sa, me, se, ta, fa), Gs)).2) := by
  refine zMt.of [some (.ref (64)), some (.int (nI (zbi b))), none, none] (by decide) rfl (Nat.le_of_ble_eq_true rfl) ?_
  obtain ⟨Qf, hQ⟩ : ∃ Qf : ZQ, Qf = (fun v h' n' => v = some (.int (nI (zbi (zqcipher b (T, O, (w, rp, wi, pa, un, la, ru, sa, me, se, ta, fa), Gs)).1))) ∧ n' = n ∧ zsm h h' zmA ∧ zMD (t + 2) h' (zqcipher b (T, O, (w, rp, wi, pa, un, la, ru, sa, me, se, ta, fa), Gs)).2) := ⟨_, rfl⟩
  rw [← hQ]
  obtain ⟨⟨th, mn, m1, s1, ho, hms⟩, hw, hx, h85, ⟨Aa, h86, hAa⟩, hT, hO, hG, hS⟩ := id H
  have ho : h 64 = some (.inl (10, [.int (th), .ref (65), .ref (66), .ref (67), .ref (68), .ref (69), .ref (70), .ref (71), .ref (72), .ref (73), .ref (74), .ref (75), .ref (76), .ref (77), .ref (78), .ref (79), .ref (80), .ref (81), .ref (82), .ref (83), .ref (84), .int (nI (w.length)), .int (nI (zbi un)), .int (rp), .int (wi), .int (pa), .int (la), .int (ru), .int (sa), .int (m1), .int (s1), .int (ta), .int (fa), .ref (85), .ref (86), .ref (87), .int (nI (mn)), .ref (88), .ref (89), .ref (90), .ref (91), .ref (92), .ref (93), .int (nI (T.length)), .ref (94), .int (nI (O.length))])) := ho
  have hx : zar h 84 1000 w := hx
  have lT := hT.1
  have lO := hO.1
  have lw := hx.1
  have hz := zkl_or b
  refine zp_aload_n dX11_cipher__0 rfl ?_
  refine zp_iconst (v := nI (0)) dX11_cipher__1 (by decide) ?_
  refine zp_put (fs' := [.int (nI (0)), .ref (65), .ref (66), .ref (67), .ref (68), .ref (69), .ref (70), .ref (71), .ref (72), .ref (73), .ref (74), .ref (75), .ref (76), .ref (77), .ref (78), .ref (79), .ref (80), .ref (81), .ref (82), .ref (83), .ref (84), .int (nI (w.length)), .int (nI (zbi un)), .int (rp), .int (wi), .int (pa), .int (la), .int (ru), .int (sa), .int (m1), .int (s1), .int (ta), .int (fa), .ref (85), .ref (86), .ref (87), .int (nI (mn)), .ref (88), .ref (89), .ref (90), .ref (91), .ref (92), .ref (93), .int (nI (T.length)), .ref (94), .int (nI (O.length))]) dX11_cipher__2 pX11_133_10 (by omega) ho (Nat.le_of_ble_eq_true rfl) (zfit_i _) rfl ?_
  refine zp_nh (fun h1x eh1x => ?_)
  have k1_0 : h1x (64) = some (.inl (10, [.int (nI (0)), .ref (65), .ref (66), .ref (67), .ref (68), .ref (69), .ref (70), .ref (71), .ref (72), .ref (73), .ref (74), .ref (75), .ref (76), .ref (77), .ref (78), .ref (79), .ref (80), .ref (81), .ref (82), .ref (83), .ref (84), .int (nI (w.length)), .int (nI (zbi un)), .int (rp), .int (wi), .int (pa), .int (la), .int (ru), .int (sa), .int (m1), .int (s1), .int (ta), .int (fa), .ref (85), .ref (86), .ref (87), .int (nI (mn)), .ref (88), .ref (89), .ref (90), .ref (91), .ref (92), .ref (93), .int (nI (T.length)), .ref (94), .int (nI (O.length))])) := by rw [eh1x]; exact va_up_self _ _ _
  have sw2 : zsm h h1x (zon (64)) := zsm.rf.up eh1x rfl
  have zw2 : zsh h h1x := zsh.obj eh1x ho
  refine zp_iload_n dX11_cipher__5 rfl ?_
  refine zp_pc (pc' := 6) rfl ?_
  have jn3 : zP g mX11_cipher_ (zR 3 0 0) Qf 0 0 16 [some (.ref (64)), some (.int (nI (zbi b))), none, none] [.int (nI (zkl b))] h1x n → zP g mX11_cipher_ (zR 3 0 0) Qf 0 0 6 [some (.ref (64)), some (.int (nI (zbi b))), none, none] [.int (nI (zbi b))] h1x n := by
    intro jk3
    refine zn_if_eq (tgt := 14) dX11_cipher__6 (by decide) (by have := zbi_lt b; omega) (fun c6 => ?_) (fun c6 => ?_)
    · have bb : b = false := by cases b; rfl; exact absurd c6 (by decide)
      refine zp_bipush (v := nI (16)) dX11_cipher__14 (by decide) ?_
      refine zp_pc (pc' := 16) rfl ?_
      refine zp_i (y := nI (zkl b)) (by rw [bb]; rfl) ?_
      exact jk3
    · have bb : b = true := by cases b; exact absurd rfl c6; rfl
      refine zp_bipush (v := nI (32)) dX11_cipher__9 (by decide) ?_
      refine zp_goto (tgt := 16) dX11_cipher__11 (by decide) ?_
      refine zp_pc (pc' := 16) rfl ?_
      refine zp_i (y := nI (zkl b)) (by rw [bb]; rfl) ?_
      exact jk3
  refine jn3 ?_
  refine zp_istore_n (ls' := [some (.ref (64)), some (.int (nI (zbi b))), some (.int (nI (zkl b))), none]) dX11_cipher__16 (by decide) rfl ?_
  refine zp_aload_n dX11_cipher__17 rfl ?_
  refine zp_get dX11_cipher__18 gX11_304_10 k1_0 rfl ?_
  refine zp_iload_n dX11_cipher__21 rfl ?_
  refine zp_bipush (v := nI (16)) dX11_cipher__22 (by decide) ?_
  refine zn_iadd dX11_cipher__24 ?_
  refine zp_pc (pc' := 25) rfl ?_
  refine zn_icmp_eq (tgt := 30) dX11_cipher__25 (by decide) (by omega) (by omega) (fun c25 => ?_) (fun c25 => ?_)
  · have T1 := (hT).keep (sw2 _ (by unfold zon; omega))
    obtain ⟨la4, lb4, lc4, lf4, ld4, le4⟩ := id T1
    have W5 := zmw.sh hw ((sw2).mono (fun i hi => by unfold zwf; unfold zon at hi; omega)) (zw2) (fun i hi => hi)
    obtain ⟨if6, ih6⟩ := id (W5.m91)
    have lD : (T.drop (zkl b)).length = 16 := by rw [List.length_drop]; omega
    refine zp_iconst (v := nI (0)) dX11_cipher__30 (by decide) ?_
    refine zp_istore_n (ls' := [some (.ref (64)), some (.int (nI (zbi b))), some (.int (nI (zkl b))), some (.int (nI (0)))]) dX11_cipher__31 (by decide) rfl ?_
    refine zp_pc (pc' := 32) rfl ?_
    have lp7 : zP g mX11_cipher_ (zR 3 0 0) Qf 0 0 58 [some (.ref (64)), some (.int (nI (zbi b))), some (.int (nI (zkl b))), some (.int (nI (16)))] [] (va_up h1x (91) (some (.inr (16, .inl (zfl if6 (0) (16) (fun i => nI ((T.drop (zkl b)).getD i 0))))))) n → ∀ (m k7 : Nat), m = (16) - k7 → k7 ≤ (16) → zP g mX11_cipher_ (zR 3 0 0) Qf 0 0 32 [some (.ref (64)), some (.int (nI (zbi b))), some (.int (nI (zkl b))), some (.int (nI (k7)))] [] (va_up h1x (91) (some (.inr (16, .inl (zfl if6 (0) (k7) (fun i => nI ((T.drop (zkl b)).getD i 0))))))) n := by
      intro kk m
      induction m using Nat.strongRecOn with
      | _ m ih =>
        intro k7 hm7 hk7
        refine zp_nh (fun hX7 eX7 => ?_)
        have k8_0 := (congrFun eX7 (64)).trans ((va_up_ne _ _ (by omega)).trans k1_0)
        have k8_1 := (congrFun eX7 (93)).trans ((va_up_ne _ _ (by omega)).trans ld4)
        have k8_2 : hX7 (91) = some (.inr (16, .inl (zfl if6 (0) (k7) (fun i => nI ((T.drop (zkl b)).getD i 0))))) := by rw [eX7]; exact va_up_self _ _ _
        refine zp_iload_n dX11_cipher__32 rfl ?_
        refine zp_bipush (v := nI (16)) dX11_cipher__33 (by decide) ?_
        refine zp_pc (pc' := 35) rfl ?_
        refine zn_icmp_ge (tgt := 58) dX11_cipher__35 (by decide) (by omega) (by omega) (fun c35 => ?_) (fun c35 => ?_)
        · have e7 : k7 = (16) := by omega
          subst e7
          rw [eX7]
          exact kk
        · refine zp_aload_n dX11_cipher__38 rfl ?_
          refine zp_get dX11_cipher__39 gX11_108_10 k8_0 rfl ?_
          refine zp_iload_n dX11_cipher__42 rfl ?_
          refine zp_aload_n dX11_cipher__43 rfl ?_
          refine zp_get dX11_cipher__44 gX11_114_10 k8_0 rfl ?_
          refine zp_iload_n dX11_cipher__47 rfl ?_
          refine zp_iload_n dX11_cipher__48 rfl ?_
          refine zn_iadd dX11_cipher__49 ?_
          refine zp_pc (pc' := 50) rfl ?_
          refine zn_iald (j := (zkl b) + (k7)) dX11_cipher__50 k8_1 (by omega) (by omega) ?_
          refine zp_i (y := nI ((T.drop (zkl b)).getD k7 0)) (by rw [zget_drop]; exact le4 _ (by omega)) ?_
          refine zn_iast dX11_cipher__51 (by omega) k8_2 (by omega) (by omega) ?_
          refine zp_nh (fun h9x eh9x => ?_)
          have k9_0 := (congrFun eh9x (64)).trans ((va_up_ne _ _ (by omega)).trans k8_0)
          have k9_1 := (congrFun eh9x (93)).trans ((va_up_ne _ _ (by omega)).trans k8_1)
          have k9_2 : h9x (91) = some (.inr (16, .inl (va_up (zfl if6 (0) (k7) (fun i => nI ((T.drop (zkl b)).getD i 0))) (k7) (nI ((T.drop (zkl b)).getD k7 0))))) := by rw [eh9x]; exact va_up_self _ _ _
          have sw10 : zsm hX7 h9x (zon (91)) := zsm.rf.up eh9x rfl
          have zw10 : zsh hX7 h9x := zsh.fill eh9x k8_2
          refine zp_pc (pc' := 52) rfl ?_
          refine zn_iinc 1 (ls' := [some (.ref (64)), some (.int (nI (zbi b))), some (.int (nI (zkl b))), some (.int (nI (k7 + 1)))]) dX11_cipher__52 (by decide) (by decide) rfl rfl ?_
          refine zp_goto (tgt := 32) dX11_cipher__55 (by decide) ?_
          refine zp_pc (pc' := 32) rfl ?_
          rw [zfl_step eX7 eh9x (by omega) rfl]
          exact ih ((16) - (k7 + 1)) (by omega) (k7 + 1) rfl (by omega)
    suffices K7 : zP g mX11_cipher_ (zR 3 0 0) Qf 0 0 58 [some (.ref (64)), some (.int (nI (zbi b))), some (.int (nI (zkl b))), some (.int (nI (16)))] [] (va_up h1x (91) (some (.inr (16, .inl (zfl if6 (0) (16) (fun i => nI ((T.drop (zkl b)).getD i 0))))))) n by
      have q := lp7 K7 ((16) - 0) 0 rfl (Nat.zero_le _)
      rw [zfl_0, zup_same ih6] at q
      exact q
    refine zp_nh (fun hY7 eY7 => ?_)
    have k11_0 := (congrFun eY7 (64)).trans ((va_up_ne _ _ (by omega)).trans k1_0)
    have k11_1 := (congrFun eY7 (93)).trans ((va_up_ne _ _ (by omega)).trans ld4)
    have k11_2 : hY7 (91) = some (.inr (16, .inl (zfl if6 (0) (16) (fun i => nI ((T.drop (zkl b)).getD i 0))))) := by rw [eY7]; exact va_up_self _ _ _
    have sf12 := (zsm.fill eY7)
    have zf12 := zsh.fill eY7 ih6
    have aB : zar hY7 91 16 (T.drop (zkl b)) := zar.mk (L := 16) k11_2 lD (by decide) (by decide) (fun y hy => lc4 y (List.mem_of_mem_drop hy)) (fun j hj => zfl_in0 hj)
    refine zp_aload_n dX11_cipher__58 rfl ?_
    refine zp_aload_n dX11_cipher__59 rfl ?_
    refine zp_get dX11_cipher__60 gX11_114_10 k11_0 rfl ?_
    refine zp_iload_n dX11_cipher__63 rfl ?_
    refine zp_aload_n dX11_cipher__64 rfl ?_
    refine zp_get dX11_cipher__65 gX11_108_10 k11_0 rfl ?_
    refine zp_pc (pc' := 68) rfl ?_
    have W13 := zmw.sh W5 ((sf12).mono (fun i hi => by unfold zwf; unfold zon at hi; omega)) (zf12) (fun i hi => hi)
    refine zp_callV (As := [.ref (93), .int (nI (zkl b)), .ref (91)]) (k := 64) (st := []) (ci := 10) dX11_cipher__68 cX11_186 rfl k11_0 rfl rfl (e_mcipher (b := b) (q := 93) (r := 91) W13.2.2.2.1 k11_0 (((T1).keep (sf12 _ (by unfold zon; omega))).take (m := zkl b)) aB (by decide) (by decide) (by rw [List.length_take]; omega) lD) (by decide) (by decide) (Nat.le_of_ble_eq_true rfl) (fun v14 h14 n14 q14 => ?_)
    obtain ⟨rfl, N14, s14, z14, d14⟩ := q14
    rw [N14]
    refine zp_nrm (cells' := 0) (slots' := 0) (st' := []) rfl rfl rfl ?_
    have m15 : h14 (64) = some (.inl (10, [.int (nI (0)), .ref (65), .ref (66), .ref (67), .ref (68), .ref (69), .ref (70), .ref (71), .ref (72), .ref (73), .ref (74), .ref (75), .ref (76), .ref (77), .ref (78), .ref (79), .ref (80), .ref (81), .ref (82), .ref (83), .ref (84), .int (nI (w.length)), .int (nI (zbi un)), .int (rp), .int (wi), .int (pa), .int (la), .int (ru), .int (sa), .int (m1), .int (s1), .int (ta), .int (fa), .ref (85), .ref (86), .ref (87), .int (nI (mn)), .ref (88), .ref (89), .ref (90), .ref (91), .ref (92), .ref (93), .int (nI (T.length)), .ref (94), .int (nI (O.length))])) := (s14 _ (by unfold zs3; omega)).trans k11_0
    have m16 : h14 (93) = some (.inr (240, .inl lf4)) := (s14 _ (by unfold zs3; omega)).trans k11_1
    obtain ⟨la17, lb17, lc17, lf17, ld17, le17⟩ := id d14
    obtain ⟨if18, ih18⟩ := id ((((hO.ia).keep (sw2 _ (by unfold zon; omega))).keep (sf12 _ (by unfold zon; omega))).keep (s14 _ (by unfold zs3; omega)))
    refine zp_iconst (v := nI (0)) dX11_cipher__71 (by decide) ?_
    refine zp_istore_n (ls' := [some (.ref (64)), some (.int (nI (zbi b))), some (.int (nI (zkl b))), some (.int (nI (0)))]) dX11_cipher__72 (by decide) rfl ?_
    refine zp_pc (pc' := 73) rfl ?_
    have lp19 : zP g mX11_cipher_ (zR 3 0 0) Qf 0 0 97 [some (.ref (64)), some (.int (nI (zbi b))), some (.int (nI (zkl b))), some (.int (nI (16)))] [] (va_up h14 (94) (some (.inr (4096, .inl (zfl if18 (0) (16) (fun i => nI ((zenc b (T.take (zkl b)) (T.drop (zkl b))).getD i 0))))))) n → ∀ (m k19 : Nat), m = (16) - k19 → k19 ≤ (16) → zP g mX11_cipher_ (zR 3 0 0) Qf 0 0 73 [some (.ref (64)), some (.int (nI (zbi b))), some (.int (nI (zkl b))), some (.int (nI (k19)))] [] (va_up h14 (94) (some (.inr (4096, .inl (zfl if18 (0) (k19) (fun i => nI ((zenc b (T.take (zkl b)) (T.drop (zkl b))).getD i 0))))))) n := by
      intro kk m
      induction m using Nat.strongRecOn with
      | _ m ih =>
        intro k19 hm19 hk19
        refine zp_nh (fun hX19 eX19 => ?_)
        have k20_0 := (congrFun eX19 (64)).trans ((va_up_ne _ _ (by omega)).trans m15)
        have k20_1 := (congrFun eX19 (93)).trans ((va_up_ne _ _ (by omega)).trans m16)
        have k20_2 := (congrFun eX19 (91)).trans ((va_up_ne _ _ (by omega)).trans ld17)
        have k20_3 : hX19 (94) = some (.inr (4096, .inl (zfl if18 (0) (k19) (fun i => nI ((zenc b (T.take (zkl b)) (T.drop (zkl b))).getD i 0))))) := by rw [eX19]; exact va_up_self _ _ _
        refine zp_iload_n dX11_cipher__73 rfl ?_
        refine zp_bipush (v := nI (16)) dX11_cipher__74 (by decide) ?_
        refine zp_pc (pc' := 76) rfl ?_
        refine zn_icmp_ge (tgt := 97) dX11_cipher__76 (by decide) (by omega) (by omega) (fun c76 => ?_) (fun c76 => ?_)
        · have e19 : k19 = (16) := by omega
          subst e19
          rw [eX19]
          exact kk
        · refine zp_aload_n dX11_cipher__79 rfl ?_
          refine zp_get dX11_cipher__80 gX11_117_10 k20_0 rfl ?_
          refine zp_iload_n dX11_cipher__83 rfl ?_
          refine zp_aload_n dX11_cipher__84 rfl ?_
          refine zp_get dX11_cipher__85 gX11_108_10 k20_0 rfl ?_
          refine zp_iload_n dX11_cipher__88 rfl ?_
          refine zp_pc (pc' := 89) rfl ?_
          refine zn_iald (j := k19) dX11_cipher__89 k20_2 (by omega) (by omega) ?_
          refine zp_i (y := nI ((zenc b (T.take (zkl b)) (T.drop (zkl b))).getD k19 0)) (le17 _ (by rw [zenc_len]; omega)) ?_
          refine zn_iast dX11_cipher__90 (by omega) k20_3 (by omega) (by omega) ?_
          refine zp_nh (fun h21x eh21x => ?_)
          have k21_0 := (congrFun eh21x (64)).trans ((va_up_ne _ _ (by omega)).trans k20_0)
          have k21_1 := (congrFun eh21x (93)).trans ((va_up_ne _ _ (by omega)).trans k20_1)
          have k21_2 := (congrFun eh21x (91)).trans ((va_up_ne _ _ (by omega)).trans k20_2)
          have k21_3 : h21x (94) = some (.inr (4096, .inl (va_up (zfl if18 (0) (k19) (fun i => nI ((zenc b (T.take (zkl b)) (T.drop (zkl b))).getD i 0))) (k19) (nI ((zenc b (T.take (zkl b)) (T.drop (zkl b))).getD k19 0))))) := by rw [eh21x]; exact va_up_self _ _ _
          have sw22 : zsm hX19 h21x (zon (94)) := zsm.rf.up eh21x rfl
          have zw22 : zsh hX19 h21x := zsh.fill eh21x k20_3
          refine zp_pc (pc' := 91) rfl ?_
          refine zn_iinc 1 (ls' := [some (.ref (64)), some (.int (nI (zbi b))), some (.int (nI (zkl b))), some (.int (nI (k19 + 1)))]) dX11_cipher__91 (by decide) (by decide) rfl rfl ?_
          refine zp_goto (tgt := 73) dX11_cipher__94 (by decide) ?_
          refine zp_pc (pc' := 73) rfl ?_
          rw [zfl_step eX19 eh21x (by omega) rfl]
          exact ih ((16) - (k19 + 1)) (by omega) (k19 + 1) rfl (by omega)
    suffices K19 : zP g mX11_cipher_ (zR 3 0 0) Qf 0 0 97 [some (.ref (64)), some (.int (nI (zbi b))), some (.int (nI (zkl b))), some (.int (nI (16)))] [] (va_up h14 (94) (some (.inr (4096, .inl (zfl if18 (0) (16) (fun i => nI ((zenc b (T.take (zkl b)) (T.drop (zkl b))).getD i 0))))))) n by
      have q := lp19 K19 ((16) - 0) 0 rfl (Nat.zero_le _)
      rw [zfl_0, zup_same ih18] at q
      exact q
    refine zp_nh (fun hY19 eY19 => ?_)
    have k23_0 := (congrFun eY19 (64)).trans ((va_up_ne _ _ (by omega)).trans m15)
    have k23_1 := (congrFun eY19 (93)).trans ((va_up_ne _ _ (by omega)).trans m16)
    have k23_2 := (congrFun eY19 (91)).trans ((va_up_ne _ _ (by omega)).trans ld17)
    have k23_3 : hY19 (94) = some (.inr (4096, .inl (zfl if18 (0) (16) (fun i => nI ((zenc b (T.take (zkl b)) (T.drop (zkl b))).getD i 0))))) := by rw [eY19]; exact va_up_self _ _ _
    have sf24 := (zsm.fill eY19)
    have zf24 := zsh.fill eY19 ih18
    have aO : zar hY19 94 4096 (zenc b (T.take (zkl b)) (T.drop (zkl b))) := zar.mk (L := 16) k23_3 (zenc_len ..) (by decide) (by decide) lc17 (fun j hj => zfl_in0 hj)
    refine zp_aload_n dX11_cipher__97 rfl ?_
    refine zp_pc (pc' := 98) rfl ?_
    refine zp_bipush (v := nI (16)) dX11_cipher__98 (by decide) ?_
    refine zp_i (y := nI ((zenc b (T.take (zkl b)) (T.drop (zkl b))).length)) (by rw [zenc_len]) ?_
    refine zp_put (fs' := [.int (nI (0)), .ref (65), .ref (66), .ref (67), .ref (68), .ref (69), .ref (70), .ref (71), .ref (72), .ref (73), .ref (74), .ref (75), .ref (76), .ref (77), .ref (78), .ref (79), .ref (80), .ref (81), .ref (82), .ref (83), .ref (84), .int (nI (w.length)), .int (nI (zbi un)), .int (rp), .int (wi), .int (pa), .int (la), .int (ru), .int (sa), .int (m1), .int (s1), .int (ta), .int (fa), .ref (85), .ref (86), .ref (87), .int (nI (mn)), .ref (88), .ref (89), .ref (90), .ref (91), .ref (92), .ref (93), .int (nI (T.length)), .ref (94), .int (nI ((zenc b (T.take (zkl b)) (T.drop (zkl b))).length))]) dX11_cipher__100 pX11_342_10 (by omega) k23_0 (Nat.le_of_ble_eq_true rfl) (zfit_i _) rfl ?_
    refine zp_nh (fun h25x eh25x => ?_)
    have k25_0 : h25x (64) = some (.inl (10, [.int (nI (0)), .ref (65), .ref (66), .ref (67), .ref (68), .ref (69), .ref (70), .ref (71), .ref (72), .ref (73), .ref (74), .ref (75), .ref (76), .ref (77), .ref (78), .ref (79), .ref (80), .ref (81), .ref (82), .ref (83), .ref (84), .int (nI (w.length)), .int (nI (zbi un)), .int (rp), .int (wi), .int (pa), .int (la), .int (ru), .int (sa), .int (m1), .int (s1), .int (ta), .int (fa), .ref (85), .ref (86), .ref (87), .int (nI (mn)), .ref (88), .ref (89), .ref (90), .ref (91), .ref (92), .ref (93), .int (nI (T.length)), .ref (94), .int (nI ((zenc b (T.take (zkl b)) (T.drop (zkl b))).length))])) := by rw [eh25x]; exact va_up_self _ _ _
    have k25_1 := (congrFun eh25x (93)).trans ((va_up_ne _ _ (by omega)).trans k23_1)
    have k25_2 := (congrFun eh25x (91)).trans ((va_up_ne _ _ (by omega)).trans k23_2)
    have k25_3 := (congrFun eh25x (94)).trans ((va_up_ne _ _ (by omega)).trans k23_3)
    have sw26 : zsm hY19 h25x (zon (64)) := zsm.rf.up eh25x rfl
    have zw26 : zsh hY19 h25x := zsh.obj eh25x k23_0
    refine zp_iconst (v := nI (1)) dX11_cipher__103 (by decide) ?_
    refine zp_pc (pc' := 104) rfl ?_
    refine zp_i (y := nI (zbi true)) rfl ?_
    have aO9 := (aO).keep (sw26 _ (by unfold zon; omega))
    have eq9 : (zqcipher b (T, O, (w, rp, wi, pa, un, la, ru, sa, me, se, ta, fa), Gs)) = (true, T, (zenc b (T.take (zkl b)) (T.drop (zkl b))), (w, rp, wi, pa, un, la, ru, sa, me, se, ta, fa), Gs) := if_pos (by omega)
    refine zp_ret (v := (some (.int (nI (zbi true))))) dX11_cipher__104 ⟨⟨_, rfl, ((zfit_b _) g).1⟩, rfl⟩ (by decide) (by decide) ?_
    rw [hQ]
    rw [eq9]; exact ⟨rfl, rfl, (((((sw2).mono (fun i hi => by unfold zmA; unfold zon at hi; omega)).trans ((sf12).mono (fun i hi => by unfold zmA; unfold zon at hi; omega))).trans ((s14).mono (fun i hi => by unfold zmA; unfold zs3 at hi; omega))).trans ((sf24).mono (fun i hi => by unfold zmA; unfold zon at hi; omega))).trans ((sw26).mono (fun i hi => by unfold zmA; unfold zon at hi; omega)), H.upd ((((((sw2).mono (fun i hi => by unfold zcz; unfold zon at hi; omega)).trans ((sf12).mono (fun i hi => by unfold zcz; unfold zon at hi; omega))).trans ((s14).mono (fun i hi => by unfold zcz; unfold zs3 at hi; omega))).trans ((sf24).mono (fun i hi => by unfold zcz; unfold zon at hi; omega))).trans ((sw26).mono (fun i hi => by unfold zcz; unfold zon at hi; omega))) (((((zw2).trans zf12).trans z14).trans zf24).trans zw26) ⟨_, _, _, _, k25_0, hms⟩ ((((((hx).keep (sw2 _ (by unfold zon; omega))).keep (sf12 _ (by unfold zon; omega))).keep (s14 _ (by unfold zs3; omega))).keep (sf24 _ (by unfold zon; omega))).keep (sw26 _ (by unfold zon; omega))) ((((((hT).keep (sw2 _ (by unfold zon; omega))).keep (sf12 _ (by unfold zon; omega))).keep (s14 _ (by unfold zs3; omega))).keep (sf24 _ (by unfold zon; omega))).keep (sw26 _ (by unfold zon; omega))) (aO9) hS (by omega)⟩
  · refine zp_iconst (v := nI (0)) dX11_cipher__28 (by decide) ?_
    refine zp_pc (pc' := 29) rfl ?_
    refine zp_i (y := nI (zbi false)) rfl ?_
    have eq9 : (zqcipher b (T, O, (w, rp, wi, pa, un, la, ru, sa, me, se, ta, fa), Gs)) = (false, T, O, (w, rp, wi, pa, un, la, ru, sa, me, se, ta, fa), Gs) := if_neg (by omega)
    refine zp_ret (v := (some (.int (nI (zbi false))))) dX11_cipher__29 ⟨⟨_, rfl, ((zfit_b _) g).1⟩, rfl⟩ (by decide) (by decide) ?_
    rw [hQ]
    rw [eq9]; exact ⟨rfl, rfl, (sw2).mono (fun i hi => by unfold zmA; unfold zon at hi; omega), H.upd ((sw2).mono (fun i hi => by unfold zcz; unfold zon at hi; omega)) (zw2) ⟨_, _, _, _, k1_0, hms⟩ ((hx).keep (sw2 _ (by unfold zon; omega))) ((hT).keep (sw2 _ (by unfold zon; omega))) ((hO).keep (sw2 _ (by unfold zon; omega))) hS (by omega)⟩
