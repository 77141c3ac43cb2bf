theorem ztset_no {S : ZSup} {a b c : Int32} (h : ¬ (nI 2 ≤ a ∧ a ≤ nI 40) ∨ ¬ (nI 16 ≤ b ∧ b ≤ nI 1024) ∨ ¬ (nI 2 ≤ c ∧ c ≤ b)) : ztset S a b c = false := by
  unfold ztset
  rcases h with h | h | h
  · rcases zin_not h with q | q
    · rw [if_pos q]
    · by_cases q1 : a < nI 2
      · rw [if_pos q1]
      · rw [if_neg q1, if_pos q]
  · split
    · rfl
    · split
      · rfl
      · rcases zin_not h with q | q
        · rw [if_pos q]
        · by_cases q1 : b < nI 16
          · rw [if_pos q1]
          · rw [if_neg q1, if_pos q]
  · split
    · rfl
    · split
      · rfl
      · split
        · rfl
        · split
          · rfl
          · rcases zin_not h with q | q
            · rw [if_pos q]
            · by_cases q1 : c < nI 2
              · rw [if_pos q1]
              · rw [if_neg q1, if_pos q]
theorem ztset_yes {S : ZSup} {a b c : Int32} (h1 : nI 2 ≤ a ∧ a ≤ nI 40) (h2 : nI 16 ≤ b ∧ b ≤ nI 1024) (h3 : nI 2 ≤ c ∧ c ≤ b) : ztset S a b c = true := by
  have k1 := zin_yes h1
  have k2 := zin_yes h2
  have k3 := zin_yes h3
  unfold ztset
  rw [if_neg (fun q => k1 (Or.inl q)), if_neg (fun q => k1 (Or.inr q)), if_neg (fun q => k2 (Or.inl q)), if_neg (fun q => k2 (Or.inr q)), if_neg (fun q => k3 (Or.inl q)), if_neg (fun q => k3 (Or.inr q))]
theorem zrcv_stop {S : ZSup} {T : List Nat} {k : Nat} (h : zun (zrcv S (T.take k)) = true) : zrcv S T = zrcv S (T.take k) := by
  conv => lhs; rw [← List.take_append_drop k T]
  rw [zrcv_append, zrcv_un h]
theorem zrcv_one {S : ZSup} {T : List Nat} {k : Nat} (hk : k < T.length) (h : zun (zrcv S (T.take k)) = false) : zrcv S (T.take (k + 1)) = zS12 (zrcv S (T.take k)) (T.getD k 0) := by
  rw [← ztake_step hk, zrcv_append]
  show zcome _ _ = _
  unfold zcome
  rw [if_neg (by rw [h]; decide)]
section ZQL
variable {T O : List Nat} {S : ZSup} {Gs : Nat → Option ZGn} {x : Int32} {kd st : Nat} {rs : Bool} {iv ct : Nat} {dr : Int32} {sd : Nat} {V C : List Nat}
theorem zqgen_no {y : Int32} (h : zat4 Gs x = none) : zqgen x y (T, O, S, Gs) = -1 := by simp only [zqgen, h]
theorem zqgen_so {y : Int32} (h : zat4 Gs x = some (kd, st, rs, iv, ct, dr, sd, V, C)) : zqgen x y (T, O, S, Gs) = zglook kd st ct iv rs (zsd kd) dr sd y := by simp only [zqgen, h]
theorem zqstate_no {p k : Int32} (h : zat4 Gs x = none) : zqstate x p k (T, O, S, Gs) = -1 := by simp only [zqstate, h]
theorem zqstate_so {p k : Int32} (h : zat4 Gs x = some (kd, st, rs, iv, ct, dr, sd, V, C)) : zqstate x p k (T, O, S, Gs) = if p = nI 0 then zat V k else if p = nI 1 then zat C k else -1 := by simp only [zqstate, h]
theorem zqclose_no (h : zat4 Gs x = none) : zqclose x (T, O, S, Gs) = (false, T, O, S, Gs) := by simp only [zqclose, h]
theorem zqclose_so {G : ZGn} (h : zat4 Gs x = some G) : zqclose x (T, O, S, Gs) = (true, T, O, S, va_up Gs x.toNatClampNeg none) := by simp only [zqclose, h]
end ZQL
set_option maxRecDepth 10000 in
set_option maxHeartbeats 2000000 in
theorem E_tests {g : ZG} {h : ZH} {n : Nat} {t : Nat} {T O w : List Nat} {un : Bool} {rp wi pa la ru sa me se ta fa : Int32} {Gs : Nat → Option ZGn} {a b c : Int32} (H : zMD t h (T, O, (w, rp, wi, pa, un, la, ru, sa, me, se, ta, fa), Gs)) : zMt g mX11_tests (zR 1 0 0) [.ref (64), .int (a), .int (b), .int (c)] h n (fun v h' n' => v = some (.int (nI (zbi (zqtests a b c (T, O, (w, rp, wi, pa, un, la, ru, sa, me, se, ta, fa), Gs)).1))) ∧ n' = n ∧ zsm h h' zmA ∧ zMD (t + 2) h' (zqtests a b c (T, O, (w, rp, wi, pa, un, la, ru, sa, me, se, ta, fa), Gs)).2) := by
  refine zMt.of [some (.ref (64)), some (.int (a)), some (.int (b)), some (.int (c))] (by decide) rfl (Nat.le_of_ble_eq_true rfl) ?_
  obtain ⟨Qf, hQ⟩ : ∃ Qf : ZQ, Qf = (fun v h' n' => v = some (.int (nI (zbi (zqtests a b c (T, O, (w, rp, wi, pa, un, la, ru, sa, me, se, ta, fa), Gs)).1))) ∧ n' = n ∧ zsm h h' zmA ∧ zMD (t + 2) h' (zqtests a b c (T, O, (w, rp, wi, pa, un, la, ru, sa, me, se, ta, fa), Gs)).2) := ⟨_, rfl⟩
  rw [← hQ]
  obtain ⟨⟨th, mn, mq, sq, ho, hms⟩, hw, hx, h85, ⟨Aa, h86, hAa⟩, hT, hO, hG, hS⟩ := id H
  have ho : h 64 = some (.inl (10, [.int (th), .ref (65), .ref (66), .ref (67), .ref (68), .ref (69), .ref (70), .ref (71), .ref (72), .ref (73), .ref (74), .ref (75), .ref (76), .ref (77), .ref (78), .ref (79), .ref (80), .ref (81), .ref (82), .ref (83), .ref (84), .int (nI (w.length)), .int (nI (zbi un)), .int (rp), .int (wi), .int (pa), .int (la), .int (ru), .int (sa), .int (mq), .int (sq), .int (ta), .int (fa), .ref (85), .ref (86), .ref (87), .int (nI (mn)), .ref (88), .ref (89), .ref (90), .ref (91), .ref (92), .ref (93), .int (nI (T.length)), .ref (94), .int (nI (O.length))])) := ho
  have hx : zar h 84 1000 w := hx
  have lT := hT.1
  have lO := hO.1
  have lw := hx.1
  refine zp_aload_n dX11_tests_0 rfl ?_
  refine zp_iconst (v := nI (0)) dX11_tests_1 (by decide) ?_
  refine zp_put (fs' := [.int (nI (0)), .ref (65), .ref (66), .ref (67), .ref (68), .ref (69), .ref (70), .ref (71), .ref (72), .ref (73), .ref (74), .ref (75), .ref (76), .ref (77), .ref (78), .ref (79), .ref (80), .ref (81), .ref (82), .ref (83), .ref (84), .int (nI (w.length)), .int (nI (zbi un)), .int (rp), .int (wi), .int (pa), .int (la), .int (ru), .int (sa), .int (mq), .int (sq), .int (ta), .int (fa), .ref (85), .ref (86), .ref (87), .int (nI (mn)), .ref (88), .ref (89), .ref (90), .ref (91), .ref (92), .ref (93), .int (nI (T.length)), .ref (94), .int (nI (O.length))]) dX11_tests_2 pX11_133_10 (by omega) ho (Nat.le_of_ble_eq_true rfl) (zfit_i _) rfl ?_
  refine zp_nh (fun h101x eh101x => ?_)
  have k101_0 : h101x (64) = some (.inl (10, [.int (nI (0)), .ref (65), .ref (66), .ref (67), .ref (68), .ref (69), .ref (70), .ref (71), .ref (72), .ref (73), .ref (74), .ref (75), .ref (76), .ref (77), .ref (78), .ref (79), .ref (80), .ref (81), .ref (82), .ref (83), .ref (84), .int (nI (w.length)), .int (nI (zbi un)), .int (rp), .int (wi), .int (pa), .int (la), .int (ru), .int (sa), .int (mq), .int (sq), .int (ta), .int (fa), .ref (85), .ref (86), .ref (87), .int (nI (mn)), .ref (88), .ref (89), .ref (90), .ref (91), .ref (92), .ref (93), .int (nI (T.length)), .ref (94), .int (nI (O.length))])) := by rw [eh101x]; exact va_up_self _ _ _
  have sw102 : zsm h h101x (zon (64)) := zsm.rf.up eh101x rfl
  have zw102 : zsh h h101x := zsh.obj eh101x ho
  refine zp_iload_n dX11_tests_5 rfl ?_
  refine zp_iconst (v := nI (2)) dX11_tests_6 (by decide) ?_
  refine zp_bipush (v := nI (40)) dX11_tests_7 (by decide) ?_
  refine zp_pc (pc' := 9) rfl ?_
  refine zp_callS (As := [.int (a), .int (nI (2)), .int (nI (40))]) (st := []) dX11_tests_9 cX11_297 rfl e_in (by decide) (by decide) (Nat.le_of_ble_eq_true rfl) (fun v103 h103 n103 q103 => ?_)
  obtain ⟨rfl, H103, N103⟩ := q103
  rw [N103, H103]
  refine zp_nrm (cells' := 0) (slots' := 0) (st' := [.int (nI (zbi (decide (nI 2 ≤ a ∧ a ≤ nI 40))))]) rfl rfl rfl ?_
  refine zn_if_eq (tgt := 36) dX11_tests_12 (by decide) (by have := zbi_lt (decide (nI 2 ≤ a ∧ a ≤ nI 40)); omega) (fun c12 => ?_) (fun c12 => ?_)
  · have bq104F : (decide (nI 2 ≤ a ∧ a ≤ nI 40)) = false := by rcases Bool.eq_false_or_eq_true (decide (nI 2 ≤ a ∧ a ≤ nI 40)) with q | q; rw [q] at c12; exact absurd c12 (by decide); exact q
    refine zp_iconst (v := nI (0)) dX11_tests_36 (by decide) ?_
    refine zp_pc (pc' := 37) rfl ?_
    refine zp_i (y := nI (zbi false)) rfl ?_
    have eq9 : (zqtests a b c (T, O, (w, rp, wi, pa, un, la, ru, sa, me, se, ta, fa), Gs)) = (false, T, O, (w, rp, wi, pa, un, la, ru, sa, me, se, ta, fa), Gs) := by show (ztset (w, rp, wi, pa, un, la, ru, sa, me, se, ta, fa) a b c, T, O, (if ztset (w, rp, wi, pa, un, la, ru, sa, me, se, ta, fa) a b c = true then _ else _), Gs) = _; rw [ztset_no (Or.inl (of_decide_eq_false bq104F))]; rfl
    refine zp_ret (v := (some (.int (nI (zbi false))))) dX11_tests_37 ⟨⟨_, rfl, ((zfit_b _) g).1⟩, rfl⟩ (by decide) (by decide) ?_
    rw [hQ]
    rw [eq9]; exact ⟨rfl, rfl, (sw102).mono (fun i hi => by unfold zmA; unfold zon at hi; omega), H.upd ((sw102).mono (fun i hi => by unfold zcz; unfold zon at hi; omega)) (zw102) ⟨_, _, _, _, k101_0, hms⟩ (((hx).keep (sw102 _ (by unfold zon; omega)))) (((hT).keep (sw102 _ (by unfold zon; omega)))) (((hO).keep (sw102 _ (by unfold zon; omega)))) hS (by omega)⟩
  · have bq104T : (decide (nI 2 ≤ a ∧ a ≤ nI 40)) = true := by rcases Bool.eq_false_or_eq_true (decide (nI 2 ≤ a ∧ a ≤ nI 40)) with q | q; exact q; rw [q] at c12; exact absurd rfl c12
    refine zp_iload_n dX11_tests_15 rfl ?_
    refine zp_bipush (v := nI (16)) dX11_tests_16 (by decide) ?_
    refine zp_sipush (v := nI (1024)) dX11_tests_18 (by decide) ?_
    refine zp_pc (pc' := 21) rfl ?_
    refine zp_callS (As := [.int (b), .int (nI (16)), .int (nI (1024))]) (st := []) dX11_tests_21 cX11_297 rfl e_in (by decide) (by decide) (Nat.le_of_ble_eq_true rfl) (fun v105 h105 n105 q105 => ?_)
    obtain ⟨rfl, H105, N105⟩ := q105
    rw [N105, H105]
    refine zp_nrm (cells' := 0) (slots' := 0) (st' := [.int (nI (zbi (decide (nI 16 ≤ b ∧ b ≤ nI 1024))))]) rfl rfl rfl ?_
    refine zn_if_eq (tgt := 36) dX11_tests_24 (by decide) (by have := zbi_lt (decide (nI 16 ≤ b ∧ b ≤ nI 1024)); omega) (fun c24 => ?_) (fun c24 => ?_)
    · have bq106F : (decide (nI 16 ≤ b ∧ b ≤ nI 1024)) = false := by rcases Bool.eq_false_or_eq_true (decide (nI 16 ≤ b ∧ b ≤ nI 1024)) with q | q; rw [q] at c24; exact absurd c24 (by decide); exact q
      refine zp_iconst (v := nI (0)) dX11_tests_36 (by decide) ?_
      refine zp_pc (pc' := 37) rfl ?_
      refine zp_i (y := nI (zbi false)) rfl ?_
      have eq9 : (zqtests a b c (T, O, (w, rp, wi, pa, un, la, ru, sa, me, se, ta, fa), Gs)) = (false, T, O, (w, rp, wi, pa, un, la, ru, sa, me, se, ta, fa), Gs) := by show (ztset (w, rp, wi, pa, un, la, ru, sa, me, se, ta, fa) a b c, T, O, (if ztset (w, rp, wi, pa, un, la, ru, sa, me, se, ta, fa) a b c = true then _ else _), Gs) = _; rw [ztset_no (Or.inr (Or.inl (of_decide_eq_false bq106F)))]; rfl
      refine zp_ret (v := (some (.int (nI (zbi false))))) dX11_tests_37 ⟨⟨_, rfl, ((zfit_b _) g).1⟩, rfl⟩ (by decide) (by decide) ?_
      rw [hQ]
      rw [eq9]; exact ⟨rfl, rfl, (sw102).mono (fun i hi => by unfold zmA; unfold zon at hi; omega), H.upd ((sw102).mono (fun i hi => by unfold zcz; unfold zon at hi; omega)) (zw102) ⟨_, _, _, _, k101_0, hms⟩ (((hx).keep (sw102 _ (by unfold zon; omega)))) (((hT).keep (sw102 _ (by unfold zon; omega)))) (((hO).keep (sw102 _ (by unfold zon; omega)))) hS (by omega)⟩
    · have bq106T : (decide (nI 16 ≤ b ∧ b ≤ nI 1024)) = true := by rcases Bool.eq_false_or_eq_true (decide (nI 16 ≤ b ∧ b ≤ nI 1024)) with q | q; exact q; rw [q] at c24; exact absurd rfl c24
      refine zp_iload_n dX11_tests_27 rfl ?_
      refine zp_iconst (v := nI (2)) dX11_tests_28 (by decide) ?_
      refine zp_iload_n dX11_tests_29 rfl ?_
      refine zp_pc (pc' := 30) rfl ?_
      refine zp_callS (As := [.int (c), .int (nI (2)), .int (b)]) (st := []) dX11_tests_30 cX11_297 rfl e_in (by decide) (by decide) (Nat.le_of_ble_eq_true rfl) (fun v107 h107 n107 q107 => ?_)
      obtain ⟨rfl, H107, N107⟩ := q107
      rw [N107, H107]
      refine zp_nrm (cells' := 0) (slots' := 0) (st' := [.int (nI (zbi (decide (nI 2 ≤ c ∧ c ≤ b))))]) rfl rfl rfl ?_
      refine zn_if_ne (tgt := 38) dX11_tests_33 (by decide) (by have := zbi_lt (decide (nI 2 ≤ c ∧ c ≤ b)); omega) (fun c33 => ?_) (fun c33 => ?_)
      · have bq108T : (decide (nI 2 ≤ c ∧ c ≤ b)) = true := by rcases Bool.eq_false_or_eq_true (decide (nI 2 ≤ c ∧ c ≤ b)) with q | q; exact q; rw [q] at c33; exact absurd rfl c33
        refine zp_aload_n dX11_tests_38 rfl ?_
        refine zp_iload_n dX11_tests_39 rfl ?_
        refine zp_put (fs' := [.int (nI (0)), .ref (65), .ref (66), .ref (67), .ref (68), .ref (69), .ref (70), .ref (71), .ref (72), .ref (73), .ref (74), .ref (75), .ref (76), .ref (77), .ref (78), .ref (79), .ref (80), .ref (81), .ref (82), .ref (83), .ref (84), .int (nI (w.length)), .int (nI (zbi un)), .int (a), .int (wi), .int (pa), .int (la), .int (ru), .int (sa), .int (mq), .int (sq), .int (ta), .int (fa), .ref (85), .ref (86), .ref (87), .int (nI (mn)), .ref (88), .ref (89), .ref (90), .ref (91), .ref (92), .ref (93), .int (nI (T.length)), .ref (94), .int (nI (O.length))]) dX11_tests_40 pX11_71_10 (by omega) k101_0 (Nat.le_of_ble_eq_true rfl) (zfit_i _) rfl ?_
        refine zp_nh (fun h109x eh109x => ?_)
        have k109_0 : h109x (64) = some (.inl (10, [.int (nI (0)), .ref (65), .ref (66), .ref (67), .ref (68), .ref (69), .ref (70), .ref (71), .ref (72), .ref (73), .ref (74), .ref (75), .ref (76), .ref (77), .ref (78), .ref (79), .ref (80), .ref (81), .ref (82), .ref (83), .ref (84), .int (nI (w.length)), .int (nI (zbi un)), .int (a), .int (wi), .int (pa), .int (la), .int (ru), .int (sa), .int (mq), .int (sq), .int (ta), .int (fa), .ref (85), .ref (86), .ref (87), .int (nI (mn)), .ref (88), .ref (89), .ref (90), .ref (91), .ref (92), .ref (93), .int (nI (T.length)), .ref (94), .int (nI (O.length))])) := by rw [eh109x]; exact va_up_self _ _ _
        have sw110 : zsm h101x h109x (zon (64)) := zsm.rf.up eh109x rfl
        have zw110 : zsh h101x h109x := zsh.obj eh109x k101_0
        refine zp_aload_n dX11_tests_43 rfl ?_
        refine zp_iload_n dX11_tests_44 rfl ?_
        refine zp_put (fs' := [.int (nI (0)), .ref (65), .ref (66), .ref (67), .ref (68), .ref (69), .ref (70), .ref (71), .ref (72), .ref (73), .ref (74), .ref (75), .ref (76), .ref (77), .ref (78), .ref (79), .ref (80), .ref (81), .ref (82), .ref (83), .ref (84), .int (nI (w.length)), .int (nI (zbi un)), .int (a), .int (b), .int (pa), .int (la), .int (ru), .int (sa), .int (mq), .int (sq), .int (ta), .int (fa), .ref (85), .ref (86), .ref (87), .int (nI (mn)), .ref (88), .ref (89), .ref (90), .ref (91), .ref (92), .ref (93), .int (nI (T.length)), .ref (94), .int (nI (O.length))]) dX11_tests_45 pX11_75_10 (by omega) k109_0 (Nat.le_of_ble_eq_true rfl) (zfit_i _) rfl ?_
        refine zp_nh (fun h111x eh111x => ?_)
        have k111_0 : h111x (64) = some (.inl (10, [.int (nI (0)), .ref (65), .ref (66), .ref (67), .ref (68), .ref (69), .ref (70), .ref (71), .ref (72), .ref (73), .ref (74), .ref (75), .ref (76), .ref (77), .ref (78), .ref (79), .ref (80), .ref (81), .ref (82), .ref (83), .ref (84), .int (nI (w.length)), .int (nI (zbi un)), .int (a), .int (b), .int (pa), .int (la), .int (ru), .int (sa), .int (mq), .int (sq), .int (ta), .int (fa), .ref (85), .ref (86), .ref (87), .int (nI (mn)), .ref (88), .ref (89), .ref (90), .ref (91), .ref (92), .ref (93), .int (nI (T.length)), .ref (94), .int (nI (O.length))])) := by rw [eh111x]; exact va_up_self _ _ _
        have sw112 : zsm h109x h111x (zon (64)) := zsm.rf.up eh111x rfl
        have zw112 : zsh h109x h111x := zsh.obj eh111x k109_0
        refine zp_aload_n dX11_tests_48 rfl ?_
        refine zp_iload_n dX11_tests_49 rfl ?_
        refine zp_put (fs' := [.int (nI (0)), .ref (65), .ref (66), .ref (67), .ref (68), .ref (69), .ref (70), .ref (71), .ref (72), .ref (73), .ref (74), .ref (75), .ref (76), .ref (77), .ref (78), .ref (79), .ref (80), .ref (81), .ref (82), .ref (83), .ref (84), .int (nI (w.length)), .int (nI (zbi un)), .int (a), .int (b), .int (c), .int (la), .int (ru), .int (sa), .int (mq), .int (sq), .int (ta), .int (fa), .ref (85), .ref (86), .ref (87), .int (nI (mn)), .ref (88), .ref (89), .ref (90), .ref (91), .ref (92), .ref (93), .int (nI (T.length)), .ref (94), .int (nI (O.length))]) dX11_tests_50 pX11_78_10 (by omega) k111_0 (Nat.le_of_ble_eq_true rfl) (zfit_i _) rfl ?_
        refine zp_nh (fun h113x eh113x => ?_)
        have k113_0 : h113x (64) = some (.inl (10, [.int (nI (0)), .ref (65), .ref (66), .ref (67), .ref (68), .ref (69), .ref (70), .ref (71), .ref (72), .ref (73), .ref (74), .ref (75), .ref (76), .ref (77), .ref (78), .ref (79), .ref (80), .ref (81), .ref (82), .ref (83), .ref (84), .int (nI (w.length)), .int (nI (zbi un)), .int (a), .int (b), .int (c), .int (la), .int (ru), .int (sa), .int (mq), .int (sq), .int (ta), .int (fa), .ref (85), .ref (86), .ref (87), .int (nI (mn)), .ref (88), .ref (89), .ref (90), .ref (91), .ref (92), .ref (93), .int (nI (T.length)), .ref (94), .int (nI (O.length))])) := by rw [eh113x]; exact va_up_self _ _ _
        have sw114 : zsm h111x h113x (zon (64)) := zsm.rf.up eh113x rfl
        have zw114 : zsh h111x h113x := zsh.obj eh113x k111_0
        refine zp_aload_n dX11_tests_53 rfl ?_
        refine zp_iconst (v := nI (0)) dX11_tests_54 (by decide) ?_
        refine zp_pc (pc' := 55) rfl ?_
        refine zp_i (y := nI (([] : List Nat).length)) rfl ?_
        refine zp_put (fs' := [.int (nI (0)), .ref (65), .ref (66), .ref (67), .ref (68), .ref (69), .ref (70), .ref (71), .ref (72), .ref (73), .ref (74), .ref (75), .ref (76), .ref (77), .ref (78), .ref (79), .ref (80), .ref (81), .ref (82), .ref (83), .ref (84), .int (nI (([] : List Nat).length)), .int (nI (zbi un)), .int (a), .int (b), .int (c), .int (la), .int (ru), .int (sa), .int (mq), .int (sq), .int (ta), .int (fa), .ref (85), .ref (86), .ref (87), .int (nI (mn)), .ref (88), .ref (89), .ref (90), .ref (91), .ref (92), .ref (93), .int (nI (T.length)), .ref (94), .int (nI (O.length))]) dX11_tests_55 pX11_206_10 (by omega) k113_0 (Nat.le_of_ble_eq_true rfl) (zfit_i _) rfl ?_
        refine zp_nh (fun h115x eh115x => ?_)
        have k115_0 : h115x (64) = some (.inl (10, [.int (nI (0)), .ref (65), .ref (66), .ref (67), .ref (68), .ref (69), .ref (70), .ref (71), .ref (72), .ref (73), .ref (74), .ref (75), .ref (76), .ref (77), .ref (78), .ref (79), .ref (80), .ref (81), .ref (82), .ref (83), .ref (84), .int (nI (([] : List Nat).length)), .int (nI (zbi un)), .int (a), .int (b), .int (c), .int (la), .int (ru), .int (sa), .int (mq), .int (sq), .int (ta), .int (fa), .ref (85), .ref (86), .ref (87), .int (nI (mn)), .ref (88), .ref (89), .ref (90), .ref (91), .ref (92), .ref (93), .int (nI (T.length)), .ref (94), .int (nI (O.length))])) := by rw [eh115x]; exact va_up_self _ _ _
        have sw116 : zsm h113x h115x (zon (64)) := zsm.rf.up eh115x rfl
        have zw116 : zsh h113x h115x := zsh.obj eh115x k113_0
        refine zp_aload_n dX11_tests_58 rfl ?_
        refine zp_iconst (v := nI (0)) dX11_tests_59 (by decide) ?_
        refine zp_pc (pc' := 60) rfl ?_
        refine zp_i (y := nI (zbi false)) rfl ?_
        refine zp_put (fs' := [.int (nI (0)), .ref (65), .ref (66), .ref (67), .ref (68), .ref (69), .ref (70), .ref (71), .ref (72), .ref (73), .ref (74), .ref (75), .ref (76), .ref (77), .ref (78), .ref (79), .ref (80), .ref (81), .ref (82), .ref (83), .ref (84), .int (nI (([] : List Nat).length)), .int (nI (zbi false)), .int (a), .int (b), .int (c), .int (la), .int (ru), .int (sa), .int (mq), .int (sq), .int (ta), .int (fa), .ref (85), .ref (86), .ref (87), .int (nI (mn)), .ref (88), .ref (89), .ref (90), .ref (91), .ref (92), .ref (93), .int (nI (T.length)), .ref (94), .int (nI (O.length))]) dX11_tests_60 pX11_199_10 (by omega) k115_0 (Nat.le_of_ble_eq_true rfl) (zfit_b false) rfl ?_
        refine zp_nh (fun h117x eh117x => ?_)
        have k117_0 : h117x (64) = some (.inl (10, [.int (nI (0)), .ref (65), .ref (66), .ref (67), .ref (68), .ref (69), .ref (70), .ref (71), .ref (72), .ref (73), .ref (74), .ref (75), .ref (76), .ref (77), .ref (78), .ref (79), .ref (80), .ref (81), .ref (82), .ref (83), .ref (84), .int (nI (([] : List Nat).length)), .int (nI (zbi false)), .int (a), .int (b), .int (c), .int (la), .int (ru), .int (sa), .int (mq), .int (sq), .int (ta), .int (fa), .ref (85), .ref (86), .ref (87), .int (nI (mn)), .ref (88), .ref (89), .ref (90), .ref (91), .ref (92), .ref (93), .int (nI (T.length)), .ref (94), .int (nI (O.length))])) := by rw [eh117x]; exact va_up_self _ _ _
        have sw118 : zsm h115x h117x (zon (64)) := zsm.rf.up eh117x rfl
        have zw118 : zsh h115x h117x := zsh.obj eh117x k115_0
        refine zp_aload_n dX11_tests_63 rfl ?_
        refine zp_iconst (v := (-1)) dX11_tests_64 (by decide) ?_
        refine zp_put (fs' := [.int (nI (0)), .ref (65), .ref (66), .ref (67), .ref (68), .ref (69), .ref (70), .ref (71), .ref (72), .ref (73), .ref (74), .ref (75), .ref (76), .ref (77), .ref (78), .ref (79), .ref (80), .ref (81), .ref (82), .ref (83), .ref (84), .int (nI (([] : List Nat).length)), .int (nI (zbi false)), .int (a), .int (b), .int (c), .int ((-1)), .int (ru), .int (sa), .int (mq), .int (sq), .int (ta), .int (fa), .ref (85), .ref (86), .ref (87), .int (nI (mn)), .ref (88), .ref (89), .ref (90), .ref (91), .ref (92), .ref (93), .int (nI (T.length)), .ref (94), .int (nI (O.length))]) dX11_tests_65 pX11_81_10 (by omega) k117_0 (Nat.le_of_ble_eq_true rfl) (zfit_i _) rfl ?_
        refine zp_nh (fun h119x eh119x => ?_)
        have k119_0 : h119x (64) = some (.inl (10, [.int (nI (0)), .ref (65), .ref (66), .ref (67), .ref (68), .ref (69), .ref (70), .ref (71), .ref (72), .ref (73), .ref (74), .ref (75), .ref (76), .ref (77), .ref (78), .ref (79), .ref (80), .ref (81), .ref (82), .ref (83), .ref (84), .int (nI (([] : List Nat).length)), .int (nI (zbi false)), .int (a), .int (b), .int (c), .int ((-1)), .int (ru), .int (sa), .int (mq), .int (sq), .int (ta), .int (fa), .ref (85), .ref (86), .ref (87), .int (nI (mn)), .ref (88), .ref (89), .ref (90), .ref (91), .ref (92), .ref (93), .int (nI (T.length)), .ref (94), .int (nI (O.length))])) := by rw [eh119x]; exact va_up_self _ _ _
        have sw120 : zsm h117x h119x (zon (64)) := zsm.rf.up eh119x rfl
        have zw120 : zsh h117x h119x := zsh.obj eh119x k117_0
        refine zp_aload_n dX11_tests_68 rfl ?_
        refine zp_iconst (v := nI (0)) dX11_tests_69 (by decide) ?_
        refine zp_put (fs' := [.int (nI (0)), .ref (65), .ref (66), .ref (67), .ref (68), .ref (69), .ref (70), .ref (71), .ref (72), .ref (73), .ref (74), .ref (75), .ref (76), .ref (77), .ref (78), .ref (79), .ref (80), .ref (81), .ref (82), .ref (83), .ref (84), .int (nI (([] : List Nat).length)), .int (nI (zbi false)), .int (a), .int (b), .int (c), .int ((-1)), .int (nI (0)), .int (sa), .int (mq), .int (sq), .int (ta), .int (fa), .ref (85), .ref (86), .ref (87), .int (nI (mn)), .ref (88), .ref (89), .ref (90), .ref (91), .ref (92), .ref (93), .int (nI (T.length)), .ref (94), .int (nI (O.length))]) dX11_tests_70 pX11_190_10 (by omega) k119_0 (Nat.le_of_ble_eq_true rfl) (zfit_i _) rfl ?_
        refine zp_nh (fun h121x eh121x => ?_)
        have k121_0 : h121x (64) = some (.inl (10, [.int (nI (0)), .ref (65), .ref (66), .ref (67), .ref (68), .ref (69), .ref (70), .ref (71), .ref (72), .ref (73), .ref (74), .ref (75), .ref (76), .ref (77), .ref (78), .ref (79), .ref (80), .ref (81), .ref (82), .ref (83), .ref (84), .int (nI (([] : List Nat).length)), .int (nI (zbi false)), .int (a), .int (b), .int (c), .int ((-1)), .int (nI (0)), .int (sa), .int (mq), .int (sq), .int (ta), .int (fa), .ref (85), .ref (86), .ref (87), .int (nI (mn)), .ref (88), .ref (89), .ref (90), .ref (91), .ref (92), .ref (93), .int (nI (T.length)), .ref (94), .int (nI (O.length))])) := by rw [eh121x]; exact va_up_self _ _ _
        have sw122 : zsm h119x h121x (zon (64)) := zsm.rf.up eh121x rfl
        have zw122 : zsh h119x h121x := zsh.obj eh121x k119_0
        refine zp_aload_n dX11_tests_73 rfl ?_
        refine zp_iconst (v := (-1)) dX11_tests_74 (by decide) ?_
        refine zp_put (fs' := [.int (nI (0)), .ref (65), .ref (66), .ref (67), .ref (68), .ref (69), .ref (70), .ref (71), .ref (72), .ref (73), .ref (74), .ref (75), .ref (76), .ref (77), .ref (78), .ref (79), .ref (80), .ref (81), .ref (82), .ref (83), .ref (84), .int (nI (([] : List Nat).length)), .int (nI (zbi false)), .int (a), .int (b), .int (c), .int ((-1)), .int (nI (0)), .int ((-1)), .int (mq), .int (sq), .int (ta), .int (fa), .ref (85), .ref (86), .ref (87), .int (nI (mn)), .ref (88), .ref (89), .ref (90), .ref (91), .ref (92), .ref (93), .int (nI (T.length)), .ref (94), .int (nI (O.length))]) dX11_tests_75 pX11_84_10 (by omega) k121_0 (Nat.le_of_ble_eq_true rfl) (zfit_i _) rfl ?_
        refine zp_nh (fun h123x eh123x => ?_)
        have k123_0 : h123x (64) = some (.inl (10, [.int (nI (0)), .ref (65), .ref (66), .ref (67), .ref (68), .ref (69), .ref (70), .ref (71), .ref (72), .ref (73), .ref (74), .ref (75), .ref (76), .ref (77), .ref (78), .ref (79), .ref (80), .ref (81), .ref (82), .ref (83), .ref (84), .int (nI (([] : List Nat).length)), .int (nI (zbi false)), .int (a), .int (b), .int (c), .int ((-1)), .int (nI (0)), .int ((-1)), .int (mq), .int (sq), .int (ta), .int (fa), .ref (85), .ref (86), .ref (87), .int (nI (mn)), .ref (88), .ref (89), .ref (90), .ref (91), .ref (92), .ref (93), .int (nI (T.length)), .ref (94), .int (nI (O.length))])) := by rw [eh123x]; exact va_up_self _ _ _
        have sw124 : zsm h121x h123x (zon (64)) := zsm.rf.up eh123x rfl
        have zw124 : zsh h121x h123x := zsh.obj eh123x k121_0
        refine zp_iconst (v := nI (1)) dX11_tests_78 (by decide) ?_
        refine zp_pc (pc' := 79) rfl ?_
        refine zp_i (y := nI (zbi true)) rfl ?_
        have eq9 : (zqtests a b c (T, O, (w, rp, wi, pa, un, la, ru, sa, me, se, ta, fa), Gs)) = (true, T, O, ([], a, b, c, false, -1, nI 0, -1, nI 0, nI 0, ta, fa), Gs) := by show (ztset (w, rp, wi, pa, un, la, ru, sa, me, se, ta, fa) a b c, T, O, (if ztset (w, rp, wi, pa, un, la, ru, sa, me, se, ta, fa) a b c = true then _ else _), Gs) = _; rw [ztset_yes (of_decide_eq_true bq104T) (of_decide_eq_true bq106T) (of_decide_eq_true bq108T)]; rfl
        refine zp_ret (v := (some (.int (nI (zbi true))))) dX11_tests_79 ⟨⟨_, rfl, ((zfit_b _) g).1⟩, rfl⟩ (by decide) (by decide) ?_
        rw [hQ]
        rw [eq9]; exact ⟨rfl, rfl, (((((((((sw102).mono (fun i hi => by unfold zmA; unfold zon at hi; omega)).trans ((sw110).mono (fun i hi => by unfold zmA; unfold zon at hi; omega))).trans ((sw112).mono (fun i hi => by unfold zmA; unfold zon at hi; omega))).trans ((sw114).mono (fun i hi => by unfold zmA; unfold zon at hi; omega))).trans ((sw116).mono (fun i hi => by unfold zmA; unfold zon at hi; omega))).trans ((sw118).mono (fun i hi => by unfold zmA; unfold zon at hi; omega))).trans ((sw120).mono (fun i hi => by unfold zmA; unfold zon at hi; omega))).trans ((sw122).mono (fun i hi => by unfold zmA; unfold zon at hi; omega))).trans ((sw124).mono (fun i hi => by unfold zmA; unfold zon at hi; omega)), H.upd ((((((((((sw102).mono (fun i hi => by unfold zcz; unfold zon at hi; omega)).trans ((sw110).mono (fun i hi => by unfold zcz; unfold zon at hi; omega))).trans ((sw112).mono (fun i hi => by unfold zcz; unfold zon at hi; omega))).trans ((sw114).mono (fun i hi => by unfold zcz; unfold zon at hi; omega))).trans ((sw116).mono (fun i hi => by unfold zcz; unfold zon at hi; omega))).trans ((sw118).mono (fun i hi => by unfold zcz; unfold zon at hi; omega))).trans ((sw120).mono (fun i hi => by unfold zcz; unfold zon at hi; omega))).trans ((sw122).mono (fun i hi => by unfold zcz; unfold zon at hi; omega))).trans ((sw124).mono (fun i hi => by unfold zcz; unfold zon at hi; omega))) (((((((((zw102).trans zw110).trans zw112).trans zw114).trans zw116).trans zw118).trans zw120).trans zw122).trans zw124) ⟨_, _, _, _, k123_0, fun q => absurd rfl q⟩ (zar.nil ((((((((((hx.ia).keep (sw102 _ (by unfold zon; omega))).keep (sw110 _ (by unfold zon; omega))).keep (sw112 _ (by unfold zon; omega))).keep (sw114 _ (by unfold zon; omega))).keep (sw116 _ (by unfold zon; omega))).keep (sw118 _ (by unfold zon; omega))).keep (sw120 _ (by unfold zon; omega))).keep (sw122 _ (by unfold zon; omega))).keep (sw124 _ (by unfold zon; omega))) (by decide)) (((((((((((hT).keep (sw102 _ (by unfold zon; omega))).keep (sw110 _ (by unfold zon; omega))).keep (sw112 _ (by unfold zon; omega))).keep (sw114 _ (by unfold zon; omega))).keep (sw116 _ (by unfold zon; omega))).keep (sw118 _ (by unfold zon; omega))).keep (sw120 _ (by unfold zon; omega))).keep (sw122 _ (by unfold zon; omega))).keep (sw124 _ (by unfold zon; omega)))) (((((((((((hO).keep (sw102 _ (by unfold zon; omega))).keep (sw110 _ (by unfold zon; omega))).keep (sw112 _ (by unfold zon; omega))).keep (sw114 _ (by unfold zon; omega))).keep (sw116 _ (by unfold zon; omega))).keep (sw118 _ (by unfold zon; omega))).keep (sw120 _ (by unfold zon; omega))).keep (sw122 _ (by unfold zon; omega))).keep (sw124 _ (by unfold zon; omega)))) (fun _ => ⟨rfl, rfl⟩) (by omega)⟩
      · have bq108F : (decide (nI 2 ≤ c ∧ c ≤ b)) = false := by rcases Bool.eq_false_or_eq_true (decide (nI 2 ≤ c ∧ c ≤ b)) with q | q; rw [q] at c33; exact absurd c33 (by decide); exact q
        refine zp_iconst (v := nI (0)) dX11_tests_36 (by decide) ?_
        refine zp_pc (pc' := 37) rfl ?_
        refine zp_i (y := nI (zbi false)) rfl ?_
        have eq9 : (zqtests a b c (T, O, (w, rp, wi, pa, un, la, ru, sa, me, se, ta, fa), Gs)) = (false, T, O, (w, rp, wi, pa, un, la, ru, sa, me, se, ta, fa), Gs) := by show (ztset (w, rp, wi, pa, un, la, ru, sa, me, se, ta, fa) a b c, T, O, (if ztset (w, rp, wi, pa, un, la, ru, sa, me, se, ta, fa) a b c = true then _ else _), Gs) = _; rw [ztset_no (Or.inr (Or.inr (of_decide_eq_false bq108F)))]; rfl
        refine zp_ret (v := (some (.int (nI (zbi false))))) dX11_tests_37 ⟨⟨_, rfl, ((zfit_b _) g).1⟩, rfl⟩ (by decide) (by decide) ?_
        rw [hQ]
        rw [eq9]; exact ⟨rfl, rfl, (sw102).mono (fun i hi => by unfold zmA; unfold zon at hi; omega), H.upd ((sw102).mono (fun i hi => by unfold zcz; unfold zon at hi; omega)) (zw102) ⟨_, _, _, _, k101_0, hms⟩ (((hx).keep (sw102 _ (by unfold zon; omega)))) (((hT).keep (sw102 _ (by unfold zon; omega)))) (((hO).keep (sw102 _ (by unfold zon; omega)))) hS (by omega)⟩
set_option maxRecDepth 10000 in
set_option maxHeartbeats 2000000 in
theorem E_source {g : ZG} {h : ZH} {n : Nat} {t : Nat} {T O w : List Nat} {un : Bool} {rp wi pa la ru sa me se ta fa : Int32} {Gs : Nat → Option ZGn} {x : Int32} (H : zMD t h (T, O, (w, rp, wi, pa, un, la, ru, sa, me, se, ta, fa), Gs)) : zMt g mX11_source (zR 1 0 0) [.ref (64), .int (x)] h n (fun v h' n' => v = some (.int (zqsource x (T, O, (w, rp, wi, pa, un, la, ru, sa, me, se, ta, fa), Gs))) ∧ n' = n ∧ zsm h h' zmA ∧ zMD (t + 2) h' (T, O, (w, rp, wi, pa, un, la, ru, sa, me, se, ta, fa), Gs)) := by
  refine zMt.of [some (.ref (64)), some (.int (x))] (by decide) rfl (Nat.le_of_ble_eq_true rfl) ?_
  obtain ⟨Qf, hQ⟩ : ∃ Qf : ZQ, Qf = (fun v h' n' => v = some (.int (zqsource x (T, O, (w, rp, wi, pa, un, la, ru, sa, me, se, ta, fa), Gs))) ∧ n' = n ∧ zsm h h' zmA ∧ zMD (t + 2) h' (T, O, (w, rp, wi, pa, un, la, ru, sa, me, se, ta, fa), Gs)) := ⟨_, rfl⟩
  rw [← hQ]
  obtain ⟨⟨th, mn, mq, sq, ho, hms⟩, hw, hx, h85, ⟨Aa, h86, hAa⟩, hT, hO, hG, hS⟩ := id H
  have ho : h 64 = some (.inl (10, [.int (th), .ref (65), .ref (66), .ref (67), .ref (68), .ref (69), .ref (70), .ref (71), .ref (72), .ref (73), .ref (74), .ref (75), .ref (76), .ref (77), .ref (78), .ref (79), .ref (80), .ref (81), .ref (82), .ref (83), .ref (84), .int (nI (w.length)), .int (nI (zbi un)), .int (rp), .int (wi), .int (pa), .int (la), .int (ru), .int (sa), .int (mq), .int (sq), .int (ta), .int (fa), .ref (85), .ref (86), .ref (87), .int (nI (mn)), .ref (88), .ref (89), .ref (90), .ref (91), .ref (92), .ref (93), .int (nI (T.length)), .ref (94), .int (nI (O.length))])) := ho
  have hx : zar h 84 1000 w := hx
  have lT := hT.1
  have lO := hO.1
  have lw := hx.1
  refine zp_aload_n dX11_source_0 rfl ?_
  refine zp_iconst (v := nI (0)) dX11_source_1 (by decide) ?_
  refine zp_put (fs' := [.int (nI (0)), .ref (65), .ref (66), .ref (67), .ref (68), .ref (69), .ref (70), .ref (71), .ref (72), .ref (73), .ref (74), .ref (75), .ref (76), .ref (77), .ref (78), .ref (79), .ref (80), .ref (81), .ref (82), .ref (83), .ref (84), .int (nI (w.length)), .int (nI (zbi un)), .int (rp), .int (wi), .int (pa), .int (la), .int (ru), .int (sa), .int (mq), .int (sq), .int (ta), .int (fa), .ref (85), .ref (86), .ref (87), .int (nI (mn)), .ref (88), .ref (89), .ref (90), .ref (91), .ref (92), .ref (93), .int (nI (T.length)), .ref (94), .int (nI (O.length))]) dX11_source_2 pX11_133_10 (by omega) ho (Nat.le_of_ble_eq_true rfl) (zfit_i _) rfl ?_
  refine zp_nh (fun h101x eh101x => ?_)
  have k101_0 : h101x (64) = some (.inl (10, [.int (nI (0)), .ref (65), .ref (66), .ref (67), .ref (68), .ref (69), .ref (70), .ref (71), .ref (72), .ref (73), .ref (74), .ref (75), .ref (76), .ref (77), .ref (78), .ref (79), .ref (80), .ref (81), .ref (82), .ref (83), .ref (84), .int (nI (w.length)), .int (nI (zbi un)), .int (rp), .int (wi), .int (pa), .int (la), .int (ru), .int (sa), .int (mq), .int (sq), .int (ta), .int (fa), .ref (85), .ref (86), .ref (87), .int (nI (mn)), .ref (88), .ref (89), .ref (90), .ref (91), .ref (92), .ref (93), .int (nI (T.length)), .ref (94), .int (nI (O.length))])) := by rw [eh101x]; exact va_up_self _ _ _
  have sw102 : zsm h h101x (zon (64)) := zsm.rf.up eh101x rfl
  have zw102 : zsh h h101x := zsh.obj eh101x ho
  refine zp_iload_n dX11_source_5 rfl ?_
  refine zp_pc (pc' := 6) rfl ?_
  have hS9 : sa = -1 → me = nI 0 ∧ se = nI 0 := hS
  have hm9 : sa ≠ -1 → mq = me ∧ sq = se := hms
  rcases zsw x 8 (by decide) with ⟨j9, hj9, rfl⟩ | hx9
  · have hj2 : j9 = 0 ∨ j9 = 1 ∨ j9 = 2 ∨ j9 = 3 ∨ j9 = 4 ∨ j9 = 5 ∨ j9 = 6 ∨ j9 = 7 := by omega
    rcases hj2 with rfl | rfl | rfl | rfl | rfl | rfl | rfl | rfl
    · refine zp_tabIn (off := 46) (tgt := 52) dX11_source_6 (by decide) (by decide) rfl (by decide) ?_
      refine zp_aload_n dX11_source_52 rfl ?_
      refine zp_get dX11_source_53 gX11_206_10 k101_0 rfl ?_
      refine zp_pc (pc' := 56) rfl ?_
      refine zp_i (y := zqsource (nI 0) (T, O, (w, rp, wi, pa, un, la, ru, sa, me, se, ta, fa), Gs)) rfl ?_
      refine zp_ret (v := (some (.int (zqsource (nI 0) (T, O, (w, rp, wi, pa, un, la, ru, sa, me, se, ta, fa), Gs))))) dX11_source_56 ⟨⟨_, rfl, rfl⟩, rfl⟩ (by decide) (by decide) ?_
      rw [hQ]
      exact ⟨rfl, rfl, (sw102).mono (fun i hi => by unfold zmA; unfold zon at hi; omega), H.upd ((sw102).mono (fun i hi => by unfold zcz; unfold zon at hi; omega)) (zw102) ⟨_, _, _, _, k101_0, hms⟩ (((hx).keep (sw102 _ (by unfold zon; omega)))) (((hT).keep (sw102 _ (by unfold zon; omega)))) (((hO).keep (sw102 _ (by unfold zon; omega)))) hS (by omega)⟩
    · refine zp_tabIn (off := 51) (tgt := 57) dX11_source_6 (by decide) (by decide) rfl (by decide) ?_
      have hu := zbi_lt un
      refine zp_aload_n dX11_source_57 rfl ?_
      refine zp_get dX11_source_58 gX11_199_10 k101_0 rfl ?_
      refine zp_pc (pc' := 61) rfl ?_
      refine zn_if_eq (tgt := 68) dX11_source_61 (by decide) (by omega) (fun c61 => ?_) (fun c61 => ?_)
      · refine zp_iconst (v := nI (0)) dX11_source_68 (by decide) ?_
        refine zp_pc (pc' := 69) rfl ?_
        refine zp_i (y := zqsource (nI 1) (T, O, (w, rp, wi, pa, un, la, ru, sa, me, se, ta, fa), Gs)) (by show _ = nI (zbi un); rw [c61]) ?_
        refine zp_ret (v := (some (.int (zqsource (nI 1) (T, O, (w, rp, wi, pa, un, la, ru, sa, me, se, ta, fa), Gs))))) dX11_source_69 ⟨⟨_, rfl, rfl⟩, rfl⟩ (by decide) (by decide) ?_
        rw [hQ]
        exact ⟨rfl, rfl, (sw102).mono (fun i hi => by unfold zmA; unfold zon at hi; omega), H.upd ((sw102).mono (fun i hi => by unfold zcz; unfold zon at hi; omega)) (zw102) ⟨_, _, _, _, k101_0, hms⟩ (((hx).keep (sw102 _ (by unfold zon; omega)))) (((hT).keep (sw102 _ (by unfold zon; omega)))) (((hO).keep (sw102 _ (by unfold zon; omega)))) hS (by omega)⟩
      · refine zp_iconst (v := nI (1)) dX11_source_64 (by decide) ?_
        refine zp_goto (tgt := 69) dX11_source_65 (by decide) ?_
        refine zp_pc (pc' := 69) rfl ?_
        refine zp_i (y := zqsource (nI 1) (T, O, (w, rp, wi, pa, un, la, ru, sa, me, se, ta, fa), Gs)) (by show _ = nI (zbi un); rw [show zbi un = 1 by omega]) ?_
        refine zp_ret (v := (some (.int (zqsource (nI 1) (T, O, (w, rp, wi, pa, un, la, ru, sa, me, se, ta, fa), Gs))))) dX11_source_69 ⟨⟨_, rfl, rfl⟩, rfl⟩ (by decide) (by decide) ?_
        rw [hQ]
        exact ⟨rfl, rfl, (sw102).mono (fun i hi => by unfold zmA; unfold zon at hi; omega), H.upd ((sw102).mono (fun i hi => by unfold zcz; unfold zon at hi; omega)) (zw102) ⟨_, _, _, _, k101_0, hms⟩ (((hx).keep (sw102 _ (by unfold zon; omega)))) (((hT).keep (sw102 _ (by unfold zon; omega)))) (((hO).keep (sw102 _ (by unfold zon; omega)))) hS (by omega)⟩
    · refine zp_tabIn (off := 64) (tgt := 70) dX11_source_6 (by decide) (by decide) rfl (by decide) ?_
      refine zp_aload_n dX11_source_70 rfl ?_
      refine zp_get dX11_source_71 gX11_190_10 k101_0 rfl ?_
      refine zp_pc (pc' := 74) rfl ?_
      refine zp_i (y := zqsource (nI 2) (T, O, (w, rp, wi, pa, un, la, ru, sa, me, se, ta, fa), Gs)) rfl ?_
      refine zp_ret (v := (some (.int (zqsource (nI 2) (T, O, (w, rp, wi, pa, un, la, ru, sa, me, se, ta, fa), Gs))))) dX11_source_74 ⟨⟨_, rfl, rfl⟩, rfl⟩ (by decide) (by decide) ?_
      rw [hQ]
      exact ⟨rfl, rfl, (sw102).mono (fun i hi => by unfold zmA; unfold zon at hi; omega), H.upd ((sw102).mono (fun i hi => by unfold zcz; unfold zon at hi; omega)) (zw102) ⟨_, _, _, _, k101_0, hms⟩ (((hx).keep (sw102 _ (by unfold zon; omega)))) (((hT).keep (sw102 _ (by unfold zon; omega)))) (((hO).keep (sw102 _ (by unfold zon; omega)))) hS (by omega)⟩
    · refine zp_tabIn (off := 69) (tgt := 75) dX11_source_6 (by decide) (by decide) rfl (by decide) ?_
      refine zp_aload_n dX11_source_75 rfl ?_
      refine zp_get dX11_source_76 gX11_84_10 k101_0 rfl ?_
      refine zp_pc (pc' := 79) rfl ?_
      refine zp_i (y := zqsource (nI 3) (T, O, (w, rp, wi, pa, un, la, ru, sa, me, se, ta, fa), Gs)) rfl ?_
      refine zp_ret (v := (some (.int (zqsource (nI 3) (T, O, (w, rp, wi, pa, un, la, ru, sa, me, se, ta, fa), Gs))))) dX11_source_79 ⟨⟨_, rfl, rfl⟩, rfl⟩ (by decide) (by decide) ?_
      rw [hQ]
      exact ⟨rfl, rfl, (sw102).mono (fun i hi => by unfold zmA; unfold zon at hi; omega), H.upd ((sw102).mono (fun i hi => by unfold zcz; unfold zon at hi; omega)) (zw102) ⟨_, _, _, _, k101_0, hms⟩ (((hx).keep (sw102 _ (by unfold zon; omega)))) (((hT).keep (sw102 _ (by unfold zon; omega)))) (((hO).keep (sw102 _ (by unfold zon; omega)))) hS (by omega)⟩
    · refine zp_tabIn (off := 74) (tgt := 80) dX11_source_6 (by decide) (by decide) rfl (by decide) ?_
      refine zp_aload_n dX11_source_80 rfl ?_
      refine zp_get dX11_source_81 gX11_84_10 k101_0 rfl ?_
      refine zp_iconst (v := (-1)) dX11_source_84 (by decide) ?_
      refine zp_pc (pc' := 85) rfl ?_
      refine zp_icmp_ne (tgt := 92) dX11_source_85 (by decide) (fun c85 => ?_) (fun c85 => ?_)
      · refine zp_aload_n dX11_source_92 rfl ?_
        refine zp_get dX11_source_93 gX11_193_10 k101_0 rfl ?_
        refine zp_pc (pc' := 96) rfl ?_
        refine zp_i (y := zqsource (nI 4) (T, O, (w, rp, wi, pa, un, la, ru, sa, me, se, ta, fa), Gs)) (by show _ = me; exact (hm9 c85).1) ?_
        refine zp_ret (v := (some (.int (zqsource (nI 4) (T, O, (w, rp, wi, pa, un, la, ru, sa, me, se, ta, fa), Gs))))) dX11_source_96 ⟨⟨_, rfl, rfl⟩, rfl⟩ (by decide) (by decide) ?_
        rw [hQ]
        exact ⟨rfl, rfl, (sw102).mono (fun i hi => by unfold zmA; unfold zon at hi; omega), H.upd ((sw102).mono (fun i hi => by unfold zcz; unfold zon at hi; omega)) (zw102) ⟨_, _, _, _, k101_0, hms⟩ (((hx).keep (sw102 _ (by unfold zon; omega)))) (((hT).keep (sw102 _ (by unfold zon; omega)))) (((hO).keep (sw102 _ (by unfold zon; omega)))) hS (by omega)⟩
      · refine zp_iconst (v := nI (0)) dX11_source_88 (by decide) ?_
        refine zp_goto (tgt := 96) dX11_source_89 (by decide) ?_
        refine zp_pc (pc' := 96) rfl ?_
        refine zp_i (y := zqsource (nI 4) (T, O, (w, rp, wi, pa, un, la, ru, sa, me, se, ta, fa), Gs)) (by show _ = me; exact (hS9 c85).1.symm) ?_
        refine zp_ret (v := (some (.int (zqsource (nI 4) (T, O, (w, rp, wi, pa, un, la, ru, sa, me, se, ta, fa), Gs))))) dX11_source_96 ⟨⟨_, rfl, rfl⟩, rfl⟩ (by decide) (by decide) ?_
        rw [hQ]
        exact ⟨rfl, rfl, (sw102).mono (fun i hi => by unfold zmA; unfold zon at hi; omega), H.upd ((sw102).mono (fun i hi => by unfold zcz; unfold zon at hi; omega)) (zw102) ⟨_, _, _, _, k101_0, hms⟩ (((hx).keep (sw102 _ (by unfold zon; omega)))) (((hT).keep (sw102 _ (by unfold zon; omega)))) (((hO).keep (sw102 _ (by unfold zon; omega)))) hS (by omega)⟩
    · refine zp_tabIn (off := 91) (tgt := 97) dX11_source_6 (by decide) (by decide) rfl (by decide) ?_
      refine zp_aload_n dX11_source_97 rfl ?_
      refine zp_get dX11_source_98 gX11_84_10 k101_0 rfl ?_
      refine zp_iconst (v := (-1)) dX11_source_101 (by decide) ?_
      refine zp_pc (pc' := 102) rfl ?_
      refine zp_icmp_ne (tgt := 109) dX11_source_102 (by decide) (fun c102 => ?_) (fun c102 => ?_)
      · refine zp_aload_n dX11_source_109 rfl ?_
        refine zp_get dX11_source_110 gX11_196_10 k101_0 rfl ?_
        refine zp_pc (pc' := 113) rfl ?_
        refine zp_i (y := zqsource (nI 5) (T, O, (w, rp, wi, pa, un, la, ru, sa, me, se, ta, fa), Gs)) (by show _ = se; exact (hm9 c102).2) ?_
        refine zp_ret (v := (some (.int (zqsource (nI 5) (T, O, (w, rp, wi, pa, un, la, ru, sa, me, se, ta, fa), Gs))))) dX11_source_113 ⟨⟨_, rfl, rfl⟩, rfl⟩ (by decide) (by decide) ?_
        rw [hQ]
        exact ⟨rfl, rfl, (sw102).mono (fun i hi => by unfold zmA; unfold zon at hi; omega), H.upd ((sw102).mono (fun i hi => by unfold zcz; unfold zon at hi; omega)) (zw102) ⟨_, _, _, _, k101_0, hms⟩ (((hx).keep (sw102 _ (by unfold zon; omega)))) (((hT).keep (sw102 _ (by unfold zon; omega)))) (((hO).keep (sw102 _ (by unfold zon; omega)))) hS (by omega)⟩
      · refine zp_iconst (v := nI (0)) dX11_source_105 (by decide) ?_
        refine zp_goto (tgt := 113) dX11_source_106 (by decide) ?_
        refine zp_pc (pc' := 113) rfl ?_
        refine zp_i (y := zqsource (nI 5) (T, O, (w, rp, wi, pa, un, la, ru, sa, me, se, ta, fa), Gs)) (by show _ = se; exact (hS9 c102).2.symm) ?_
        refine zp_ret (v := (some (.int (zqsource (nI 5) (T, O, (w, rp, wi, pa, un, la, ru, sa, me, se, ta, fa), Gs))))) dX11_source_113 ⟨⟨_, rfl, rfl⟩, rfl⟩ (by decide) (by decide) ?_
        rw [hQ]
        exact ⟨rfl, rfl, (sw102).mono (fun i hi => by unfold zmA; unfold zon at hi; omega), H.upd ((sw102).mono (fun i hi => by unfold zcz; unfold zon at hi; omega)) (zw102) ⟨_, _, _, _, k101_0, hms⟩ (((hx).keep (sw102 _ (by unfold zon; omega)))) (((hT).keep (sw102 _ (by unfold zon; omega)))) (((hO).keep (sw102 _ (by unfold zon; omega)))) hS (by omega)⟩
    · refine zp_tabIn (off := 108) (tgt := 114) dX11_source_6 (by decide) (by decide) rfl (by decide) ?_
      refine zp_aload_n dX11_source_114 rfl ?_
      refine zp_get dX11_source_115 gX11_209_10 k101_0 rfl ?_
      refine zp_pc (pc' := 118) rfl ?_
      refine zp_i (y := zqsource (nI 6) (T, O, (w, rp, wi, pa, un, la, ru, sa, me, se, ta, fa), Gs)) rfl ?_
      refine zp_ret (v := (some (.int (zqsource (nI 6) (T, O, (w, rp, wi, pa, un, la, ru, sa, me, se, ta, fa), Gs))))) dX11_source_118 ⟨⟨_, rfl, rfl⟩, rfl⟩ (by decide) (by decide) ?_
      rw [hQ]
      exact ⟨rfl, rfl, (sw102).mono (fun i hi => by unfold zmA; unfold zon at hi; omega), H.upd ((sw102).mono (fun i hi => by unfold zcz; unfold zon at hi; omega)) (zw102) ⟨_, _, _, _, k101_0, hms⟩ (((hx).keep (sw102 _ (by unfold zon; omega)))) (((hT).keep (sw102 _ (by unfold zon; omega)))) (((hO).keep (sw102 _ (by unfold zon; omega)))) hS (by omega)⟩
    · refine zp_tabIn (off := 113) (tgt := 119) dX11_source_6 (by decide) (by decide) rfl (by decide) ?_
      refine zp_aload_n dX11_source_119 rfl ?_
      refine zp_get dX11_source_120 gX11_203_10 k101_0 rfl ?_
      refine zp_pc (pc' := 123) rfl ?_
      refine zp_i (y := zqsource (nI 7) (T, O, (w, rp, wi, pa, un, la, ru, sa, me, se, ta, fa), Gs)) rfl ?_
      refine zp_ret (v := (some (.int (zqsource (nI 7) (T, O, (w, rp, wi, pa, un, la, ru, sa, me, se, ta, fa), Gs))))) dX11_source_123 ⟨⟨_, rfl, rfl⟩, rfl⟩ (by decide) (by decide) ?_
      rw [hQ]
      exact ⟨rfl, rfl, (sw102).mono (fun i hi => by unfold zmA; unfold zon at hi; omega), H.upd ((sw102).mono (fun i hi => by unfold zcz; unfold zon at hi; omega)) (zw102) ⟨_, _, _, _, k101_0, hms⟩ (((hx).keep (sw102 _ (by unfold zon; omega)))) (((hT).keep (sw102 _ (by unfold zon; omega)))) (((hO).keep (sw102 _ (by unfold zon; omega)))) hS (by omega)⟩
  · refine zp_tabOut (tgt := 124) dX11_source_6 hx9 (by decide) ?_
    have zo := fun j hj => zsw_out (k := 8) hx9 j hj (by decide)
    refine zp_iconst (v := (-1)) dX11_source_124 (by decide) ?_
    refine zp_pc (pc' := 125) rfl ?_
    refine zp_i (y := zqsource x (T, O, (w, rp, wi, pa, un, la, ru, sa, me, se, ta, fa), Gs)) (by show _ = zsrc (w, rp, wi, pa, un, la, ru, sa, me, se, ta, fa) x; rw [zsrc, if_neg (zo 0 (by decide)), if_neg (zo 1 (by decide)), if_neg (zo 2 (by decide)), if_neg (zo 3 (by decide)), if_neg (zo 4 (by decide)), if_neg (zo 5 (by decide)), if_neg (zo 6 (by decide)), if_neg (zo 7 (by decide))]) ?_
    refine zp_ret (v := (some (.int (zqsource x (T, O, (w, rp, wi, pa, un, la, ru, sa, me, se, ta, fa), Gs))))) dX11_source_125 ⟨⟨_, rfl, rfl⟩, rfl⟩ (by decide) (by decide) ?_
    rw [hQ]
    exact ⟨rfl, rfl, (sw102).mono (fun i hi => by unfold zmA; unfold zon at hi; omega), H.upd ((sw102).mono (fun i hi => by unfold zcz; unfold zon at hi; omega)) (zw102) ⟨_, _, _, _, k101_0, hms⟩ (((hx).keep (sw102 _ (by unfold zon; omega)))) (((hT).keep (sw102 _ (by unfold zon; omega)))) (((hO).keep (sw102 _ (by unfold zon; omega)))) hS (by omega)⟩
set_option maxRecDepth 10000 in
set_option maxHeartbeats 2000000 in
theorem E_supply {g : ZG} {h : ZH} {n : Nat} {t : Nat} {T O w : List Nat} {un : Bool} {rp wi pa la ru sa me se ta fa : Int32} {Gs : Nat → Option ZGn} (H : zMD t h (T, O, (w, rp, wi, pa, un, la, ru, sa, me, se, ta, fa), Gs)) : zMt g mX11_supply (zR 1 0 0) [.ref (64)] h n (fun v h' n' => v = some (.int (zqsupply (T, O, (w, rp, wi, pa, un, la, ru, sa, me, se, ta, fa), Gs)).1) ∧ n' = n ∧ zsm h h' zmA ∧ zMD (t + 2) h' (zqsupply (T, O, (w, rp, wi, pa, un, la, ru, sa, me, se, ta, fa), Gs)).2) := by
  refine zMt.of [some (.ref (64)), none] (by decide) rfl (Nat.le_of_ble_eq_true rfl) ?_
  obtain ⟨Qf, hQ⟩ : ∃ Qf : ZQ, Qf = (fun v h' n' => v = some (.int (zqsupply (T, O, (w, rp, wi, pa, un, la, ru, sa, me, se, ta, fa), Gs)).1) ∧ n' = n ∧ zsm h h' zmA ∧ zMD (t + 2) h' (zqsupply (T, O, (w, rp, wi, pa, un, la, ru, sa, me, se, ta, fa), Gs)).2) := ⟨_, rfl⟩
  rw [← hQ]
  obtain ⟨⟨th, mn, mq, sq, ho, hms⟩, hw, hx, h85, ⟨Aa, h86, hAa⟩, hT, hO, hG, hS⟩ := id H
  have ho : h 64 = some (.inl (10, [.int (th), .ref (65), .ref (66), .ref (67), .ref (68), .ref (69), .ref (70), .ref (71), .ref (72), .ref (73), .ref (74), .ref (75), .ref (76), .ref (77), .ref (78), .ref (79), .ref (80), .ref (81), .ref (82), .ref (83), .ref (84), .int (nI (w.length)), .int (nI (zbi un)), .int (rp), .int (wi), .int (pa), .int (la), .int (ru), .int (sa), .int (mq), .int (sq), .int (ta), .int (fa), .ref (85), .ref (86), .ref (87), .int (nI (mn)), .ref (88), .ref (89), .ref (90), .ref (91), .ref (92), .ref (93), .int (nI (T.length)), .ref (94), .int (nI (O.length))])) := ho
  have hx : zar h 84 1000 w := hx
  have lT := hT.1
  have lO := hO.1
  have lw := hx.1
  have hu := zbi_lt un
  refine zp_aload_n dX11_supply_0 rfl ?_
  refine zp_iconst (v := nI (0)) dX11_supply_1 (by decide) ?_
  refine zp_put (fs' := [.int (nI (0)), .ref (65), .ref (66), .ref (67), .ref (68), .ref (69), .ref (70), .ref (71), .ref (72), .ref (73), .ref (74), .ref (75), .ref (76), .ref (77), .ref (78), .ref (79), .ref (80), .ref (81), .ref (82), .ref (83), .ref (84), .int (nI (w.length)), .int (nI (zbi un)), .int (rp), .int (wi), .int (pa), .int (la), .int (ru), .int (sa), .int (mq), .int (sq), .int (ta), .int (fa), .ref (85), .ref (86), .ref (87), .int (nI (mn)), .ref (88), .ref (89), .ref (90), .ref (91), .ref (92), .ref (93), .int (nI (T.length)), .ref (94), .int (nI (O.length))]) dX11_supply_2 pX11_133_10 (by omega) ho (Nat.le_of_ble_eq_true rfl) (zfit_i _) rfl ?_
  refine zp_nh (fun h101x eh101x => ?_)
  have k101_0 : h101x (64) = some (.inl (10, [.int (nI (0)), .ref (65), .ref (66), .ref (67), .ref (68), .ref (69), .ref (70), .ref (71), .ref (72), .ref (73), .ref (74), .ref (75), .ref (76), .ref (77), .ref (78), .ref (79), .ref (80), .ref (81), .ref (82), .ref (83), .ref (84), .int (nI (w.length)), .int (nI (zbi un)), .int (rp), .int (wi), .int (pa), .int (la), .int (ru), .int (sa), .int (mq), .int (sq), .int (ta), .int (fa), .ref (85), .ref (86), .ref (87), .int (nI (mn)), .ref (88), .ref (89), .ref (90), .ref (91), .ref (92), .ref (93), .int (nI (T.length)), .ref (94), .int (nI (O.length))])) := by rw [eh101x]; exact va_up_self _ _ _
  have sw102 : zsm h h101x (zon (64)) := zsm.rf.up eh101x rfl
  have zw102 : zsh h h101x := zsh.obj eh101x ho
  refine zp_aload_n dX11_supply_5 rfl ?_
  refine zp_get dX11_supply_6 gX11_199_10 k101_0 rfl ?_
  refine zp_pc (pc' := 9) rfl ?_
  refine zn_if_eq (tgt := 14) dX11_supply_9 (by decide) (by omega) (fun c9 => ?_) (fun c9 => ?_)
  · have eu : un = false := by cases un; rfl; exact absurd c9 (by decide)
    refine zp_aload_n dX11_supply_14 rfl ?_
    refine zp_get dX11_supply_15 gX11_206_10 k101_0 rfl ?_
    refine zp_aload_n dX11_supply_18 rfl ?_
    refine zp_get dX11_supply_19 gX11_304_10 k101_0 rfl ?_
    refine zn_iadd dX11_supply_22 ?_
    refine zp_sipush (v := nI (1000)) dX11_supply_23 (by decide) ?_
    refine zp_pc (pc' := 26) rfl ?_
    refine zn_icmp_le (tgt := 32) dX11_supply_26 (by decide) (by omega) (by omega) (fun c26 => ?_) (fun c26 => ?_)
    · have T1 := ((hT).keep (sw102 _ (by unfold zon; omega)))
      have w1 := ((hx).keep (sw102 _ (by unfold zon; omega)))
      have hO1 := ((hO).keep (sw102 _ (by unfold zon; omega)))
      have W103 := zmw.sh hw ((sw102).mono (fun i hi => by unfold zwf; unfold zon at hi; omega)) (zw102) (fun i hi => hi)
      have tb := hT.bytes
      have kt104 : ∀ (h1 : ZH) (S1 : ZSup) (a1 b1 : Int32), zsm h101x h1 zsw2 → zsh h101x h1 → S1 = zrcv (w, rp, wi, pa, un, la, ru, sa, me, se, ta, fa) T → h1 64 = some (zmoc (nI 0) mn T.length O.length a1 b1 S1) → zmst a1 b1 S1 → zar h1 84 1000 S1.1 → zP g mX11_supply (zR 1 0 0) Qf 0 0 65 [some (.ref (64)), none] [] h1 n := by
        intro h1 S1 a1 b1 s1 z1 e1 o1 m1 x1
        obtain ⟨w9, rp9, wi9, pa9, un9, la9, ru9, sa9, me9, se9, ta9, fa9⟩ := S1
        have o1 : h1 64 = some (.inl (10, [.int (nI (0)), .ref (65), .ref (66), .ref (67), .ref (68), .ref (69), .ref (70), .ref (71), .ref (72), .ref (73), .ref (74), .ref (75), .ref (76), .ref (77), .ref (78), .ref (79), .ref (80), .ref (81), .ref (82), .ref (83), .ref (84), .int (nI (w9.length)), .int (nI (zbi un9)), .int (rp9), .int (wi9), .int (pa9), .int (la9), .int (ru9), .int (sa9), .int (a1), .int (b1), .int (ta9), .int (fa9), .ref (85), .ref (86), .ref (87), .int (nI (mn)), .ref (88), .ref (89), .ref (90), .ref (91), .ref (92), .ref (93), .int (nI (T.length)), .ref (94), .int (nI (O.length))])) := o1
        have hu9 := zbi_lt un9
        refine zp_aload_n dX11_supply_65 rfl ?_
        refine zp_pc (pc' := 66) rfl ?_
        refine zp_iconst (v := nI (0)) dX11_supply_66 (by decide) ?_
        have T9 : zar h1 93 240 [] := zar.nil (T1.keep (s1 93 (by unfold zsw2; omega))).ia (by decide)
        have O9 := hO1.keep (s1 94 (by unfold zsw2; omega))
        refine zp_put (fs' := [.int (nI (0)), .ref (65), .ref (66), .ref (67), .ref (68), .ref (69), .ref (70), .ref (71), .ref (72), .ref (73), .ref (74), .ref (75), .ref (76), .ref (77), .ref (78), .ref (79), .ref (80), .ref (81), .ref (82), .ref (83), .ref (84), .int (nI (w9.length)), .int (nI (zbi un9)), .int (rp9), .int (wi9), .int (pa9), .int (la9), .int (ru9), .int (sa9), .int (a1), .int (b1), .int (ta9), .int (fa9), .ref (85), .ref (86), .ref (87), .int (nI (mn)), .ref (88), .ref (89), .ref (90), .ref (91), .ref (92), .ref (93), .int (nI (0)), .ref (94), .int (nI (O.length))]) dX11_supply_67 pX11_304_10 (by omega) o1 (Nat.le_of_ble_eq_true rfl) (zfit_i _) rfl ?_
        refine zp_nh (fun h105x eh105x => ?_)
        have k105_0 : h105x (64) = some (.inl (10, [.int (nI (0)), .ref (65), .ref (66), .ref (67), .ref (68), .ref (69), .ref (70), .ref (71), .ref (72), .ref (73), .ref (74), .ref (75), .ref (76), .ref (77), .ref (78), .ref (79), .ref (80), .ref (81), .ref (82), .ref (83), .ref (84), .int (nI (w9.length)), .int (nI (zbi un9)), .int (rp9), .int (wi9), .int (pa9), .int (la9), .int (ru9), .int (sa9), .int (a1), .int (b1), .int (ta9), .int (fa9), .ref (85), .ref (86), .ref (87), .int (nI (mn)), .ref (88), .ref (89), .ref (90), .ref (91), .ref (92), .ref (93), .int (nI (0)), .ref (94), .int (nI (O.length))])) := by rw [eh105x]; exact va_up_self _ _ _
        have sw106 : zsm h1 h105x (zon (64)) := zsm.rf.up eh105x rfl
        have zw106 : zsh h1 h105x := zsh.obj eh105x o1
        refine zp_aload_n dX11_supply_70 rfl ?_
        refine zp_get dX11_supply_71 gX11_199_10 k105_0 rfl ?_
        refine zp_pc (pc' := 74) rfl ?_
        refine zn_if_eq (tgt := 81) dX11_supply_74 (by decide) (by omega) (fun c74 => ?_) (fun c74 => ?_)
        · have e9 : un9 = false := by cases un9; rfl; exact absurd c74 (by decide)
          refine zp_aload_n dX11_supply_81 rfl ?_
          refine zp_get dX11_supply_82 gX11_206_10 k105_0 rfl ?_
          refine zp_pc (pc' := 85) rfl ?_
          have T8 := ((T9).keep (sw106 _ (by unfold zon; omega)))
          have O8 := ((O9).keep (sw106 _ (by unfold zon; omega)))
          have x8 := ((x1).keep (sw106 _ (by unfold zon; omega)))
          have eq9 : (zqsupply (T, O, (w, rp, wi, pa, un, la, ru, sa, me, se, ta, fa), Gs)) = (nI w9.length, [], O, (w9, rp9, wi9, pa9, un9, la9, ru9, sa9, me9, se9, ta9, fa9), Gs) := by show (if un = true then _ else if 1000 < w.length + T.length then _ else (if zun (zrcv (w, rp, wi, pa, un, la, ru, sa, me, se, ta, fa) T) = true then (-1 : Int32) else nI (zrcv (w, rp, wi, pa, un, la, ru, sa, me, se, ta, fa) T).1.length, ([] : List Nat), O, zrcv (w, rp, wi, pa, un, la, ru, sa, me, se, ta, fa) T, Gs)) = _; rw [if_neg (by rw [eu]; decide), if_neg (by omega), ← e1, if_neg (by show ¬ un9 = true; rw [e9]; decide)]
          refine zp_ret (v := (some (.int (nI (w9.length))))) dX11_supply_85 ⟨⟨_, rfl, rfl⟩, rfl⟩ (by decide) (by decide) ?_
          rw [hQ]
          rw [eq9]; exact ⟨rfl, rfl, (((sw102).mono (fun i hi => by unfold zmA; unfold zon at hi; omega)).trans ((s1).mono (fun i hi => by unfold zmA; unfold zsw2 at hi; omega))).trans ((sw106).mono (fun i hi => by unfold zmA; unfold zon at hi; omega)), H.upd ((((sw102).mono (fun i hi => by unfold zcz; unfold zon at hi; omega)).trans ((s1).mono (fun i hi => by unfold zcz; unfold zsw2 at hi; omega))).trans ((sw106).mono (fun i hi => by unfold zcz; unfold zon at hi; omega))) (((zw102).trans z1).trans zw106) ⟨_, _, _, _, k105_0, m1⟩ (x8) (T8) (O8) (by rw [e1]; exact zsane.rcv hS T tb) (by omega)⟩
        · have e9 : un9 = true := by cases un9; exact absurd rfl c74; rfl
          refine zp_iconst (v := (-1)) dX11_supply_77 (by decide) ?_
          refine zp_goto (tgt := 85) dX11_supply_78 (by decide) ?_
          refine zp_pc (pc' := 85) rfl ?_
          have T8 := ((T9).keep (sw106 _ (by unfold zon; omega)))
          have O8 := ((O9).keep (sw106 _ (by unfold zon; omega)))
          have x8 := ((x1).keep (sw106 _ (by unfold zon; omega)))
          have eq9 : (zqsupply (T, O, (w, rp, wi, pa, un, la, ru, sa, me, se, ta, fa), Gs)) = (-1, [], O, (w9, rp9, wi9, pa9, un9, la9, ru9, sa9, me9, se9, ta9, fa9), Gs) := by show (if un = true then _ else if 1000 < w.length + T.length then _ else (if zun (zrcv (w, rp, wi, pa, un, la, ru, sa, me, se, ta, fa) T) = true then (-1 : Int32) else nI (zrcv (w, rp, wi, pa, un, la, ru, sa, me, se, ta, fa) T).1.length, ([] : List Nat), O, zrcv (w, rp, wi, pa, un, la, ru, sa, me, se, ta, fa) T, Gs)) = _; rw [if_neg (by rw [eu]; decide), if_neg (by omega), ← e1, if_pos (show un9 = true from e9)]
          refine zp_ret (v := (some (.int ((-1))))) dX11_supply_85 ⟨⟨_, rfl, rfl⟩, rfl⟩ (by decide) (by decide) ?_
          rw [hQ]
          rw [eq9]; exact ⟨rfl, rfl, (((sw102).mono (fun i hi => by unfold zmA; unfold zon at hi; omega)).trans ((s1).mono (fun i hi => by unfold zmA; unfold zsw2 at hi; omega))).trans ((sw106).mono (fun i hi => by unfold zmA; unfold zon at hi; omega)), H.upd ((((sw102).mono (fun i hi => by unfold zcz; unfold zon at hi; omega)).trans ((s1).mono (fun i hi => by unfold zcz; unfold zsw2 at hi; omega))).trans ((sw106).mono (fun i hi => by unfold zcz; unfold zon at hi; omega))) (((zw102).trans z1).trans zw106) ⟨_, _, _, _, k105_0, m1⟩ (x8) (T8) (O8) (by rw [e1]; exact zsane.rcv hS T tb) (by omega)⟩
      refine zp_iconst (v := nI (0)) dX11_supply_32 (by decide) ?_
      refine zp_istore_n (ls' := [some (.ref (64)), some (.int (nI (0)))]) dX11_supply_33 (by decide) rfl ?_
      refine zp_pc (pc' := 34) rfl ?_
      have lp : ∀ (m : Nat) (k : Nat) (h1 : ZH) (S1 : ZSup) (a1 b1 : Int32), m = T.length - k → k ≤ T.length → zsm h101x h1 zsw2 → zsh h101x h1 → S1 = zrcv (w, rp, wi, pa, un, la, ru, sa, me, se, ta, fa) (T.take k) → h1 64 = some (zmoc (nI 0) mn T.length O.length a1 b1 S1) → zmst a1 b1 S1 → zar h1 84 1000 S1.1 → zP g mX11_supply (zR 1 0 0) Qf 0 0 34 [some (.ref (64)), some (.int (nI (k)))] [] h1 n := by
        intro m
        induction m using Nat.strongRecOn with
        | _ m ih =>
          intro k h1 S1 a1 b1 hm1 hk1 s1 z1 e1 o1 m1 x1
          have ln : S1.1.length ≤ w.length + k := by rw [e1]; have := zrcv_len (w, rp, wi, pa, un, la, ru, sa, me, se, ta, fa) (T.take k); rw [List.length_take] at this; have e0 : ((w, rp, wi, pa, un, la, ru, sa, me, se, ta, fa) : ZSup).1.length = w.length := rfl; omega
          obtain ⟨w9, rp9, wi9, pa9, un9, la9, ru9, sa9, me9, se9, ta9, fa9⟩ := S1
          have o2 : h1 64 = some (.inl (10, [.int (nI (0)), .ref (65), .ref (66), .ref (67), .ref (68), .ref (69), .ref (70), .ref (71), .ref (72), .ref (73), .ref (74), .ref (75), .ref (76), .ref (77), .ref (78), .ref (79), .ref (80), .ref (81), .ref (82), .ref (83), .ref (84), .int (nI (w9.length)), .int (nI (zbi un9)), .int (rp9), .int (wi9), .int (pa9), .int (la9), .int (ru9), .int (sa9), .int (a1), .int (b1), .int (ta9), .int (fa9), .ref (85), .ref (86), .ref (87), .int (nI (mn)), .ref (88), .ref (89), .ref (90), .ref (91), .ref (92), .ref (93), .int (nI (T.length)), .ref (94), .int (nI (O.length))])) := o1
          have hu9 := zbi_lt un9
          have T2 := T1.keep (s1 93 (by unfold zsw2; omega))
          obtain ⟨la107, lb107, lc107, lf107, ld107, le107⟩ := id T2
          refine zp_iload_n dX11_supply_34 rfl ?_
          refine zp_aload_n dX11_supply_35 rfl ?_
          refine zp_get dX11_supply_36 gX11_304_10 o2 rfl ?_
          refine zp_pc (pc' := 39) rfl ?_
          refine zn_icmp_ge (tgt := 65) dX11_supply_39 (by decide) (by omega) (by omega) (fun c39 => ?_) (fun c39 => ?_)
          · refine zp_drop (ls' := [some (.ref (64)), none]) (fun i v hv => ?_) ?_
            · rcases i with _ | _ | i <;> simp at hv ⊢ <;> exact hv
            exact kt104 h1 (w9, rp9, wi9, pa9, un9, la9, ru9, sa9, me9, se9, ta9, fa9) a1 b1 s1 z1 (by rw [e1, show k = T.length by omega, List.take_length]) o1 m1 x1
          · refine zp_aload_n dX11_supply_42 rfl ?_
            refine zp_get dX11_supply_43 gX11_199_10 o2 rfl ?_
            refine zp_pc (pc' := 46) rfl ?_
            refine zn_if_ne (tgt := 65) dX11_supply_46 (by decide) (by omega) (fun c46 => ?_) (fun c46 => ?_)
            · have e9 : un9 = true := by cases un9; exact absurd rfl c46; rfl
              refine zp_drop (ls' := [some (.ref (64)), none]) (fun i v hv => ?_) ?_
              · rcases i with _ | _ | i <;> simp at hv ⊢ <;> exact hv
              exact kt104 h1 (w9, rp9, wi9, pa9, un9, la9, ru9, sa9, me9, se9, ta9, fa9) a1 b1 s1 z1 (by rw [zrcv_stop (by rw [← e1]; exact e9)]; exact e1) o1 m1 x1
            · have e9 : un9 = false := by cases un9; rfl; exact absurd c46 (by decide)
              have hby := zgetD_lt tb k
              refine zp_aload_n dX11_supply_49 rfl ?_
              refine zp_aload_n dX11_supply_50 rfl ?_
              refine zp_get dX11_supply_51 gX11_114_10 o2 rfl ?_
              refine zp_iload_n dX11_supply_54 rfl ?_
              refine zp_pc (pc' := 55) rfl ?_
              refine zn_iald (j := k) dX11_supply_55 ld107 (by omega) (by omega) ?_
              refine zp_i (y := nI (T.getD k 0)) (le107 _ (by omega)) ?_
              have lw9 : w9.length ≤ w.length + k := ln
              refine zp_callV (As := [.int (nI (T.getD k 0))]) (k := 64) (st := []) (ci := 10) dX11_supply_56 cX11_307 rfl o2 rfl rfl (e_mcomes (x := T.getD k 0) o1 m1 x1 hby (by omega)) (by decide) (by decide) (Nat.le_of_ble_eq_true rfl) (fun v108 h108 n108 q108 => ?_)
              obtain ⟨rfl, N108, s108, z108, m2, n2, o108, g108, w108⟩ := q108
              rw [N108]
              refine zp_nrm (cells' := 0) (slots' := 0) (st' := []) rfl rfl rfl ?_
              have m109 : h108 (93) = some (.inr (240, .inl lf107)) := (s108 _ (by unfold zsw2; omega)).trans ld107
              refine zn_iinc 1 (ls' := [some (.ref (64)), some (.int (nI (k + 1)))]) dX11_supply_59 (by decide) (by decide) rfl rfl ?_
              refine zp_goto (tgt := 34) dX11_supply_62 (by decide) ?_
              refine zp_pc (pc' := 34) rfl ?_
              exact ih (T.length - (k + 1)) (by omega) (k + 1) h108 _ m2 n2 rfl (by omega) (s1.trans s108) (z1.trans z108) (by rw [zrcv_one (by omega) (by rw [← e1]; exact e9), ← e1]) o108 g108 w108
      exact lp _ 0 h101x (w, rp, wi, pa, un, la, ru, sa, me, se, ta, fa) _ _ rfl (Nat.zero_le _) zsm.rf zsh.rf (by rw [List.take_zero]; rfl) k101_0 hms w1
    · refine zp_bipush (v := (-2)) dX11_supply_29 (by decide) ?_
      refine zp_pc (pc' := 31) rfl ?_
      have eq9 : (zqsupply (T, O, (w, rp, wi, pa, un, la, ru, sa, me, se, ta, fa), Gs)) = (-2, T, O, (w, rp, wi, pa, un, la, ru, sa, me, se, ta, fa), Gs) := (if_neg (by show ¬ un = true; rw [eu]; decide)).trans (if_pos (by show 1000 < w.length + T.length; omega))
      refine zp_ret (v := (some (.int ((-2))))) dX11_supply_31 ⟨⟨_, rfl, rfl⟩, rfl⟩ (by decide) (by decide) ?_
      rw [hQ]
      rw [eq9]; exact ⟨rfl, rfl, (sw102).mono (fun i hi => by unfold zmA; unfold zon at hi; omega), H.upd ((sw102).mono (fun i hi => by unfold zcz; unfold zon at hi; omega)) (zw102) ⟨_, _, _, _, k101_0, hms⟩ (((hx).keep (sw102 _ (by unfold zon; omega)))) (((hT).keep (sw102 _ (by unfold zon; omega)))) (((hO).keep (sw102 _ (by unfold zon; omega)))) hS (by omega)⟩
  · have eu : un = true := by cases un; exact absurd rfl c9; rfl
    refine zp_iconst (v := (-1)) dX11_supply_12 (by decide) ?_
    refine zp_pc (pc' := 13) rfl ?_
    have eq9 : (zqsupply (T, O, (w, rp, wi, pa, un, la, ru, sa, me, se, ta, fa), Gs)) = (-1, T, O, (w, rp, wi, pa, un, la, ru, sa, me, se, ta, fa), Gs) := if_pos eu
    refine zp_ret (v := (some (.int ((-1))))) dX11_supply_13 ⟨⟨_, rfl, rfl⟩, rfl⟩ (by decide) (by decide) ?_
    rw [hQ]
    rw [eq9]; exact ⟨rfl, rfl, (sw102).mono (fun i hi => by unfold zmA; unfold zon at hi; omega), H.upd ((sw102).mono (fun i hi => by unfold zcz; unfold zon at hi; omega)) (zw102) ⟨_, _, _, _, k101_0, hms⟩ (((hx).keep (sw102 _ (by unfold zon; omega)))) (((hT).keep (sw102 _ (by unfold zon; omega)))) (((hO).keep (sw102 _ (by unfold zon; omega)))) hS (by omega)⟩
set_option maxRecDepth 10000 in
set_option maxHeartbeats 2000000 in
theorem E_derive {g : ZG} {h : ZH} {n : Nat} {t : Nat} {T O w : List Nat} {un : Bool} {rp wi pa la ru sa me se ta fa : Int32} {Gs : Nat → Option ZGn} {x k : Int32} (H : zMD t h (T, O, (w, rp, wi, pa, un, la, ru, sa, me, se, ta, fa), Gs)) : zMt g mX11_derive_ (zR 5 0 0) [.ref (64), .int (x), .int (k)] h n (fun v h' n' => v = some (.int (nI (zbi (zqderive x k (T, O, (w, rp, wi, pa, un, la, ru, sa, me, se, ta, fa), Gs)).1))) ∧ n' = n ∧ zsm h h' zmA ∧ zMD (t + 2) h' (zqderive x k (T, O, (w, rp, wi, pa, un, la, ru, sa, me, se, ta, fa), Gs)).2) := by
  refine zMt.of [some (.ref (64)), some (.int (x)), some (.int (k))] (by decide) rfl (Nat.le_of_ble_eq_true rfl) ?_
  obtain ⟨Qf, hQ⟩ : ∃ Qf : ZQ, Qf = (fun v h' n' => v = some (.int (nI (zbi (zqderive x k (T, O, (w, rp, wi, pa, un, la, ru, sa, me, se, ta, fa), Gs)).1))) ∧ n' = n ∧ zsm h h' zmA ∧ zMD (t + 2) h' (zqderive x k (T, O, (w, rp, wi, pa, un, la, ru, sa, me, se, ta, fa), Gs)).2) := ⟨_, rfl⟩
  rw [← hQ]
  obtain ⟨⟨th, mn, mq, sq, ho, hms⟩, hw, hx, h85, ⟨Aa, h86, hAa⟩, hT, hO, hG, hS⟩ := id H
  have ho : h 64 = some (.inl (10, [.int (th), .ref (65), .ref (66), .ref (67), .ref (68), .ref (69), .ref (70), .ref (71), .ref (72), .ref (73), .ref (74), .ref (75), .ref (76), .ref (77), .ref (78), .ref (79), .ref (80), .ref (81), .ref (82), .ref (83), .ref (84), .int (nI (w.length)), .int (nI (zbi un)), .int (rp), .int (wi), .int (pa), .int (la), .int (ru), .int (sa), .int (mq), .int (sq), .int (ta), .int (fa), .ref (85), .ref (86), .ref (87), .int (nI (mn)), .ref (88), .ref (89), .ref (90), .ref (91), .ref (92), .ref (93), .int (nI (T.length)), .ref (94), .int (nI (O.length))])) := ho
  have hx : zar h 84 1000 w := hx
  have lT := hT.1
  have lO := hO.1
  have lw := hx.1
  refine zp_aload_n dX11_derive__0 rfl ?_
  refine zp_iconst (v := nI (0)) dX11_derive__1 (by decide) ?_
  refine zp_put (fs' := [.int (nI (0)), .ref (65), .ref (66), .ref (67), .ref (68), .ref (69), .ref (70), .ref (71), .ref (72), .ref (73), .ref (74), .ref (75), .ref (76), .ref (77), .ref (78), .ref (79), .ref (80), .ref (81), .ref (82), .ref (83), .ref (84), .int (nI (w.length)), .int (nI (zbi un)), .int (rp), .int (wi), .int (pa), .int (la), .int (ru), .int (sa), .int (mq), .int (sq), .int (ta), .int (fa), .ref (85), .ref (86), .ref (87), .int (nI (mn)), .ref (88), .ref (89), .ref (90), .ref (91), .ref (92), .ref (93), .int (nI (T.length)), .ref (94), .int (nI (O.length))]) dX11_derive__2 pX11_133_10 (by omega) ho (Nat.le_of_ble_eq_true rfl) (zfit_i _) rfl ?_
  refine zp_nh (fun h101x eh101x => ?_)
  have k101_0 : h101x (64) = some (.inl (10, [.int (nI (0)), .ref (65), .ref (66), .ref (67), .ref (68), .ref (69), .ref (70), .ref (71), .ref (72), .ref (73), .ref (74), .ref (75), .ref (76), .ref (77), .ref (78), .ref (79), .ref (80), .ref (81), .ref (82), .ref (83), .ref (84), .int (nI (w.length)), .int (nI (zbi un)), .int (rp), .int (wi), .int (pa), .int (la), .int (ru), .int (sa), .int (mq), .int (sq), .int (ta), .int (fa), .ref (85), .ref (86), .ref (87), .int (nI (mn)), .ref (88), .ref (89), .ref (90), .ref (91), .ref (92), .ref (93), .int (nI (T.length)), .ref (94), .int (nI (O.length))])) := by rw [eh101x]; exact va_up_self _ _ _
  have sw102 : zsm h h101x (zon (64)) := zsm.rf.up eh101x rfl
  have zw102 : zsh h h101x := zsh.obj eh101x ho
  refine zp_iload_n dX11_derive__5 rfl ?_
  refine zp_iconst (v := nI (0)) dX11_derive__6 (by decide) ?_
  refine zp_iconst (v := nI (3)) dX11_derive__7 (by decide) ?_
  refine zp_pc (pc' := 8) rfl ?_
  refine zp_callS (As := [.int (x), .int (nI (0)), .int (nI (3))]) (st := []) dX11_derive__8 cX11_297 rfl e_in (by decide) (by decide) (Nat.le_of_ble_eq_true rfl) (fun v103 h103 n103 q103 => ?_)
  obtain ⟨rfl, H103, N103⟩ := q103
  rw [N103, H103]
  refine zp_nrm (cells' := 0) (slots' := 0) (st' := [.int (nI (zbi (decide (nI 0 ≤ x ∧ x ≤ nI 3))))]) rfl rfl rfl ?_
  refine zn_if_eq (tgt := 25) dX11_derive__11 (by decide) (by have := zbi_lt (decide (nI 0 ≤ x ∧ x ≤ nI 3)); omega) (fun c11 => ?_) (fun c11 => ?_)
  · have bq104F : (decide (nI 0 ≤ x ∧ x ≤ nI 3)) = false := by rcases Bool.eq_false_or_eq_true (decide (nI 0 ≤ x ∧ x ≤ nI 3)) with q | q; rw [q] at c11; exact absurd c11 (by decide); exact q
    refine zp_iconst (v := nI (0)) dX11_derive__25 (by decide) ?_
    refine zp_pc (pc' := 26) rfl ?_
    refine zp_i (y := nI (zbi false)) rfl ?_
    have eq9 : (zqderive x k (T, O, (w, rp, wi, pa, un, la, ru, sa, me, se, ta, fa), Gs)) = (false, T, O, (w, rp, wi, pa, un, la, ru, sa, me, se, ta, fa), Gs) := if_pos ((zin_not (of_decide_eq_false bq104F)).elim Or.inl (fun q => Or.inr (Or.inl q)))
    refine zp_ret (v := (some (.int (nI (zbi false))))) dX11_derive__26 ⟨⟨_, rfl, ((zfit_b _) g).1⟩, rfl⟩ (by decide) (by decide) ?_
    rw [hQ]
    rw [eq9]; exact ⟨rfl, rfl, (sw102).mono (fun i hi => by unfold zmA; unfold zon at hi; omega), H.upd ((sw102).mono (fun i hi => by unfold zcz; unfold zon at hi; omega)) (zw102) ⟨_, _, _, _, k101_0, hms⟩ (((hx).keep (sw102 _ (by unfold zon; omega)))) (((hT).keep (sw102 _ (by unfold zon; omega)))) (((hO).keep (sw102 _ (by unfold zon; omega)))) hS (by omega)⟩
  · have bq104T : (decide (nI 0 ≤ x ∧ x ≤ nI 3)) = true := by rcases Bool.eq_false_or_eq_true (decide (nI 0 ≤ x ∧ x ≤ nI 3)) with q | q; exact q; rw [q] at c11; exact absurd rfl c11
    refine zp_iload_n dX11_derive__14 rfl ?_
    refine zp_iconst (v := nI (1)) dX11_derive__15 (by decide) ?_
    refine zp_sipush (v := nI (200)) dX11_derive__16 (by decide) ?_
    refine zp_pc (pc' := 19) rfl ?_
    refine zp_callS (As := [.int (k), .int (nI (1)), .int (nI (200))]) (st := []) dX11_derive__19 cX11_297 rfl e_in (by decide) (by decide) (Nat.le_of_ble_eq_true rfl) (fun v105 h105 n105 q105 => ?_)
    obtain ⟨rfl, H105, N105⟩ := q105
    rw [N105, H105]
    refine zp_nrm (cells' := 0) (slots' := 0) (st' := [.int (nI (zbi (decide (nI 1 ≤ k ∧ k ≤ nI 200))))]) rfl rfl rfl ?_
    refine zn_if_ne (tgt := 27) dX11_derive__22 (by decide) (by have := zbi_lt (decide (nI 1 ≤ k ∧ k ≤ nI 200)); omega) (fun c22 => ?_) (fun c22 => ?_)
    · have bq106T : (decide (nI 1 ≤ k ∧ k ≤ nI 200)) = true := by rcases Bool.eq_false_or_eq_true (decide (nI 1 ≤ k ∧ k ≤ nI 200)) with q | q; exact q; rw [q] at c22; exact absurd rfl c22
      have k1 := zin_yes (of_decide_eq_true bq104T)
      have k2 := zin_yes (of_decide_eq_true bq106T)
      have nr : ¬ (x < 0 ∨ nI 3 < x ∨ k < nI 1 ∨ nI 200 < k) := fun q => q.elim (fun q => k1 (Or.inl q)) (fun q => q.elim (fun q => k1 (Or.inr q)) (fun q => k2 q))
      obtain ⟨j, hj, rfl⟩ := zin_nat (by decide) (of_decide_eq_true bq104T)
      obtain ⟨c, hc, rfl⟩ := zin_nat (b := 200) (by decide) ⟨Int32.le_trans (show nI 0 ≤ nI 1 by decide) (of_decide_eq_true bq106T).1, (of_decide_eq_true bq106T).2⟩
      have T1 := ((hT).keep (sw102 _ (by unfold zon; omega)))
      have O1 := ((hO.ia).keep (sw102 _ (by unfold zon; omega)))
      have W107 := zmw.sh hw ((sw102).mono (fun i hi => by unfold zwf; unfold zon at hi; omega)) (zw102) (fun i hi => hi)
      refine zp_iload_n dX11_derive__27 rfl ?_
      refine zp_iconst (v := nI (2)) dX11_derive__28 (by decide) ?_
      refine zp_pc (pc' := 29) rfl ?_
      refine zn_icmp_ge (tgt := 62) dX11_derive__29 (by decide) (by omega) (by omega) (fun c29 => ?_) (fun c29 => ?_)
      · refine zp_aload_n dX11_derive__62 rfl ?_
        refine zp_iload_n dX11_derive__63 rfl ?_
        refine zp_iconst (v := nI (2)) dX11_derive__64 (by decide) ?_
        refine zp_pc (pc' := 65) rfl ?_
        have jn108 : zP g mX11_derive_ (zR 5 0 0) Qf 0 0 75 [some (.ref (64)), some (.int (nI (j))), some (.int (nI (c)))] [.int (nI (zkl (zod j))), .ref (64)] h101x n → zP g mX11_derive_ (zR 5 0 0) Qf 0 0 65 [some (.ref (64)), some (.int (nI (j))), some (.int (nI (c)))] [.int (nI (2)), .int (nI (j)), .ref (64)] h101x n := by
          intro jk108
          refine zn_icmp_ne (tgt := 73) dX11_derive__65 (by decide) (by omega) (by omega) (fun c65 => ?_) (fun c65 => ?_)
          · refine zp_bipush (v := nI (32)) dX11_derive__73 (by decide) ?_
            refine zp_pc (pc' := 75) rfl ?_
            refine zp_i (y := nI (zkl (zod j))) (by rw [show j = 3 by omega]; rfl) ?_
            exact jk108
          · refine zp_bipush (v := nI (16)) dX11_derive__68 (by decide) ?_
            refine zp_goto (tgt := 75) dX11_derive__70 (by decide) ?_
            refine zp_pc (pc' := 75) rfl ?_
            refine zp_i (y := nI (zkl (zod j))) (by rw [show j = 2 by omega]; rfl) ?_
            exact jk108
        refine jn108 ?_
        refine zp_aload_n dX11_derive__75 rfl ?_
        refine zp_get dX11_derive__76 gX11_114_10 k101_0 rfl ?_
        refine zp_aload_n dX11_derive__79 rfl ?_
        refine zp_get dX11_derive__80 gX11_304_10 k101_0 rfl ?_
        refine zp_aload_n dX11_derive__83 rfl ?_
        refine zp_get dX11_derive__84 gX11_117_10 k101_0 rfl ?_
        refine zp_iload_n dX11_derive__87 rfl ?_
        refine zp_pc (pc' := 88) rfl ?_
        refine zp_callV (As := [.int (nI (zkl (zod j))), .ref (93), .int (nI (T.length)), .ref (94), .int (nI (c))]) (k := 64) (st := []) (ci := 10) dX11_derive__88 cX11_274 rfl k101_0 rfl rfl (e_mdce (b := zod j) (p := 93) (r := 94) (k := c) W107 k101_0 T1 O1 (by omega) (by decide) (by decide) (by decide) (by decide) (by omega) (by omega)) (by decide) (by decide) (Nat.le_of_ble_eq_true rfl) (fun v109 h109 n109 q109 => ?_)
        obtain ⟨rfl, N109, s109, z109, d109⟩ := q109
        rw [N109]
        refine zp_nrm (cells' := 0) (slots' := 0) (st' := []) rfl rfl rfl ?_
        have m110 : h109 (64) = some (.inl (10, [.int (nI (0)), .ref (65), .ref (66), .ref (67), .ref (68), .ref (69), .ref (70), .ref (71), .ref (72), .ref (73), .ref (74), .ref (75), .ref (76), .ref (77), .ref (78), .ref (79), .ref (80), .ref (81), .ref (82), .ref (83), .ref (84), .int (nI (w.length)), .int (nI (zbi un)), .int (rp), .int (wi), .int (pa), .int (la), .int (ru), .int (sa), .int (mq), .int (sq), .int (ta), .int (fa), .ref (85), .ref (86), .ref (87), .int (nI (mn)), .ref (88), .ref (89), .ref (90), .ref (91), .ref (92), .ref (93), .int (nI (T.length)), .ref (94), .int (nI (O.length))])) := (s109 _ (by unfold zs9; omega)).trans k101_0
        refine zp_aload_n dX11_derive__91 rfl ?_
        refine zp_iload_n dX11_derive__92 rfl ?_
        refine zp_pc (pc' := 93) rfl ?_
        refine zp_i (y := nI ((zdce (zod j) T c).length)) (by rw [zdce_len]) ?_
        refine zp_put (fs' := [.int (nI (0)), .ref (65), .ref (66), .ref (67), .ref (68), .ref (69), .ref (70), .ref (71), .ref (72), .ref (73), .ref (74), .ref (75), .ref (76), .ref (77), .ref (78), .ref (79), .ref (80), .ref (81), .ref (82), .ref (83), .ref (84), .int (nI (w.length)), .int (nI (zbi un)), .int (rp), .int (wi), .int (pa), .int (la), .int (ru), .int (sa), .int (mq), .int (sq), .int (ta), .int (fa), .ref (85), .ref (86), .ref (87), .int (nI (mn)), .ref (88), .ref (89), .ref (90), .ref (91), .ref (92), .ref (93), .int (nI (T.length)), .ref (94), .int (nI ((zdce (zod j) T c).length))]) dX11_derive__93 pX11_342_10 (by omega) m110 (Nat.le_of_ble_eq_true rfl) (zfit_i _) rfl ?_
        refine zp_nh (fun h111x eh111x => ?_)
        have k111_0 : h111x (64) = some (.inl (10, [.int (nI (0)), .ref (65), .ref (66), .ref (67), .ref (68), .ref (69), .ref (70), .ref (71), .ref (72), .ref (73), .ref (74), .ref (75), .ref (76), .ref (77), .ref (78), .ref (79), .ref (80), .ref (81), .ref (82), .ref (83), .ref (84), .int (nI (w.length)), .int (nI (zbi un)), .int (rp), .int (wi), .int (pa), .int (la), .int (ru), .int (sa), .int (mq), .int (sq), .int (ta), .int (fa), .ref (85), .ref (86), .ref (87), .int (nI (mn)), .ref (88), .ref (89), .ref (90), .ref (91), .ref (92), .ref (93), .int (nI (T.length)), .ref (94), .int (nI ((zdce (zod j) T c).length))])) := by rw [eh111x]; exact va_up_self _ _ _
        have sw112 : zsm h109 h111x (zon (64)) := zsm.rf.up eh111x rfl
        have zw112 : zsh h109 h111x := zsh.obj eh111x m110
        refine zp_iconst (v := nI (1)) dX11_derive__96 (by decide) ?_
        refine zp_pc (pc' := 97) rfl ?_
        refine zp_i (y := nI (zbi true)) rfl ?_
        have O9 := ((d109).keep (sw112 _ (by unfold zon; omega)))
        have eq9 : (zqderive (nI j) (nI c) (T, O, (w, rp, wi, pa, un, la, ru, sa, me, se, ta, fa), Gs)) = (true, T, (zdce (zod j) T c), (w, rp, wi, pa, un, la, ru, sa, me, se, ta, fa), Gs) := (if_neg nr).trans (by rw [if_neg (fun q => by have := (nI_ltI (by omega) (by decide)).mp q; omega), nI_clamp (by omega), nI_clamp (by omega)])
        refine zp_ret (v := (some (.int (nI (zbi true))))) dX11_derive__97 ⟨⟨_, rfl, ((zfit_b _) g).1⟩, rfl⟩ (by decide) (by decide) ?_
        rw [hQ]
        rw [eq9]; exact ⟨rfl, rfl, (((sw102).mono (fun i hi => by unfold zmA; unfold zon at hi; omega)).trans ((s109).mono (fun i hi => by unfold zmA; unfold zs9 at hi; omega))).trans ((sw112).mono (fun i hi => by unfold zmA; unfold zon at hi; omega)), H.upd ((((sw102).mono (fun i hi => by unfold zcz; unfold zon at hi; omega)).trans ((s109).mono (fun i hi => by unfold zcz; unfold zs9 at hi; omega))).trans ((sw112).mono (fun i hi => by unfold zcz; unfold zon at hi; omega))) (((zw102).trans z109).trans zw112) ⟨_, _, _, _, k111_0, hms⟩ (((((hx).keep (sw102 _ (by unfold zon; omega))).keep (s109 _ (by unfold zs9; omega))).keep (sw112 _ (by unfold zon; omega)))) (((((hT).keep (sw102 _ (by unfold zon; omega))).keep (s109 _ (by unfold zs9; omega))).keep (sw112 _ (by unfold zon; omega)))) (O9) hS (by omega)⟩
      · refine zp_aload_n dX11_derive__32 rfl ?_
        refine zp_iload_n dX11_derive__33 rfl ?_
        refine zp_iconst (v := nI (1)) dX11_derive__34 (by decide) ?_
        refine zp_pc (pc' := 35) rfl ?_
        have jn113 : zP g mX11_derive_ (zR 5 0 0) Qf 0 0 43 [some (.ref (64)), some (.int (nI (j))), some (.int (nI (c)))] [.int (nI (zbi (zod j))), .ref (64)] h101x n → zP g mX11_derive_ (zR 5 0 0) Qf 0 0 35 [some (.ref (64)), some (.int (nI (j))), some (.int (nI (c)))] [.int (nI (1)), .int (nI (j)), .ref (64)] h101x n := by
          intro jk113
          refine zn_icmp_ne (tgt := 42) dX11_derive__35 (by decide) (by omega) (by omega) (fun c35 => ?_) (fun c35 => ?_)
          · refine zp_iconst (v := nI (0)) dX11_derive__42 (by decide) ?_
            refine zp_pc (pc' := 43) rfl ?_
            refine zp_i (y := nI (zbi (zod j))) (by rw [show j = 0 by omega]; rfl) ?_
            exact jk113
          · refine zp_iconst (v := nI (1)) dX11_derive__38 (by decide) ?_
            refine zp_goto (tgt := 43) dX11_derive__39 (by decide) ?_
            refine zp_pc (pc' := 43) rfl ?_
            refine zp_i (y := nI (zbi (zod j))) (by rw [show j = 1 by omega]; rfl) ?_
            exact jk113
        refine jn113 ?_
        refine zp_aload_n dX11_derive__43 rfl ?_
        refine zp_get dX11_derive__44 gX11_114_10 k101_0 rfl ?_
        refine zp_aload_n dX11_derive__47 rfl ?_
        refine zp_get dX11_derive__48 gX11_304_10 k101_0 rfl ?_
        refine zp_aload_n dX11_derive__51 rfl ?_
        refine zp_get dX11_derive__52 gX11_117_10 k101_0 rfl ?_
        refine zp_iload_n dX11_derive__55 rfl ?_
        refine zp_pc (pc' := 56) rfl ?_
        refine zp_callV (As := [.int (nI (zbi (zod j))), .ref (93), .int (nI (T.length)), .ref (94), .int (nI (c))]) (k := 64) (st := []) (ci := 10) dX11_derive__56 cX11_239 rfl k101_0 rfl rfl (e_mderW (b := zod j) (p := 93) (r := 94) (k := c) W107 k101_0 T1 O1 (by omega) (by decide) (by decide) (by decide) (by decide) (by omega) (by omega)) (by decide) (by decide) (Nat.le_of_ble_eq_true rfl) (fun v114 h114 n114 q114 => ?_)
        obtain ⟨rfl, N114, s114, z114, d114⟩ := q114
        rw [N114]
        refine zp_nrm (cells' := 0) (slots' := 0) (st' := []) rfl rfl rfl ?_
        have m115 : h114 (64) = some (.inl (10, [.int (nI (0)), .ref (65), .ref (66), .ref (67), .ref (68), .ref (69), .ref (70), .ref (71), .ref (72), .ref (73), .ref (74), .ref (75), .ref (76), .ref (77), .ref (78), .ref (79), .ref (80), .ref (81), .ref (82), .ref (83), .ref (84), .int (nI (w.length)), .int (nI (zbi un)), .int (rp), .int (wi), .int (pa), .int (la), .int (ru), .int (sa), .int (mq), .int (sq), .int (ta), .int (fa), .ref (85), .ref (86), .ref (87), .int (nI (mn)), .ref (88), .ref (89), .ref (90), .ref (91), .ref (92), .ref (93), .int (nI (T.length)), .ref (94), .int (nI (O.length))])) := (s114 _ (by unfold zs7; omega)).trans k101_0
        refine zp_goto (tgt := 91) dX11_derive__59 (by decide) ?_
        refine zp_pc (pc' := 91) rfl ?_
        refine zp_aload_n dX11_derive__91 rfl ?_
        refine zp_iload_n dX11_derive__92 rfl ?_
        refine zp_pc (pc' := 93) rfl ?_
        refine zp_i (y := nI ((zder (zod j) T c).length)) (by rw [zder_len]) ?_
        refine zp_put (fs' := [.int (nI (0)), .ref (65), .ref (66), .ref (67), .ref (68), .ref (69), .ref (70), .ref (71), .ref (72), .ref (73), .ref (74), .ref (75), .ref (76), .ref (77), .ref (78), .ref (79), .ref (80), .ref (81), .ref (82), .ref (83), .ref (84), .int (nI (w.length)), .int (nI (zbi un)), .int (rp), .int (wi), .int (pa), .int (la), .int (ru), .int (sa), .int (mq), .int (sq), .int (ta), .int (fa), .ref (85), .ref (86), .ref (87), .int (nI (mn)), .ref (88), .ref (89), .ref (90), .ref (91), .ref (92), .ref (93), .int (nI (T.length)), .ref (94), .int (nI ((zder (zod j) T c).length))]) dX11_derive__93 pX11_342_10 (by omega) m115 (Nat.le_of_ble_eq_true rfl) (zfit_i _) rfl ?_
        refine zp_nh (fun h116x eh116x => ?_)
        have k116_0 : h116x (64) = some (.inl (10, [.int (nI (0)), .ref (65), .ref (66), .ref (67), .ref (68), .ref (69), .ref (70), .ref (71), .ref (72), .ref (73), .ref (74), .ref (75), .ref (76), .ref (77), .ref (78), .ref (79), .ref (80), .ref (81), .ref (82), .ref (83), .ref (84), .int (nI (w.length)), .int (nI (zbi un)), .int (rp), .int (wi), .int (pa), .int (la), .int (ru), .int (sa), .int (mq), .int (sq), .int (ta), .int (fa), .ref (85), .ref (86), .ref (87), .int (nI (mn)), .ref (88), .ref (89), .ref (90), .ref (91), .ref (92), .ref (93), .int (nI (T.length)), .ref (94), .int (nI ((zder (zod j) T c).length))])) := by rw [eh116x]; exact va_up_self _ _ _
        have sw117 : zsm h114 h116x (zon (64)) := zsm.rf.up eh116x rfl
        have zw117 : zsh h114 h116x := zsh.obj eh116x m115
        refine zp_iconst (v := nI (1)) dX11_derive__96 (by decide) ?_
        refine zp_pc (pc' := 97) rfl ?_
        refine zp_i (y := nI (zbi true)) rfl ?_
        have O9 := ((d114).keep (sw117 _ (by unfold zon; omega)))
        have eq9 : (zqderive (nI j) (nI c) (T, O, (w, rp, wi, pa, un, la, ru, sa, me, se, ta, fa), Gs)) = (true, T, (zder (zod j) T c), (w, rp, wi, pa, un, la, ru, sa, me, se, ta, fa), Gs) := (if_neg nr).trans (by rw [if_pos (nI_lt (by omega) (by decide)), nI_clamp (by omega), nI_clamp (by omega)])
        refine zp_ret (v := (some (.int (nI (zbi true))))) dX11_derive__97 ⟨⟨_, rfl, ((zfit_b _) g).1⟩, rfl⟩ (by decide) (by decide) ?_
        rw [hQ]
        rw [eq9]; exact ⟨rfl, rfl, (((sw102).mono (fun i hi => by unfold zmA; unfold zon at hi; omega)).trans ((s114).mono (fun i hi => by unfold zmA; unfold zs7 at hi; omega))).trans ((sw117).mono (fun i hi => by unfold zmA; unfold zon at hi; omega)), H.upd ((((sw102).mono (fun i hi => by unfold zcz; unfold zon at hi; omega)).trans ((s114).mono (fun i hi => by unfold zcz; unfold zs7 at hi; omega))).trans ((sw117).mono (fun i hi => by unfold zcz; unfold zon at hi; omega))) (((zw102).trans z114).trans zw117) ⟨_, _, _, _, k116_0, hms⟩ (((((hx).keep (sw102 _ (by unfold zon; omega))).keep (s114 _ (by unfold zs7; omega))).keep (sw117 _ (by unfold zon; omega)))) (((((hT).keep (sw102 _ (by unfold zon; omega))).keep (s114 _ (by unfold zs7; omega))).keep (sw117 _ (by unfold zon; omega)))) (O9) hS (by omega)⟩
    · have bq106F : (decide (nI 1 ≤ k ∧ k ≤ nI 200)) = false := by rcases Bool.eq_false_or_eq_true (decide (nI 1 ≤ k ∧ k ≤ nI 200)) with q | q; rw [q] at c22; exact absurd c22 (by decide); exact q
      refine zp_iconst (v := nI (0)) dX11_derive__25 (by decide) ?_
      refine zp_pc (pc' := 26) rfl ?_
      refine zp_i (y := nI (zbi false)) rfl ?_
      have eq9 : (zqderive x k (T, O, (w, rp, wi, pa, un, la, ru, sa, me, se, ta, fa), Gs)) = (false, T, O, (w, rp, wi, pa, un, la, ru, sa, me, se, ta, fa), Gs) := if_pos ((zin_not (of_decide_eq_false bq106F)).elim (fun q => Or.inr (Or.inr (Or.inl q))) (fun q => Or.inr (Or.inr (Or.inr q))))
      refine zp_ret (v := (some (.int (nI (zbi false))))) dX11_derive__26 ⟨⟨_, rfl, ((zfit_b _) g).1⟩, rfl⟩ (by decide) (by decide) ?_
      rw [hQ]
      rw [eq9]; exact ⟨rfl, rfl, (sw102).mono (fun i hi => by unfold zmA; unfold zon at hi; omega), H.upd ((sw102).mono (fun i hi => by unfold zcz; unfold zon at hi; omega)) (zw102) ⟨_, _, _, _, k101_0, hms⟩ (((hx).keep (sw102 _ (by unfold zon; omega)))) (((hT).keep (sw102 _ (by unfold zon; omega)))) (((hO).keep (sw102 _ (by unfold zon; omega)))) hS (by omega)⟩
set_option maxRecDepth 10000 in
set_option maxHeartbeats 2000000 in
theorem E_generator {g : ZG} {h : ZH} {n : Nat} {t : Nat} {T O w : List Nat} {un : Bool} {rp wi pa la ru sa me se ta fa : Int32} {Gs : Nat → Option ZGn} {x y : Int32} (H : zMD t h (T, O, (w, rp, wi, pa, un, la, ru, sa, me, se, ta, fa), Gs)) : zMt g mX11_generator (zR 2 0 0) [.ref (64), .int (x), .int (y)] h n (fun v h' n' => v = some (.int (zqgen x y (T, O, (w, rp, wi, pa, un, la, ru, sa, me, se, ta, fa), Gs))) ∧ n' = n ∧ zsm h h' zmA ∧ zMD (t + 2) h' (T, O, (w, rp, wi, pa, un, la, ru, sa, me, se, ta, fa), Gs)) := by
  refine zMt.of [some (.ref (64)), some (.int (x)), some (.int (y)), none] (by decide) rfl (Nat.le_of_ble_eq_true rfl) ?_
  obtain ⟨Qf, hQ⟩ : ∃ Qf : ZQ, Qf = (fun v h' n' => v = some (.int (zqgen x y (T, O, (w, rp, wi, pa, un, la, ru, sa, me, se, ta, fa), Gs))) ∧ n' = n ∧ zsm h h' zmA ∧ zMD (t + 2) h' (T, O, (w, rp, wi, pa, un, la, ru, sa, me, se, ta, fa), Gs)) := ⟨_, rfl⟩
  rw [← hQ]
  obtain ⟨⟨th, mn, mq, sq, ho, hms⟩, hw, hx, h85, ⟨Aa, h86, hAa⟩, hT, hO, hG, hS⟩ := id H
  have ho : h 64 = some (.inl (10, [.int (th), .ref (65), .ref (66), .ref (67), .ref (68), .ref (69), .ref (70), .ref (71), .ref (72), .ref (73), .ref (74), .ref (75), .ref (76), .ref (77), .ref (78), .ref (79), .ref (80), .ref (81), .ref (82), .ref (83), .ref (84), .int (nI (w.length)), .int (nI (zbi un)), .int (rp), .int (wi), .int (pa), .int (la), .int (ru), .int (sa), .int (mq), .int (sq), .int (ta), .int (fa), .ref (85), .ref (86), .ref (87), .int (nI (mn)), .ref (88), .ref (89), .ref (90), .ref (91), .ref (92), .ref (93), .int (nI (T.length)), .ref (94), .int (nI (O.length))])) := ho
  have hx : zar h 84 1000 w := hx
  have lT := hT.1
  have lO := hO.1
  have lw := hx.1
  refine zp_aload_n dX11_generator_0 rfl ?_
  refine zp_iconst (v := nI (0)) dX11_generator_1 (by decide) ?_
  refine zp_put (fs' := [.int (nI (0)), .ref (65), .ref (66), .ref (67), .ref (68), .ref (69), .ref (70), .ref (71), .ref (72), .ref (73), .ref (74), .ref (75), .ref (76), .ref (77), .ref (78), .ref (79), .ref (80), .ref (81), .ref (82), .ref (83), .ref (84), .int (nI (w.length)), .int (nI (zbi un)), .int (rp), .int (wi), .int (pa), .int (la), .int (ru), .int (sa), .int (mq), .int (sq), .int (ta), .int (fa), .ref (85), .ref (86), .ref (87), .int (nI (mn)), .ref (88), .ref (89), .ref (90), .ref (91), .ref (92), .ref (93), .int (nI (T.length)), .ref (94), .int (nI (O.length))]) dX11_generator_2 pX11_133_10 (by omega) ho (Nat.le_of_ble_eq_true rfl) (zfit_i _) rfl ?_
  refine zp_nh (fun h101x eh101x => ?_)
  have k101_0 : h101x (64) = some (.inl (10, [.int (nI (0)), .ref (65), .ref (66), .ref (67), .ref (68), .ref (69), .ref (70), .ref (71), .ref (72), .ref (73), .ref (74), .ref (75), .ref (76), .ref (77), .ref (78), .ref (79), .ref (80), .ref (81), .ref (82), .ref (83), .ref (84), .int (nI (w.length)), .int (nI (zbi un)), .int (rp), .int (wi), .int (pa), .int (la), .int (ru), .int (sa), .int (mq), .int (sq), .int (ta), .int (fa), .ref (85), .ref (86), .ref (87), .int (nI (mn)), .ref (88), .ref (89), .ref (90), .ref (91), .ref (92), .ref (93), .int (nI (T.length)), .ref (94), .int (nI (O.length))])) := by rw [eh101x]; exact va_up_self _ _ _
  have sw102 : zsm h h101x (zon (64)) := zsm.rf.up eh101x rfl
  have zw102 : zsh h h101x := zsh.obj eh101x ho
  refine zp_aload_n dX11_generator_5 rfl ?_
  refine zp_iload_n dX11_generator_6 rfl ?_
  refine zp_pc (pc' := 7) rfl ?_
  have hG1 : ∀ j, j < 4 → zmg h101x (95 + 3 * j) t (Gs j) := fun j hj => (hG j hj).off (sw102 _ (by unfold zon; omega)) (sw102 _ (by unfold zon; omega)) (sw102 _ (by unfold zon; omega)) (Nat.le_refl _)
  have h861 := (sw102 86 (by unfold zon; omega)).trans h86
  refine zp_callV (As := [.int (x)]) (k := 64) (st := []) (ci := 10) dX11_generator_7 cX11_330 rfl k101_0 rfl rfl (e_isThere (x := x) k101_0 h861 hAa hG1) (by decide) (by decide) (Nat.le_of_ble_eq_true rfl) (fun v103 h103 n103 q103 => ?_)
  obtain ⟨rfl, H103, N103⟩ := q103
  rw [N103, H103]
  refine zp_nrm (cells' := 0) (slots' := 0) (st' := [.int (nI (zbi (zat4 Gs x).isSome))]) rfl rfl rfl ?_
  refine zn_if_ne (tgt := 15) dX11_generator_10 (by decide) (by have := zbi_lt (zat4 Gs x).isSome; omega) (fun c10 => ?_) (fun c10 => ?_)
  · have bq104T : (zat4 Gs x).isSome = true := by rcases Bool.eq_false_or_eq_true (zat4 Gs x).isSome with q | q; exact q; rw [q] at c10; exact absurd rfl c10
    obtain ⟨⟨kd, st, rs, iv, ct, dr, sd, V, C⟩, hz⟩ := Option.isSome_iff_exists.mp bq104T
    obtain ⟨j, hj, rfl, eG⟩ := zat4_some hz
    have g9 := hG1 j hj
    rw [eG] at g9
    obtain ⟨hkd, hst, hiv, hct, hsd, hs0, gc, hV, hC, lV, lC⟩ := g9
    have hs := zsd_le hkd
    refine zp_aload_n dX11_generator_15 rfl ?_
    refine zp_get dX11_generator_16 gX11_92_10 k101_0 rfl ?_
    refine zp_iload_n dX11_generator_19 rfl ?_
    refine zp_pc (pc' := 20) rfl ?_
    refine zp_aald (v := .ref (95 + 3 * j)) dX11_generator_20 h861 (by unfold vp_in; rw [nI_clamp (by omega)]; exact fun q => q.elim (nI_pos (by omega)) (fun q => by omega)) (by rw [nI_clamp (by omega), hAa j hj]) ?_
    refine zp_astore_n (ls' := [some (.ref (64)), some (.int (nI (j))), some (.int (y)), some (.ref (95 + 3 * j))]) dX11_generator_21 (by decide) rfl ?_
    refine zp_iload_n dX11_generator_22 rfl ?_
    refine zp_pc (pc' := 23) rfl ?_
    rcases zsw y 8 (by decide) with ⟨j9, hj9, rfl⟩ | hx9
    · have hj2 : j9 = 0 ∨ j9 = 1 ∨ j9 = 2 ∨ j9 = 3 ∨ j9 = 4 ∨ j9 = 5 ∨ j9 = 6 ∨ j9 = 7 := by omega
      rcases hj2 with rfl | rfl | rfl | rfl | rfl | rfl | rfl | rfl
      · refine zp_tabIn (off := 45) (tgt := 68) dX11_generator_23 (by decide) (by decide) rfl (by decide) ?_
        refine zp_aload_n dX11_generator_68 rfl ?_
        refine zp_get dX11_generator_69 gX11_271_9 gc rfl ?_
        refine zp_pc (pc' := 72) rfl ?_
        refine zp_i (y := zqgen (nI j) (nI 0) (T, O, (w, rp, wi, pa, un, la, ru, sa, me, se, ta, fa), Gs)) (by rw [zqgen_so hz]; rfl) ?_
        refine zp_ret (v := (some (.int (zqgen (nI j) (nI 0) (T, O, (w, rp, wi, pa, un, la, ru, sa, me, se, ta, fa), Gs))))) dX11_generator_72 ⟨⟨_, rfl, rfl⟩, rfl⟩ (by decide) (by decide) ?_
        rw [hQ]
        exact ⟨rfl, rfl, (sw102).mono (fun i hi => by unfold zmA; unfold zon at hi; omega), H.upd ((sw102).mono (fun i hi => by unfold zcz; unfold zon at hi; omega)) (zw102) ⟨_, _, _, _, k101_0, hms⟩ (((hx).keep (sw102 _ (by unfold zon; omega)))) (((hT).keep (sw102 _ (by unfold zon; omega)))) (((hO).keep (sw102 _ (by unfold zon; omega)))) hS (by omega)⟩
      · refine zp_tabIn (off := 50) (tgt := 73) dX11_generator_23 (by decide) (by decide) rfl (by decide) ?_
        refine zp_aload_n dX11_generator_73 rfl ?_
        refine zp_get dX11_generator_74 gX11_311_9 gc rfl ?_
        refine zp_pc (pc' := 77) rfl ?_
        refine zp_i (y := zqgen (nI j) (nI 1) (T, O, (w, rp, wi, pa, un, la, ru, sa, me, se, ta, fa), Gs)) (by rw [zqgen_so hz]; rfl) ?_
        refine zp_ret (v := (some (.int (zqgen (nI j) (nI 1) (T, O, (w, rp, wi, pa, un, la, ru, sa, me, se, ta, fa), Gs))))) dX11_generator_77 ⟨⟨_, rfl, rfl⟩, rfl⟩ (by decide) (by decide) ?_
        rw [hQ]
        exact ⟨rfl, rfl, (sw102).mono (fun i hi => by unfold zmA; unfold zon at hi; omega), H.upd ((sw102).mono (fun i hi => by unfold zcz; unfold zon at hi; omega)) (zw102) ⟨_, _, _, _, k101_0, hms⟩ (((hx).keep (sw102 _ (by unfold zon; omega)))) (((hT).keep (sw102 _ (by unfold zon; omega)))) (((hO).keep (sw102 _ (by unfold zon; omega)))) hS (by omega)⟩
      · refine zp_tabIn (off := 55) (tgt := 78) dX11_generator_23 (by decide) (by decide) rfl (by decide) ?_
        refine zp_aload_n dX11_generator_78 rfl ?_
        refine zp_get dX11_generator_79 gX11_250_9 gc rfl ?_
        refine zp_pc (pc' := 82) rfl ?_
        refine zp_i (y := zqgen (nI j) (nI 2) (T, O, (w, rp, wi, pa, un, la, ru, sa, me, se, ta, fa), Gs)) (by rw [zqgen_so hz]; rfl) ?_
        refine zp_ret (v := (some (.int (zqgen (nI j) (nI 2) (T, O, (w, rp, wi, pa, un, la, ru, sa, me, se, ta, fa), Gs))))) dX11_generator_82 ⟨⟨_, rfl, rfl⟩, rfl⟩ (by decide) (by decide) ?_
        rw [hQ]
        exact ⟨rfl, rfl, (sw102).mono (fun i hi => by unfold zmA; unfold zon at hi; omega), H.upd ((sw102).mono (fun i hi => by unfold zcz; unfold zon at hi; omega)) (zw102) ⟨_, _, _, _, k101_0, hms⟩ (((hx).keep (sw102 _ (by unfold zon; omega)))) (((hT).keep (sw102 _ (by unfold zon; omega)))) (((hO).keep (sw102 _ (by unfold zon; omega)))) hS (by omega)⟩
      · refine zp_tabIn (off := 60) (tgt := 83) dX11_generator_23 (by decide) (by decide) rfl (by decide) ?_
        refine zp_aload_n dX11_generator_83 rfl ?_
        refine zp_get dX11_generator_84 gX11_318_9 gc rfl ?_
        refine zp_pc (pc' := 87) rfl ?_
        refine zp_i (y := zqgen (nI j) (nI 3) (T, O, (w, rp, wi, pa, un, la, ru, sa, me, se, ta, fa), Gs)) (by rw [zqgen_so hz]; rfl) ?_
        refine zp_ret (v := (some (.int (zqgen (nI j) (nI 3) (T, O, (w, rp, wi, pa, un, la, ru, sa, me, se, ta, fa), Gs))))) dX11_generator_87 ⟨⟨_, rfl, rfl⟩, rfl⟩ (by decide) (by decide) ?_
        rw [hQ]
        exact ⟨rfl, rfl, (sw102).mono (fun i hi => by unfold zmA; unfold zon at hi; omega), H.upd ((sw102).mono (fun i hi => by unfold zcz; unfold zon at hi; omega)) (zw102) ⟨_, _, _, _, k101_0, hms⟩ (((hx).keep (sw102 _ (by unfold zon; omega)))) (((hT).keep (sw102 _ (by unfold zon; omega)))) (((hO).keep (sw102 _ (by unfold zon; omega)))) hS (by omega)⟩
      · refine zp_tabIn (off := 65) (tgt := 88) dX11_generator_23 (by decide) (by decide) rfl (by decide) ?_
        have hu := zbi_lt rs
        refine zp_aload_n dX11_generator_88 rfl ?_
        refine zp_get dX11_generator_89 gX11_321_9 gc rfl ?_
        refine zp_pc (pc' := 92) rfl ?_
        refine zn_if_eq (tgt := 99) dX11_generator_92 (by decide) (by omega) (fun c92 => ?_) (fun c92 => ?_)
        · refine zp_iconst (v := nI (0)) dX11_generator_99 (by decide) ?_
          refine zp_pc (pc' := 100) rfl ?_
          refine zp_i (y := zqgen (nI j) (nI 4) (T, O, (w, rp, wi, pa, un, la, ru, sa, me, se, ta, fa), Gs)) (by rw [zqgen_so hz]; show _ = nI (zbi rs); rw [c92]) ?_
          refine zp_ret (v := (some (.int (zqgen (nI j) (nI 4) (T, O, (w, rp, wi, pa, un, la, ru, sa, me, se, ta, fa), Gs))))) dX11_generator_100 ⟨⟨_, rfl, rfl⟩, rfl⟩ (by decide) (by decide) ?_
          rw [hQ]
          exact ⟨rfl, rfl, (sw102).mono (fun i hi => by unfold zmA; unfold zon at hi; omega), H.upd ((sw102).mono (fun i hi => by unfold zcz; unfold zon at hi; omega)) (zw102) ⟨_, _, _, _, k101_0, hms⟩ (((hx).keep (sw102 _ (by unfold zon; omega)))) (((hT).keep (sw102 _ (by unfold zon; omega)))) (((hO).keep (sw102 _ (by unfold zon; omega)))) hS (by omega)⟩
        · refine zp_iconst (v := nI (1)) dX11_generator_95 (by decide) ?_
          refine zp_goto (tgt := 100) dX11_generator_96 (by decide) ?_
          refine zp_pc (pc' := 100) rfl ?_
          refine zp_i (y := zqgen (nI j) (nI 4) (T, O, (w, rp, wi, pa, un, la, ru, sa, me, se, ta, fa), Gs)) (by rw [zqgen_so hz]; show _ = nI (zbi rs); rw [show zbi rs = 1 by omega]) ?_
          refine zp_ret (v := (some (.int (zqgen (nI j) (nI 4) (T, O, (w, rp, wi, pa, un, la, ru, sa, me, se, ta, fa), Gs))))) dX11_generator_100 ⟨⟨_, rfl, rfl⟩, rfl⟩ (by decide) (by decide) ?_
          rw [hQ]
          exact ⟨rfl, rfl, (sw102).mono (fun i hi => by unfold zmA; unfold zon at hi; omega), H.upd ((sw102).mono (fun i hi => by unfold zcz; unfold zon at hi; omega)) (zw102) ⟨_, _, _, _, k101_0, hms⟩ (((hx).keep (sw102 _ (by unfold zon; omega)))) (((hT).keep (sw102 _ (by unfold zon; omega)))) (((hO).keep (sw102 _ (by unfold zon; omega)))) hS (by omega)⟩
      · refine zp_tabIn (off := 78) (tgt := 101) dX11_generator_23 (by decide) (by decide) rfl (by decide) ?_
        refine zp_aload_n dX11_generator_101 rfl ?_
        refine zp_callV (As := []) (k := 95 + 3 * j) (st := []) (ci := 9) dX11_generator_102 cX11_229 rfl gc rfl rfl (e_zseed gc hkd) (by decide) (by decide) (Nat.le_of_ble_eq_true rfl) (fun v105 h105 n105 q105 => ?_)
        obtain ⟨rfl, H105, N105⟩ := q105
        rw [N105, H105]
        refine zp_nrm (cells' := 0) (slots' := 0) (st' := [.int (nI (zsd kd))]) rfl rfl rfl ?_
        refine zp_pc (pc' := 105) rfl ?_
        refine zp_i (y := zqgen (nI j) (nI 5) (T, O, (w, rp, wi, pa, un, la, ru, sa, me, se, ta, fa), Gs)) (by rw [zqgen_so hz]; rfl) ?_
        refine zp_ret (v := (some (.int (zqgen (nI j) (nI 5) (T, O, (w, rp, wi, pa, un, la, ru, sa, me, se, ta, fa), Gs))))) dX11_generator_105 ⟨⟨_, rfl, rfl⟩, rfl⟩ (by decide) (by decide) ?_
        rw [hQ]
        exact ⟨rfl, rfl, (sw102).mono (fun i hi => by unfold zmA; unfold zon at hi; omega), H.upd ((sw102).mono (fun i hi => by unfold zcz; unfold zon at hi; omega)) (zw102) ⟨_, _, _, _, k101_0, hms⟩ (((hx).keep (sw102 _ (by unfold zon; omega)))) (((hT).keep (sw102 _ (by unfold zon; omega)))) (((hO).keep (sw102 _ (by unfold zon; omega)))) hS (by omega)⟩
      · refine zp_tabIn (off := 83) (tgt := 106) dX11_generator_23 (by decide) (by decide) rfl (by decide) ?_
        refine zp_aload_n dX11_generator_106 rfl ?_
        refine zp_get dX11_generator_107 gX11_324_9 gc rfl ?_
        refine zp_pc (pc' := 110) rfl ?_
        refine zp_i (y := zqgen (nI j) (nI 6) (T, O, (w, rp, wi, pa, un, la, ru, sa, me, se, ta, fa), Gs)) (by rw [zqgen_so hz]; rfl) ?_
        refine zp_ret (v := (some (.int (zqgen (nI j) (nI 6) (T, O, (w, rp, wi, pa, un, la, ru, sa, me, se, ta, fa), Gs))))) dX11_generator_110 ⟨⟨_, rfl, rfl⟩, rfl⟩ (by decide) (by decide) ?_
        rw [hQ]
        exact ⟨rfl, rfl, (sw102).mono (fun i hi => by unfold zmA; unfold zon at hi; omega), H.upd ((sw102).mono (fun i hi => by unfold zcz; unfold zon at hi; omega)) (zw102) ⟨_, _, _, _, k101_0, hms⟩ (((hx).keep (sw102 _ (by unfold zon; omega)))) (((hT).keep (sw102 _ (by unfold zon; omega)))) (((hO).keep (sw102 _ (by unfold zon; omega)))) hS (by omega)⟩
      · refine zp_tabIn (off := 88) (tgt := 111) dX11_generator_23 (by decide) (by decide) rfl (by decide) ?_
        refine zp_aload_n dX11_generator_111 rfl ?_
        refine zp_get dX11_generator_112 gX11_294_9 gc rfl ?_
        refine zp_pc (pc' := 115) rfl ?_
        refine zp_i (y := zqgen (nI j) (nI 7) (T, O, (w, rp, wi, pa, un, la, ru, sa, me, se, ta, fa), Gs)) (by rw [zqgen_so hz]; rfl) ?_
        refine zp_ret (v := (some (.int (zqgen (nI j) (nI 7) (T, O, (w, rp, wi, pa, un, la, ru, sa, me, se, ta, fa), Gs))))) dX11_generator_115 ⟨⟨_, rfl, rfl⟩, rfl⟩ (by decide) (by decide) ?_
        rw [hQ]
        exact ⟨rfl, rfl, (sw102).mono (fun i hi => by unfold zmA; unfold zon at hi; omega), H.upd ((sw102).mono (fun i hi => by unfold zcz; unfold zon at hi; omega)) (zw102) ⟨_, _, _, _, k101_0, hms⟩ (((hx).keep (sw102 _ (by unfold zon; omega)))) (((hT).keep (sw102 _ (by unfold zon; omega)))) (((hO).keep (sw102 _ (by unfold zon; omega)))) hS (by omega)⟩
    · refine zp_tabOut (tgt := 116) dX11_generator_23 hx9 (by decide) ?_
      have zo := fun j hj => zsw_out (k := 8) hx9 j hj (by decide)
      refine zp_iconst (v := (-1)) dX11_generator_116 (by decide) ?_
      refine zp_pc (pc' := 117) rfl ?_
      refine zp_i (y := zqgen (nI j) y (T, O, (w, rp, wi, pa, un, la, ru, sa, me, se, ta, fa), Gs)) (by rw [zqgen_so hz]; rw [zglook, if_neg (zo 0 (by decide)), if_neg (zo 1 (by decide)), if_neg (zo 2 (by decide)), if_neg (zo 3 (by decide)), if_neg (zo 4 (by decide)), if_neg (zo 5 (by decide)), if_neg (zo 6 (by decide)), if_neg (zo 7 (by decide))]) ?_
      refine zp_ret (v := (some (.int (zqgen (nI j) y (T, O, (w, rp, wi, pa, un, la, ru, sa, me, se, ta, fa), Gs))))) dX11_generator_117 ⟨⟨_, rfl, rfl⟩, rfl⟩ (by decide) (by decide) ?_
      rw [hQ]
      exact ⟨rfl, rfl, (sw102).mono (fun i hi => by unfold zmA; unfold zon at hi; omega), H.upd ((sw102).mono (fun i hi => by unfold zcz; unfold zon at hi; omega)) (zw102) ⟨_, _, _, _, k101_0, hms⟩ (((hx).keep (sw102 _ (by unfold zon; omega)))) (((hT).keep (sw102 _ (by unfold zon; omega)))) (((hO).keep (sw102 _ (by unfold zon; omega)))) hS (by omega)⟩
  · have bq104F : (zat4 Gs x).isSome = false := by rcases Bool.eq_false_or_eq_true (zat4 Gs x).isSome with q | q; rw [q] at c10; exact absurd c10 (by decide); exact q
    have hz : zat4 Gs x = none := zsome_no bq104F
    refine zp_iconst (v := (-1)) dX11_generator_13 (by decide) ?_
    refine zp_pc (pc' := 14) rfl ?_
    refine zp_i (y := zqgen x y (T, O, (w, rp, wi, pa, un, la, ru, sa, me, se, ta, fa), Gs)) (zqgen_no hz).symm ?_
    refine zp_ret (v := (some (.int (zqgen x y (T, O, (w, rp, wi, pa, un, la, ru, sa, me, se, ta, fa), Gs))))) dX11_generator_14 ⟨⟨_, rfl, rfl⟩, rfl⟩ (by decide) (by decide) ?_
    rw [hQ]
    exact ⟨rfl, rfl, (sw102).mono (fun i hi => by unfold zmA; unfold zon at hi; omega), H.upd ((sw102).mono (fun i hi => by unfold zcz; unfold zon at hi; omega)) (zw102) ⟨_, _, _, _, k101_0, hms⟩ (((hx).keep (sw102 _ (by unfold zon; omega)))) (((hT).keep (sw102 _ (by unfold zon; omega)))) (((hO).keep (sw102 _ (by unfold zon; omega)))) hS (by omega)⟩
set_option maxRecDepth 10000 in
set_option maxHeartbeats 2000000 in
theorem E_state {g : ZG} {h : ZH} {n : Nat} {t : Nat} {T O w : List Nat} {un : Bool} {rp wi pa la ru sa me se ta fa : Int32} {Gs : Nat → Option ZGn} {x p k : Int32} (H : zMD t h (T, O, (w, rp, wi, pa, un, la, ru, sa, me, se, ta, fa), Gs)) : zMt g mX11_state (zR 3 0 0) [.ref (64), .int (x), .int (p), .int (k)] h n (fun v h' n' => v = some (.int (zqstate x p k (T, O, (w, rp, wi, pa, un, la, ru, sa, me, se, ta, fa), Gs))) ∧ n' = n ∧ zsm h h' zmA ∧ zMD (t + 2) h' (T, O, (w, rp, wi, pa, un, la, ru, sa, me, se, ta, fa), Gs)) := by
  refine zMt.of [some (.ref (64)), some (.int (x)), some (.int (p)), some (.int (k)), none] (by decide) rfl (Nat.le_of_ble_eq_true rfl) ?_
  obtain ⟨Qf, hQ⟩ : ∃ Qf : ZQ, Qf = (fun v h' n' => v = some (.int (zqstate x p k (T, O, (w, rp, wi, pa, un, la, ru, sa, me, se, ta, fa), Gs))) ∧ n' = n ∧ zsm h h' zmA ∧ zMD (t + 2) h' (T, O, (w, rp, wi, pa, un, la, ru, sa, me, se, ta, fa), Gs)) := ⟨_, rfl⟩
  rw [← hQ]
  obtain ⟨⟨th, mn, mq, sq, ho, hms⟩, hw, hx, h85, ⟨Aa, h86, hAa⟩, hT, hO, hG, hS⟩ := id H
  have ho : h 64 = some (.inl (10, [.int (th), .ref (65), .ref (66), .ref (67), .ref (68), .ref (69), .ref (70), .ref (71), .ref (72), .ref (73), .ref (74), .ref (75), .ref (76), .ref (77), .ref (78), .ref (79), .ref (80), .ref (81), .ref (82), .ref (83), .ref (84), .int (nI (w.length)), .int (nI (zbi un)), .int (rp), .int (wi), .int (pa), .int (la), .int (ru), .int (sa), .int (mq), .int (sq), .int (ta), .int (fa), .ref (85), .ref (86), .ref (87), .int (nI (mn)), .ref (88), .ref (89), .ref (90), .ref (91), .ref (92), .ref (93), .int (nI (T.length)), .ref (94), .int (nI (O.length))])) := ho
  have hx : zar h 84 1000 w := hx
  have lT := hT.1
  have lO := hO.1
  have lw := hx.1
  refine zp_aload_n dX11_state_0 rfl ?_
  refine zp_iconst (v := nI (0)) dX11_state_1 (by decide) ?_
  refine zp_put (fs' := [.int (nI (0)), .ref (65), .ref (66), .ref (67), .ref (68), .ref (69), .ref (70), .ref (71), .ref (72), .ref (73), .ref (74), .ref (75), .ref (76), .ref (77), .ref (78), .ref (79), .ref (80), .ref (81), .ref (82), .ref (83), .ref (84), .int (nI (w.length)), .int (nI (zbi un)), .int (rp), .int (wi), .int (pa), .int (la), .int (ru), .int (sa), .int (mq), .int (sq), .int (ta), .int (fa), .ref (85), .ref (86), .ref (87), .int (nI (mn)), .ref (88), .ref (89), .ref (90), .ref (91), .ref (92), .ref (93), .int (nI (T.length)), .ref (94), .int (nI (O.length))]) dX11_state_2 pX11_133_10 (by omega) ho (Nat.le_of_ble_eq_true rfl) (zfit_i _) rfl ?_
  refine zp_nh (fun h101x eh101x => ?_)
  have k101_0 : h101x (64) = some (.inl (10, [.int (nI (0)), .ref (65), .ref (66), .ref (67), .ref (68), .ref (69), .ref (70), .ref (71), .ref (72), .ref (73), .ref (74), .ref (75), .ref (76), .ref (77), .ref (78), .ref (79), .ref (80), .ref (81), .ref (82), .ref (83), .ref (84), .int (nI (w.length)), .int (nI (zbi un)), .int (rp), .int (wi), .int (pa), .int (la), .int (ru), .int (sa), .int (mq), .int (sq), .int (ta), .int (fa), .ref (85), .ref (86), .ref (87), .int (nI (mn)), .ref (88), .ref (89), .ref (90), .ref (91), .ref (92), .ref (93), .int (nI (T.length)), .ref (94), .int (nI (O.length))])) := by rw [eh101x]; exact va_up_self _ _ _
  have sw102 : zsm h h101x (zon (64)) := zsm.rf.up eh101x rfl
  have zw102 : zsh h h101x := zsh.obj eh101x ho
  refine zp_aload_n dX11_state_5 rfl ?_
  refine zp_iload_n dX11_state_6 rfl ?_
  refine zp_pc (pc' := 7) rfl ?_
  have hG1 : ∀ j, j < 4 → zmg h101x (95 + 3 * j) t (Gs j) := fun j hj => (hG j hj).off (sw102 _ (by unfold zon; omega)) (sw102 _ (by unfold zon; omega)) (sw102 _ (by unfold zon; omega)) (Nat.le_refl _)
  have h861 := (sw102 86 (by unfold zon; omega)).trans h86
  refine zp_callV (As := [.int (x)]) (k := 64) (st := []) (ci := 10) dX11_state_7 cX11_330 rfl k101_0 rfl rfl (e_isThere (x := x) k101_0 h861 hAa hG1) (by decide) (by decide) (Nat.le_of_ble_eq_true rfl) (fun v103 h103 n103 q103 => ?_)
  obtain ⟨rfl, H103, N103⟩ := q103
  rw [N103, H103]
  refine zp_nrm (cells' := 0) (slots' := 0) (st' := [.int (nI (zbi (zat4 Gs x).isSome))]) rfl rfl rfl ?_
  refine zn_if_eq (tgt := 22) dX11_state_10 (by decide) (by have := zbi_lt (zat4 Gs x).isSome; omega) (fun c10 => ?_) (fun c10 => ?_)
  · have bq104F : (zat4 Gs x).isSome = false := by rcases Bool.eq_false_or_eq_true (zat4 Gs x).isSome with q | q; rw [q] at c10; exact absurd c10 (by decide); exact q
    have hz : zat4 Gs x = none := zsome_no bq104F
    refine zp_iconst (v := (-1)) dX11_state_22 (by decide) ?_
    refine zp_pc (pc' := 23) rfl ?_
    refine zp_i (y := zqstate x p k (T, O, (w, rp, wi, pa, un, la, ru, sa, me, se, ta, fa), Gs)) (zqstate_no hz).symm ?_
    refine zp_ret (v := (some (.int (zqstate x p k (T, O, (w, rp, wi, pa, un, la, ru, sa, me, se, ta, fa), Gs))))) dX11_state_23 ⟨⟨_, rfl, rfl⟩, rfl⟩ (by decide) (by decide) ?_
    rw [hQ]
    exact ⟨rfl, rfl, (sw102).mono (fun i hi => by unfold zmA; unfold zon at hi; omega), H.upd ((sw102).mono (fun i hi => by unfold zcz; unfold zon at hi; omega)) (zw102) ⟨_, _, _, _, k101_0, hms⟩ (((hx).keep (sw102 _ (by unfold zon; omega)))) (((hT).keep (sw102 _ (by unfold zon; omega)))) (((hO).keep (sw102 _ (by unfold zon; omega)))) hS (by omega)⟩
  · have bq104T : (zat4 Gs x).isSome = true := by rcases Bool.eq_false_or_eq_true (zat4 Gs x).isSome with q | q; exact q; rw [q] at c10; exact absurd rfl c10
    obtain ⟨⟨kd, st, rs, iv, ct, dr, sd, V, C⟩, hz⟩ := Option.isSome_iff_exists.mp bq104T
    obtain ⟨j, hj, rfl, eG⟩ := zat4_some hz
    have g9 := hG1 j hj
    rw [eG] at g9
    obtain ⟨hkd, hst, hiv, hct, hsd, hs0, gc, hV, hC, lV, lC⟩ := g9
    have hs := zsd_le hkd
    refine zp_iload_n dX11_state_13 rfl ?_
    refine zp_iconst (v := nI (0)) dX11_state_14 (by decide) ?_
    refine zp_iconst (v := nI (1)) dX11_state_15 (by decide) ?_
    refine zp_pc (pc' := 16) rfl ?_
    refine zp_callS (As := [.int (p), .int (nI (0)), .int (nI (1))]) (st := []) dX11_state_16 cX11_297 rfl e_in (by decide) (by decide) (Nat.le_of_ble_eq_true rfl) (fun v105 h105 n105 q105 => ?_)
    obtain ⟨rfl, H105, N105⟩ := q105
    rw [N105, H105]
    refine zp_nrm (cells' := 0) (slots' := 0) (st' := [.int (nI (zbi (decide (nI 0 ≤ p ∧ p ≤ nI 1))))]) rfl rfl rfl ?_
    refine zn_if_ne (tgt := 24) dX11_state_19 (by decide) (by have := zbi_lt (decide (nI 0 ≤ p ∧ p ≤ nI 1)); omega) (fun c19 => ?_) (fun c19 => ?_)
    · have bq106T : (decide (nI 0 ≤ p ∧ p ≤ nI 1)) = true := by rcases Bool.eq_false_or_eq_true (decide (nI 0 ≤ p ∧ p ≤ nI 1)) with q | q; exact q; rw [q] at c19; exact absurd rfl c19
      obtain ⟨i, hi, rfl⟩ := zin_nat (by decide) (of_decide_eq_true bq106T)
      refine zp_aload_n dX11_state_24 rfl ?_
      refine zp_get dX11_state_25 gX11_92_10 k101_0 rfl ?_
      refine zp_iload_n dX11_state_28 rfl ?_
      refine zp_pc (pc' := 29) rfl ?_
      refine zp_aald (v := .ref (95 + 3 * j)) dX11_state_29 h861 (by unfold vp_in; rw [nI_clamp (by omega)]; exact fun q => q.elim (nI_pos (by omega)) (fun q => by omega)) (by rw [nI_clamp (by omega), hAa j hj]) ?_
      have hi01 : i = 0 ∨ i = 1 := by omega
      have vN := zvN_le hkd
      have cN := zcN_le hkd
      refine zp_astore (ls' := [some (.ref (64)), some (.int (nI (j))), some (.int (nI (i))), some (.int (k)), some (.ref (95 + 3 * j))]) dX11_state_30 (by decide) rfl ?_
      refine zp_iload_n dX11_state_32 rfl ?_
      refine zp_iconst (v := nI (0)) dX11_state_33 (by decide) ?_
      refine zp_iload_n dX11_state_34 rfl ?_
      refine zp_pc (pc' := 35) rfl ?_
      refine zn_if_ne (tgt := 46) dX11_state_35 (by decide) (by omega) (fun c35 => ?_) (fun c35 => ?_)
      · have i1 : i = 1 := by omega
        subst i1
        refine zp_aload dX11_state_46 rfl ?_
        refine zp_callV (As := []) (k := 95 + 3 * j) (st := [.int (nI (0)), .int (k)]) (ci := 9) dX11_state_48 cX11_348 rfl gc rfl rfl (e_zcs gc hkd) (by decide) (by decide) (Nat.le_of_ble_eq_true rfl) (fun v107 h107 n107 q107 => ?_)
        obtain ⟨rfl, H107, N107⟩ := q107
        rw [N107, H107]
        refine zp_nrm (cells' := 0) (slots' := 0) (st' := [.int (nI (zcN kd)), .int (nI (0)), .int (k)]) rfl rfl rfl ?_
        refine zp_pc (pc' := 51) rfl ?_
        refine zp_i (y := nI (C.length)) (by rw [lC]) ?_
        refine zp_iconst (v := nI (1)) dX11_state_51 (by decide) ?_
        refine zp_isub dX11_state_52 ?_
        refine zp_pc (pc' := 53) rfl ?_
        refine zp_callS (As := [.int (k), .int (nI (0)), .int ((nI (C.length)) - (nI (1)))]) (st := []) dX11_state_53 cX11_297 rfl e_in (by decide) (by decide) (Nat.le_of_ble_eq_true rfl) (fun v108 h108 n108 q108 => ?_)
        obtain ⟨rfl, H108, N108⟩ := q108
        rw [N108, H108]
        refine zp_nrm (cells' := 0) (slots' := 0) (st' := [.int (nI (zbi (decide (nI 0 ≤ k ∧ k ≤ nI C.length - nI 1))))]) rfl rfl rfl ?_
        have hin := zin_len (x := k) (show C.length < 2 ^ 20 by omega)
        refine zn_if_ne (tgt := 61) dX11_state_56 (by decide) (by have := zbi_lt (decide (nI 0 ≤ k ∧ k ≤ nI C.length - nI 1)); omega) (fun c56 => ?_) (fun c56 => ?_)
        · have bq109T : (decide (nI 0 ≤ k ∧ k ≤ nI C.length - nI 1)) = true := by rcases Bool.eq_false_or_eq_true (decide (nI 0 ≤ k ∧ k ≤ nI C.length - nI 1)) with q | q; exact q; rw [q] at c56; exact absurd rfl c56
          obtain ⟨c, hc, rfl⟩ := hin.mp (of_decide_eq_true bq109T)
          obtain ⟨la110, lb110, lc110, lf110, ld110, le110⟩ := id hC
          refine zp_iload_n dX11_state_61 rfl ?_
          refine zp_pc (pc' := 62) rfl ?_
          refine zn_if_ne (tgt := 75) dX11_state_62 (by decide) (by omega) (fun c62 => ?_) (fun c62 => ?_)
          · refine zp_aload dX11_state_75 rfl ?_
            refine zp_get dX11_state_77 gX11_243_9 gc rfl ?_
            refine zp_iload_n dX11_state_80 rfl ?_
            refine zp_pc (pc' := 81) rfl ?_
            refine zn_iald (j := c) dX11_state_81 ld110 (by omega) (by omega) ?_
            refine zp_i (y := zqstate (nI j) (nI 1) (nI c) (T, O, (w, rp, wi, pa, un, la, ru, sa, me, se, ta, fa), Gs)) (by rw [zqstate_so hz]; rw [if_neg (by decide), if_pos rfl, zat_nI hc (by omega)]; exact le110 _ hc) ?_
            refine zp_pc (pc' := 82) rfl ?_
            refine zp_ret (v := (some (.int (zqstate (nI j) (nI 1) (nI c) (T, O, (w, rp, wi, pa, un, la, ru, sa, me, se, ta, fa), Gs))))) dX11_state_82 ⟨⟨_, rfl, rfl⟩, rfl⟩ (by decide) (by decide) ?_
            rw [hQ]
            exact ⟨rfl, rfl, (sw102).mono (fun i hi => by unfold zmA; unfold zon at hi; omega), H.upd ((sw102).mono (fun i hi => by unfold zcz; unfold zon at hi; omega)) (zw102) ⟨_, _, _, _, k101_0, hms⟩ (((hx).keep (sw102 _ (by unfold zon; omega)))) (((hT).keep (sw102 _ (by unfold zon; omega)))) (((hO).keep (sw102 _ (by unfold zon; omega)))) hS (by omega)⟩
          · omega
        · have bq109F : (decide (nI 0 ≤ k ∧ k ≤ nI C.length - nI 1)) = false := by rcases Bool.eq_false_or_eq_true (decide (nI 0 ≤ k ∧ k ≤ nI C.length - nI 1)) with q | q; rw [q] at c56; exact absurd c56 (by decide); exact q
          refine zp_iconst (v := (-1)) dX11_state_59 (by decide) ?_
          refine zp_pc (pc' := 60) rfl ?_
          refine zp_i (y := zqstate (nI j) (nI 1) k (T, O, (w, rp, wi, pa, un, la, ru, sa, me, se, ta, fa), Gs)) (by rw [zqstate_so hz]; rw [if_neg (by decide), if_pos rfl]; exact (zat_no (fun q => of_decide_eq_false bq109F (hin.mpr q))).symm) ?_
          refine zp_ret (v := (some (.int (zqstate (nI j) (nI 1) k (T, O, (w, rp, wi, pa, un, la, ru, sa, me, se, ta, fa), Gs))))) dX11_state_60 ⟨⟨_, rfl, rfl⟩, rfl⟩ (by decide) (by decide) ?_
          rw [hQ]
          exact ⟨rfl, rfl, (sw102).mono (fun i hi => by unfold zmA; unfold zon at hi; omega), H.upd ((sw102).mono (fun i hi => by unfold zcz; unfold zon at hi; omega)) (zw102) ⟨_, _, _, _, k101_0, hms⟩ (((hx).keep (sw102 _ (by unfold zon; omega)))) (((hT).keep (sw102 _ (by unfold zon; omega)))) (((hO).keep (sw102 _ (by unfold zon; omega)))) hS (by omega)⟩
      · have i0 : i = 0 := by omega
        subst i0
        refine zp_aload dX11_state_38 rfl ?_
        refine zp_callV (As := []) (k := 95 + 3 * j) (st := [.int (nI (0)), .int (k)]) (ci := 9) dX11_state_40 cX11_345 rfl gc rfl rfl (e_zvs gc hkd) (by decide) (by decide) (Nat.le_of_ble_eq_true rfl) (fun v111 h111 n111 q111 => ?_)
        obtain ⟨rfl, H111, N111⟩ := q111
        rw [N111, H111]
        refine zp_nrm (cells' := 0) (slots' := 0) (st' := [.int (nI (zvN kd)), .int (nI (0)), .int (k)]) rfl rfl rfl ?_
        refine zp_goto (tgt := 51) dX11_state_43 (by decide) ?_
        refine zp_pc (pc' := 51) rfl ?_
        refine zp_i (y := nI (V.length)) (by rw [lV]) ?_
        refine zp_iconst (v := nI (1)) dX11_state_51 (by decide) ?_
        refine zp_isub dX11_state_52 ?_
        refine zp_pc (pc' := 53) rfl ?_
        refine zp_callS (As := [.int (k), .int (nI (0)), .int ((nI (V.length)) - (nI (1)))]) (st := []) dX11_state_53 cX11_297 rfl e_in (by decide) (by decide) (Nat.le_of_ble_eq_true rfl) (fun v112 h112 n112 q112 => ?_)
        obtain ⟨rfl, H112, N112⟩ := q112
        rw [N112, H112]
        refine zp_nrm (cells' := 0) (slots' := 0) (st' := [.int (nI (zbi (decide (nI 0 ≤ k ∧ k ≤ nI V.length - nI 1))))]) rfl rfl rfl ?_
        have hin := zin_len (x := k) (show V.length < 2 ^ 20 by omega)
        refine zn_if_ne (tgt := 61) dX11_state_56 (by decide) (by have := zbi_lt (decide (nI 0 ≤ k ∧ k ≤ nI V.length - nI 1)); omega) (fun c56 => ?_) (fun c56 => ?_)
        · have bq113T : (decide (nI 0 ≤ k ∧ k ≤ nI V.length - nI 1)) = true := by rcases Bool.eq_false_or_eq_true (decide (nI 0 ≤ k ∧ k ≤ nI V.length - nI 1)) with q | q; exact q; rw [q] at c56; exact absurd rfl c56
          obtain ⟨c, hc, rfl⟩ := hin.mp (of_decide_eq_true bq113T)
          obtain ⟨la114, lb114, lc114, lf114, ld114, le114⟩ := id hV
          refine zp_iload_n dX11_state_61 rfl ?_
          refine zp_pc (pc' := 62) rfl ?_
          refine zn_if_ne (tgt := 75) dX11_state_62 (by decide) (by omega) (fun c62 => ?_) (fun c62 => ?_)
          · omega
          · refine zp_aload dX11_state_65 rfl ?_
            refine zp_get dX11_state_67 gX11_226_9 gc rfl ?_
            refine zp_iload_n dX11_state_70 rfl ?_
            refine zp_pc (pc' := 71) rfl ?_
            refine zn_iald (j := c) dX11_state_71 ld114 (by omega) (by omega) ?_
            refine zp_i (y := zqstate (nI j) (nI 0) (nI c) (T, O, (w, rp, wi, pa, un, la, ru, sa, me, se, ta, fa), Gs)) (by rw [zqstate_so hz]; rw [if_pos rfl, zat_nI hc (by omega)]; exact le114 _ hc) ?_
            refine zp_goto (tgt := 82) dX11_state_72 (by decide) ?_
            refine zp_pc (pc' := 82) rfl ?_
            refine zp_ret (v := (some (.int (zqstate (nI j) (nI 0) (nI c) (T, O, (w, rp, wi, pa, un, la, ru, sa, me, se, ta, fa), Gs))))) dX11_state_82 ⟨⟨_, rfl, rfl⟩, rfl⟩ (by decide) (by decide) ?_
            rw [hQ]
            exact ⟨rfl, rfl, (sw102).mono (fun i hi => by unfold zmA; unfold zon at hi; omega), H.upd ((sw102).mono (fun i hi => by unfold zcz; unfold zon at hi; omega)) (zw102) ⟨_, _, _, _, k101_0, hms⟩ (((hx).keep (sw102 _ (by unfold zon; omega)))) (((hT).keep (sw102 _ (by unfold zon; omega)))) (((hO).keep (sw102 _ (by unfold zon; omega)))) hS (by omega)⟩
        · have bq113F : (decide (nI 0 ≤ k ∧ k ≤ nI V.length - nI 1)) = false := by rcases Bool.eq_false_or_eq_true (decide (nI 0 ≤ k ∧ k ≤ nI V.length - nI 1)) with q | q; rw [q] at c56; exact absurd c56 (by decide); exact q
          refine zp_iconst (v := (-1)) dX11_state_59 (by decide) ?_
          refine zp_pc (pc' := 60) rfl ?_
          refine zp_i (y := zqstate (nI j) (nI 0) k (T, O, (w, rp, wi, pa, un, la, ru, sa, me, se, ta, fa), Gs)) (by rw [zqstate_so hz]; rw [if_pos rfl]; exact (zat_no (fun q => of_decide_eq_false bq113F (hin.mpr q))).symm) ?_
          refine zp_ret (v := (some (.int (zqstate (nI j) (nI 0) k (T, O, (w, rp, wi, pa, un, la, ru, sa, me, se, ta, fa), Gs))))) dX11_state_60 ⟨⟨_, rfl, rfl⟩, rfl⟩ (by decide) (by decide) ?_
          rw [hQ]
          exact ⟨rfl, rfl, (sw102).mono (fun i hi => by unfold zmA; unfold zon at hi; omega), H.upd ((sw102).mono (fun i hi => by unfold zcz; unfold zon at hi; omega)) (zw102) ⟨_, _, _, _, k101_0, hms⟩ (((hx).keep (sw102 _ (by unfold zon; omega)))) (((hT).keep (sw102 _ (by unfold zon; omega)))) (((hO).keep (sw102 _ (by unfold zon; omega)))) hS (by omega)⟩
    · have bq106F : (decide (nI 0 ≤ p ∧ p ≤ nI 1)) = false := by rcases Bool.eq_false_or_eq_true (decide (nI 0 ≤ p ∧ p ≤ nI 1)) with q | q; rw [q] at c19; exact absurd c19 (by decide); exact q
      have np : ∀ i, i ≤ 1 → ¬ p = nI i := fun i hi e => of_decide_eq_false bq106F (by rw [e]; exact ⟨(nI_leI (by decide) (by omega)).mpr (Nat.zero_le _), (nI_leI (by omega) (by decide)).mpr hi⟩)
      refine zp_iconst (v := (-1)) dX11_state_22 (by decide) ?_
      refine zp_pc (pc' := 23) rfl ?_
      refine zp_i (y := zqstate (nI j) p k (T, O, (w, rp, wi, pa, un, la, ru, sa, me, se, ta, fa), Gs)) (by rw [zqstate_so hz]; rw [if_neg (np 0 (by decide)), if_neg (np 1 (by decide))]) ?_
      refine zp_ret (v := (some (.int (zqstate (nI j) p k (T, O, (w, rp, wi, pa, un, la, ru, sa, me, se, ta, fa), Gs))))) dX11_state_23 ⟨⟨_, rfl, rfl⟩, rfl⟩ (by decide) (by decide) ?_
      rw [hQ]
      exact ⟨rfl, rfl, (sw102).mono (fun i hi => by unfold zmA; unfold zon at hi; omega), H.upd ((sw102).mono (fun i hi => by unfold zcz; unfold zon at hi; omega)) (zw102) ⟨_, _, _, _, k101_0, hms⟩ (((hx).keep (sw102 _ (by unfold zon; omega)))) (((hT).keep (sw102 _ (by unfold zon; omega)))) (((hO).keep (sw102 _ (by unfold zon; omega)))) hS (by omega)⟩
set_option maxRecDepth 10000 in
set_option maxHeartbeats 2000000 in
theorem E_close {g : ZG} {h : ZH} {n : Nat} {t : Nat} {T O w : List Nat} {un : Bool} {rp wi pa la ru sa me se ta fa : Int32} {Gs : Nat → Option ZGn} {x : Int32} (H : zMD t h (T, O, (w, rp, wi, pa, un, la, ru, sa, me, se, ta, fa), Gs)) : zMt g mX11_close (zR 2 0 0) [.ref (64), .int (x)] h n (fun v h' n' => v = some (.int (nI (zbi (zqclose x (T, O, (w, rp, wi, pa, un, la, ru, sa, me, se, ta, fa), Gs)).1))) ∧ n' = n ∧ zsm h h' zmA ∧ zMD (t + 2) h' (zqclose x (T, O, (w, rp, wi, pa, un, la, ru, sa, me, se, ta, fa), Gs)).2) := by
  refine zMt.of [some (.ref (64)), some (.int (x))] (by decide) rfl (Nat.le_of_ble_eq_true rfl) ?_
  obtain ⟨Qf, hQ⟩ : ∃ Qf : ZQ, Qf = (fun v h' n' => v = some (.int (nI (zbi (zqclose x (T, O, (w, rp, wi, pa, un, la, ru, sa, me, se, ta, fa), Gs)).1))) ∧ n' = n ∧ zsm h h' zmA ∧ zMD (t + 2) h' (zqclose x (T, O, (w, rp, wi, pa, un, la, ru, sa, me, se, ta, fa), Gs)).2) := ⟨_, rfl⟩
  rw [← hQ]
  obtain ⟨⟨th, mn, mq, sq, ho, hms⟩, hw, hx, h85, ⟨Aa, h86, hAa⟩, hT, hO, hG, hS⟩ := id H
  have ho : h 64 = some (.inl (10, [.int (th), .ref (65), .ref (66), .ref (67), .ref (68), .ref (69), .ref (70), .ref (71), .ref (72), .ref (73), .ref (74), .ref (75), .ref (76), .ref (77), .ref (78), .ref (79), .ref (80), .ref (81), .ref (82), .ref (83), .ref (84), .int (nI (w.length)), .int (nI (zbi un)), .int (rp), .int (wi), .int (pa), .int (la), .int (ru), .int (sa), .int (mq), .int (sq), .int (ta), .int (fa), .ref (85), .ref (86), .ref (87), .int (nI (mn)), .ref (88), .ref (89), .ref (90), .ref (91), .ref (92), .ref (93), .int (nI (T.length)), .ref (94), .int (nI (O.length))])) := ho
  have hx : zar h 84 1000 w := hx
  have lT := hT.1
  have lO := hO.1
  have lw := hx.1
  refine zp_aload_n dX11_close_0 rfl ?_
  refine zp_iconst (v := nI (0)) dX11_close_1 (by decide) ?_
  refine zp_put (fs' := [.int (nI (0)), .ref (65), .ref (66), .ref (67), .ref (68), .ref (69), .ref (70), .ref (71), .ref (72), .ref (73), .ref (74), .ref (75), .ref (76), .ref (77), .ref (78), .ref (79), .ref (80), .ref (81), .ref (82), .ref (83), .ref (84), .int (nI (w.length)), .int (nI (zbi un)), .int (rp), .int (wi), .int (pa), .int (la), .int (ru), .int (sa), .int (mq), .int (sq), .int (ta), .int (fa), .ref (85), .ref (86), .ref (87), .int (nI (mn)), .ref (88), .ref (89), .ref (90), .ref (91), .ref (92), .ref (93), .int (nI (T.length)), .ref (94), .int (nI (O.length))]) dX11_close_2 pX11_133_10 (by omega) ho (Nat.le_of_ble_eq_true rfl) (zfit_i _) rfl ?_
  refine zp_nh (fun h101x eh101x => ?_)
  have k101_0 : h101x (64) = some (.inl (10, [.int (nI (0)), .ref (65), .ref (66), .ref (67), .ref (68), .ref (69), .ref (70), .ref (71), .ref (72), .ref (73), .ref (74), .ref (75), .ref (76), .ref (77), .ref (78), .ref (79), .ref (80), .ref (81), .ref (82), .ref (83), .ref (84), .int (nI (w.length)), .int (nI (zbi un)), .int (rp), .int (wi), .int (pa), .int (la), .int (ru), .int (sa), .int (mq), .int (sq), .int (ta), .int (fa), .ref (85), .ref (86), .ref (87), .int (nI (mn)), .ref (88), .ref (89), .ref (90), .ref (91), .ref (92), .ref (93), .int (nI (T.length)), .ref (94), .int (nI (O.length))])) := by rw [eh101x]; exact va_up_self _ _ _
  have sw102 : zsm h h101x (zon (64)) := zsm.rf.up eh101x rfl
  have zw102 : zsh h h101x := zsh.obj eh101x ho
  refine zp_aload_n dX11_close_5 rfl ?_
  refine zp_iload_n dX11_close_6 rfl ?_
  refine zp_pc (pc' := 7) rfl ?_
  have hG1 : ∀ j, j < 4 → zmg h101x (95 + 3 * j) t (Gs j) := fun j hj => (hG j hj).off (sw102 _ (by unfold zon; omega)) (sw102 _ (by unfold zon; omega)) (sw102 _ (by unfold zon; omega)) (Nat.le_refl _)
  have h861 := (sw102 86 (by unfold zon; omega)).trans h86
  refine zp_callV (As := [.int (x)]) (k := 64) (st := []) (ci := 10) dX11_close_7 cX11_330 rfl k101_0 rfl rfl (e_isThere (x := x) k101_0 h861 hAa hG1) (by decide) (by decide) (Nat.le_of_ble_eq_true rfl) (fun v103 h103 n103 q103 => ?_)
  obtain ⟨rfl, H103, N103⟩ := q103
  rw [N103, H103]
  refine zp_nrm (cells' := 0) (slots' := 0) (st' := [.int (nI (zbi (zat4 Gs x).isSome))]) rfl rfl rfl ?_
  refine zn_if_ne (tgt := 15) dX11_close_10 (by decide) (by have := zbi_lt (zat4 Gs x).isSome; omega) (fun c10 => ?_) (fun c10 => ?_)
  · have bq104T : (zat4 Gs x).isSome = true := by rcases Bool.eq_false_or_eq_true (zat4 Gs x).isSome with q | q; exact q; rw [q] at c10; exact absurd rfl c10
    obtain ⟨⟨kd, st, rs, iv, ct, dr, sd, V, C⟩, hz⟩ := Option.isSome_iff_exists.mp bq104T
    obtain ⟨j, hj, rfl, eG⟩ := zat4_some hz
    have g9 := hG1 j hj
    rw [eG] at g9
    obtain ⟨hkd, hst, hiv, hct, hsd, hs0, gc, hV, hC, lV, lC⟩ := g9
    have hs := zsd_le hkd
    refine zp_aload_n dX11_close_15 rfl ?_
    refine zp_get dX11_close_16 gX11_92_10 k101_0 rfl ?_
    refine zp_iload_n dX11_close_19 rfl ?_
    refine zp_pc (pc' := 20) rfl ?_
    refine zp_aald (v := .ref (95 + 3 * j)) dX11_close_20 h861 (by unfold vp_in; rw [nI_clamp (by omega)]; exact fun q => q.elim (nI_pos (by omega)) (fun q => by omega)) (by rw [nI_clamp (by omega), hAa j hj]) ?_
    refine zp_iconst (v := nI (0)) dX11_close_21 (by decide) ?_
    refine zp_put (fs' := [.int (nI (0)), .int (nI (kd)), .int (nI (st)), .int (nI (iv)), .int (nI (zbi rs)), .int (nI (ct)), .int (dr), .int (nI (sd)), .ref (95 + 3 * j + 1), .ref (95 + 3 * j + 2)]) dX11_close_22 pX11_301_9 (by omega) gc (Nat.le_of_ble_eq_true rfl) zfit_0 rfl ?_
    refine zp_nh (fun h105x eh105x => ?_)
    have k105_0 := (congrFun eh105x (64)).trans ((va_up_ne _ _ (by omega)).trans k101_0)
    have k105_1 := (congrFun eh105x (86)).trans ((va_up_ne _ _ (by omega)).trans h861)
    have k105_2 : h105x (95 + 3 * j) = some (.inl (9, [.int (nI (0)), .int (nI (kd)), .int (nI (st)), .int (nI (iv)), .int (nI (zbi rs)), .int (nI (ct)), .int (dr), .int (nI (sd)), .ref (95 + 3 * j + 1), .ref (95 + 3 * j + 2)])) := by rw [eh105x]; exact va_up_self _ _ _
    have sw106 : zsm h101x h105x (zon (95 + 3 * j)) := zsm.rf.up eh105x rfl
    have zw106 : zsh h101x h105x := zsh.obj eh105x gc
    refine zp_iconst (v := nI (1)) dX11_close_25 (by decide) ?_
    refine zp_pc (pc' := 26) rfl ?_
    refine zp_i (y := nI (zbi true)) rfl ?_
    have eq9 : (zqclose (nI j) (T, O, (w, rp, wi, pa, un, la, ru, sa, me, se, ta, fa), Gs)) = (true, T, O, (w, rp, wi, pa, un, la, ru, sa, me, se, ta, fa), va_up Gs j none) := (zqclose_so hz).trans (by rw [nI_clamp (by omega)])
    refine zp_ret (v := (some (.int (nI (zbi true))))) dX11_close_26 ⟨⟨_, rfl, ((zfit_b _) g).1⟩, rfl⟩ (by decide) (by decide) ?_
    rw [hQ]
    rw [eq9]; exact ⟨rfl, rfl, ((sw102).mono (fun i hi => by unfold zmA; unfold zon at hi; omega)).trans ((sw106).mono (fun i hi => by unfold zmA; unfold zon at hi; omega)), zMD.gen (T' := T) (O' := O) (S' := (w, rp, wi, pa, un, la, ru, sa, me, se, ta, fa)) H hj (((sw102).mono (fun i hi => by unfold zcg; unfold zon at hi; omega)).trans ((sw106).mono (fun i hi => by unfold zcg; unfold zon at hi; omega))) ((zw102).trans zw106) ⟨_, _, _, _, k105_0, hms⟩ ((((hx).keep (sw102 _ (by unfold zon; omega))).keep (sw106 _ (by unfold zon; omega)))) ((((hT).keep (sw102 _ (by unfold zon; omega))).keep (sw106 _ (by unfold zon; omega)))) ((((hO).keep (sw102 _ (by unfold zon; omega))).keep (sw106 _ (by unfold zon; omega)))) hS (by omega) ⟨_, _, _, _, _, _, _, k105_2, ((hV.ia).keep (sw106 _ (by unfold zon; omega))), ((hC.ia).keep (sw106 _ (by unfold zon; omega)))⟩⟩
  · have bq104F : (zat4 Gs x).isSome = false := by rcases Bool.eq_false_or_eq_true (zat4 Gs x).isSome with q | q; rw [q] at c10; exact absurd c10 (by decide); exact q
    have hz : zat4 Gs x = none := zsome_no bq104F
    refine zp_iconst (v := nI (0)) dX11_close_13 (by decide) ?_
    refine zp_pc (pc' := 14) rfl ?_
    refine zp_i (y := nI (zbi false)) rfl ?_
    have eq9 : (zqclose x (T, O, (w, rp, wi, pa, un, la, ru, sa, me, se, ta, fa), Gs)) = (false, T, O, (w, rp, wi, pa, un, la, ru, sa, me, se, ta, fa), Gs) := zqclose_no hz
    refine zp_ret (v := (some (.int (nI (zbi false))))) dX11_close_14 ⟨⟨_, rfl, ((zfit_b _) g).1⟩, rfl⟩ (by decide) (by decide) ?_
    rw [hQ]
    rw [eq9]; exact ⟨rfl, rfl, (sw102).mono (fun i hi => by unfold zmA; unfold zon at hi; omega), H.upd ((sw102).mono (fun i hi => by unfold zcz; unfold zon at hi; omega)) (zw102) ⟨_, _, _, _, k101_0, hms⟩ (((hx).keep (sw102 _ (by unfold zon; omega)))) (((hT).keep (sw102 _ (by unfold zon; omega)))) (((hO).keep (sw102 _ (by unfold zon; omega)))) hS (by omega)⟩
