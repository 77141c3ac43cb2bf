theorem zqopen_eq (x s : Int32) (r : Bool) (v : Int32) (T O : List Nat) (S : ZSup) (Gs : Nat → Option ZGn) : zqopen x s r v (T, O, S, Gs) = if x < 0 ∨ nI 8 ≤ x ∨ v < nI 1 ∨ nI 100000 < v then (-7, T, O, S, Gs) else if zfree Gs = 4 then (-8, T, O, S, Gs) else if s < nI 1 ∨ nI (zstrong x.toNatClampNeg) < s then (-3, T, O, S, Gs)
    else if zrefuse false T S (x.toNatClampNeg, zleast s.toNatClampNeg, r, v.toNatClampNeg, 0, nI 0, 0, [], []) = 0 then (nI (zfree Gs), [], O, zgivS (zgdem (x.toNatClampNeg, zleast s.toNatClampNeg, r, v.toNatClampNeg, 0, nI 0, 0, [], [])) S, va_up Gs (zfree Gs) (some (zgplant (S.1.take (zgdem (x.toNatClampNeg, zleast s.toNatClampNeg, r, v.toNatClampNeg, 0, nI 0, 0, [], []))) T (x.toNatClampNeg, zleast s.toNatClampNeg, r, v.toNatClampNeg, 0, nI 0, 0, [], []))))
    else (-nI (zrefuse false T S (x.toNatClampNeg, zleast s.toNatClampNeg, r, v.toNatClampNeg, 0, nI 0, 0, [], [])), T, O, S, Gs) := rfl
theorem zin7 {x : Int32} (h : ¬ (nI 0 ≤ x ∧ x ≤ nI 7)) : x < 0 ∨ nI 8 ≤ x := by
  rcases zin_not h with q | q
  · exact Or.inl q
  · refine Or.inr ?_
    rw [Int32.le_iff_toInt_le]
    rw [Int32.lt_iff_toInt_lt] at q
    rw [nI_toInt (by decide)] at q ⊢
    omega
set_option maxRecDepth 10000 in
set_option maxHeartbeats 2000000 in
theorem E_open {g : ZG} {h : ZH} {n : Nat} {t : Nat} {T O w : List Nat} {un : Bool} {rp wi pa la ru sa me se ta fa : Int32} {Gs : Nat → Option ZGn} {x s v0 : Int32} {r : Bool} (H : zMD t h (T, O, (w, rp, wi, pa, un, la, ru, sa, me, se, ta, fa), Gs)) (ht : t < 80000) : zMt g mX11_open (zR 8 0 0) [.ref (64), .int (x), .int (s), .int (nI (zbi r)), .int (v0)] h n (fun v h' n' => v = some (.int (zqopen x s r v0 (T, O, (w, rp, wi, pa, un, la, ru, sa, me, se, ta, fa), Gs)).1) ∧ n' = n ∧ zsm h h' zmA ∧ zMD (t + 2) h' (zqopen x s r v0 (T, O, (w, rp, wi, pa, un, la, ru, sa, me, se, ta, fa), Gs)).2) := by
  refine zMt.of [some (.ref (64)), some (.int (x)), some (.int (s)), some (.int (nI (zbi r))), some (.int (v0)), none, none] (by decide) rfl (Nat.le_of_ble_eq_true rfl) ?_
  obtain ⟨Qf, hQ⟩ : ∃ Qf : ZQ, Qf = (fun v h' n' => v = some (.int (zqopen x s r v0 (T, O, (w, rp, wi, pa, un, la, ru, sa, me, se, ta, fa), Gs)).1) ∧ n' = n ∧ zsm h h' zmA ∧ zMD (t + 2) h' (zqopen x s r v0 (T, O, (w, rp, wi, pa, un, la, ru, sa, me, se, ta, fa), Gs)).2) := ⟨_, rfl⟩
  rw [← hQ]
  obtain ⟨⟨th, mn, mq, sq, ho, hms⟩, hw, hx, h85, ⟨Aa, h86, hAa⟩, hT, hO, hG, hS⟩ := id H
  have ho : h 64 = some (.inl (10, [.int (th), .ref (65), .ref (66), .ref (67), .ref (68), .ref (69), .ref (70), .ref (71), .ref (72), .ref (73), .ref (74), .ref (75), .ref (76), .ref (77), .ref (78), .ref (79), .ref (80), .ref (81), .ref (82), .ref (83), .ref (84), .int (nI (w.length)), .int (nI (zbi un)), .int (rp), .int (wi), .int (pa), .int (la), .int (ru), .int (sa), .int (mq), .int (sq), .int (ta), .int (fa), .ref (85), .ref (86), .ref (87), .int (nI (mn)), .ref (88), .ref (89), .ref (90), .ref (91), .ref (92), .ref (93), .int (nI (T.length)), .ref (94), .int (nI (O.length))])) := ho
  have hx : zar h 84 1000 w := hx
  have lT := hT.1
  have lO := hO.1
  have lw := hx.1
  refine zp_aload_n dX11_open_0 rfl ?_
  refine zp_iconst (v := nI (0)) dX11_open_1 (by decide) ?_
  refine zp_put (fs' := [.int (nI (0)), .ref (65), .ref (66), .ref (67), .ref (68), .ref (69), .ref (70), .ref (71), .ref (72), .ref (73), .ref (74), .ref (75), .ref (76), .ref (77), .ref (78), .ref (79), .ref (80), .ref (81), .ref (82), .ref (83), .ref (84), .int (nI (w.length)), .int (nI (zbi un)), .int (rp), .int (wi), .int (pa), .int (la), .int (ru), .int (sa), .int (mq), .int (sq), .int (ta), .int (fa), .ref (85), .ref (86), .ref (87), .int (nI (mn)), .ref (88), .ref (89), .ref (90), .ref (91), .ref (92), .ref (93), .int (nI (T.length)), .ref (94), .int (nI (O.length))]) dX11_open_2 pX11_133_10 (by omega) ho (Nat.le_of_ble_eq_true rfl) (zfit_i _) rfl ?_
  refine zp_nh (fun h101x eh101x => ?_)
  have k101_0 : h101x (64) = some (.inl (10, [.int (nI (0)), .ref (65), .ref (66), .ref (67), .ref (68), .ref (69), .ref (70), .ref (71), .ref (72), .ref (73), .ref (74), .ref (75), .ref (76), .ref (77), .ref (78), .ref (79), .ref (80), .ref (81), .ref (82), .ref (83), .ref (84), .int (nI (w.length)), .int (nI (zbi un)), .int (rp), .int (wi), .int (pa), .int (la), .int (ru), .int (sa), .int (mq), .int (sq), .int (ta), .int (fa), .ref (85), .ref (86), .ref (87), .int (nI (mn)), .ref (88), .ref (89), .ref (90), .ref (91), .ref (92), .ref (93), .int (nI (T.length)), .ref (94), .int (nI (O.length))])) := by rw [eh101x]; exact va_up_self _ _ _
  have sw102 : zsm h h101x (zon (64)) := zsm.rf.up eh101x rfl
  have zw102 : zsh h h101x := zsh.obj eh101x ho
  refine zp_iload_n dX11_open_5 rfl ?_
  refine zp_iconst (v := nI (0)) dX11_open_6 (by decide) ?_
  refine zp_bipush (v := nI (7)) dX11_open_7 (by decide) ?_
  refine zp_pc (pc' := 9) rfl ?_
  refine zp_callS (As := [.int (x), .int (nI (0)), .int (nI (7))]) (st := []) dX11_open_9 cX11_297 rfl e_in (by decide) (by decide) (Nat.le_of_ble_eq_true rfl) (fun v103 h103 n103 q103 => ?_)
  obtain ⟨rfl, H103, N103⟩ := q103
  rw [N103, H103]
  refine zp_nrm (cells' := 0) (slots' := 0) (st' := [.int (nI (zbi (decide (nI 0 ≤ x ∧ x ≤ nI 7))))]) rfl rfl rfl ?_
  refine zn_if_eq (tgt := 27) dX11_open_12 (by decide) (by have := zbi_lt (decide (nI 0 ≤ x ∧ x ≤ nI 7)); omega) (fun c12 => ?_) (fun c12 => ?_)
  · have bq104F : (decide (nI 0 ≤ x ∧ x ≤ nI 7)) = false := by rcases Bool.eq_false_or_eq_true (decide (nI 0 ≤ x ∧ x ≤ nI 7)) with q | q; rw [q] at c12; exact absurd c12 (by decide); exact q
    refine zp_bipush (v := (-7)) dX11_open_27 (by decide) ?_
    refine zp_pc (pc' := 29) rfl ?_
    have eq9 : (zqopen x s r v0 (T, O, (w, rp, wi, pa, un, la, ru, sa, me, se, ta, fa), Gs)) = (-7, T, O, (w, rp, wi, pa, un, la, ru, sa, me, se, ta, fa), Gs) := (zqopen_eq _ _ _ _ _ _ _ _).trans (if_pos ((zin7 (of_decide_eq_false bq104F)).imp id Or.inl))
    refine zp_ret (v := (some (.int ((-7))))) dX11_open_29 ⟨⟨_, rfl, rfl⟩, rfl⟩ (by decide) (by decide) ?_
    rw [hQ]
    rw [eq9]; exact ⟨rfl, rfl, (sw102).mono (fun i hi => by unfold zmA; unfold zon at hi; omega), H.upd ((sw102).mono (fun i hi => by unfold zcz; unfold zon at hi; omega)) (zw102) ⟨_, _, _, _, k101_0, hms⟩ (((hx).keep (sw102 _ (by unfold zon; omega)))) (((hT).keep (sw102 _ (by unfold zon; omega)))) (((hO).keep (sw102 _ (by unfold zon; omega)))) hS (by omega)⟩
  · have bq104T : (decide (nI 0 ≤ x ∧ x ≤ nI 7)) = true := by rcases Bool.eq_false_or_eq_true (decide (nI 0 ≤ x ∧ x ≤ nI 7)) with q | q; exact q; rw [q] at c12; exact absurd rfl c12
    refine zp_iload dX11_open_15 rfl ?_
    refine zp_iconst (v := nI (1)) dX11_open_17 (by decide) ?_
    refine zp_ldcw dX11_open_18 kcX11_310 ?_
    refine zp_pc (pc' := 21) rfl ?_
    refine zp_callS (As := [.int (v0), .int (nI (1)), .int ((100000))]) (st := []) dX11_open_21 cX11_297 rfl e_in (by decide) (by decide) (Nat.le_of_ble_eq_true rfl) (fun v105 h105 n105 q105 => ?_)
    obtain ⟨rfl, H105, N105⟩ := q105
    rw [N105, H105]
    refine zp_nrm (cells' := 0) (slots' := 0) (st' := [.int (nI (zbi (decide (nI 1 ≤ v0 ∧ v0 ≤ (100000)))))]) rfl rfl rfl ?_
    refine zn_if_ne (tgt := 30) dX11_open_24 (by decide) (by have := zbi_lt (decide (nI 1 ≤ v0 ∧ v0 ≤ (100000))); omega) (fun c24 => ?_) (fun c24 => ?_)
    · have bq106T : (decide (nI 1 ≤ v0 ∧ v0 ≤ (100000))) = true := by rcases Bool.eq_false_or_eq_true (decide (nI 1 ≤ v0 ∧ v0 ≤ (100000))) with q | q; exact q; rw [q] at c24; exact absurd rfl c24
      have k2 := zin_yes (of_decide_eq_true bq106T)
      have hv2 : nI 1 ≤ v0 ∧ v0 ≤ nI 100000 := of_decide_eq_true bq106T
      obtain ⟨kd, hk7, rfl⟩ := zin_nat (by decide) (of_decide_eq_true bq104T)
      have hkd : kd < 8 := by omega
      have hs := zsd_le hkd
      obtain ⟨iv, hiv, rfl⟩ := zin_nat (b := 100000) (by decide) ⟨Int32.le_trans (show nI 0 ≤ nI 1 by decide) hv2.1, hv2.2⟩
      have n7 : ¬ (nI kd < 0 ∨ nI 8 ≤ nI kd ∨ nI iv < nI 1 ∨ nI 100000 < nI iv) := fun q => q.elim (nI_pos (by omega)) (fun q => q.elim (fun q => by have := (nI_leI (by decide) (by omega)).mp q; omega) k2)
      have hG1 : ∀ j, j < 4 → zmg h101x (95 + 3 * j) t (Gs j) := fun j hj => (hG j hj).off (sw102 _ (by unfold zon; omega)) (sw102 _ (by unfold zon; omega)) (sw102 _ (by unfold zon; omega)) (Nat.le_refl _)
      have h861 := (sw102 86 (by unfold zon; omega)).trans h86
      have k58 : ∀ j, j ≤ 4 → (∀ i, i < j → Gs i ≠ none) → (j = 4 ∨ Gs j = none) → zP g mX11_open (zR 8 0 0) Qf 0 0 58 [some (.ref (64)), some (.int (nI (kd))), some (.int (s)), some (.int (nI (zbi r))), some (.int (nI (iv))), some (.int (nI (j))), none] [] h101x n := by
        intro j hj4 hfr hst
        have ef := zfree_of hj4 hfr hst
        refine zp_iload dX11_open_58 rfl ?_
        refine zp_iconst (v := nI (4)) dX11_open_60 (by decide) ?_
        refine zp_pc (pc' := 61) rfl ?_
        refine zn_icmp_ne (tgt := 67) dX11_open_61 (by decide) (by omega) (by omega) (fun c61 => ?_) (fun c61 => ?_)
        · have hj : j < 4 := by omega
          have eG : Gs j = none := hst.resolve_left c61
          have nf : ¬ zfree Gs = 4 := by rw [ef]; exact c61
          refine zp_iload_n dX11_open_67 rfl ?_
          refine zp_iconst (v := nI (1)) dX11_open_68 (by decide) ?_
          refine zp_iload_n dX11_open_69 rfl ?_
          refine zp_iconst (v := nI (4)) dX11_open_70 (by decide) ?_
          refine zp_pc (pc' := 71) rfl ?_
          have jn107 : zP g mX11_open (zR 8 0 0) Qf 0 0 89 [some (.ref (64)), some (.int (nI (kd))), some (.int (s)), some (.int (nI (zbi r))), some (.int (nI (iv))), some (.int (nI (j))), none] [.int (nI (zstrong kd)), .int (nI (1)), .int (s)] h101x n → zP g mX11_open (zR 8 0 0) Qf 0 0 71 [some (.ref (64)), some (.int (nI (kd))), some (.int (s)), some (.int (nI (zbi r))), some (.int (nI (iv))), some (.int (nI (j))), none] [.int (nI (4)), .int (nI (kd)), .int (nI (1)), .int (s)] h101x n := by
            intro jk107
            refine zn_icmp_eq (tgt := 80) dX11_open_71 (by decide) (by omega) (by omega) (fun c71 => ?_) (fun c71 => ?_)
            · refine zp_sipush (v := nI (128)) dX11_open_80 (by decide) ?_
              refine zp_goto (tgt := 89) dX11_open_83 (by decide) ?_
              refine zp_pc (pc' := 89) rfl ?_
              refine zp_i (y := nI (zstrong kd)) (by unfold zstrong; rw [if_pos (Or.inl c71)]) ?_
              exact jk107
            · refine zp_iload_n dX11_open_74 rfl ?_
              refine zp_bipush (v := nI (6)) dX11_open_75 (by decide) ?_
              refine zp_pc (pc' := 77) rfl ?_
              refine zn_icmp_ne (tgt := 86) dX11_open_77 (by decide) (by omega) (by omega) (fun c77 => ?_) (fun c77 => ?_)
              · refine zp_sipush (v := nI (256)) dX11_open_86 (by decide) ?_
                refine zp_pc (pc' := 89) rfl ?_
                refine zp_i (y := nI (zstrong kd)) (by unfold zstrong; rw [if_neg (fun q => q.elim c71 c77)]) ?_
                exact jk107
              · refine zp_sipush (v := nI (128)) dX11_open_80 (by decide) ?_
                refine zp_goto (tgt := 89) dX11_open_83 (by decide) ?_
                refine zp_pc (pc' := 89) rfl ?_
                refine zp_i (y := nI (zstrong kd)) (by unfold zstrong; rw [if_pos (Or.inr c77)]) ?_
                exact jk107
          refine jn107 ?_
          refine zp_callS (As := [.int (s), .int (nI (1)), .int (nI (zstrong kd))]) (st := []) dX11_open_89 cX11_297 rfl e_in (by decide) (by decide) (Nat.le_of_ble_eq_true rfl) (fun v108 h108 n108 q108 => ?_)
          obtain ⟨rfl, H108, N108⟩ := q108
          rw [N108, H108]
          refine zp_nrm (cells' := 0) (slots' := 0) (st' := [.int (nI (zbi (decide (nI 1 ≤ s ∧ s ≤ nI (zstrong kd)))))]) rfl rfl rfl ?_
          refine zn_if_ne (tgt := 98) dX11_open_92 (by decide) (by have := zbi_lt (decide (nI 1 ≤ s ∧ s ≤ nI (zstrong kd))); omega) (fun c92 => ?_) (fun c92 => ?_)
          · have bq109T : (decide (nI 1 ≤ s ∧ s ≤ nI (zstrong kd))) = true := by rcases Bool.eq_false_or_eq_true (decide (nI 1 ≤ s ∧ s ≤ nI (zstrong kd))) with q | q; exact q; rw [q] at c92; exact absurd rfl c92
            have ks := zin_yes (of_decide_eq_true bq109T)
            have sl := zstrong_le kd
            obtain ⟨sc, hsc, rfl⟩ := zin_nat (b := zstrong kd) (by omega) ⟨Int32.le_trans (show nI 0 ≤ nI 1 by decide) (of_decide_eq_true bq109T).1, (of_decide_eq_true bq109T).2⟩
            have g9 := hG1 j hj
            rw [eG] at g9
            obtain ⟨k1, s1, i1, r1, q1, d1, e1, gc, iV, iC⟩ := g9
            obtain ⟨ct, rfl⟩ := znI_all q1
            refine zp_aload_n dX11_open_98 rfl ?_
            refine zp_get dX11_open_99 gX11_92_10 k101_0 rfl ?_
            refine zp_iload dX11_open_102 rfl ?_
            refine zp_pc (pc' := 104) rfl ?_
            refine zp_aald (v := .ref (95 + 3 * j)) dX11_open_104 h861 (by unfold vp_in; rw [nI_clamp (by omega)]; exact fun q => q.elim (nI_pos (by omega)) (fun q => by omega)) (by rw [nI_clamp (by omega), hAa j hj]) ?_
            refine zp_astore (ls' := [some (.ref (64)), some (.int (nI (kd))), some (.int (nI (sc))), some (.int (nI (zbi r))), some (.int (nI (iv))), some (.int (nI (j))), some (.ref (95 + 3 * j))]) dX11_open_105 (by decide) rfl ?_
            refine zp_aload dX11_open_107 rfl ?_
            refine zp_iload_n dX11_open_109 rfl ?_
            refine zp_put (fs' := [.int (nI (0)), .int (nI (kd)), .int (s1), .int (i1), .int (r1), .int (nI (ct)), .int (d1), .int (e1), .ref (95 + 3 * j + 1), .ref (95 + 3 * j + 2)]) dX11_open_110 pX11_271_9 (by omega) gc (Nat.le_of_ble_eq_true rfl) (zfit_i _) rfl ?_
            refine zp_nh (fun h110x eh110x => ?_)
            have k110_0 := (congrFun eh110x (64)).trans ((va_up_ne _ _ (by omega)).trans k101_0)
            have k110_1 := (congrFun eh110x (86)).trans ((va_up_ne _ _ (by omega)).trans h861)
            have k110_2 : h110x (95 + 3 * j) = some (.inl (9, [.int (nI (0)), .int (nI (kd)), .int (s1), .int (i1), .int (r1), .int (nI (ct)), .int (d1), .int (e1), .ref (95 + 3 * j + 1), .ref (95 + 3 * j + 2)])) := by rw [eh110x]; exact va_up_self _ _ _
            have sw111 : zsm h101x h110x (zon (95 + 3 * j)) := zsm.rf.up eh110x rfl
            have zw111 : zsh h101x h110x := zsh.obj eh110x gc
            refine zp_aload dX11_open_113 rfl ?_
            refine zp_iload_n dX11_open_115 rfl ?_
            refine zp_bipush (v := nI (112)) dX11_open_116 (by decide) ?_
            refine zp_pc (pc' := 118) rfl ?_
            have jn112 : zP g mX11_open (zR 8 0 0) Qf 0 0 155 [some (.ref (64)), some (.int (nI (kd))), some (.int (nI (sc))), some (.int (nI (zbi r))), some (.int (nI (iv))), some (.int (nI (j))), some (.ref (95 + 3 * j))] [.int (nI (zleast sc)), .ref (95 + 3 * j)] h110x n → zP g mX11_open (zR 8 0 0) Qf 0 0 118 [some (.ref (64)), some (.int (nI (kd))), some (.int (nI (sc))), some (.int (nI (zbi r))), some (.int (nI (iv))), some (.int (nI (j))), some (.ref (95 + 3 * j))] [.int (nI (112)), .int (nI (sc)), .ref (95 + 3 * j)] h110x n := by
              intro jk112
              refine zn_icmp_gt (tgt := 126) dX11_open_118 (by decide) (by omega) (by omega) (fun c118 => ?_) (fun c118 => ?_)
              · refine zp_iload_n dX11_open_126 rfl ?_
                refine zp_sipush (v := nI (128)) dX11_open_127 (by decide) ?_
                refine zp_pc (pc' := 130) rfl ?_
                refine zn_icmp_gt (tgt := 139) dX11_open_130 (by decide) (by omega) (by omega) (fun c130 => ?_) (fun c130 => ?_)
                · refine zp_iload_n dX11_open_139 rfl ?_
                  refine zp_sipush (v := nI (192)) dX11_open_140 (by decide) ?_
                  refine zp_pc (pc' := 143) rfl ?_
                  refine zn_icmp_gt (tgt := 152) dX11_open_143 (by decide) (by omega) (by omega) (fun c143 => ?_) (fun c143 => ?_)
                  · refine zp_sipush (v := nI (256)) dX11_open_152 (by decide) ?_
                    refine zp_pc (pc' := 155) rfl ?_
                    refine zp_i (y := nI (zleast sc)) (by unfold zleast; rw [if_neg (by omega), if_neg (by omega), if_neg (by omega)]) ?_
                    exact jk112
                  · refine zp_sipush (v := nI (192)) dX11_open_146 (by decide) ?_
                    refine zp_goto (tgt := 155) dX11_open_149 (by decide) ?_
                    refine zp_pc (pc' := 155) rfl ?_
                    refine zp_i (y := nI (zleast sc)) (by unfold zleast; rw [if_neg (by omega), if_neg (by omega), if_pos c143]) ?_
                    exact jk112
                · refine zp_sipush (v := nI (128)) dX11_open_133 (by decide) ?_
                  refine zp_goto (tgt := 155) dX11_open_136 (by decide) ?_
                  refine zp_pc (pc' := 155) rfl ?_
                  refine zp_i (y := nI (zleast sc)) (by unfold zleast; rw [if_neg (by omega), if_pos c130]) ?_
                  exact jk112
              · refine zp_bipush (v := nI (112)) dX11_open_121 (by decide) ?_
                refine zp_goto (tgt := 155) dX11_open_123 (by decide) ?_
                refine zp_pc (pc' := 155) rfl ?_
                refine zp_i (y := nI (zleast sc)) (by unfold zleast; rw [if_pos c118]) ?_
                exact jk112
            refine jn112 ?_
            have hst := zleast_le sc
            obtain ⟨sg, esg⟩ : ∃ sg : Nat, sg = zleast sc := ⟨_, rfl⟩
            rw [← esg] at hst
            refine zp_i (y := nI (sg)) (by rw [esg]) ?_
            refine zp_put (fs' := [.int (nI (0)), .int (nI (kd)), .int (nI (sg)), .int (i1), .int (r1), .int (nI (ct)), .int (d1), .int (e1), .ref (95 + 3 * j + 1), .ref (95 + 3 * j + 2)]) dX11_open_155 pX11_311_9 (by omega) k110_2 (Nat.le_of_ble_eq_true rfl) (zfit_i _) rfl ?_
            refine zp_nh (fun h113x eh113x => ?_)
            have k113_0 := (congrFun eh113x (64)).trans ((va_up_ne _ _ (by omega)).trans k110_0)
            have k113_1 := (congrFun eh113x (86)).trans ((va_up_ne _ _ (by omega)).trans k110_1)
            have k113_2 : h113x (95 + 3 * j) = some (.inl (9, [.int (nI (0)), .int (nI (kd)), .int (nI (sg)), .int (i1), .int (r1), .int (nI (ct)), .int (d1), .int (e1), .ref (95 + 3 * j + 1), .ref (95 + 3 * j + 2)])) := by rw [eh113x]; exact va_up_self _ _ _
            have sw114 : zsm h110x h113x (zon (95 + 3 * j)) := zsm.rf.up eh113x rfl
            have zw114 : zsh h110x h113x := zsh.obj eh113x k110_2
            refine zp_aload dX11_open_158 rfl ?_
            refine zp_aload_n dX11_open_160 rfl ?_
            refine zp_get dX11_open_161 gX11_304_10 k113_0 rfl ?_
            refine zp_pc (pc' := 164) rfl ?_
            refine zp_callS (As := [.ref (95 + 3 * j), .int (nI (T.length))]) (st := []) dX11_open_164 cX11_314 rfl (e_ztoo k113_2 hkd (by omega)) (by decide) (by decide) (Nat.le_of_ble_eq_true rfl) (fun v115 h115 n115 q115 => ?_)
            obtain ⟨rfl, H115, N115⟩ := q115
            rw [N115, H115]
            refine zp_nrm (cells' := 0) (slots' := 0) (st' := [.int (nI (zbi (decide (6 ≤ kd ∧ zsd kd < T.length))))]) rfl rfl rfl ?_
            have eo : (zqopen (nI kd) (nI sc) r (nI iv) (T, O, (w, rp, wi, pa, un, la, ru, sa, me, se, ta, fa), Gs)) = if zrefuse false T (w, rp, wi, pa, un, la, ru, sa, me, se, ta, fa) (kd, sg, r, iv, 0, nI 0, 0, [], []) = 0 then (nI j, [], O, zgivS (zdem kd sg (zsd kd) 0) (w, rp, wi, pa, un, la, ru, sa, me, se, ta, fa), va_up Gs j (some (zgplant (w.take (zdem kd sg (zsd kd) 0)) T (kd, sg, r, iv, 0, nI 0, 0, [], [])))) else (-nI (zrefuse false T (w, rp, wi, pa, un, la, ru, sa, me, se, ta, fa) (kd, sg, r, iv, 0, nI 0, 0, [], [])), T, O, (w, rp, wi, pa, un, la, ru, sa, me, se, ta, fa), Gs) := by rw [zqopen_eq, if_neg n7, if_neg nf, nI_clamp (show kd < 2 ^ 31 by omega), nI_clamp (show sc < 2 ^ 31 by omega), nI_clamp (show iv < 2 ^ 31 by omega), if_neg ks, ef, esg]; rfl
            have hdm := zdem_le (sd := 0) hkd hst
            have zfl9 : zfr kd sg ≤ 111 := by unfold zfr; split <;> omega
            have n5 : ¬ (false = true ∧ r = false) := fun q => by cases q.1
            refine zn_if_eq (tgt := 173) dX11_open_167 (by decide) (by have := zbi_lt (decide (6 ≤ kd ∧ zsd kd < T.length)); omega) (fun c167 => ?_) (fun c167 => ?_)
            · have bq116F : (decide (6 ≤ kd ∧ zsd kd < T.length)) = false := by rcases Bool.eq_false_or_eq_true (decide (6 ≤ kd ∧ zsd kd < T.length)) with q | q; rw [q] at c167; exact absurd c167 (by decide); exact q
              have t4 := of_decide_eq_false bq116F
              refine zp_aload dX11_open_173 rfl ?_
              refine zp_callV (As := []) (k := 95 + 3 * j) (st := []) (ci := 9) dX11_open_175 cX11_281 rfl k113_2 rfl rfl (e_zfresh k113_2 hkd (by omega)) (by decide) (by decide) (Nat.le_of_ble_eq_true rfl) (fun v117 h117 n117 q117 => ?_)
              obtain ⟨rfl, H117, N117⟩ := q117
              rw [N117, H117]
              refine zp_nrm (cells' := 0) (slots' := 0) (st' := [.int (nI (zfr kd sg))]) rfl rfl rfl ?_
              refine zp_iload_n dX11_open_178 rfl ?_
              refine zp_bipush (v := nI (6)) dX11_open_179 (by decide) ?_
              refine zp_pc (pc' := 181) rfl ?_
              have jn118 : zP g mX11_open (zR 8 0 0) Qf 0 0 196 [some (.ref (64)), some (.int (nI (kd))), some (.int (nI (sc))), some (.int (nI (zbi r))), some (.int (nI (iv))), some (.int (nI (j))), some (.ref (95 + 3 * j))] [.int (nI ((zdem kd sg (zsd kd) 0)))] h113x n → zP g mX11_open (zR 8 0 0) Qf 0 0 181 [some (.ref (64)), some (.int (nI (kd))), some (.int (nI (sc))), some (.int (nI (zbi r))), some (.int (nI (iv))), some (.int (nI (j))), some (.ref (95 + 3 * j))] [.int (nI (6)), .int (nI (kd)), .int (nI (zfr kd sg))] h113x n := by
                intro jk118
                refine zn_icmp_ge (tgt := 194) dX11_open_181 (by decide) (by omega) (by omega) (fun c181 => ?_) (fun c181 => ?_)
                · refine zp_iconst (v := nI (0)) dX11_open_194 (by decide) ?_
                  refine zp_pc (pc' := 195) rfl ?_
                  refine zn_iadd dX11_open_195 ?_
                  refine zp_i (y := nI ((zdem kd sg (zsd kd) 0))) (by unfold zfr zdem; rw [if_pos (by omega), if_pos (by omega), Nat.add_zero]) ?_
                  exact jk118
                · have zf : zfr kd sg = sg / 8 := if_neg (by omega)
                  refine zp_aload dX11_open_184 rfl ?_
                  refine zp_callV (As := []) (k := 95 + 3 * j) (st := [.int (nI (zfr kd sg))]) (ci := 9) dX11_open_186 cX11_281 rfl k113_2 rfl rfl (e_zfresh k113_2 hkd (by omega)) (by decide) (by decide) (Nat.le_of_ble_eq_true rfl) (fun v119 h119 n119 q119 => ?_)
                  obtain ⟨rfl, H119, N119⟩ := q119
                  rw [N119, H119]
                  refine zp_nrm (cells' := 0) (slots' := 0) (st' := [.int (nI (zfr kd sg)), .int (nI (zfr kd sg))]) rfl rfl rfl ?_
                  refine zp_iconst (v := nI (2)) dX11_open_189 (by decide) ?_
                  refine zn_idiv dX11_open_190 (by omega) (by omega) (by omega) ?_
                  refine zp_goto (tgt := 195) dX11_open_191 (by decide) ?_
                  refine zp_pc (pc' := 195) rfl ?_
                  refine zn_iadd dX11_open_195 ?_
                  refine zp_i (y := nI ((zdem kd sg (zsd kd) 0))) (by unfold zdem; rw [if_neg (by omega), if_pos rfl, zf]) ?_
                  exact jk118
              refine jn118 ?_
              refine zp_aload_n dX11_open_196 rfl ?_
              refine zp_get dX11_open_197 gX11_206_10 k113_0 rfl ?_
              refine zp_pc (pc' := 200) rfl ?_
              refine zn_icmp_le (tgt := 206) dX11_open_200 (by decide) (by omega) (by omega) (fun c200 => ?_) (fun c200 => ?_)
              · refine zp_aload dX11_open_206 rfl ?_
                refine zp_iconst (v := nI (1)) dX11_open_208 (by decide) ?_
                refine zp_put (fs' := [.int (nI (1)), .int (nI (kd)), .int (nI (sg)), .int (i1), .int (r1), .int (nI (ct)), .int (d1), .int (e1), .ref (95 + 3 * j + 1), .ref (95 + 3 * j + 2)]) dX11_open_209 pX11_301_9 (by omega) k113_2 (Nat.le_of_ble_eq_true rfl) zfit_1 rfl ?_
                refine zp_nh (fun h120x eh120x => ?_)
                have k120_0 := (congrFun eh120x (64)).trans ((va_up_ne _ _ (by omega)).trans k113_0)
                have k120_1 := (congrFun eh120x (86)).trans ((va_up_ne _ _ (by omega)).trans k113_1)
                have k120_2 : h120x (95 + 3 * j) = some (.inl (9, [.int (nI (1)), .int (nI (kd)), .int (nI (sg)), .int (i1), .int (r1), .int (nI (ct)), .int (d1), .int (e1), .ref (95 + 3 * j + 1), .ref (95 + 3 * j + 2)])) := by rw [eh120x]; exact va_up_self _ _ _
                have sw121 : zsm h113x h120x (zon (95 + 3 * j)) := zsm.rf.up eh120x rfl
                have zw121 : zsh h113x h120x := zsh.obj eh120x k113_2
                refine zp_pc (pc' := 212) rfl ?_
                refine zp_aload dX11_open_212 rfl ?_
                refine zp_iload dX11_open_214 rfl ?_
                refine zp_put (fs' := [.int (nI (1)), .int (nI (kd)), .int (nI (sg)), .int (nI (iv)), .int (r1), .int (nI (ct)), .int (d1), .int (e1), .ref (95 + 3 * j + 1), .ref (95 + 3 * j + 2)]) dX11_open_216 pX11_318_9 (by omega) k120_2 (Nat.le_of_ble_eq_true rfl) (zfit_i _) rfl ?_
                refine zp_nh (fun h122x eh122x => ?_)
                have k122_0 := (congrFun eh122x (64)).trans ((va_up_ne _ _ (by omega)).trans k120_0)
                have k122_1 := (congrFun eh122x (86)).trans ((va_up_ne _ _ (by omega)).trans k120_1)
                have k122_2 : h122x (95 + 3 * j) = some (.inl (9, [.int (nI (1)), .int (nI (kd)), .int (nI (sg)), .int (nI (iv)), .int (r1), .int (nI (ct)), .int (d1), .int (e1), .ref (95 + 3 * j + 1), .ref (95 + 3 * j + 2)])) := by rw [eh122x]; exact va_up_self _ _ _
                have sw123 : zsm h120x h122x (zon (95 + 3 * j)) := zsm.rf.up eh122x rfl
                have zw123 : zsh h120x h122x := zsh.obj eh122x k120_2
                refine zp_aload dX11_open_219 rfl ?_
                refine zp_iload_n dX11_open_221 rfl ?_
                refine zp_pc (pc' := 222) rfl ?_
                refine zp_put (fs' := [.int (nI (1)), .int (nI (kd)), .int (nI (sg)), .int (nI (iv)), .int (nI (zbi r)), .int (nI (ct)), .int (d1), .int (e1), .ref (95 + 3 * j + 1), .ref (95 + 3 * j + 2)]) dX11_open_222 pX11_321_9 (by omega) k122_2 (Nat.le_of_ble_eq_true rfl) (zfit_b r) rfl ?_
                refine zp_nh (fun h124x eh124x => ?_)
                have k124_0 := (congrFun eh124x (64)).trans ((va_up_ne _ _ (by omega)).trans k122_0)
                have k124_1 := (congrFun eh124x (86)).trans ((va_up_ne _ _ (by omega)).trans k122_1)
                have k124_2 : h124x (95 + 3 * j) = some (.inl (9, [.int (nI (1)), .int (nI (kd)), .int (nI (sg)), .int (nI (iv)), .int (nI (zbi r)), .int (nI (ct)), .int (d1), .int (e1), .ref (95 + 3 * j + 1), .ref (95 + 3 * j + 2)])) := by rw [eh124x]; exact va_up_self _ _ _
                have sw125 : zsm h122x h124x (zon (95 + 3 * j)) := zsm.rf.up eh124x rfl
                have zw125 : zsh h122x h124x := zsh.obj eh124x k122_2
                refine zp_aload dX11_open_225 rfl ?_
                refine zp_iconst (v := nI (0)) dX11_open_227 (by decide) ?_
                refine zp_put (fs' := [.int (nI (1)), .int (nI (kd)), .int (nI (sg)), .int (nI (iv)), .int (nI (zbi r)), .int (nI (ct)), .int (nI (0)), .int (e1), .ref (95 + 3 * j + 1), .ref (95 + 3 * j + 2)]) dX11_open_228 pX11_324_9 (by omega) k124_2 (Nat.le_of_ble_eq_true rfl) (zfit_i _) rfl ?_
                refine zp_nh (fun h126x eh126x => ?_)
                have k126_0 := (congrFun eh126x (64)).trans ((va_up_ne _ _ (by omega)).trans k124_0)
                have k126_1 := (congrFun eh126x (86)).trans ((va_up_ne _ _ (by omega)).trans k124_1)
                have k126_2 : h126x (95 + 3 * j) = some (.inl (9, [.int (nI (1)), .int (nI (kd)), .int (nI (sg)), .int (nI (iv)), .int (nI (zbi r)), .int (nI (ct)), .int (nI (0)), .int (e1), .ref (95 + 3 * j + 1), .ref (95 + 3 * j + 2)])) := by rw [eh126x]; exact va_up_self _ _ _
                have sw127 : zsm h124x h126x (zon (95 + 3 * j)) := zsm.rf.up eh126x rfl
                have zw127 : zsh h124x h126x := zsh.obj eh126x k124_2
                refine zp_aload dX11_open_231 rfl ?_
                refine zp_iconst (v := nI (0)) dX11_open_233 (by decide) ?_
                refine zp_put (fs' := [.int (nI (1)), .int (nI (kd)), .int (nI (sg)), .int (nI (iv)), .int (nI (zbi r)), .int (nI (ct)), .int (nI (0)), .int (nI (0)), .ref (95 + 3 * j + 1), .ref (95 + 3 * j + 2)]) dX11_open_234 pX11_294_9 (by omega) k126_2 (Nat.le_of_ble_eq_true rfl) (zfit_i _) rfl ?_
                refine zp_nh (fun h128x eh128x => ?_)
                have k128_0 := (congrFun eh128x (64)).trans ((va_up_ne _ _ (by omega)).trans k126_0)
                have k128_1 := (congrFun eh128x (86)).trans ((va_up_ne _ _ (by omega)).trans k126_1)
                have k128_2 : h128x (95 + 3 * j) = some (.inl (9, [.int (nI (1)), .int (nI (kd)), .int (nI (sg)), .int (nI (iv)), .int (nI (zbi r)), .int (nI (ct)), .int (nI (0)), .int (nI (0)), .ref (95 + 3 * j + 1), .ref (95 + 3 * j + 2)])) := by rw [eh128x]; exact va_up_self _ _ _
                have sw129 : zsm h126x h128x (zon (95 + 3 * j)) := zsm.rf.up eh128x rfl
                have zw129 : zsh h126x h128x := zsh.obj eh128x k126_2
                refine zp_aload_n dX11_open_237 rfl ?_
                refine zp_aload dX11_open_238 rfl ?_
                refine zp_iconst (v := nI (1)) dX11_open_240 (by decide) ?_
                refine zp_pc (pc' := 241) rfl ?_
                refine zp_i (y := nI (zbi true)) rfl ?_
                refine zp_aload_n dX11_open_241 rfl ?_
                refine zp_get dX11_open_242 gX11_304_10 k128_0 rfl ?_
                refine zp_pc (pc' := 245) rfl ?_
                have W130 := zmw.sh hw (((((((((sw102).mono (fun i hi => by unfold zwf; unfold zon at hi; omega)).trans ((sw111).mono (fun i hi => by unfold zwf; unfold zon at hi; omega))).trans ((sw114).mono (fun i hi => by unfold zwf; unfold zon at hi; omega))).trans ((sw121).mono (fun i hi => by unfold zwf; unfold zon at hi; omega))).trans ((sw123).mono (fun i hi => by unfold zwf; unfold zon at hi; omega))).trans ((sw125).mono (fun i hi => by unfold zwf; unfold zon at hi; omega))).trans ((sw127).mono (fun i hi => by unfold zwf; unfold zon at hi; omega))).trans ((sw129).mono (fun i hi => by unfold zwf; unfold zon at hi; omega))) ((((((((zw102).trans zw111).trans zw114).trans zw121).trans zw123).trans zw125).trans zw127).trans zw129) (fun i hi => hi)
                have V9 : zar h128x (95 + 3 * j + 1) 111 [] := zar.nil ((((((((iV).keep (sw111 _ (by unfold zon; omega))).keep (sw114 _ (by unfold zon; omega))).keep (sw121 _ (by unfold zon; omega))).keep (sw123 _ (by unfold zon; omega))).keep (sw125 _ (by unfold zon; omega))).keep (sw127 _ (by unfold zon; omega))).keep (sw129 _ (by unfold zon; omega))) (by decide)
                have C9 : zar h128x (95 + 3 * j + 2) 111 [] := zar.nil ((((((((iC).keep (sw111 _ (by unfold zon; omega))).keep (sw114 _ (by unfold zon; omega))).keep (sw121 _ (by unfold zon; omega))).keep (sw123 _ (by unfold zon; omega))).keep (sw125 _ (by unfold zon; omega))).keep (sw127 _ (by unfold zon; omega))).keep (sw129 _ (by unfold zon; omega))) (by decide)
                refine zp_callV (As := [.ref (95 + 3 * j), .int (nI (zbi true)), .int (nI (T.length))]) (k := 64) (st := []) (ci := 10) dX11_open_245 cX11_327 rfl k128_0 rfl rfl (e_zseedA (tr := true) (rs := r) (sd := 0) (ft := true) (A := T) (xs := w) (V := []) (C := []) W130 k128_0 k128_2 (by omega) hkd hst (((((((((hx).keep (sw102 _ (by unfold zon; omega))).keep (sw111 _ (by unfold zon; omega))).keep (sw114 _ (by unfold zon; omega))).keep (sw121 _ (by unfold zon; omega))).keep (sw123 _ (by unfold zon; omega))).keep (sw125 _ (by unfold zon; omega))).keep (sw127 _ (by unfold zon; omega))).keep (sw129 _ (by unfold zon; omega))) (((((((((h85).keep (sw102 _ (by unfold zon; omega))).keep (sw111 _ (by unfold zon; omega))).keep (sw114 _ (by unfold zon; omega))).keep (sw121 _ (by unfold zon; omega))).keep (sw123 _ (by unfold zon; omega))).keep (sw125 _ (by unfold zon; omega))).keep (sw127 _ (by unfold zon; omega))).keep (sw129 _ (by unfold zon; omega))) (((((((((hT).keep (sw102 _ (by unfold zon; omega))).keep (sw111 _ (by unfold zon; omega))).keep (sw114 _ (by unfold zon; omega))).keep (sw121 _ (by unfold zon; omega))).keep (sw123 _ (by unfold zon; omega))).keep (sw125 _ (by unfold zon; omega))).keep (sw127 _ (by unfold zon; omega))).keep (sw129 _ (by unfold zon; omega))) ⟨fun _ => rfl, fun _ => rfl⟩ V9 C9 (fun q => by cases q) (by omega)) (by decide) (by decide) (Nat.le_of_ble_eq_true rfl) (fun v131 h131 n131 q131 => ?_)
                obtain ⟨rfl, N131, s131, z131, ⟨mn2, o131⟩, w131, g131, v131, c131⟩ := q131
                rw [N131]
                refine zp_nrm (cells' := 0) (slots' := 0) (st' := []) rfl rfl rfl ?_
                have m132 : h131 (86) = some (.inr (4, .inr (.inr (true, Aa)))) := (s131 _ (by unfold zsS; omega)).trans k128_1
                obtain ⟨lv2, lc2⟩ := zpl_len (R := w.take (zdem kd sg (zsd kd) 0)) (A := T) (V := []) (C := []) hkd (Or.inl rfl) (sd := 0)
                refine zp_aload_n dX11_open_248 rfl ?_
                refine zp_iconst (v := nI (0)) dX11_open_249 (by decide) ?_
                refine zp_put (fs' := [.int (nI (0)), .ref (65), .ref (66), .ref (67), .ref (68), .ref (69), .ref (70), .ref (71), .ref (72), .ref (73), .ref (74), .ref (75), .ref (76), .ref (77), .ref (78), .ref (79), .ref (80), .ref (81), .ref (82), .ref (83), .ref (84), .int (nI ((w.drop (zdem kd sg (zsd kd) 0)).length)), .int (nI (zbi un)), .int (rp), .int (wi), .int (pa), .int (la), .int (ru), .int (sa), .int (mq), .int (sq), .int (ta + nI (zdem kd sg (zsd kd) 0)), .int (fa), .ref (85), .ref (86), .ref (87), .int (nI (mn2)), .ref (88), .ref (89), .ref (90), .ref (91), .ref (92), .ref (93), .int (nI (0)), .ref (94), .int (nI (O.length))]) dX11_open_250 pX11_304_10 (by omega) o131 (Nat.le_of_ble_eq_true rfl) (zfit_i _) rfl ?_
                refine zp_nh (fun h133x eh133x => ?_)
                have k133_0 := (congrFun eh133x (86)).trans ((va_up_ne _ _ (by omega)).trans m132)
                have k133_1 : h133x (64) = some (.inl (10, [.int (nI (0)), .ref (65), .ref (66), .ref (67), .ref (68), .ref (69), .ref (70), .ref (71), .ref (72), .ref (73), .ref (74), .ref (75), .ref (76), .ref (77), .ref (78), .ref (79), .ref (80), .ref (81), .ref (82), .ref (83), .ref (84), .int (nI ((w.drop (zdem kd sg (zsd kd) 0)).length)), .int (nI (zbi un)), .int (rp), .int (wi), .int (pa), .int (la), .int (ru), .int (sa), .int (mq), .int (sq), .int (ta + nI (zdem kd sg (zsd kd) 0)), .int (fa), .ref (85), .ref (86), .ref (87), .int (nI (mn2)), .ref (88), .ref (89), .ref (90), .ref (91), .ref (92), .ref (93), .int (nI (0)), .ref (94), .int (nI (O.length))])) := by rw [eh133x]; exact va_up_self _ _ _
                have sw134 : zsm h131 h133x (zon (64)) := zsm.rf.up eh133x rfl
                have zw134 : zsh h131 h133x := zsh.obj eh133x o131
                refine zp_iload dX11_open_253 rfl ?_
                refine zp_pc (pc' := 255) rfl ?_
                have eq9 : (zqopen (nI kd) (nI sc) r (nI iv) (T, O, (w, rp, wi, pa, un, la, ru, sa, me, se, ta, fa), Gs)) = (nI j, [], O, (w.drop (zdem kd sg (zsd kd) 0), rp, wi, pa, un, la, ru, sa, me, se, ta + nI (zdem kd sg (zsd kd) 0), fa), va_up Gs j (some (kd, sg, r, iv, 1, nI 0, 0 + 1, (zpl kd 0 [] [] (w.take (zdem kd sg (zsd kd) 0)) T).1, (zpl kd 0 [] [] (w.take (zdem kd sg (zsd kd) 0)) T).2))) := by rw [eo, if_pos (zrf_0 t4 n5 (by show ¬ w.length < _; omega))]; rfl
                refine zp_ret (v := (some (.int (nI (j))))) dX11_open_255 ⟨⟨_, rfl, rfl⟩, rfl⟩ (by decide) (by decide) ?_
                rw [hQ]
                rw [eq9]; exact ⟨rfl, rfl, ((((((((((sw102).mono (fun i hi => by unfold zmA; unfold zon at hi; omega)).trans ((sw111).mono (fun i hi => by unfold zmA; unfold zon at hi; omega))).trans ((sw114).mono (fun i hi => by unfold zmA; unfold zon at hi; omega))).trans ((sw121).mono (fun i hi => by unfold zmA; unfold zon at hi; omega))).trans ((sw123).mono (fun i hi => by unfold zmA; unfold zon at hi; omega))).trans ((sw125).mono (fun i hi => by unfold zmA; unfold zon at hi; omega))).trans ((sw127).mono (fun i hi => by unfold zmA; unfold zon at hi; omega))).trans ((sw129).mono (fun i hi => by unfold zmA; unfold zon at hi; omega))).trans ((s131).mono (fun i hi => by unfold zmA; unfold zsS at hi; omega))).trans ((sw134).mono (fun i hi => by unfold zmA; unfold zon at hi; omega)), zMD.gen (T' := []) (O' := O) (S' := (w.drop (zdem kd sg (zsd kd) 0), rp, wi, pa, un, la, ru, sa, me, se, ta + nI (zdem kd sg (zsd kd) 0), fa)) H hj (((((((((((sw102).mono (fun i hi => by unfold zcg; unfold zon at hi; omega)).trans ((sw111).mono (fun i hi => by unfold zcg; unfold zon at hi; omega))).trans ((sw114).mono (fun i hi => by unfold zcg; unfold zon at hi; omega))).trans ((sw121).mono (fun i hi => by unfold zcg; unfold zon at hi; omega))).trans ((sw123).mono (fun i hi => by unfold zcg; unfold zon at hi; omega))).trans ((sw125).mono (fun i hi => by unfold zcg; unfold zon at hi; omega))).trans ((sw127).mono (fun i hi => by unfold zcg; unfold zon at hi; omega))).trans ((sw129).mono (fun i hi => by unfold zcg; unfold zon at hi; omega))).trans ((s131).mono (fun i hi => by unfold zcg; unfold zsS at hi; omega))).trans ((sw134).mono (fun i hi => by unfold zcg; unfold zon at hi; omega))) ((((((((((zw102).trans zw111).trans zw114).trans zw121).trans zw123).trans zw125).trans zw127).trans zw129).trans z131).trans zw134) ⟨_, _, _, _, k133_1, hms⟩ (((w131).keep (sw134 _ (by unfold zon; omega)))) ((zar.nil (((((((((((hT.ia).keep (sw102 _ (by unfold zon; omega))).keep (sw111 _ (by unfold zon; omega))).keep (sw114 _ (by unfold zon; omega))).keep (sw121 _ (by unfold zon; omega))).keep (sw123 _ (by unfold zon; omega))).keep (sw125 _ (by unfold zon; omega))).keep (sw127 _ (by unfold zon; omega))).keep (sw129 _ (by unfold zon; omega))).keep (s131 _ (by unfold zsS; omega))).keep (sw134 _ (by unfold zon; omega))) (by decide))) ((((((((((((hO).keep (sw102 _ (by unfold zon; omega))).keep (sw111 _ (by unfold zon; omega))).keep (sw114 _ (by unfold zon; omega))).keep (sw121 _ (by unfold zon; omega))).keep (sw123 _ (by unfold zon; omega))).keep (sw125 _ (by unfold zon; omega))).keep (sw127 _ (by unfold zon; omega))).keep (sw129 _ (by unfold zon; omega))).keep (s131 _ (by unfold zsS; omega))).keep (sw134 _ (by unfold zon; omega)))) (zsane.giv hS _) (by omega) ⟨hkd, hst, hiv, by omega, by omega, by omega, ((sw134 _ (by unfold zon; omega)).trans g131), ((v131).keep (sw134 _ (by unfold zon; omega))), ((c131).keep (sw134 _ (by unfold zon; omega))), lv2, lc2⟩⟩
              · refine zp_bipush (v := (-6)) dX11_open_203 (by decide) ?_
                refine zp_pc (pc' := 205) rfl ?_
                have eq9 : (zqopen (nI kd) (nI sc) r (nI iv) (T, O, (w, rp, wi, pa, un, la, ru, sa, me, se, ta, fa), Gs)) = (-6, T, O, (w, rp, wi, pa, un, la, ru, sa, me, se, ta, fa), Gs) := by rw [eo, zrf_6 t4 n5 (by show w.length < _; omega)]; rfl
                refine zp_ret (v := (some (.int ((-6))))) dX11_open_205 ⟨⟨_, rfl, rfl⟩, rfl⟩ (by decide) (by decide) ?_
                rw [hQ]
                rw [eq9]; exact ⟨rfl, rfl, (((sw102).mono (fun i hi => by unfold zmA; unfold zon at hi; omega)).trans ((sw111).mono (fun i hi => by unfold zmA; unfold zon at hi; omega))).trans ((sw114).mono (fun i hi => by unfold zmA; unfold zon at hi; omega)), zMD.shut (T' := T) (O' := O) (S' := (w, rp, wi, pa, un, la, ru, sa, me, se, ta, fa)) H hj ((((sw102).mono (fun i hi => by unfold zcg; unfold zon at hi; omega)).trans ((sw111).mono (fun i hi => by unfold zcg; unfold zon at hi; omega))).trans ((sw114).mono (fun i hi => by unfold zcg; unfold zon at hi; omega))) (((zw102).trans zw111).trans zw114) ⟨_, _, _, _, k113_0, hms⟩ (((((hx).keep (sw102 _ (by unfold zon; omega))).keep (sw111 _ (by unfold zon; omega))).keep (sw114 _ (by unfold zon; omega)))) (((((hT).keep (sw102 _ (by unfold zon; omega))).keep (sw111 _ (by unfold zon; omega))).keep (sw114 _ (by unfold zon; omega)))) (((((hO).keep (sw102 _ (by unfold zon; omega))).keep (sw111 _ (by unfold zon; omega))).keep (sw114 _ (by unfold zon; omega)))) hS (by omega) (by rw [eG]; exact ⟨_, _, _, _, _, _, _, k113_2, (((iV).keep (sw111 _ (by unfold zon; omega))).keep (sw114 _ (by unfold zon; omega))), (((iC).keep (sw111 _ (by unfold zon; omega))).keep (sw114 _ (by unfold zon; omega)))⟩)⟩
            · have bq116T : (decide (6 ≤ kd ∧ zsd kd < T.length)) = true := by rcases Bool.eq_false_or_eq_true (decide (6 ≤ kd ∧ zsd kd < T.length)) with q | q; exact q; rw [q] at c167; exact absurd rfl c167
              refine zp_bipush (v := (-4)) dX11_open_170 (by decide) ?_
              refine zp_pc (pc' := 172) rfl ?_
              have eq9 : (zqopen (nI kd) (nI sc) r (nI iv) (T, O, (w, rp, wi, pa, un, la, ru, sa, me, se, ta, fa), Gs)) = (-4, T, O, (w, rp, wi, pa, un, la, ru, sa, me, se, ta, fa), Gs) := by rw [eo, zrf_4 (of_decide_eq_true bq116T)]; rfl
              refine zp_ret (v := (some (.int ((-4))))) dX11_open_172 ⟨⟨_, rfl, rfl⟩, rfl⟩ (by decide) (by decide) ?_
              rw [hQ]
              rw [eq9]; exact ⟨rfl, rfl, (((sw102).mono (fun i hi => by unfold zmA; unfold zon at hi; omega)).trans ((sw111).mono (fun i hi => by unfold zmA; unfold zon at hi; omega))).trans ((sw114).mono (fun i hi => by unfold zmA; unfold zon at hi; omega)), zMD.shut (T' := T) (O' := O) (S' := (w, rp, wi, pa, un, la, ru, sa, me, se, ta, fa)) H hj ((((sw102).mono (fun i hi => by unfold zcg; unfold zon at hi; omega)).trans ((sw111).mono (fun i hi => by unfold zcg; unfold zon at hi; omega))).trans ((sw114).mono (fun i hi => by unfold zcg; unfold zon at hi; omega))) (((zw102).trans zw111).trans zw114) ⟨_, _, _, _, k113_0, hms⟩ (((((hx).keep (sw102 _ (by unfold zon; omega))).keep (sw111 _ (by unfold zon; omega))).keep (sw114 _ (by unfold zon; omega)))) (((((hT).keep (sw102 _ (by unfold zon; omega))).keep (sw111 _ (by unfold zon; omega))).keep (sw114 _ (by unfold zon; omega)))) (((((hO).keep (sw102 _ (by unfold zon; omega))).keep (sw111 _ (by unfold zon; omega))).keep (sw114 _ (by unfold zon; omega)))) hS (by omega) (by rw [eG]; exact ⟨_, _, _, _, _, _, _, k113_2, (((iV).keep (sw111 _ (by unfold zon; omega))).keep (sw114 _ (by unfold zon; omega))), (((iC).keep (sw111 _ (by unfold zon; omega))).keep (sw114 _ (by unfold zon; omega)))⟩)⟩
          · have bq109F : (decide (nI 1 ≤ s ∧ s ≤ nI (zstrong kd))) = false := by rcases Bool.eq_false_or_eq_true (decide (nI 1 ≤ s ∧ s ≤ nI (zstrong kd))) with q | q; rw [q] at c92; exact absurd c92 (by decide); exact q
            refine zp_bipush (v := (-3)) dX11_open_95 (by decide) ?_
            refine zp_pc (pc' := 97) rfl ?_
            have eq9 : (zqopen (nI kd) s r (nI iv) (T, O, (w, rp, wi, pa, un, la, ru, sa, me, se, ta, fa), Gs)) = (-3, T, O, (w, rp, wi, pa, un, la, ru, sa, me, se, ta, fa), Gs) := by rw [zqopen_eq, if_neg n7, if_neg nf, nI_clamp (by omega), if_pos (zin_not (of_decide_eq_false bq109F))]
            refine zp_ret (v := (some (.int ((-3))))) dX11_open_97 ⟨⟨_, rfl, rfl⟩, rfl⟩ (by decide) (by decide) ?_
            rw [hQ]
            rw [eq9]; exact ⟨rfl, rfl, (sw102).mono (fun i hi => by unfold zmA; unfold zon at hi; omega), H.upd ((sw102).mono (fun i hi => by unfold zcz; unfold zon at hi; omega)) (zw102) ⟨_, _, _, _, k101_0, hms⟩ (((hx).keep (sw102 _ (by unfold zon; omega)))) (((hT).keep (sw102 _ (by unfold zon; omega)))) (((hO).keep (sw102 _ (by unfold zon; omega)))) hS (by omega)⟩
        · refine zp_bipush (v := (-8)) dX11_open_64 (by decide) ?_
          refine zp_pc (pc' := 66) rfl ?_
          have eq9 : (zqopen (nI kd) s r (nI iv) (T, O, (w, rp, wi, pa, un, la, ru, sa, me, se, ta, fa), Gs)) = (-8, T, O, (w, rp, wi, pa, un, la, ru, sa, me, se, ta, fa), Gs) := by rw [zqopen_eq, if_neg n7, if_pos (ef.trans c61)]
          refine zp_ret (v := (some (.int ((-8))))) dX11_open_66 ⟨⟨_, rfl, rfl⟩, rfl⟩ (by decide) (by decide) ?_
          rw [hQ]
          rw [eq9]; exact ⟨rfl, rfl, (sw102).mono (fun i hi => by unfold zmA; unfold zon at hi; omega), H.upd ((sw102).mono (fun i hi => by unfold zcz; unfold zon at hi; omega)) (zw102) ⟨_, _, _, _, k101_0, hms⟩ (((hx).keep (sw102 _ (by unfold zon; omega)))) (((hT).keep (sw102 _ (by unfold zon; omega)))) (((hO).keep (sw102 _ (by unfold zon; omega)))) hS (by omega)⟩
      refine zp_iconst (v := nI (0)) dX11_open_30 (by decide) ?_
      refine zp_istore (ls' := [some (.ref (64)), some (.int (nI (kd))), some (.int (s)), some (.int (nI (zbi r))), some (.int (nI (iv))), some (.int (nI (0))), none]) dX11_open_31 (by decide) rfl ?_
      refine zp_pc (pc' := 33) rfl ?_
      have lp : ∀ (m : Nat) (j : Nat), m = 4 - j → j ≤ 4 → (∀ i, i < j → Gs i ≠ none) → zP g mX11_open (zR 8 0 0) Qf 0 0 33 [some (.ref (64)), some (.int (nI (kd))), some (.int (s)), some (.int (nI (zbi r))), some (.int (nI (iv))), some (.int (nI (j))), none] [] h101x n := by
        intro m
        induction m using Nat.strongRecOn with
        | _ m ih =>
          intro j hm1 hj1 hfr
          refine zp_iload dX11_open_33 rfl ?_
          refine zp_iconst (v := nI (4)) dX11_open_35 (by decide) ?_
          refine zp_pc (pc' := 36) rfl ?_
          refine zn_icmp_ge (tgt := 58) dX11_open_36 (by decide) (by omega) (by omega) (fun c36 => ?_) (fun c36 => ?_)
          · exact k58 j hj1 hfr (Or.inl (by omega))
          · have hj : j < 4 := by omega
            refine zp_aload_n dX11_open_39 rfl ?_
            refine zp_get dX11_open_40 gX11_92_10 k101_0 rfl ?_
            refine zp_iload dX11_open_43 rfl ?_
            refine zp_pc (pc' := 45) rfl ?_
            refine zp_aald (v := .ref (95 + 3 * j)) dX11_open_45 h861 (by unfold vp_in; rw [nI_clamp (by omega)]; exact fun q => q.elim (nI_pos (by omega)) (fun q => by omega)) (by rw [nI_clamp (by omega), hAa j hj]) ?_
            cases eG : Gs j with
            | none =>
              have g9 := hG1 j hj
              rw [eG] at g9
              obtain ⟨k1, s1, i1, r1, c1, d1, e1, gc, -⟩ := g9
              refine zp_get dX11_open_46 gX11_301_9 gc rfl ?_
              refine zp_pc (pc' := 49) rfl ?_
              refine zn_if_eq (tgt := 58) dX11_open_49 (by decide) (by decide) (fun c49 => ?_) (fun c49 => ?_)
              · exact k58 j hj1 hfr (Or.inr eG)
              · exact absurd rfl c49
            | some G =>
              have g9 := hG1 j hj
              rw [eG] at g9
              obtain ⟨kd9, st9, rs9, iv9, ct9, dr9, sd9, V9, C9⟩ := G
              obtain ⟨-, -, -, -, -, -, gc, -⟩ := g9
              refine zp_get dX11_open_46 gX11_301_9 gc rfl ?_
              refine zp_pc (pc' := 49) rfl ?_
              refine zn_if_eq (tgt := 58) dX11_open_49 (by decide) (by decide) (fun c49 => ?_) (fun c49 => ?_)
              · exact absurd c49 (by decide)
              · refine zn_iinc 1 (ls' := [some (.ref (64)), some (.int (nI (kd))), some (.int (s)), some (.int (nI (zbi r))), some (.int (nI (iv))), some (.int (nI (j + 1))), none]) dX11_open_52 (by decide) (by decide) rfl rfl ?_
                refine zp_goto (tgt := 33) dX11_open_55 (by decide) ?_
                refine zp_pc (pc' := 33) rfl ?_
                exact ih (4 - (j + 1)) (by omega) (j + 1) rfl (by omega) (fun i hi => by rcases Nat.lt_or_ge i j with q | q; exact hfr i q; rw [show i = j by omega, eG]; exact fun q => by cases q)
      exact lp _ 0 rfl (Nat.zero_le _) (fun i hi => absurd hi (by omega))
    · have bq106F : (decide (nI 1 ≤ v0 ∧ v0 ≤ (100000))) = false := by rcases Bool.eq_false_or_eq_true (decide (nI 1 ≤ v0 ∧ v0 ≤ (100000))) with q | q; rw [q] at c24; exact absurd c24 (by decide); exact q
      refine zp_bipush (v := (-7)) dX11_open_27 (by decide) ?_
      refine zp_pc (pc' := 29) rfl ?_
      have eq9 : (zqopen x s r v0 (T, O, (w, rp, wi, pa, un, la, ru, sa, me, se, ta, fa), Gs)) = (-7, T, O, (w, rp, wi, pa, un, la, ru, sa, me, se, ta, fa), Gs) := (zqopen_eq _ _ _ _ _ _ _ _).trans (if_pos (Or.inr (Or.inr (zin_not (of_decide_eq_false bq106F)))))
      refine zp_ret (v := (some (.int ((-7))))) dX11_open_29 ⟨⟨_, rfl, rfl⟩, rfl⟩ (by decide) (by decide) ?_
      rw [hQ]
      rw [eq9]; exact ⟨rfl, rfl, (sw102).mono (fun i hi => by unfold zmA; unfold zon at hi; omega), H.upd ((sw102).mono (fun i hi => by unfold zcz; unfold zon at hi; omega)) (zw102) ⟨_, _, _, _, k101_0, hms⟩ (((hx).keep (sw102 _ (by unfold zon; omega)))) (((hT).keep (sw102 _ (by unfold zon; omega)))) (((hO).keep (sw102 _ (by unfold zon; omega)))) hS (by omega)⟩
