/-! the reference: its supply -/
def zmoc (th : Int32) (mn tp ou : Nat) (m1 s1 : Int32) : ZSup → ZC
  | (w, rp, wi, pa, un, la, ru, sa, _, _, ta, fa) => .inl (10, [.int (th), .ref (65), .ref (66), .ref (67), .ref (68), .ref (69), .ref (70), .ref (71), .ref (72), .ref (73), .ref (74), .ref (75), .ref (76), .ref (77), .ref (78), .ref (79), .ref (80), .ref (81), .ref (82), .ref (83), .ref (84), .int (nI (w.length)), .int (nI (zbi un)), .int (rp), .int (wi), .int (pa), .int (la), .int (ru), .int (sa), .int (m1), .int (s1), .int (ta), .int (fa), .ref (85), .ref (86), .ref (87), .int (nI (mn)), .ref (88), .ref (89), .ref (90), .ref (91), .ref (92), .ref (93), .int (nI (tp)), .ref (94), .int (nI (ou))])
/-- met and seen count where there is a sample -/
def zmst (m1 s1 : Int32) : ZSup → Prop
  | (_, _, _, _, _, _, _, sa, me, se, _, _) => sa ≠ -1 → m1 = me ∧ s1 = se
abbrev zsw2 : Nat → Prop := fun i => i = 64 ∨ i = 84
abbrev zS12 (S : ZSup) (x : Nat) : ZSup := zstep S (nI x) x
set_option maxRecDepth 10000 in
set_option maxHeartbeats 2000000 in
theorem e_mcomes {g : ZG} {h : ZH} {n : Nat} {w : List Nat} {un : Bool} {rp wi pa la ru sa me se ta fa m1 s1 th : Int32} {mn tp ou x : Nat} (ho : h 64 = some (zmoc th mn tp ou m1 s1 (w, rp, wi, pa, un, la, ru, sa, me, se, ta, fa))) (hm : zmst m1 s1 (w, rp, wi, pa, un, la, ru, sa, me, se, ta, fa)) (hx : zar h 84 1000 w) (hb : x < 256) (hl : w.length < 1000) : zMt g mX11_comes (zR 0 0 0) [.ref (64), .int (nI (x))] h n (fun v h' n' => v = none ∧ n' = n ∧ zsm h h' zsw2 ∧ zsh h h' ∧ ∃ m2 s2, h' 64 = some (zmoc th mn tp ou m2 s2 (zS12 (w, rp, wi, pa, un, la, ru, sa, me, se, ta, fa) x)) ∧ zmst m2 s2 (zS12 (w, rp, wi, pa, un, la, ru, sa, me, se, ta, fa) x) ∧ zar h' 84 1000 (zS12 (w, rp, wi, pa, un, la, ru, sa, me, se, ta, fa) x).1) := by
  refine zMt.of [some (.ref (64)), some (.int (nI (x))), none] (by decide) rfl (Nat.le_of_ble_eq_true rfl) ?_
  obtain ⟨Qf, hQ⟩ : ∃ Qf : ZQ, Qf = (fun v h' n' => v = none ∧ n' = n ∧ zsm h h' zsw2 ∧ zsh h h' ∧ ∃ m2 s2, h' 64 = some (zmoc th mn tp ou m2 s2 (zS12 (w, rp, wi, pa, un, la, ru, sa, me, se, ta, fa) x)) ∧ zmst m2 s2 (zS12 (w, rp, wi, pa, un, la, ru, sa, me, se, ta, fa) x) ∧ zar h' 84 1000 (zS12 (w, rp, wi, pa, un, la, ru, sa, me, se, ta, fa) x).1) := ⟨_, rfl⟩
  rw [← hQ]
  have ho : h 64 = some (.inl (10, [.int (th), .ref (65), .ref (66), .ref (67), .ref (68), .ref (69), .ref (70), .ref (71), .ref (72), .ref (73), .ref (74), .ref (75), .ref (76), .ref (77), .ref (78), .ref (79), .ref (80), .ref (81), .ref (82), .ref (83), .ref (84), .int (nI (w.length)), .int (nI (zbi un)), .int (rp), .int (wi), .int (pa), .int (la), .int (ru), .int (sa), .int (m1), .int (s1), .int (ta), .int (fa), .ref (85), .ref (86), .ref (87), .int (nI (mn)), .ref (88), .ref (89), .ref (90), .ref (91), .ref (92), .ref (93), .int (nI (tp)), .ref (94), .int (nI (ou))])) := ho
  obtain ⟨la1, lb1, lc1, lf1, ld1, le1⟩ := id hx
  refine zp_aload_n dX11_comes_0 rfl ?_
  refine zp_iload_n dX11_comes_1 rfl ?_
  refine zp_aload_n dX11_comes_2 rfl ?_
  refine zp_get dX11_comes_3 gX11_81_10 ho rfl ?_
  refine zp_pc (pc' := 6) rfl ?_
  have jn2 : zP g mX11_comes (zR 0 0 0) Qf 0 0 19 [some (.ref (64)), some (.int (nI (x))), none] [.int (zrun la ru (nI x)), .ref (64)] h n → zP g mX11_comes (zR 0 0 0) Qf 0 0 6 [some (.ref (64)), some (.int (nI (x))), none] [.int (la), .int (nI (x)), .ref (64)] h n := by
    intro jk2
    refine zp_icmp_ne (tgt := 18) dX11_comes_6 (by decide) (fun c6 => ?_) (fun c6 => ?_)
    · refine zp_iconst (v := nI (1)) dX11_comes_18 (by decide) ?_
      refine zp_pc (pc' := 19) rfl ?_
      refine zp_i (y := zrun la ru (nI x)) (by unfold zrun; rw [if_neg c6]) ?_
      exact jk2
    · refine zp_aload_n dX11_comes_9 rfl ?_
      refine zp_get dX11_comes_10 gX11_190_10 ho rfl ?_
      refine zp_iconst (v := nI (1)) dX11_comes_13 (by decide) ?_
      refine zp_iadd dX11_comes_14 ?_
      refine zp_goto (tgt := 19) dX11_comes_15 (by decide) ?_
      refine zp_pc (pc' := 19) rfl ?_
      refine zp_i (y := zrun la ru (nI x)) (by unfold zrun; rw [if_pos c6]) ?_
      exact jk2
  refine jn2 ?_
  refine zp_put (fs' := [.int (th), .ref (65), .ref (66), .ref (67), .ref (68), .ref (69), .ref (70), .ref (71), .ref (72), .ref (73), .ref (74), .ref (75), .ref (76), .ref (77), .ref (78), .ref (79), .ref (80), .ref (81), .ref (82), .ref (83), .ref (84), .int (nI (w.length)), .int (nI (zbi un)), .int (rp), .int (wi), .int (pa), .int (la), .int (zrun la ru (nI x)), .int (sa), .int (m1), .int (s1), .int (ta), .int (fa), .ref (85), .ref (86), .ref (87), .int (nI (mn)), .ref (88), .ref (89), .ref (90), .ref (91), .ref (92), .ref (93), .int (nI (tp)), .ref (94), .int (nI (ou))]) dX11_comes_19 pX11_190_10 (by omega) ho (Nat.le_of_ble_eq_true rfl) (zfit_i _) rfl ?_
  refine zp_nh (fun h3x eh3x => ?_)
  have k3_0 : h3x (64) = some (.inl (10, [.int (th), .ref (65), .ref (66), .ref (67), .ref (68), .ref (69), .ref (70), .ref (71), .ref (72), .ref (73), .ref (74), .ref (75), .ref (76), .ref (77), .ref (78), .ref (79), .ref (80), .ref (81), .ref (82), .ref (83), .ref (84), .int (nI (w.length)), .int (nI (zbi un)), .int (rp), .int (wi), .int (pa), .int (la), .int (zrun la ru (nI x)), .int (sa), .int (m1), .int (s1), .int (ta), .int (fa), .ref (85), .ref (86), .ref (87), .int (nI (mn)), .ref (88), .ref (89), .ref (90), .ref (91), .ref (92), .ref (93), .int (nI (tp)), .ref (94), .int (nI (ou))])) := by rw [eh3x]; exact va_up_self _ _ _
  have k3_1 := (congrFun eh3x (84)).trans ((va_up_ne _ _ (by omega)).trans ld1)
  have sw4 : zsm h h3x (zon (64)) := zsm.rf.up eh3x rfl
  have zw4 : zsh h h3x := zsh.obj eh3x ho
  refine zp_aload_n dX11_comes_22 rfl ?_
  refine zp_iload_n dX11_comes_23 rfl ?_
  refine zp_put (fs' := [.int (th), .ref (65), .ref (66), .ref (67), .ref (68), .ref (69), .ref (70), .ref (71), .ref (72), .ref (73), .ref (74), .ref (75), .ref (76), .ref (77), .ref (78), .ref (79), .ref (80), .ref (81), .ref (82), .ref (83), .ref (84), .int (nI (w.length)), .int (nI (zbi un)), .int (rp), .int (wi), .int (pa), .int (nI (x)), .int (zrun la ru (nI x)), .int (sa), .int (m1), .int (s1), .int (ta), .int (fa), .ref (85), .ref (86), .ref (87), .int (nI (mn)), .ref (88), .ref (89), .ref (90), .ref (91), .ref (92), .ref (93), .int (nI (tp)), .ref (94), .int (nI (ou))]) dX11_comes_24 pX11_81_10 (by omega) k3_0 (Nat.le_of_ble_eq_true rfl) (zfit_i _) rfl ?_
  refine zp_nh (fun h5x eh5x => ?_)
  have k5_0 : h5x (64) = some (.inl (10, [.int (th), .ref (65), .ref (66), .ref (67), .ref (68), .ref (69), .ref (70), .ref (71), .ref (72), .ref (73), .ref (74), .ref (75), .ref (76), .ref (77), .ref (78), .ref (79), .ref (80), .ref (81), .ref (82), .ref (83), .ref (84), .int (nI (w.length)), .int (nI (zbi un)), .int (rp), .int (wi), .int (pa), .int (nI (x)), .int (zrun la ru (nI x)), .int (sa), .int (m1), .int (s1), .int (ta), .int (fa), .ref (85), .ref (86), .ref (87), .int (nI (mn)), .ref (88), .ref (89), .ref (90), .ref (91), .ref (92), .ref (93), .int (nI (tp)), .ref (94), .int (nI (ou))])) := by rw [eh5x]; exact va_up_self _ _ _
  have k5_1 := (congrFun eh5x (84)).trans ((va_up_ne _ _ (by omega)).trans k3_1)
  have sw6 : zsm h3x h5x (zon (64)) := zsm.rf.up eh5x rfl
  have zw6 : zsh h3x h5x := zsh.obj eh5x k3_0
  refine zp_aload_n dX11_comes_27 rfl ?_
  refine zp_get dX11_comes_28 gX11_190_10 k5_0 rfl ?_
  refine zp_aload_n dX11_comes_31 rfl ?_
  refine zp_get dX11_comes_32 gX11_71_10 k5_0 rfl ?_
  refine zp_pc (pc' := 35) rfl ?_
  have jn7 : zP g mX11_comes (zR 0 0 0) Qf 0 0 43 [some (.ref (64)), some (.int (nI (x))), none] [.int (nI (zbi (decide (zrun la ru (nI x) = rp))))] h5x n → zP g mX11_comes (zR 0 0 0) Qf 0 0 35 [some (.ref (64)), some (.int (nI (x))), none] [.int (rp), .int (zrun la ru (nI x))] h5x n := by
    intro jk7
    refine zp_icmp_ne (tgt := 42) dX11_comes_35 (by decide) (fun c35 => ?_) (fun c35 => ?_)
    · refine zp_iconst (v := nI (0)) dX11_comes_42 (by decide) ?_
      refine zp_pc (pc' := 43) rfl ?_
      refine zp_i (y := nI (zbi (decide (zrun la ru (nI x) = rp)))) (by rw [show (decide (zrun la ru (nI x) = rp)) = false from decide_eq_false c35]; rfl) ?_
      exact jk7
    · refine zp_iconst (v := nI (1)) dX11_comes_38 (by decide) ?_
      refine zp_goto (tgt := 43) dX11_comes_39 (by decide) ?_
      refine zp_pc (pc' := 43) rfl ?_
      refine zp_i (y := nI (zbi (decide (zrun la ru (nI x) = rp)))) (by rw [show (decide (zrun la ru (nI x) = rp)) = true from decide_eq_true c35]; rfl) ?_
      exact jk7
  refine jn7 ?_
  refine zp_istore_n (ls' := [some (.ref (64)), some (.int (nI (x))), some (.int (nI (zbi (decide (zrun la ru (nI x) = rp)))))]) dX11_comes_43 (by decide) rfl ?_
  refine zp_aload_n dX11_comes_44 rfl ?_
  refine zp_get dX11_comes_45 gX11_84_10 k5_0 rfl ?_
  refine zp_iconst (v := (-1)) dX11_comes_48 (by decide) ?_
  refine zp_pc (pc' := 49) rfl ?_
  refine zp_icmp_ne (tgt := 70) dX11_comes_49 (by decide) (fun c49 => ?_) (fun c49 => ?_)
  · obtain ⟨em, es⟩ := hm c49
    skip
    refine zp_iload_n dX11_comes_70 rfl ?_
    refine zp_aload_n dX11_comes_71 rfl ?_
    refine zp_get dX11_comes_72 gX11_84_10 k5_0 rfl ?_
    refine zp_pc (pc' := 75) rfl ?_
    refine zp_icmp_ne (tgt := 109) dX11_comes_75 (by decide) (fun c75 => ?_) (fun c75 => ?_)
    · have ef : zfrq pa sa me (nI x) = false := by unfold zfrq; rw [if_neg c49, if_neg c75]
      refine zp_aload_n dX11_comes_109 rfl ?_
      refine zp_dup dX11_comes_110 rfl ?_
      refine zp_get dX11_comes_111 gX11_196_10 k5_0 rfl ?_
      refine zp_iconst (v := nI (1)) dX11_comes_114 (by decide) ?_
      refine zp_iadd dX11_comes_115 ?_
      refine zp_put (fs' := [.int (th), .ref (65), .ref (66), .ref (67), .ref (68), .ref (69), .ref (70), .ref (71), .ref (72), .ref (73), .ref (74), .ref (75), .ref (76), .ref (77), .ref (78), .ref (79), .ref (80), .ref (81), .ref (82), .ref (83), .ref (84), .int (nI (w.length)), .int (nI (zbi un)), .int (rp), .int (wi), .int (pa), .int (nI (x)), .int (zrun la ru (nI x)), .int (sa), .int (m1), .int ((s1) + (nI (1))), .int (ta), .int (fa), .ref (85), .ref (86), .ref (87), .int (nI (mn)), .ref (88), .ref (89), .ref (90), .ref (91), .ref (92), .ref (93), .int (nI (tp)), .ref (94), .int (nI (ou))]) dX11_comes_116 pX11_196_10 (by omega) k5_0 (Nat.le_of_ble_eq_true rfl) (zfit_i _) rfl ?_
      refine zp_nh (fun h8x eh8x => ?_)
      have k8_0 : h8x (64) = some (.inl (10, [.int (th), .ref (65), .ref (66), .ref (67), .ref (68), .ref (69), .ref (70), .ref (71), .ref (72), .ref (73), .ref (74), .ref (75), .ref (76), .ref (77), .ref (78), .ref (79), .ref (80), .ref (81), .ref (82), .ref (83), .ref (84), .int (nI (w.length)), .int (nI (zbi un)), .int (rp), .int (wi), .int (pa), .int (nI (x)), .int (zrun la ru (nI x)), .int (sa), .int (m1), .int ((s1) + (nI (1))), .int (ta), .int (fa), .ref (85), .ref (86), .ref (87), .int (nI (mn)), .ref (88), .ref (89), .ref (90), .ref (91), .ref (92), .ref (93), .int (nI (tp)), .ref (94), .int (nI (ou))])) := by rw [eh8x]; exact va_up_self _ _ _
      have k8_1 := (congrFun eh8x (84)).trans ((va_up_ne _ _ (by omega)).trans k5_1)
      have sw9 : zsm h5x h8x (zon (64)) := zsm.rf.up eh8x rfl
      have zw9 : zsh h5x h8x := zsh.obj eh8x k5_0
      refine zp_aload_n dX11_comes_119 rfl ?_
      refine zp_get dX11_comes_120 gX11_196_10 k8_0 rfl ?_
      refine zp_aload_n dX11_comes_123 rfl ?_
      refine zp_get dX11_comes_124 gX11_75_10 k8_0 rfl ?_
      refine zp_pc (pc' := 127) rfl ?_
      refine zp_icmp_ne (tgt := 135) dX11_comes_127 (by decide) (fun c127 => ?_) (fun c127 => ?_)
      · refine zp_iload_n dX11_comes_135 rfl ?_
        refine zp_pc (pc' := 136) rfl ?_
        have eS : zsmp wi sa me se (nI x) = (sa, me, se + nI 1) := by unfold zsmp; rw [if_neg c49, if_neg (by rw [← es]; exact c127), if_neg c75]
        refine zn_if_eq (tgt := 162) dX11_comes_136 (by decide) (by have := zbi_lt (decide (zrun la ru (nI x) = rp)); omega) (fun c136 => ?_) (fun c136 => ?_)
        · refine zp_aload_n dX11_comes_162 rfl ?_
          refine zp_get dX11_comes_163 gX11_68_10 k8_0 rfl ?_
          refine zp_aload_n dX11_comes_166 rfl ?_
          refine zp_get dX11_comes_167 gX11_206_10 k8_0 rfl ?_
          refine zp_iload_n dX11_comes_170 rfl ?_
          refine zn_iast dX11_comes_171 (by omega) k8_1 (by omega) (by omega) ?_
          refine zp_nh (fun h10x eh10x => ?_)
          have k10_0 := (congrFun eh10x (64)).trans ((va_up_ne _ _ (by omega)).trans k8_0)
          have k10_1 : h10x (84) = some (.inr (1000, .inl (va_up lf1 (w.length) (nI (x))))) := by rw [eh10x]; exact va_up_self _ _ _
          have sw11 : zsm h8x h10x (zon (84)) := zsm.rf.up eh10x rfl
          have zw11 : zsh h8x h10x := zsh.fill eh10x k8_1
          refine zp_aload_n dX11_comes_172 rfl ?_
          refine zp_dup dX11_comes_173 rfl ?_
          refine zp_get dX11_comes_174 gX11_206_10 k10_0 rfl ?_
          refine zp_pc (pc' := 177) rfl ?_
          refine zp_iconst (v := nI (1)) dX11_comes_177 (by decide) ?_
          refine zp_i (y := nI ((w ++ [x]).length)) (by rw [List.length_append]; rfl) ?_
          refine zn_iadd dX11_comes_178 ?_
          refine zp_put (fs' := [.int (th), .ref (65), .ref (66), .ref (67), .ref (68), .ref (69), .ref (70), .ref (71), .ref (72), .ref (73), .ref (74), .ref (75), .ref (76), .ref (77), .ref (78), .ref (79), .ref (80), .ref (81), .ref (82), .ref (83), .ref (84), .int (nI ((w.length) + ((w ++ [x]).length))), .int (nI (zbi un)), .int (rp), .int (wi), .int (pa), .int (nI (x)), .int (zrun la ru (nI x)), .int (sa), .int (m1), .int ((s1) + (nI (1))), .int (ta), .int (fa), .ref (85), .ref (86), .ref (87), .int (nI (mn)), .ref (88), .ref (89), .ref (90), .ref (91), .ref (92), .ref (93), .int (nI (tp)), .ref (94), .int (nI (ou))]) dX11_comes_179 pX11_206_10 (by omega) k10_0 (Nat.le_of_ble_eq_true rfl) (zfit_i _) rfl ?_
          refine zp_nh (fun h12x eh12x => ?_)
          have k12_0 : h12x (64) = some (.inl (10, [.int (th), .ref (65), .ref (66), .ref (67), .ref (68), .ref (69), .ref (70), .ref (71), .ref (72), .ref (73), .ref (74), .ref (75), .ref (76), .ref (77), .ref (78), .ref (79), .ref (80), .ref (81), .ref (82), .ref (83), .ref (84), .int (nI ((w.length) + ((w ++ [x]).length))), .int (nI (zbi un)), .int (rp), .int (wi), .int (pa), .int (nI (x)), .int (zrun la ru (nI x)), .int (sa), .int (m1), .int ((s1) + (nI (1))), .int (ta), .int (fa), .ref (85), .ref (86), .ref (87), .int (nI (mn)), .ref (88), .ref (89), .ref (90), .ref (91), .ref (92), .ref (93), .int (nI (tp)), .ref (94), .int (nI (ou))])) := by rw [eh12x]; exact va_up_self _ _ _
          have k12_1 := (congrFun eh12x (84)).trans ((va_up_ne _ _ (by omega)).trans k10_1)
          have sw13 : zsm h10x h12x (zon (64)) := zsm.rf.up eh12x rfl
          have zw13 : zsh h10x h12x := zsh.obj eh12x k10_0
          refine zp_pc (pc' := 182) rfl ?_
          have dF : (decide (zrun la ru (nI x) = rp)) = false := by rcases Bool.eq_false_or_eq_true (decide (zrun la ru (nI x) = rp)) with q | q; rw [q] at c136; exact absurd c136 (by decide); exact q
          have bd : ¬ (zrun la ru (nI x) = rp ∨ zfrq pa sa me (nI x) = true) := fun q => q.elim (of_decide_eq_false dF) (fun q => by rw [ef] at q; cases q)
          have eZ : zS12 (w, rp, wi, pa, un, la, ru, sa, me, se, ta, fa) x = (w ++ [x], rp, wi, pa, un, (nI x), zrun la ru (nI x), sa, me, se + nI 1, ta, fa) := by show (if _ then _ else _) = _; rw [if_neg bd, eS]
          refine zp_ret (v := none) dX11_comes_182 ⟨rfl, rfl⟩ (by decide) (by decide) ?_
          rw [hQ]
          exact ⟨rfl, rfl, (((((sw4).mono (fun i hi => by unfold zsw2; unfold zon at hi; omega)).trans ((sw6).mono (fun i hi => by unfold zsw2; unfold zon at hi; omega))).trans ((sw9).mono (fun i hi => by unfold zsw2; unfold zon at hi; omega))).trans ((sw11).mono (fun i hi => by unfold zsw2; unfold zon at hi; omega))).trans ((sw13).mono (fun i hi => by unfold zsw2; unfold zon at hi; omega)), ((((zw4).trans zw6).trans zw9).trans zw11).trans zw13, m1, (s1) + (nI (1)), by rw [eZ]; exact k12_0, by rw [eZ]; exact fun _ => ⟨em, by rw [es]⟩, by rw [eZ]; exact zar.mk (L := w.length + 1) k12_1 (by rw [List.length_append]; rfl) (by omega) (by decide) (zapp_lt lc1 (fun y hy => by rw [List.mem_singleton.mp hy]; exact hb)) (fun j hj => by
                  rcases Nat.lt_or_ge j w.length with q | q
                  · rw [va_up_ne _ _ (by omega), le1 j q, zapp_getD1 q]
                  · rw [show j = w.length by omega, va_up_self, show (w ++ [x]).getD w.length 0 = x from (zapp_getD2 (xs := w) (ys := [x]) (i := 0))])⟩
        · refine zp_aload_n dX11_comes_139 rfl ?_
          refine zp_iconst (v := nI (1)) dX11_comes_140 (by decide) ?_
          refine zp_put (fs' := [.int (th), .ref (65), .ref (66), .ref (67), .ref (68), .ref (69), .ref (70), .ref (71), .ref (72), .ref (73), .ref (74), .ref (75), .ref (76), .ref (77), .ref (78), .ref (79), .ref (80), .ref (81), .ref (82), .ref (83), .ref (84), .int (nI (w.length)), .int (nI (1)), .int (rp), .int (wi), .int (pa), .int (nI (x)), .int (zrun la ru (nI x)), .int (sa), .int (m1), .int ((s1) + (nI (1))), .int (ta), .int (fa), .ref (85), .ref (86), .ref (87), .int (nI (mn)), .ref (88), .ref (89), .ref (90), .ref (91), .ref (92), .ref (93), .int (nI (tp)), .ref (94), .int (nI (ou))]) dX11_comes_141 pX11_199_10 (by omega) k8_0 (Nat.le_of_ble_eq_true rfl) zfit_1 rfl ?_
          refine zp_nh (fun h14x eh14x => ?_)
          have k14_0 : h14x (64) = some (.inl (10, [.int (th), .ref (65), .ref (66), .ref (67), .ref (68), .ref (69), .ref (70), .ref (71), .ref (72), .ref (73), .ref (74), .ref (75), .ref (76), .ref (77), .ref (78), .ref (79), .ref (80), .ref (81), .ref (82), .ref (83), .ref (84), .int (nI (w.length)), .int (nI (1)), .int (rp), .int (wi), .int (pa), .int (nI (x)), .int (zrun la ru (nI x)), .int (sa), .int (m1), .int ((s1) + (nI (1))), .int (ta), .int (fa), .ref (85), .ref (86), .ref (87), .int (nI (mn)), .ref (88), .ref (89), .ref (90), .ref (91), .ref (92), .ref (93), .int (nI (tp)), .ref (94), .int (nI (ou))])) := by rw [eh14x]; exact va_up_self _ _ _
          have k14_1 := (congrFun eh14x (84)).trans ((va_up_ne _ _ (by omega)).trans k8_1)
          have sw15 : zsm h8x h14x (zon (64)) := zsm.rf.up eh14x rfl
          have zw15 : zsh h8x h14x := zsh.obj eh14x k8_0
          refine zp_aload_n dX11_comes_144 rfl ?_
          refine zp_dup dX11_comes_145 rfl ?_
          refine zp_get dX11_comes_146 gX11_203_10 k14_0 rfl ?_
          refine zp_iconst (v := nI (1)) dX11_comes_149 (by decide) ?_
          refine zp_iadd dX11_comes_150 ?_
          refine zp_put (fs' := [.int (th), .ref (65), .ref (66), .ref (67), .ref (68), .ref (69), .ref (70), .ref (71), .ref (72), .ref (73), .ref (74), .ref (75), .ref (76), .ref (77), .ref (78), .ref (79), .ref (80), .ref (81), .ref (82), .ref (83), .ref (84), .int (nI (w.length)), .int (nI (1)), .int (rp), .int (wi), .int (pa), .int (nI (x)), .int (zrun la ru (nI x)), .int (sa), .int (m1), .int ((s1) + (nI (1))), .int (ta), .int ((fa) + (nI (1))), .ref (85), .ref (86), .ref (87), .int (nI (mn)), .ref (88), .ref (89), .ref (90), .ref (91), .ref (92), .ref (93), .int (nI (tp)), .ref (94), .int (nI (ou))]) dX11_comes_151 pX11_203_10 (by omega) k14_0 (Nat.le_of_ble_eq_true rfl) (zfit_i _) rfl ?_
          refine zp_nh (fun h16x eh16x => ?_)
          have k16_0 : h16x (64) = some (.inl (10, [.int (th), .ref (65), .ref (66), .ref (67), .ref (68), .ref (69), .ref (70), .ref (71), .ref (72), .ref (73), .ref (74), .ref (75), .ref (76), .ref (77), .ref (78), .ref (79), .ref (80), .ref (81), .ref (82), .ref (83), .ref (84), .int (nI (w.length)), .int (nI (1)), .int (rp), .int (wi), .int (pa), .int (nI (x)), .int (zrun la ru (nI x)), .int (sa), .int (m1), .int ((s1) + (nI (1))), .int (ta), .int ((fa) + (nI (1))), .ref (85), .ref (86), .ref (87), .int (nI (mn)), .ref (88), .ref (89), .ref (90), .ref (91), .ref (92), .ref (93), .int (nI (tp)), .ref (94), .int (nI (ou))])) := by rw [eh16x]; exact va_up_self _ _ _
          have k16_1 := (congrFun eh16x (84)).trans ((va_up_ne _ _ (by omega)).trans k14_1)
          have sw17 : zsm h14x h16x (zon (64)) := zsm.rf.up eh16x rfl
          have zw17 : zsh h14x h16x := zsh.obj eh16x k14_0
          refine zp_aload_n dX11_comes_154 rfl ?_
          refine zp_pc (pc' := 155) rfl ?_
          refine zp_iconst (v := nI (0)) dX11_comes_155 (by decide) ?_
          refine zp_i (y := nI (([] : List Nat).length)) rfl ?_
          refine zp_put (fs' := [.int (th), .ref (65), .ref (66), .ref (67), .ref (68), .ref (69), .ref (70), .ref (71), .ref (72), .ref (73), .ref (74), .ref (75), .ref (76), .ref (77), .ref (78), .ref (79), .ref (80), .ref (81), .ref (82), .ref (83), .ref (84), .int (nI (([] : List Nat).length)), .int (nI (1)), .int (rp), .int (wi), .int (pa), .int (nI (x)), .int (zrun la ru (nI x)), .int (sa), .int (m1), .int ((s1) + (nI (1))), .int (ta), .int ((fa) + (nI (1))), .ref (85), .ref (86), .ref (87), .int (nI (mn)), .ref (88), .ref (89), .ref (90), .ref (91), .ref (92), .ref (93), .int (nI (tp)), .ref (94), .int (nI (ou))]) dX11_comes_156 pX11_206_10 (by omega) k16_0 (Nat.le_of_ble_eq_true rfl) (zfit_i _) rfl ?_
          refine zp_nh (fun h18x eh18x => ?_)
          have k18_0 : h18x (64) = some (.inl (10, [.int (th), .ref (65), .ref (66), .ref (67), .ref (68), .ref (69), .ref (70), .ref (71), .ref (72), .ref (73), .ref (74), .ref (75), .ref (76), .ref (77), .ref (78), .ref (79), .ref (80), .ref (81), .ref (82), .ref (83), .ref (84), .int (nI (([] : List Nat).length)), .int (nI (1)), .int (rp), .int (wi), .int (pa), .int (nI (x)), .int (zrun la ru (nI x)), .int (sa), .int (m1), .int ((s1) + (nI (1))), .int (ta), .int ((fa) + (nI (1))), .ref (85), .ref (86), .ref (87), .int (nI (mn)), .ref (88), .ref (89), .ref (90), .ref (91), .ref (92), .ref (93), .int (nI (tp)), .ref (94), .int (nI (ou))])) := by rw [eh18x]; exact va_up_self _ _ _
          have k18_1 := (congrFun eh18x (84)).trans ((va_up_ne _ _ (by omega)).trans k16_1)
          have sw19 : zsm h16x h18x (zon (64)) := zsm.rf.up eh18x rfl
          have zw19 : zsh h16x h18x := zsh.obj eh18x k16_0
          refine zp_goto (tgt := 182) dX11_comes_159 (by decide) ?_
          refine zp_pc (pc' := 182) rfl ?_
          have dT : (decide (zrun la ru (nI x) = rp)) = true := by rcases Bool.eq_false_or_eq_true (decide (zrun la ru (nI x) = rp)) with q | q; exact q; rw [q] at c136; exact absurd rfl c136
          have bd : (zrun la ru (nI x) = rp ∨ zfrq pa sa me (nI x) = true) := Or.inl (of_decide_eq_true dT)
          have eZ : zS12 (w, rp, wi, pa, un, la, ru, sa, me, se, ta, fa) x = ([], rp, wi, pa, true, (nI x), zrun la ru (nI x), sa, me, se + nI 1, ta, fa + nI 1) := by show (if _ then _ else _) = _; rw [if_pos bd, eS]
          refine zp_ret (v := none) dX11_comes_182 ⟨rfl, rfl⟩ (by decide) (by decide) ?_
          rw [hQ]
          exact ⟨rfl, rfl, ((((((sw4).mono (fun i hi => by unfold zsw2; unfold zon at hi; omega)).trans ((sw6).mono (fun i hi => by unfold zsw2; unfold zon at hi; omega))).trans ((sw9).mono (fun i hi => by unfold zsw2; unfold zon at hi; omega))).trans ((sw15).mono (fun i hi => by unfold zsw2; unfold zon at hi; omega))).trans ((sw17).mono (fun i hi => by unfold zsw2; unfold zon at hi; omega))).trans ((sw19).mono (fun i hi => by unfold zsw2; unfold zon at hi; omega)), (((((zw4).trans zw6).trans zw9).trans zw15).trans zw17).trans zw19, m1, (s1) + (nI (1)), by rw [eZ]; exact k18_0, by rw [eZ]; exact fun _ => ⟨em, by rw [es]⟩, by rw [eZ]; exact zar.mk (L := 0) k18_1 rfl (by omega) (by decide) (fun y hy => absurd hy (List.not_mem_nil)) (fun j hj => absurd hj (by omega))⟩
      · refine zp_aload_n dX11_comes_130 rfl ?_
        refine zp_iconst (v := (-1)) dX11_comes_131 (by decide) ?_
        refine zp_put (fs' := [.int (th), .ref (65), .ref (66), .ref (67), .ref (68), .ref (69), .ref (70), .ref (71), .ref (72), .ref (73), .ref (74), .ref (75), .ref (76), .ref (77), .ref (78), .ref (79), .ref (80), .ref (81), .ref (82), .ref (83), .ref (84), .int (nI (w.length)), .int (nI (zbi un)), .int (rp), .int (wi), .int (pa), .int (nI (x)), .int (zrun la ru (nI x)), .int ((-1)), .int (m1), .int ((s1) + (nI (1))), .int (ta), .int (fa), .ref (85), .ref (86), .ref (87), .int (nI (mn)), .ref (88), .ref (89), .ref (90), .ref (91), .ref (92), .ref (93), .int (nI (tp)), .ref (94), .int (nI (ou))]) dX11_comes_132 pX11_84_10 (by omega) k8_0 (Nat.le_of_ble_eq_true rfl) (zfit_i _) rfl ?_
        refine zp_nh (fun h20x eh20x => ?_)
        have k20_0 : h20x (64) = some (.inl (10, [.int (th), .ref (65), .ref (66), .ref (67), .ref (68), .ref (69), .ref (70), .ref (71), .ref (72), .ref (73), .ref (74), .ref (75), .ref (76), .ref (77), .ref (78), .ref (79), .ref (80), .ref (81), .ref (82), .ref (83), .ref (84), .int (nI (w.length)), .int (nI (zbi un)), .int (rp), .int (wi), .int (pa), .int (nI (x)), .int (zrun la ru (nI x)), .int ((-1)), .int (m1), .int ((s1) + (nI (1))), .int (ta), .int (fa), .ref (85), .ref (86), .ref (87), .int (nI (mn)), .ref (88), .ref (89), .ref (90), .ref (91), .ref (92), .ref (93), .int (nI (tp)), .ref (94), .int (nI (ou))])) := by rw [eh20x]; exact va_up_self _ _ _
        have k20_1 := (congrFun eh20x (84)).trans ((va_up_ne _ _ (by omega)).trans k8_1)
        have sw21 : zsm h8x h20x (zon (64)) := zsm.rf.up eh20x rfl
        have zw21 : zsh h8x h20x := zsh.obj eh20x k8_0
        refine zp_iload_n dX11_comes_135 rfl ?_
        refine zp_pc (pc' := 136) rfl ?_
        have eS : zsmp wi sa me se (nI x) = (-1, nI 0, nI 0) := by unfold zsmp; rw [if_neg c49, if_pos (by rw [← es]; exact c127)]
        refine zn_if_eq (tgt := 162) dX11_comes_136 (by decide) (by have := zbi_lt (decide (zrun la ru (nI x) = rp)); omega) (fun c136 => ?_) (fun c136 => ?_)
        · refine zp_aload_n dX11_comes_162 rfl ?_
          refine zp_get dX11_comes_163 gX11_68_10 k20_0 rfl ?_
          refine zp_aload_n dX11_comes_166 rfl ?_
          refine zp_get dX11_comes_167 gX11_206_10 k20_0 rfl ?_
          refine zp_iload_n dX11_comes_170 rfl ?_
          refine zn_iast dX11_comes_171 (by omega) k20_1 (by omega) (by omega) ?_
          refine zp_nh (fun h22x eh22x => ?_)
          have k22_0 := (congrFun eh22x (64)).trans ((va_up_ne _ _ (by omega)).trans k20_0)
          have k22_1 : h22x (84) = some (.inr (1000, .inl (va_up lf1 (w.length) (nI (x))))) := by rw [eh22x]; exact va_up_self _ _ _
          have sw23 : zsm h20x h22x (zon (84)) := zsm.rf.up eh22x rfl
          have zw23 : zsh h20x h22x := zsh.fill eh22x k20_1
          refine zp_aload_n dX11_comes_172 rfl ?_
          refine zp_dup dX11_comes_173 rfl ?_
          refine zp_get dX11_comes_174 gX11_206_10 k22_0 rfl ?_
          refine zp_pc (pc' := 177) rfl ?_
          refine zp_iconst (v := nI (1)) dX11_comes_177 (by decide) ?_
          refine zp_i (y := nI ((w ++ [x]).length)) (by rw [List.length_append]; rfl) ?_
          refine zn_iadd dX11_comes_178 ?_
          refine zp_put (fs' := [.int (th), .ref (65), .ref (66), .ref (67), .ref (68), .ref (69), .ref (70), .ref (71), .ref (72), .ref (73), .ref (74), .ref (75), .ref (76), .ref (77), .ref (78), .ref (79), .ref (80), .ref (81), .ref (82), .ref (83), .ref (84), .int (nI ((w.length) + ((w ++ [x]).length))), .int (nI (zbi un)), .int (rp), .int (wi), .int (pa), .int (nI (x)), .int (zrun la ru (nI x)), .int ((-1)), .int (m1), .int ((s1) + (nI (1))), .int (ta), .int (fa), .ref (85), .ref (86), .ref (87), .int (nI (mn)), .ref (88), .ref (89), .ref (90), .ref (91), .ref (92), .ref (93), .int (nI (tp)), .ref (94), .int (nI (ou))]) dX11_comes_179 pX11_206_10 (by omega) k22_0 (Nat.le_of_ble_eq_true rfl) (zfit_i _) rfl ?_
          refine zp_nh (fun h24x eh24x => ?_)
          have k24_0 : h24x (64) = some (.inl (10, [.int (th), .ref (65), .ref (66), .ref (67), .ref (68), .ref (69), .ref (70), .ref (71), .ref (72), .ref (73), .ref (74), .ref (75), .ref (76), .ref (77), .ref (78), .ref (79), .ref (80), .ref (81), .ref (82), .ref (83), .ref (84), .int (nI ((w.length) + ((w ++ [x]).length))), .int (nI (zbi un)), .int (rp), .int (wi), .int (pa), .int (nI (x)), .int (zrun la ru (nI x)), .int ((-1)), .int (m1), .int ((s1) + (nI (1))), .int (ta), .int (fa), .ref (85), .ref (86), .ref (87), .int (nI (mn)), .ref (88), .ref (89), .ref (90), .ref (91), .ref (92), .ref (93), .int (nI (tp)), .ref (94), .int (nI (ou))])) := by rw [eh24x]; exact va_up_self _ _ _
          have k24_1 := (congrFun eh24x (84)).trans ((va_up_ne _ _ (by omega)).trans k22_1)
          have sw25 : zsm h22x h24x (zon (64)) := zsm.rf.up eh24x rfl
          have zw25 : zsh h22x h24x := zsh.obj eh24x k22_0
          refine zp_pc (pc' := 182) rfl ?_
          have dF : (decide (zrun la ru (nI x) = rp)) = false := by rcases Bool.eq_false_or_eq_true (decide (zrun la ru (nI x) = rp)) with q | q; rw [q] at c136; exact absurd c136 (by decide); exact q
          have bd : ¬ (zrun la ru (nI x) = rp ∨ zfrq pa sa me (nI x) = true) := fun q => q.elim (of_decide_eq_false dF) (fun q => by rw [ef] at q; cases q)
          have eZ : zS12 (w, rp, wi, pa, un, la, ru, sa, me, se, ta, fa) x = (w ++ [x], rp, wi, pa, un, (nI x), zrun la ru (nI x), -1, nI 0, nI 0, ta, fa) := by show (if _ then _ else _) = _; rw [if_neg bd, eS]
          refine zp_ret (v := none) dX11_comes_182 ⟨rfl, rfl⟩ (by decide) (by decide) ?_
          rw [hQ]
          exact ⟨rfl, rfl, ((((((sw4).mono (fun i hi => by unfold zsw2; unfold zon at hi; omega)).trans ((sw6).mono (fun i hi => by unfold zsw2; unfold zon at hi; omega))).trans ((sw9).mono (fun i hi => by unfold zsw2; unfold zon at hi; omega))).trans ((sw21).mono (fun i hi => by unfold zsw2; unfold zon at hi; omega))).trans ((sw23).mono (fun i hi => by unfold zsw2; unfold zon at hi; omega))).trans ((sw25).mono (fun i hi => by unfold zsw2; unfold zon at hi; omega)), (((((zw4).trans zw6).trans zw9).trans zw21).trans zw23).trans zw25, m1, (s1) + (nI (1)), by rw [eZ]; exact k24_0, by rw [eZ]; exact fun q => absurd rfl q, by rw [eZ]; exact zar.mk (L := w.length + 1) k24_1 (by rw [List.length_append]; rfl) (by omega) (by decide) (zapp_lt lc1 (fun y hy => by rw [List.mem_singleton.mp hy]; exact hb)) (fun j hj => by
                  rcases Nat.lt_or_ge j w.length with q | q
                  · rw [va_up_ne _ _ (by omega), le1 j q, zapp_getD1 q]
                  · rw [show j = w.length by omega, va_up_self, show (w ++ [x]).getD w.length 0 = x from (zapp_getD2 (xs := w) (ys := [x]) (i := 0))])⟩
        · refine zp_aload_n dX11_comes_139 rfl ?_
          refine zp_iconst (v := nI (1)) dX11_comes_140 (by decide) ?_
          refine zp_put (fs' := [.int (th), .ref (65), .ref (66), .ref (67), .ref (68), .ref (69), .ref (70), .ref (71), .ref (72), .ref (73), .ref (74), .ref (75), .ref (76), .ref (77), .ref (78), .ref (79), .ref (80), .ref (81), .ref (82), .ref (83), .ref (84), .int (nI (w.length)), .int (nI (1)), .int (rp), .int (wi), .int (pa), .int (nI (x)), .int (zrun la ru (nI x)), .int ((-1)), .int (m1), .int ((s1) + (nI (1))), .int (ta), .int (fa), .ref (85), .ref (86), .ref (87), .int (nI (mn)), .ref (88), .ref (89), .ref (90), .ref (91), .ref (92), .ref (93), .int (nI (tp)), .ref (94), .int (nI (ou))]) dX11_comes_141 pX11_199_10 (by omega) k20_0 (Nat.le_of_ble_eq_true rfl) zfit_1 rfl ?_
          refine zp_nh (fun h26x eh26x => ?_)
          have k26_0 : h26x (64) = some (.inl (10, [.int (th), .ref (65), .ref (66), .ref (67), .ref (68), .ref (69), .ref (70), .ref (71), .ref (72), .ref (73), .ref (74), .ref (75), .ref (76), .ref (77), .ref (78), .ref (79), .ref (80), .ref (81), .ref (82), .ref (83), .ref (84), .int (nI (w.length)), .int (nI (1)), .int (rp), .int (wi), .int (pa), .int (nI (x)), .int (zrun la ru (nI x)), .int ((-1)), .int (m1), .int ((s1) + (nI (1))), .int (ta), .int (fa), .ref (85), .ref (86), .ref (87), .int (nI (mn)), .ref (88), .ref (89), .ref (90), .ref (91), .ref (92), .ref (93), .int (nI (tp)), .ref (94), .int (nI (ou))])) := by rw [eh26x]; exact va_up_self _ _ _
          have k26_1 := (congrFun eh26x (84)).trans ((va_up_ne _ _ (by omega)).trans k20_1)
          have sw27 : zsm h20x h26x (zon (64)) := zsm.rf.up eh26x rfl
          have zw27 : zsh h20x h26x := zsh.obj eh26x k20_0
          refine zp_aload_n dX11_comes_144 rfl ?_
          refine zp_dup dX11_comes_145 rfl ?_
          refine zp_get dX11_comes_146 gX11_203_10 k26_0 rfl ?_
          refine zp_iconst (v := nI (1)) dX11_comes_149 (by decide) ?_
          refine zp_iadd dX11_comes_150 ?_
          refine zp_put (fs' := [.int (th), .ref (65), .ref (66), .ref (67), .ref (68), .ref (69), .ref (70), .ref (71), .ref (72), .ref (73), .ref (74), .ref (75), .ref (76), .ref (77), .ref (78), .ref (79), .ref (80), .ref (81), .ref (82), .ref (83), .ref (84), .int (nI (w.length)), .int (nI (1)), .int (rp), .int (wi), .int (pa), .int (nI (x)), .int (zrun la ru (nI x)), .int ((-1)), .int (m1), .int ((s1) + (nI (1))), .int (ta), .int ((fa) + (nI (1))), .ref (85), .ref (86), .ref (87), .int (nI (mn)), .ref (88), .ref (89), .ref (90), .ref (91), .ref (92), .ref (93), .int (nI (tp)), .ref (94), .int (nI (ou))]) dX11_comes_151 pX11_203_10 (by omega) k26_0 (Nat.le_of_ble_eq_true rfl) (zfit_i _) rfl ?_
          refine zp_nh (fun h28x eh28x => ?_)
          have k28_0 : h28x (64) = some (.inl (10, [.int (th), .ref (65), .ref (66), .ref (67), .ref (68), .ref (69), .ref (70), .ref (71), .ref (72), .ref (73), .ref (74), .ref (75), .ref (76), .ref (77), .ref (78), .ref (79), .ref (80), .ref (81), .ref (82), .ref (83), .ref (84), .int (nI (w.length)), .int (nI (1)), .int (rp), .int (wi), .int (pa), .int (nI (x)), .int (zrun la ru (nI x)), .int ((-1)), .int (m1), .int ((s1) + (nI (1))), .int (ta), .int ((fa) + (nI (1))), .ref (85), .ref (86), .ref (87), .int (nI (mn)), .ref (88), .ref (89), .ref (90), .ref (91), .ref (92), .ref (93), .int (nI (tp)), .ref (94), .int (nI (ou))])) := by rw [eh28x]; exact va_up_self _ _ _
          have k28_1 := (congrFun eh28x (84)).trans ((va_up_ne _ _ (by omega)).trans k26_1)
          have sw29 : zsm h26x h28x (zon (64)) := zsm.rf.up eh28x rfl
          have zw29 : zsh h26x h28x := zsh.obj eh28x k26_0
          refine zp_aload_n dX11_comes_154 rfl ?_
          refine zp_pc (pc' := 155) rfl ?_
          refine zp_iconst (v := nI (0)) dX11_comes_155 (by decide) ?_
          refine zp_i (y := nI (([] : List Nat).length)) rfl ?_
          refine zp_put (fs' := [.int (th), .ref (65), .ref (66), .ref (67), .ref (68), .ref (69), .ref (70), .ref (71), .ref (72), .ref (73), .ref (74), .ref (75), .ref (76), .ref (77), .ref (78), .ref (79), .ref (80), .ref (81), .ref (82), .ref (83), .ref (84), .int (nI (([] : List Nat).length)), .int (nI (1)), .int (rp), .int (wi), .int (pa), .int (nI (x)), .int (zrun la ru (nI x)), .int ((-1)), .int (m1), .int ((s1) + (nI (1))), .int (ta), .int ((fa) + (nI (1))), .ref (85), .ref (86), .ref (87), .int (nI (mn)), .ref (88), .ref (89), .ref (90), .ref (91), .ref (92), .ref (93), .int (nI (tp)), .ref (94), .int (nI (ou))]) dX11_comes_156 pX11_206_10 (by omega) k28_0 (Nat.le_of_ble_eq_true rfl) (zfit_i _) rfl ?_
          refine zp_nh (fun h30x eh30x => ?_)
          have k30_0 : h30x (64) = some (.inl (10, [.int (th), .ref (65), .ref (66), .ref (67), .ref (68), .ref (69), .ref (70), .ref (71), .ref (72), .ref (73), .ref (74), .ref (75), .ref (76), .ref (77), .ref (78), .ref (79), .ref (80), .ref (81), .ref (82), .ref (83), .ref (84), .int (nI (([] : List Nat).length)), .int (nI (1)), .int (rp), .int (wi), .int (pa), .int (nI (x)), .int (zrun la ru (nI x)), .int ((-1)), .int (m1), .int ((s1) + (nI (1))), .int (ta), .int ((fa) + (nI (1))), .ref (85), .ref (86), .ref (87), .int (nI (mn)), .ref (88), .ref (89), .ref (90), .ref (91), .ref (92), .ref (93), .int (nI (tp)), .ref (94), .int (nI (ou))])) := by rw [eh30x]; exact va_up_self _ _ _
          have k30_1 := (congrFun eh30x (84)).trans ((va_up_ne _ _ (by omega)).trans k28_1)
          have sw31 : zsm h28x h30x (zon (64)) := zsm.rf.up eh30x rfl
          have zw31 : zsh h28x h30x := zsh.obj eh30x k28_0
          refine zp_goto (tgt := 182) dX11_comes_159 (by decide) ?_
          refine zp_pc (pc' := 182) rfl ?_
          have dT : (decide (zrun la ru (nI x) = rp)) = true := by rcases Bool.eq_false_or_eq_true (decide (zrun la ru (nI x) = rp)) with q | q; exact q; rw [q] at c136; exact absurd rfl c136
          have bd : (zrun la ru (nI x) = rp ∨ zfrq pa sa me (nI x) = true) := Or.inl (of_decide_eq_true dT)
          have eZ : zS12 (w, rp, wi, pa, un, la, ru, sa, me, se, ta, fa) x = ([], rp, wi, pa, true, (nI x), zrun la ru (nI x), -1, nI 0, nI 0, ta, fa + nI 1) := by show (if _ then _ else _) = _; rw [if_pos bd, eS]
          refine zp_ret (v := none) dX11_comes_182 ⟨rfl, rfl⟩ (by decide) (by decide) ?_
          rw [hQ]
          exact ⟨rfl, rfl, (((((((sw4).mono (fun i hi => by unfold zsw2; unfold zon at hi; omega)).trans ((sw6).mono (fun i hi => by unfold zsw2; unfold zon at hi; omega))).trans ((sw9).mono (fun i hi => by unfold zsw2; unfold zon at hi; omega))).trans ((sw21).mono (fun i hi => by unfold zsw2; unfold zon at hi; omega))).trans ((sw27).mono (fun i hi => by unfold zsw2; unfold zon at hi; omega))).trans ((sw29).mono (fun i hi => by unfold zsw2; unfold zon at hi; omega))).trans ((sw31).mono (fun i hi => by unfold zsw2; unfold zon at hi; omega)), ((((((zw4).trans zw6).trans zw9).trans zw21).trans zw27).trans zw29).trans zw31, m1, (s1) + (nI (1)), by rw [eZ]; exact k30_0, by rw [eZ]; exact fun q => absurd rfl q, by rw [eZ]; exact zar.mk (L := 0) k30_1 rfl (by omega) (by decide) (fun y hy => absurd hy (List.not_mem_nil)) (fun j hj => absurd hj (by omega))⟩
    · refine zp_aload_n dX11_comes_78 rfl ?_
      refine zp_dup dX11_comes_79 rfl ?_
      refine zp_get dX11_comes_80 gX11_193_10 k5_0 rfl ?_
      refine zp_iconst (v := nI (1)) dX11_comes_83 (by decide) ?_
      refine zp_iadd dX11_comes_84 ?_
      refine zp_put (fs' := [.int (th), .ref (65), .ref (66), .ref (67), .ref (68), .ref (69), .ref (70), .ref (71), .ref (72), .ref (73), .ref (74), .ref (75), .ref (76), .ref (77), .ref (78), .ref (79), .ref (80), .ref (81), .ref (82), .ref (83), .ref (84), .int (nI (w.length)), .int (nI (zbi un)), .int (rp), .int (wi), .int (pa), .int (nI (x)), .int (zrun la ru (nI x)), .int (sa), .int ((m1) + (nI (1))), .int (s1), .int (ta), .int (fa), .ref (85), .ref (86), .ref (87), .int (nI (mn)), .ref (88), .ref (89), .ref (90), .ref (91), .ref (92), .ref (93), .int (nI (tp)), .ref (94), .int (nI (ou))]) dX11_comes_85 pX11_193_10 (by omega) k5_0 (Nat.le_of_ble_eq_true rfl) (zfit_i _) rfl ?_
      refine zp_nh (fun h32x eh32x => ?_)
      have k32_0 : h32x (64) = some (.inl (10, [.int (th), .ref (65), .ref (66), .ref (67), .ref (68), .ref (69), .ref (70), .ref (71), .ref (72), .ref (73), .ref (74), .ref (75), .ref (76), .ref (77), .ref (78), .ref (79), .ref (80), .ref (81), .ref (82), .ref (83), .ref (84), .int (nI (w.length)), .int (nI (zbi un)), .int (rp), .int (wi), .int (pa), .int (nI (x)), .int (zrun la ru (nI x)), .int (sa), .int ((m1) + (nI (1))), .int (s1), .int (ta), .int (fa), .ref (85), .ref (86), .ref (87), .int (nI (mn)), .ref (88), .ref (89), .ref (90), .ref (91), .ref (92), .ref (93), .int (nI (tp)), .ref (94), .int (nI (ou))])) := by rw [eh32x]; exact va_up_self _ _ _
      have k32_1 := (congrFun eh32x (84)).trans ((va_up_ne _ _ (by omega)).trans k5_1)
      have sw33 : zsm h5x h32x (zon (64)) := zsm.rf.up eh32x rfl
      have zw33 : zsh h5x h32x := zsh.obj eh32x k5_0
      refine zp_iload_n dX11_comes_88 rfl ?_
      refine zp_pc (pc' := 89) rfl ?_
      have ef : zfrq pa sa me (nI x) = if m1 + nI 1 = pa then true else false := by unfold zfrq; rw [if_neg c49, if_pos c75, em]
      have jn34 : zP g mX11_comes (zR 0 0 0) Qf 0 0 108 [some (.ref (64)), some (.int (nI (x))), some (.int (nI (zbi (decide (zrun la ru (nI x) = rp)))))] [.int (nI (zbi (decide (zrun la ru (nI x) = rp ∨ zfrq pa sa me (nI x) = true))))] h32x n → zP g mX11_comes (zR 0 0 0) Qf 0 0 89 [some (.ref (64)), some (.int (nI (x))), some (.int (nI (zbi (decide (zrun la ru (nI x) = rp)))))] [.int (nI (zbi (decide (zrun la ru (nI x) = rp))))] h32x n := by
        intro jk34
        refine zn_if_ne (tgt := 103) dX11_comes_89 (by decide) (by have := zbi_lt (decide (zrun la ru (nI x) = rp)); omega) (fun c89 => ?_) (fun c89 => ?_)
        · refine zp_iconst (v := nI (1)) dX11_comes_103 (by decide) ?_
          refine zp_goto (tgt := 108) dX11_comes_104 (by decide) ?_
          refine zp_pc (pc' := 108) rfl ?_
          have dT1 : (decide (zrun la ru (nI x) = rp)) = true := by rcases Bool.eq_false_or_eq_true (decide (zrun la ru (nI x) = rp)) with q | q; exact q; rw [q] at c89; exact absurd rfl c89
          refine zp_i (y := nI (zbi (decide (zrun la ru (nI x) = rp ∨ zfrq pa sa me (nI x) = true)))) (by rw [show (decide (zrun la ru (nI x) = rp ∨ zfrq pa sa me (nI x) = true)) = true from decide_eq_true (Or.inl (of_decide_eq_true dT1))]; rfl) ?_
          exact jk34
        · refine zp_aload_n dX11_comes_92 rfl ?_
          refine zp_get dX11_comes_93 gX11_193_10 k32_0 rfl ?_
          refine zp_aload_n dX11_comes_96 rfl ?_
          refine zp_get dX11_comes_97 gX11_78_10 k32_0 rfl ?_
          refine zp_pc (pc' := 100) rfl ?_
          have dF1 : (decide (zrun la ru (nI x) = rp)) = false := by rcases Bool.eq_false_or_eq_true (decide (zrun la ru (nI x) = rp)) with q | q; rw [q] at c89; exact absurd c89 (by decide); exact q
          refine zp_icmp_ne (tgt := 107) dX11_comes_100 (by decide) (fun c100 => ?_) (fun c100 => ?_)
          · refine zp_iconst (v := nI (0)) dX11_comes_107 (by decide) ?_
            refine zp_pc (pc' := 108) rfl ?_
            refine zp_i (y := nI (zbi (decide (zrun la ru (nI x) = rp ∨ zfrq pa sa me (nI x) = true)))) (by rw [show (decide (zrun la ru (nI x) = rp ∨ zfrq pa sa me (nI x) = true)) = false from decide_eq_false (fun q => q.elim (of_decide_eq_false dF1) (fun q => by rw [ef, if_neg c100] at q; cases q))]; rfl) ?_
            exact jk34
          · refine zp_iconst (v := nI (1)) dX11_comes_103 (by decide) ?_
            refine zp_goto (tgt := 108) dX11_comes_104 (by decide) ?_
            refine zp_pc (pc' := 108) rfl ?_
            refine zp_i (y := nI (zbi (decide (zrun la ru (nI x) = rp ∨ zfrq pa sa me (nI x) = true)))) (by rw [show (decide (zrun la ru (nI x) = rp ∨ zfrq pa sa me (nI x) = true)) = true from decide_eq_true (Or.inr (by rw [ef, if_pos c100]))]; rfl) ?_
            exact jk34
      refine jn34 ?_
      refine zp_istore_n (ls' := [some (.ref (64)), some (.int (nI (x))), some (.int (nI (zbi (decide (zrun la ru (nI x) = rp ∨ zfrq pa sa me (nI x) = true)))))]) dX11_comes_108 (by decide) rfl ?_
      refine zp_pc (pc' := 109) rfl ?_
      refine zp_aload_n dX11_comes_109 rfl ?_
      refine zp_dup dX11_comes_110 rfl ?_
      refine zp_get dX11_comes_111 gX11_196_10 k32_0 rfl ?_
      refine zp_iconst (v := nI (1)) dX11_comes_114 (by decide) ?_
      refine zp_iadd dX11_comes_115 ?_
      refine zp_put (fs' := [.int (th), .ref (65), .ref (66), .ref (67), .ref (68), .ref (69), .ref (70), .ref (71), .ref (72), .ref (73), .ref (74), .ref (75), .ref (76), .ref (77), .ref (78), .ref (79), .ref (80), .ref (81), .ref (82), .ref (83), .ref (84), .int (nI (w.length)), .int (nI (zbi un)), .int (rp), .int (wi), .int (pa), .int (nI (x)), .int (zrun la ru (nI x)), .int (sa), .int ((m1) + (nI (1))), .int ((s1) + (nI (1))), .int (ta), .int (fa), .ref (85), .ref (86), .ref (87), .int (nI (mn)), .ref (88), .ref (89), .ref (90), .ref (91), .ref (92), .ref (93), .int (nI (tp)), .ref (94), .int (nI (ou))]) dX11_comes_116 pX11_196_10 (by omega) k32_0 (Nat.le_of_ble_eq_true rfl) (zfit_i _) rfl ?_
      refine zp_nh (fun h35x eh35x => ?_)
      have k35_0 : h35x (64) = some (.inl (10, [.int (th), .ref (65), .ref (66), .ref (67), .ref (68), .ref (69), .ref (70), .ref (71), .ref (72), .ref (73), .ref (74), .ref (75), .ref (76), .ref (77), .ref (78), .ref (79), .ref (80), .ref (81), .ref (82), .ref (83), .ref (84), .int (nI (w.length)), .int (nI (zbi un)), .int (rp), .int (wi), .int (pa), .int (nI (x)), .int (zrun la ru (nI x)), .int (sa), .int ((m1) + (nI (1))), .int ((s1) + (nI (1))), .int (ta), .int (fa), .ref (85), .ref (86), .ref (87), .int (nI (mn)), .ref (88), .ref (89), .ref (90), .ref (91), .ref (92), .ref (93), .int (nI (tp)), .ref (94), .int (nI (ou))])) := by rw [eh35x]; exact va_up_self _ _ _
      have k35_1 := (congrFun eh35x (84)).trans ((va_up_ne _ _ (by omega)).trans k32_1)
      have sw36 : zsm h32x h35x (zon (64)) := zsm.rf.up eh35x rfl
      have zw36 : zsh h32x h35x := zsh.obj eh35x k32_0
      refine zp_aload_n dX11_comes_119 rfl ?_
      refine zp_get dX11_comes_120 gX11_196_10 k35_0 rfl ?_
      refine zp_aload_n dX11_comes_123 rfl ?_
      refine zp_get dX11_comes_124 gX11_75_10 k35_0 rfl ?_
      refine zp_pc (pc' := 127) rfl ?_
      refine zp_icmp_ne (tgt := 135) dX11_comes_127 (by decide) (fun c127 => ?_) (fun c127 => ?_)
      · refine zp_iload_n dX11_comes_135 rfl ?_
        refine zp_pc (pc' := 136) rfl ?_
        have eS : zsmp wi sa me se (nI x) = (sa, me + nI 1, se + nI 1) := by unfold zsmp; rw [if_neg c49, if_neg (by rw [← es]; exact c127), if_pos c75]
        refine zn_if_eq (tgt := 162) dX11_comes_136 (by decide) (by have := zbi_lt (decide (zrun la ru (nI x) = rp ∨ zfrq pa sa me (nI x) = true)); omega) (fun c136 => ?_) (fun c136 => ?_)
        · refine zp_aload_n dX11_comes_162 rfl ?_
          refine zp_get dX11_comes_163 gX11_68_10 k35_0 rfl ?_
          refine zp_aload_n dX11_comes_166 rfl ?_
          refine zp_get dX11_comes_167 gX11_206_10 k35_0 rfl ?_
          refine zp_iload_n dX11_comes_170 rfl ?_
          refine zn_iast dX11_comes_171 (by omega) k35_1 (by omega) (by omega) ?_
          refine zp_nh (fun h37x eh37x => ?_)
          have k37_0 := (congrFun eh37x (64)).trans ((va_up_ne _ _ (by omega)).trans k35_0)
          have k37_1 : h37x (84) = some (.inr (1000, .inl (va_up lf1 (w.length) (nI (x))))) := by rw [eh37x]; exact va_up_self _ _ _
          have sw38 : zsm h35x h37x (zon (84)) := zsm.rf.up eh37x rfl
          have zw38 : zsh h35x h37x := zsh.fill eh37x k35_1
          refine zp_aload_n dX11_comes_172 rfl ?_
          refine zp_dup dX11_comes_173 rfl ?_
          refine zp_get dX11_comes_174 gX11_206_10 k37_0 rfl ?_
          refine zp_pc (pc' := 177) rfl ?_
          refine zp_iconst (v := nI (1)) dX11_comes_177 (by decide) ?_
          refine zp_i (y := nI ((w ++ [x]).length)) (by rw [List.length_append]; rfl) ?_
          refine zn_iadd dX11_comes_178 ?_
          refine zp_put (fs' := [.int (th), .ref (65), .ref (66), .ref (67), .ref (68), .ref (69), .ref (70), .ref (71), .ref (72), .ref (73), .ref (74), .ref (75), .ref (76), .ref (77), .ref (78), .ref (79), .ref (80), .ref (81), .ref (82), .ref (83), .ref (84), .int (nI ((w.length) + ((w ++ [x]).length))), .int (nI (zbi un)), .int (rp), .int (wi), .int (pa), .int (nI (x)), .int (zrun la ru (nI x)), .int (sa), .int ((m1) + (nI (1))), .int ((s1) + (nI (1))), .int (ta), .int (fa), .ref (85), .ref (86), .ref (87), .int (nI (mn)), .ref (88), .ref (89), .ref (90), .ref (91), .ref (92), .ref (93), .int (nI (tp)), .ref (94), .int (nI (ou))]) dX11_comes_179 pX11_206_10 (by omega) k37_0 (Nat.le_of_ble_eq_true rfl) (zfit_i _) rfl ?_
          refine zp_nh (fun h39x eh39x => ?_)
          have k39_0 : h39x (64) = some (.inl (10, [.int (th), .ref (65), .ref (66), .ref (67), .ref (68), .ref (69), .ref (70), .ref (71), .ref (72), .ref (73), .ref (74), .ref (75), .ref (76), .ref (77), .ref (78), .ref (79), .ref (80), .ref (81), .ref (82), .ref (83), .ref (84), .int (nI ((w.length) + ((w ++ [x]).length))), .int (nI (zbi un)), .int (rp), .int (wi), .int (pa), .int (nI (x)), .int (zrun la ru (nI x)), .int (sa), .int ((m1) + (nI (1))), .int ((s1) + (nI (1))), .int (ta), .int (fa), .ref (85), .ref (86), .ref (87), .int (nI (mn)), .ref (88), .ref (89), .ref (90), .ref (91), .ref (92), .ref (93), .int (nI (tp)), .ref (94), .int (nI (ou))])) := by rw [eh39x]; exact va_up_self _ _ _
          have k39_1 := (congrFun eh39x (84)).trans ((va_up_ne _ _ (by omega)).trans k37_1)
          have sw40 : zsm h37x h39x (zon (64)) := zsm.rf.up eh39x rfl
          have zw40 : zsh h37x h39x := zsh.obj eh39x k37_0
          refine zp_pc (pc' := 182) rfl ?_
          have dF : (decide (zrun la ru (nI x) = rp ∨ zfrq pa sa me (nI x) = true)) = false := by rcases Bool.eq_false_or_eq_true (decide (zrun la ru (nI x) = rp ∨ zfrq pa sa me (nI x) = true)) with q | q; rw [q] at c136; exact absurd c136 (by decide); exact q
          have bd : ¬ (zrun la ru (nI x) = rp ∨ zfrq pa sa me (nI x) = true) := of_decide_eq_false dF
          have eZ : zS12 (w, rp, wi, pa, un, la, ru, sa, me, se, ta, fa) x = (w ++ [x], rp, wi, pa, un, (nI x), zrun la ru (nI x), sa, me + nI 1, se + nI 1, ta, fa) := by show (if _ then _ else _) = _; rw [if_neg bd, eS]
          refine zp_ret (v := none) dX11_comes_182 ⟨rfl, rfl⟩ (by decide) (by decide) ?_
          rw [hQ]
          exact ⟨rfl, rfl, ((((((sw4).mono (fun i hi => by unfold zsw2; unfold zon at hi; omega)).trans ((sw6).mono (fun i hi => by unfold zsw2; unfold zon at hi; omega))).trans ((sw33).mono (fun i hi => by unfold zsw2; unfold zon at hi; omega))).trans ((sw36).mono (fun i hi => by unfold zsw2; unfold zon at hi; omega))).trans ((sw38).mono (fun i hi => by unfold zsw2; unfold zon at hi; omega))).trans ((sw40).mono (fun i hi => by unfold zsw2; unfold zon at hi; omega)), (((((zw4).trans zw6).trans zw33).trans zw36).trans zw38).trans zw40, (m1) + (nI (1)), (s1) + (nI (1)), by rw [eZ]; exact k39_0, by rw [eZ]; exact fun _ => ⟨by rw [em], by rw [es]⟩, by rw [eZ]; exact zar.mk (L := w.length + 1) k39_1 (by rw [List.length_append]; rfl) (by omega) (by decide) (zapp_lt lc1 (fun y hy => by rw [List.mem_singleton.mp hy]; exact hb)) (fun j hj => by
                  rcases Nat.lt_or_ge j w.length with q | q
                  · rw [va_up_ne _ _ (by omega), le1 j q, zapp_getD1 q]
                  · rw [show j = w.length by omega, va_up_self, show (w ++ [x]).getD w.length 0 = x from (zapp_getD2 (xs := w) (ys := [x]) (i := 0))])⟩
        · refine zp_aload_n dX11_comes_139 rfl ?_
          refine zp_iconst (v := nI (1)) dX11_comes_140 (by decide) ?_
          refine zp_put (fs' := [.int (th), .ref (65), .ref (66), .ref (67), .ref (68), .ref (69), .ref (70), .ref (71), .ref (72), .ref (73), .ref (74), .ref (75), .ref (76), .ref (77), .ref (78), .ref (79), .ref (80), .ref (81), .ref (82), .ref (83), .ref (84), .int (nI (w.length)), .int (nI (1)), .int (rp), .int (wi), .int (pa), .int (nI (x)), .int (zrun la ru (nI x)), .int (sa), .int ((m1) + (nI (1))), .int ((s1) + (nI (1))), .int (ta), .int (fa), .ref (85), .ref (86), .ref (87), .int (nI (mn)), .ref (88), .ref (89), .ref (90), .ref (91), .ref (92), .ref (93), .int (nI (tp)), .ref (94), .int (nI (ou))]) dX11_comes_141 pX11_199_10 (by omega) k35_0 (Nat.le_of_ble_eq_true rfl) zfit_1 rfl ?_
          refine zp_nh (fun h41x eh41x => ?_)
          have k41_0 : h41x (64) = some (.inl (10, [.int (th), .ref (65), .ref (66), .ref (67), .ref (68), .ref (69), .ref (70), .ref (71), .ref (72), .ref (73), .ref (74), .ref (75), .ref (76), .ref (77), .ref (78), .ref (79), .ref (80), .ref (81), .ref (82), .ref (83), .ref (84), .int (nI (w.length)), .int (nI (1)), .int (rp), .int (wi), .int (pa), .int (nI (x)), .int (zrun la ru (nI x)), .int (sa), .int ((m1) + (nI (1))), .int ((s1) + (nI (1))), .int (ta), .int (fa), .ref (85), .ref (86), .ref (87), .int (nI (mn)), .ref (88), .ref (89), .ref (90), .ref (91), .ref (92), .ref (93), .int (nI (tp)), .ref (94), .int (nI (ou))])) := by rw [eh41x]; exact va_up_self _ _ _
          have k41_1 := (congrFun eh41x (84)).trans ((va_up_ne _ _ (by omega)).trans k35_1)
          have sw42 : zsm h35x h41x (zon (64)) := zsm.rf.up eh41x rfl
          have zw42 : zsh h35x h41x := zsh.obj eh41x k35_0
          refine zp_aload_n dX11_comes_144 rfl ?_
          refine zp_dup dX11_comes_145 rfl ?_
          refine zp_get dX11_comes_146 gX11_203_10 k41_0 rfl ?_
          refine zp_iconst (v := nI (1)) dX11_comes_149 (by decide) ?_
          refine zp_iadd dX11_comes_150 ?_
          refine zp_put (fs' := [.int (th), .ref (65), .ref (66), .ref (67), .ref (68), .ref (69), .ref (70), .ref (71), .ref (72), .ref (73), .ref (74), .ref (75), .ref (76), .ref (77), .ref (78), .ref (79), .ref (80), .ref (81), .ref (82), .ref (83), .ref (84), .int (nI (w.length)), .int (nI (1)), .int (rp), .int (wi), .int (pa), .int (nI (x)), .int (zrun la ru (nI x)), .int (sa), .int ((m1) + (nI (1))), .int ((s1) + (nI (1))), .int (ta), .int ((fa) + (nI (1))), .ref (85), .ref (86), .ref (87), .int (nI (mn)), .ref (88), .ref (89), .ref (90), .ref (91), .ref (92), .ref (93), .int (nI (tp)), .ref (94), .int (nI (ou))]) dX11_comes_151 pX11_203_10 (by omega) k41_0 (Nat.le_of_ble_eq_true rfl) (zfit_i _) rfl ?_
          refine zp_nh (fun h43x eh43x => ?_)
          have k43_0 : h43x (64) = some (.inl (10, [.int (th), .ref (65), .ref (66), .ref (67), .ref (68), .ref (69), .ref (70), .ref (71), .ref (72), .ref (73), .ref (74), .ref (75), .ref (76), .ref (77), .ref (78), .ref (79), .ref (80), .ref (81), .ref (82), .ref (83), .ref (84), .int (nI (w.length)), .int (nI (1)), .int (rp), .int (wi), .int (pa), .int (nI (x)), .int (zrun la ru (nI x)), .int (sa), .int ((m1) + (nI (1))), .int ((s1) + (nI (1))), .int (ta), .int ((fa) + (nI (1))), .ref (85), .ref (86), .ref (87), .int (nI (mn)), .ref (88), .ref (89), .ref (90), .ref (91), .ref (92), .ref (93), .int (nI (tp)), .ref (94), .int (nI (ou))])) := by rw [eh43x]; exact va_up_self _ _ _
          have k43_1 := (congrFun eh43x (84)).trans ((va_up_ne _ _ (by omega)).trans k41_1)
          have sw44 : zsm h41x h43x (zon (64)) := zsm.rf.up eh43x rfl
          have zw44 : zsh h41x h43x := zsh.obj eh43x k41_0
          refine zp_aload_n dX11_comes_154 rfl ?_
          refine zp_pc (pc' := 155) rfl ?_
          refine zp_iconst (v := nI (0)) dX11_comes_155 (by decide) ?_
          refine zp_i (y := nI (([] : List Nat).length)) rfl ?_
          refine zp_put (fs' := [.int (th), .ref (65), .ref (66), .ref (67), .ref (68), .ref (69), .ref (70), .ref (71), .ref (72), .ref (73), .ref (74), .ref (75), .ref (76), .ref (77), .ref (78), .ref (79), .ref (80), .ref (81), .ref (82), .ref (83), .ref (84), .int (nI (([] : List Nat).length)), .int (nI (1)), .int (rp), .int (wi), .int (pa), .int (nI (x)), .int (zrun la ru (nI x)), .int (sa), .int ((m1) + (nI (1))), .int ((s1) + (nI (1))), .int (ta), .int ((fa) + (nI (1))), .ref (85), .ref (86), .ref (87), .int (nI (mn)), .ref (88), .ref (89), .ref (90), .ref (91), .ref (92), .ref (93), .int (nI (tp)), .ref (94), .int (nI (ou))]) dX11_comes_156 pX11_206_10 (by omega) k43_0 (Nat.le_of_ble_eq_true rfl) (zfit_i _) rfl ?_
          refine zp_nh (fun h45x eh45x => ?_)
          have k45_0 : h45x (64) = some (.inl (10, [.int (th), .ref (65), .ref (66), .ref (67), .ref (68), .ref (69), .ref (70), .ref (71), .ref (72), .ref (73), .ref (74), .ref (75), .ref (76), .ref (77), .ref (78), .ref (79), .ref (80), .ref (81), .ref (82), .ref (83), .ref (84), .int (nI (([] : List Nat).length)), .int (nI (1)), .int (rp), .int (wi), .int (pa), .int (nI (x)), .int (zrun la ru (nI x)), .int (sa), .int ((m1) + (nI (1))), .int ((s1) + (nI (1))), .int (ta), .int ((fa) + (nI (1))), .ref (85), .ref (86), .ref (87), .int (nI (mn)), .ref (88), .ref (89), .ref (90), .ref (91), .ref (92), .ref (93), .int (nI (tp)), .ref (94), .int (nI (ou))])) := by rw [eh45x]; exact va_up_self _ _ _
          have k45_1 := (congrFun eh45x (84)).trans ((va_up_ne _ _ (by omega)).trans k43_1)
          have sw46 : zsm h43x h45x (zon (64)) := zsm.rf.up eh45x rfl
          have zw46 : zsh h43x h45x := zsh.obj eh45x k43_0
          refine zp_goto (tgt := 182) dX11_comes_159 (by decide) ?_
          refine zp_pc (pc' := 182) rfl ?_
          have dT : (decide (zrun la ru (nI x) = rp ∨ zfrq pa sa me (nI x) = true)) = true := by rcases Bool.eq_false_or_eq_true (decide (zrun la ru (nI x) = rp ∨ zfrq pa sa me (nI x) = true)) with q | q; exact q; rw [q] at c136; exact absurd rfl c136
          have bd : (zrun la ru (nI x) = rp ∨ zfrq pa sa me (nI x) = true) := of_decide_eq_true dT
          have eZ : zS12 (w, rp, wi, pa, un, la, ru, sa, me, se, ta, fa) x = ([], rp, wi, pa, true, (nI x), zrun la ru (nI x), sa, me + nI 1, se + nI 1, ta, fa + nI 1) := by show (if _ then _ else _) = _; rw [if_pos bd, eS]
          refine zp_ret (v := none) dX11_comes_182 ⟨rfl, rfl⟩ (by decide) (by decide) ?_
          rw [hQ]
          exact ⟨rfl, rfl, (((((((sw4).mono (fun i hi => by unfold zsw2; unfold zon at hi; omega)).trans ((sw6).mono (fun i hi => by unfold zsw2; unfold zon at hi; omega))).trans ((sw33).mono (fun i hi => by unfold zsw2; unfold zon at hi; omega))).trans ((sw36).mono (fun i hi => by unfold zsw2; unfold zon at hi; omega))).trans ((sw42).mono (fun i hi => by unfold zsw2; unfold zon at hi; omega))).trans ((sw44).mono (fun i hi => by unfold zsw2; unfold zon at hi; omega))).trans ((sw46).mono (fun i hi => by unfold zsw2; unfold zon at hi; omega)), ((((((zw4).trans zw6).trans zw33).trans zw36).trans zw42).trans zw44).trans zw46, (m1) + (nI (1)), (s1) + (nI (1)), by rw [eZ]; exact k45_0, by rw [eZ]; exact fun _ => ⟨by rw [em], by rw [es]⟩, by rw [eZ]; exact zar.mk (L := 0) k45_1 rfl (by omega) (by decide) (fun y hy => absurd hy (List.not_mem_nil)) (fun j hj => absurd hj (by omega))⟩
      · refine zp_aload_n dX11_comes_130 rfl ?_
        refine zp_iconst (v := (-1)) dX11_comes_131 (by decide) ?_
        refine zp_put (fs' := [.int (th), .ref (65), .ref (66), .ref (67), .ref (68), .ref (69), .ref (70), .ref (71), .ref (72), .ref (73), .ref (74), .ref (75), .ref (76), .ref (77), .ref (78), .ref (79), .ref (80), .ref (81), .ref (82), .ref (83), .ref (84), .int (nI (w.length)), .int (nI (zbi un)), .int (rp), .int (wi), .int (pa), .int (nI (x)), .int (zrun la ru (nI x)), .int ((-1)), .int ((m1) + (nI (1))), .int ((s1) + (nI (1))), .int (ta), .int (fa), .ref (85), .ref (86), .ref (87), .int (nI (mn)), .ref (88), .ref (89), .ref (90), .ref (91), .ref (92), .ref (93), .int (nI (tp)), .ref (94), .int (nI (ou))]) dX11_comes_132 pX11_84_10 (by omega) k35_0 (Nat.le_of_ble_eq_true rfl) (zfit_i _) rfl ?_
        refine zp_nh (fun h47x eh47x => ?_)
        have k47_0 : h47x (64) = some (.inl (10, [.int (th), .ref (65), .ref (66), .ref (67), .ref (68), .ref (69), .ref (70), .ref (71), .ref (72), .ref (73), .ref (74), .ref (75), .ref (76), .ref (77), .ref (78), .ref (79), .ref (80), .ref (81), .ref (82), .ref (83), .ref (84), .int (nI (w.length)), .int (nI (zbi un)), .int (rp), .int (wi), .int (pa), .int (nI (x)), .int (zrun la ru (nI x)), .int ((-1)), .int ((m1) + (nI (1))), .int ((s1) + (nI (1))), .int (ta), .int (fa), .ref (85), .ref (86), .ref (87), .int (nI (mn)), .ref (88), .ref (89), .ref (90), .ref (91), .ref (92), .ref (93), .int (nI (tp)), .ref (94), .int (nI (ou))])) := by rw [eh47x]; exact va_up_self _ _ _
        have k47_1 := (congrFun eh47x (84)).trans ((va_up_ne _ _ (by omega)).trans k35_1)
        have sw48 : zsm h35x h47x (zon (64)) := zsm.rf.up eh47x rfl
        have zw48 : zsh h35x h47x := zsh.obj eh47x k35_0
        refine zp_iload_n dX11_comes_135 rfl ?_
        refine zp_pc (pc' := 136) rfl ?_
        have eS : zsmp wi sa me se (nI x) = (-1, nI 0, nI 0) := by unfold zsmp; rw [if_neg c49, if_pos (by rw [← es]; exact c127)]
        refine zn_if_eq (tgt := 162) dX11_comes_136 (by decide) (by have := zbi_lt (decide (zrun la ru (nI x) = rp ∨ zfrq pa sa me (nI x) = true)); omega) (fun c136 => ?_) (fun c136 => ?_)
        · refine zp_aload_n dX11_comes_162 rfl ?_
          refine zp_get dX11_comes_163 gX11_68_10 k47_0 rfl ?_
          refine zp_aload_n dX11_comes_166 rfl ?_
          refine zp_get dX11_comes_167 gX11_206_10 k47_0 rfl ?_
          refine zp_iload_n dX11_comes_170 rfl ?_
          refine zn_iast dX11_comes_171 (by omega) k47_1 (by omega) (by omega) ?_
          refine zp_nh (fun h49x eh49x => ?_)
          have k49_0 := (congrFun eh49x (64)).trans ((va_up_ne _ _ (by omega)).trans k47_0)
          have k49_1 : h49x (84) = some (.inr (1000, .inl (va_up lf1 (w.length) (nI (x))))) := by rw [eh49x]; exact va_up_self _ _ _
          have sw50 : zsm h47x h49x (zon (84)) := zsm.rf.up eh49x rfl
          have zw50 : zsh h47x h49x := zsh.fill eh49x k47_1
          refine zp_aload_n dX11_comes_172 rfl ?_
          refine zp_dup dX11_comes_173 rfl ?_
          refine zp_get dX11_comes_174 gX11_206_10 k49_0 rfl ?_
          refine zp_pc (pc' := 177) rfl ?_
          refine zp_iconst (v := nI (1)) dX11_comes_177 (by decide) ?_
          refine zp_i (y := nI ((w ++ [x]).length)) (by rw [List.length_append]; rfl) ?_
          refine zn_iadd dX11_comes_178 ?_
          refine zp_put (fs' := [.int (th), .ref (65), .ref (66), .ref (67), .ref (68), .ref (69), .ref (70), .ref (71), .ref (72), .ref (73), .ref (74), .ref (75), .ref (76), .ref (77), .ref (78), .ref (79), .ref (80), .ref (81), .ref (82), .ref (83), .ref (84), .int (nI ((w.length) + ((w ++ [x]).length))), .int (nI (zbi un)), .int (rp), .int (wi), .int (pa), .int (nI (x)), .int (zrun la ru (nI x)), .int ((-1)), .int ((m1) + (nI (1))), .int ((s1) + (nI (1))), .int (ta), .int (fa), .ref (85), .ref (86), .ref (87), .int (nI (mn)), .ref (88), .ref (89), .ref (90), .ref (91), .ref (92), .ref (93), .int (nI (tp)), .ref (94), .int (nI (ou))]) dX11_comes_179 pX11_206_10 (by omega) k49_0 (Nat.le_of_ble_eq_true rfl) (zfit_i _) rfl ?_
          refine zp_nh (fun h51x eh51x => ?_)
          have k51_0 : h51x (64) = some (.inl (10, [.int (th), .ref (65), .ref (66), .ref (67), .ref (68), .ref (69), .ref (70), .ref (71), .ref (72), .ref (73), .ref (74), .ref (75), .ref (76), .ref (77), .ref (78), .ref (79), .ref (80), .ref (81), .ref (82), .ref (83), .ref (84), .int (nI ((w.length) + ((w ++ [x]).length))), .int (nI (zbi un)), .int (rp), .int (wi), .int (pa), .int (nI (x)), .int (zrun la ru (nI x)), .int ((-1)), .int ((m1) + (nI (1))), .int ((s1) + (nI (1))), .int (ta), .int (fa), .ref (85), .ref (86), .ref (87), .int (nI (mn)), .ref (88), .ref (89), .ref (90), .ref (91), .ref (92), .ref (93), .int (nI (tp)), .ref (94), .int (nI (ou))])) := by rw [eh51x]; exact va_up_self _ _ _
          have k51_1 := (congrFun eh51x (84)).trans ((va_up_ne _ _ (by omega)).trans k49_1)
          have sw52 : zsm h49x h51x (zon (64)) := zsm.rf.up eh51x rfl
          have zw52 : zsh h49x h51x := zsh.obj eh51x k49_0
          refine zp_pc (pc' := 182) rfl ?_
          have dF : (decide (zrun la ru (nI x) = rp ∨ zfrq pa sa me (nI x) = true)) = false := by rcases Bool.eq_false_or_eq_true (decide (zrun la ru (nI x) = rp ∨ zfrq pa sa me (nI x) = true)) with q | q; rw [q] at c136; exact absurd c136 (by decide); exact q
          have bd : ¬ (zrun la ru (nI x) = rp ∨ zfrq pa sa me (nI x) = true) := of_decide_eq_false dF
          have eZ : zS12 (w, rp, wi, pa, un, la, ru, sa, me, se, ta, fa) x = (w ++ [x], rp, wi, pa, un, (nI x), zrun la ru (nI x), -1, nI 0, nI 0, ta, fa) := by show (if _ then _ else _) = _; rw [if_neg bd, eS]
          refine zp_ret (v := none) dX11_comes_182 ⟨rfl, rfl⟩ (by decide) (by decide) ?_
          rw [hQ]
          exact ⟨rfl, rfl, (((((((sw4).mono (fun i hi => by unfold zsw2; unfold zon at hi; omega)).trans ((sw6).mono (fun i hi => by unfold zsw2; unfold zon at hi; omega))).trans ((sw33).mono (fun i hi => by unfold zsw2; unfold zon at hi; omega))).trans ((sw36).mono (fun i hi => by unfold zsw2; unfold zon at hi; omega))).trans ((sw48).mono (fun i hi => by unfold zsw2; unfold zon at hi; omega))).trans ((sw50).mono (fun i hi => by unfold zsw2; unfold zon at hi; omega))).trans ((sw52).mono (fun i hi => by unfold zsw2; unfold zon at hi; omega)), ((((((zw4).trans zw6).trans zw33).trans zw36).trans zw48).trans zw50).trans zw52, (m1) + (nI (1)), (s1) + (nI (1)), by rw [eZ]; exact k51_0, by rw [eZ]; exact fun q => absurd rfl q, by rw [eZ]; exact zar.mk (L := w.length + 1) k51_1 (by rw [List.length_append]; rfl) (by omega) (by decide) (zapp_lt lc1 (fun y hy => by rw [List.mem_singleton.mp hy]; exact hb)) (fun j hj => by
                  rcases Nat.lt_or_ge j w.length with q | q
                  · rw [va_up_ne _ _ (by omega), le1 j q, zapp_getD1 q]
                  · rw [show j = w.length by omega, va_up_self, show (w ++ [x]).getD w.length 0 = x from (zapp_getD2 (xs := w) (ys := [x]) (i := 0))])⟩
        · refine zp_aload_n dX11_comes_139 rfl ?_
          refine zp_iconst (v := nI (1)) dX11_comes_140 (by decide) ?_
          refine zp_put (fs' := [.int (th), .ref (65), .ref (66), .ref (67), .ref (68), .ref (69), .ref (70), .ref (71), .ref (72), .ref (73), .ref (74), .ref (75), .ref (76), .ref (77), .ref (78), .ref (79), .ref (80), .ref (81), .ref (82), .ref (83), .ref (84), .int (nI (w.length)), .int (nI (1)), .int (rp), .int (wi), .int (pa), .int (nI (x)), .int (zrun la ru (nI x)), .int ((-1)), .int ((m1) + (nI (1))), .int ((s1) + (nI (1))), .int (ta), .int (fa), .ref (85), .ref (86), .ref (87), .int (nI (mn)), .ref (88), .ref (89), .ref (90), .ref (91), .ref (92), .ref (93), .int (nI (tp)), .ref (94), .int (nI (ou))]) dX11_comes_141 pX11_199_10 (by omega) k47_0 (Nat.le_of_ble_eq_true rfl) zfit_1 rfl ?_
          refine zp_nh (fun h53x eh53x => ?_)
          have k53_0 : h53x (64) = some (.inl (10, [.int (th), .ref (65), .ref (66), .ref (67), .ref (68), .ref (69), .ref (70), .ref (71), .ref (72), .ref (73), .ref (74), .ref (75), .ref (76), .ref (77), .ref (78), .ref (79), .ref (80), .ref (81), .ref (82), .ref (83), .ref (84), .int (nI (w.length)), .int (nI (1)), .int (rp), .int (wi), .int (pa), .int (nI (x)), .int (zrun la ru (nI x)), .int ((-1)), .int ((m1) + (nI (1))), .int ((s1) + (nI (1))), .int (ta), .int (fa), .ref (85), .ref (86), .ref (87), .int (nI (mn)), .ref (88), .ref (89), .ref (90), .ref (91), .ref (92), .ref (93), .int (nI (tp)), .ref (94), .int (nI (ou))])) := by rw [eh53x]; exact va_up_self _ _ _
          have k53_1 := (congrFun eh53x (84)).trans ((va_up_ne _ _ (by omega)).trans k47_1)
          have sw54 : zsm h47x h53x (zon (64)) := zsm.rf.up eh53x rfl
          have zw54 : zsh h47x h53x := zsh.obj eh53x k47_0
          refine zp_aload_n dX11_comes_144 rfl ?_
          refine zp_dup dX11_comes_145 rfl ?_
          refine zp_get dX11_comes_146 gX11_203_10 k53_0 rfl ?_
          refine zp_iconst (v := nI (1)) dX11_comes_149 (by decide) ?_
          refine zp_iadd dX11_comes_150 ?_
          refine zp_put (fs' := [.int (th), .ref (65), .ref (66), .ref (67), .ref (68), .ref (69), .ref (70), .ref (71), .ref (72), .ref (73), .ref (74), .ref (75), .ref (76), .ref (77), .ref (78), .ref (79), .ref (80), .ref (81), .ref (82), .ref (83), .ref (84), .int (nI (w.length)), .int (nI (1)), .int (rp), .int (wi), .int (pa), .int (nI (x)), .int (zrun la ru (nI x)), .int ((-1)), .int ((m1) + (nI (1))), .int ((s1) + (nI (1))), .int (ta), .int ((fa) + (nI (1))), .ref (85), .ref (86), .ref (87), .int (nI (mn)), .ref (88), .ref (89), .ref (90), .ref (91), .ref (92), .ref (93), .int (nI (tp)), .ref (94), .int (nI (ou))]) dX11_comes_151 pX11_203_10 (by omega) k53_0 (Nat.le_of_ble_eq_true rfl) (zfit_i _) rfl ?_
          refine zp_nh (fun h55x eh55x => ?_)
          have k55_0 : h55x (64) = some (.inl (10, [.int (th), .ref (65), .ref (66), .ref (67), .ref (68), .ref (69), .ref (70), .ref (71), .ref (72), .ref (73), .ref (74), .ref (75), .ref (76), .ref (77), .ref (78), .ref (79), .ref (80), .ref (81), .ref (82), .ref (83), .ref (84), .int (nI (w.length)), .int (nI (1)), .int (rp), .int (wi), .int (pa), .int (nI (x)), .int (zrun la ru (nI x)), .int ((-1)), .int ((m1) + (nI (1))), .int ((s1) + (nI (1))), .int (ta), .int ((fa) + (nI (1))), .ref (85), .ref (86), .ref (87), .int (nI (mn)), .ref (88), .ref (89), .ref (90), .ref (91), .ref (92), .ref (93), .int (nI (tp)), .ref (94), .int (nI (ou))])) := by rw [eh55x]; exact va_up_self _ _ _
          have k55_1 := (congrFun eh55x (84)).trans ((va_up_ne _ _ (by omega)).trans k53_1)
          have sw56 : zsm h53x h55x (zon (64)) := zsm.rf.up eh55x rfl
          have zw56 : zsh h53x h55x := zsh.obj eh55x k53_0
          refine zp_aload_n dX11_comes_154 rfl ?_
          refine zp_pc (pc' := 155) rfl ?_
          refine zp_iconst (v := nI (0)) dX11_comes_155 (by decide) ?_
          refine zp_i (y := nI (([] : List Nat).length)) rfl ?_
          refine zp_put (fs' := [.int (th), .ref (65), .ref (66), .ref (67), .ref (68), .ref (69), .ref (70), .ref (71), .ref (72), .ref (73), .ref (74), .ref (75), .ref (76), .ref (77), .ref (78), .ref (79), .ref (80), .ref (81), .ref (82), .ref (83), .ref (84), .int (nI (([] : List Nat).length)), .int (nI (1)), .int (rp), .int (wi), .int (pa), .int (nI (x)), .int (zrun la ru (nI x)), .int ((-1)), .int ((m1) + (nI (1))), .int ((s1) + (nI (1))), .int (ta), .int ((fa) + (nI (1))), .ref (85), .ref (86), .ref (87), .int (nI (mn)), .ref (88), .ref (89), .ref (90), .ref (91), .ref (92), .ref (93), .int (nI (tp)), .ref (94), .int (nI (ou))]) dX11_comes_156 pX11_206_10 (by omega) k55_0 (Nat.le_of_ble_eq_true rfl) (zfit_i _) rfl ?_
          refine zp_nh (fun h57x eh57x => ?_)
          have k57_0 : h57x (64) = some (.inl (10, [.int (th), .ref (65), .ref (66), .ref (67), .ref (68), .ref (69), .ref (70), .ref (71), .ref (72), .ref (73), .ref (74), .ref (75), .ref (76), .ref (77), .ref (78), .ref (79), .ref (80), .ref (81), .ref (82), .ref (83), .ref (84), .int (nI (([] : List Nat).length)), .int (nI (1)), .int (rp), .int (wi), .int (pa), .int (nI (x)), .int (zrun la ru (nI x)), .int ((-1)), .int ((m1) + (nI (1))), .int ((s1) + (nI (1))), .int (ta), .int ((fa) + (nI (1))), .ref (85), .ref (86), .ref (87), .int (nI (mn)), .ref (88), .ref (89), .ref (90), .ref (91), .ref (92), .ref (93), .int (nI (tp)), .ref (94), .int (nI (ou))])) := by rw [eh57x]; exact va_up_self _ _ _
          have k57_1 := (congrFun eh57x (84)).trans ((va_up_ne _ _ (by omega)).trans k55_1)
          have sw58 : zsm h55x h57x (zon (64)) := zsm.rf.up eh57x rfl
          have zw58 : zsh h55x h57x := zsh.obj eh57x k55_0
          refine zp_goto (tgt := 182) dX11_comes_159 (by decide) ?_
          refine zp_pc (pc' := 182) rfl ?_
          have dT : (decide (zrun la ru (nI x) = rp ∨ zfrq pa sa me (nI x) = true)) = true := by rcases Bool.eq_false_or_eq_true (decide (zrun la ru (nI x) = rp ∨ zfrq pa sa me (nI x) = true)) with q | q; exact q; rw [q] at c136; exact absurd rfl c136
          have bd : (zrun la ru (nI x) = rp ∨ zfrq pa sa me (nI x) = true) := of_decide_eq_true dT
          have eZ : zS12 (w, rp, wi, pa, un, la, ru, sa, me, se, ta, fa) x = ([], rp, wi, pa, true, (nI x), zrun la ru (nI x), -1, nI 0, nI 0, ta, fa + nI 1) := by show (if _ then _ else _) = _; rw [if_pos bd, eS]
          refine zp_ret (v := none) dX11_comes_182 ⟨rfl, rfl⟩ (by decide) (by decide) ?_
          rw [hQ]
          exact ⟨rfl, rfl, ((((((((sw4).mono (fun i hi => by unfold zsw2; unfold zon at hi; omega)).trans ((sw6).mono (fun i hi => by unfold zsw2; unfold zon at hi; omega))).trans ((sw33).mono (fun i hi => by unfold zsw2; unfold zon at hi; omega))).trans ((sw36).mono (fun i hi => by unfold zsw2; unfold zon at hi; omega))).trans ((sw48).mono (fun i hi => by unfold zsw2; unfold zon at hi; omega))).trans ((sw54).mono (fun i hi => by unfold zsw2; unfold zon at hi; omega))).trans ((sw56).mono (fun i hi => by unfold zsw2; unfold zon at hi; omega))).trans ((sw58).mono (fun i hi => by unfold zsw2; unfold zon at hi; omega)), (((((((zw4).trans zw6).trans zw33).trans zw36).trans zw48).trans zw54).trans zw56).trans zw58, (m1) + (nI (1)), (s1) + (nI (1)), by rw [eZ]; exact k57_0, by rw [eZ]; exact fun q => absurd rfl q, by rw [eZ]; exact zar.mk (L := 0) k57_1 rfl (by omega) (by decide) (fun y hy => absurd hy (List.not_mem_nil)) (fun j hj => absurd hj (by omega))⟩
  · have ef : zfrq pa sa me (nI x) = false := by unfold zfrq; rw [if_pos c49]
    refine zp_aload_n dX11_comes_52 rfl ?_
    refine zp_iload_n dX11_comes_53 rfl ?_
    refine zp_put (fs' := [.int (th), .ref (65), .ref (66), .ref (67), .ref (68), .ref (69), .ref (70), .ref (71), .ref (72), .ref (73), .ref (74), .ref (75), .ref (76), .ref (77), .ref (78), .ref (79), .ref (80), .ref (81), .ref (82), .ref (83), .ref (84), .int (nI (w.length)), .int (nI (zbi un)), .int (rp), .int (wi), .int (pa), .int (nI (x)), .int (zrun la ru (nI x)), .int (nI (x)), .int (m1), .int (s1), .int (ta), .int (fa), .ref (85), .ref (86), .ref (87), .int (nI (mn)), .ref (88), .ref (89), .ref (90), .ref (91), .ref (92), .ref (93), .int (nI (tp)), .ref (94), .int (nI (ou))]) dX11_comes_54 pX11_84_10 (by omega) k5_0 (Nat.le_of_ble_eq_true rfl) (zfit_i _) rfl ?_
    refine zp_nh (fun h59x eh59x => ?_)
    have k59_0 : h59x (64) = some (.inl (10, [.int (th), .ref (65), .ref (66), .ref (67), .ref (68), .ref (69), .ref (70), .ref (71), .ref (72), .ref (73), .ref (74), .ref (75), .ref (76), .ref (77), .ref (78), .ref (79), .ref (80), .ref (81), .ref (82), .ref (83), .ref (84), .int (nI (w.length)), .int (nI (zbi un)), .int (rp), .int (wi), .int (pa), .int (nI (x)), .int (zrun la ru (nI x)), .int (nI (x)), .int (m1), .int (s1), .int (ta), .int (fa), .ref (85), .ref (86), .ref (87), .int (nI (mn)), .ref (88), .ref (89), .ref (90), .ref (91), .ref (92), .ref (93), .int (nI (tp)), .ref (94), .int (nI (ou))])) := by rw [eh59x]; exact va_up_self _ _ _
    have k59_1 := (congrFun eh59x (84)).trans ((va_up_ne _ _ (by omega)).trans k5_1)
    have sw60 : zsm h5x h59x (zon (64)) := zsm.rf.up eh59x rfl
    have zw60 : zsh h5x h59x := zsh.obj eh59x k5_0
    refine zp_aload_n dX11_comes_57 rfl ?_
    refine zp_iconst (v := nI (1)) dX11_comes_58 (by decide) ?_
    refine zp_put (fs' := [.int (th), .ref (65), .ref (66), .ref (67), .ref (68), .ref (69), .ref (70), .ref (71), .ref (72), .ref (73), .ref (74), .ref (75), .ref (76), .ref (77), .ref (78), .ref (79), .ref (80), .ref (81), .ref (82), .ref (83), .ref (84), .int (nI (w.length)), .int (nI (zbi un)), .int (rp), .int (wi), .int (pa), .int (nI (x)), .int (zrun la ru (nI x)), .int (nI (x)), .int (nI (1)), .int (s1), .int (ta), .int (fa), .ref (85), .ref (86), .ref (87), .int (nI (mn)), .ref (88), .ref (89), .ref (90), .ref (91), .ref (92), .ref (93), .int (nI (tp)), .ref (94), .int (nI (ou))]) dX11_comes_59 pX11_193_10 (by omega) k59_0 (Nat.le_of_ble_eq_true rfl) (zfit_i _) rfl ?_
    refine zp_nh (fun h61x eh61x => ?_)
    have k61_0 : h61x (64) = some (.inl (10, [.int (th), .ref (65), .ref (66), .ref (67), .ref (68), .ref (69), .ref (70), .ref (71), .ref (72), .ref (73), .ref (74), .ref (75), .ref (76), .ref (77), .ref (78), .ref (79), .ref (80), .ref (81), .ref (82), .ref (83), .ref (84), .int (nI (w.length)), .int (nI (zbi un)), .int (rp), .int (wi), .int (pa), .int (nI (x)), .int (zrun la ru (nI x)), .int (nI (x)), .int (nI (1)), .int (s1), .int (ta), .int (fa), .ref (85), .ref (86), .ref (87), .int (nI (mn)), .ref (88), .ref (89), .ref (90), .ref (91), .ref (92), .ref (93), .int (nI (tp)), .ref (94), .int (nI (ou))])) := by rw [eh61x]; exact va_up_self _ _ _
    have k61_1 := (congrFun eh61x (84)).trans ((va_up_ne _ _ (by omega)).trans k59_1)
    have sw62 : zsm h59x h61x (zon (64)) := zsm.rf.up eh61x rfl
    have zw62 : zsh h59x h61x := zsh.obj eh61x k59_0
    refine zp_aload_n dX11_comes_62 rfl ?_
    refine zp_iconst (v := nI (1)) dX11_comes_63 (by decide) ?_
    refine zp_put (fs' := [.int (th), .ref (65), .ref (66), .ref (67), .ref (68), .ref (69), .ref (70), .ref (71), .ref (72), .ref (73), .ref (74), .ref (75), .ref (76), .ref (77), .ref (78), .ref (79), .ref (80), .ref (81), .ref (82), .ref (83), .ref (84), .int (nI (w.length)), .int (nI (zbi un)), .int (rp), .int (wi), .int (pa), .int (nI (x)), .int (zrun la ru (nI x)), .int (nI (x)), .int (nI (1)), .int (nI (1)), .int (ta), .int (fa), .ref (85), .ref (86), .ref (87), .int (nI (mn)), .ref (88), .ref (89), .ref (90), .ref (91), .ref (92), .ref (93), .int (nI (tp)), .ref (94), .int (nI (ou))]) dX11_comes_64 pX11_196_10 (by omega) k61_0 (Nat.le_of_ble_eq_true rfl) (zfit_i _) rfl ?_
    refine zp_nh (fun h63x eh63x => ?_)
    have k63_0 : h63x (64) = some (.inl (10, [.int (th), .ref (65), .ref (66), .ref (67), .ref (68), .ref (69), .ref (70), .ref (71), .ref (72), .ref (73), .ref (74), .ref (75), .ref (76), .ref (77), .ref (78), .ref (79), .ref (80), .ref (81), .ref (82), .ref (83), .ref (84), .int (nI (w.length)), .int (nI (zbi un)), .int (rp), .int (wi), .int (pa), .int (nI (x)), .int (zrun la ru (nI x)), .int (nI (x)), .int (nI (1)), .int (nI (1)), .int (ta), .int (fa), .ref (85), .ref (86), .ref (87), .int (nI (mn)), .ref (88), .ref (89), .ref (90), .ref (91), .ref (92), .ref (93), .int (nI (tp)), .ref (94), .int (nI (ou))])) := by rw [eh63x]; exact va_up_self _ _ _
    have k63_1 := (congrFun eh63x (84)).trans ((va_up_ne _ _ (by omega)).trans k61_1)
    have sw64 : zsm h61x h63x (zon (64)) := zsm.rf.up eh63x rfl
    have zw64 : zsh h61x h63x := zsh.obj eh63x k61_0
    refine zp_goto (tgt := 135) dX11_comes_67 (by decide) ?_
    refine zp_pc (pc' := 135) rfl ?_
    refine zp_iload_n dX11_comes_135 rfl ?_
    refine zp_pc (pc' := 136) rfl ?_
    have eS : zsmp wi sa me se (nI x) = ((nI x), nI 1, nI 1) := by unfold zsmp; rw [if_pos c49]
    refine zn_if_eq (tgt := 162) dX11_comes_136 (by decide) (by have := zbi_lt (decide (zrun la ru (nI x) = rp)); omega) (fun c136 => ?_) (fun c136 => ?_)
    · refine zp_aload_n dX11_comes_162 rfl ?_
      refine zp_get dX11_comes_163 gX11_68_10 k63_0 rfl ?_
      refine zp_aload_n dX11_comes_166 rfl ?_
      refine zp_get dX11_comes_167 gX11_206_10 k63_0 rfl ?_
      refine zp_iload_n dX11_comes_170 rfl ?_
      refine zn_iast dX11_comes_171 (by omega) k63_1 (by omega) (by omega) ?_
      refine zp_nh (fun h65x eh65x => ?_)
      have k65_0 := (congrFun eh65x (64)).trans ((va_up_ne _ _ (by omega)).trans k63_0)
      have k65_1 : h65x (84) = some (.inr (1000, .inl (va_up lf1 (w.length) (nI (x))))) := by rw [eh65x]; exact va_up_self _ _ _
      have sw66 : zsm h63x h65x (zon (84)) := zsm.rf.up eh65x rfl
      have zw66 : zsh h63x h65x := zsh.fill eh65x k63_1
      refine zp_aload_n dX11_comes_172 rfl ?_
      refine zp_dup dX11_comes_173 rfl ?_
      refine zp_get dX11_comes_174 gX11_206_10 k65_0 rfl ?_
      refine zp_pc (pc' := 177) rfl ?_
      refine zp_iconst (v := nI (1)) dX11_comes_177 (by decide) ?_
      refine zp_i (y := nI ((w ++ [x]).length)) (by rw [List.length_append]; rfl) ?_
      refine zn_iadd dX11_comes_178 ?_
      refine zp_put (fs' := [.int (th), .ref (65), .ref (66), .ref (67), .ref (68), .ref (69), .ref (70), .ref (71), .ref (72), .ref (73), .ref (74), .ref (75), .ref (76), .ref (77), .ref (78), .ref (79), .ref (80), .ref (81), .ref (82), .ref (83), .ref (84), .int (nI ((w.length) + ((w ++ [x]).length))), .int (nI (zbi un)), .int (rp), .int (wi), .int (pa), .int (nI (x)), .int (zrun la ru (nI x)), .int (nI (x)), .int (nI (1)), .int (nI (1)), .int (ta), .int (fa), .ref (85), .ref (86), .ref (87), .int (nI (mn)), .ref (88), .ref (89), .ref (90), .ref (91), .ref (92), .ref (93), .int (nI (tp)), .ref (94), .int (nI (ou))]) dX11_comes_179 pX11_206_10 (by omega) k65_0 (Nat.le_of_ble_eq_true rfl) (zfit_i _) rfl ?_
      refine zp_nh (fun h67x eh67x => ?_)
      have k67_0 : h67x (64) = some (.inl (10, [.int (th), .ref (65), .ref (66), .ref (67), .ref (68), .ref (69), .ref (70), .ref (71), .ref (72), .ref (73), .ref (74), .ref (75), .ref (76), .ref (77), .ref (78), .ref (79), .ref (80), .ref (81), .ref (82), .ref (83), .ref (84), .int (nI ((w.length) + ((w ++ [x]).length))), .int (nI (zbi un)), .int (rp), .int (wi), .int (pa), .int (nI (x)), .int (zrun la ru (nI x)), .int (nI (x)), .int (nI (1)), .int (nI (1)), .int (ta), .int (fa), .ref (85), .ref (86), .ref (87), .int (nI (mn)), .ref (88), .ref (89), .ref (90), .ref (91), .ref (92), .ref (93), .int (nI (tp)), .ref (94), .int (nI (ou))])) := by rw [eh67x]; exact va_up_self _ _ _
      have k67_1 := (congrFun eh67x (84)).trans ((va_up_ne _ _ (by omega)).trans k65_1)
      have sw68 : zsm h65x h67x (zon (64)) := zsm.rf.up eh67x rfl
      have zw68 : zsh h65x h67x := zsh.obj eh67x k65_0
      refine zp_pc (pc' := 182) rfl ?_
      have dF : (decide (zrun la ru (nI x) = rp)) = false := by rcases Bool.eq_false_or_eq_true (decide (zrun la ru (nI x) = rp)) with q | q; rw [q] at c136; exact absurd c136 (by decide); exact q
      have bd : ¬ (zrun la ru (nI x) = rp ∨ zfrq pa sa me (nI x) = true) := fun q => q.elim (of_decide_eq_false dF) (fun q => by rw [ef] at q; cases q)
      have eZ : zS12 (w, rp, wi, pa, un, la, ru, sa, me, se, ta, fa) x = (w ++ [x], rp, wi, pa, un, (nI x), zrun la ru (nI x), (nI x), nI 1, nI 1, ta, fa) := by show (if _ then _ else _) = _; rw [if_neg bd, eS]
      refine zp_ret (v := none) dX11_comes_182 ⟨rfl, rfl⟩ (by decide) (by decide) ?_
      rw [hQ]
      exact ⟨rfl, rfl, (((((((sw4).mono (fun i hi => by unfold zsw2; unfold zon at hi; omega)).trans ((sw6).mono (fun i hi => by unfold zsw2; unfold zon at hi; omega))).trans ((sw60).mono (fun i hi => by unfold zsw2; unfold zon at hi; omega))).trans ((sw62).mono (fun i hi => by unfold zsw2; unfold zon at hi; omega))).trans ((sw64).mono (fun i hi => by unfold zsw2; unfold zon at hi; omega))).trans ((sw66).mono (fun i hi => by unfold zsw2; unfold zon at hi; omega))).trans ((sw68).mono (fun i hi => by unfold zsw2; unfold zon at hi; omega)), ((((((zw4).trans zw6).trans zw60).trans zw62).trans zw64).trans zw66).trans zw68, nI (1), nI (1), by rw [eZ]; exact k67_0, by rw [eZ]; exact fun _ => ⟨rfl, rfl⟩, by rw [eZ]; exact zar.mk (L := w.length + 1) k67_1 (by rw [List.length_append]; rfl) (by omega) (by decide) (zapp_lt lc1 (fun y hy => by rw [List.mem_singleton.mp hy]; exact hb)) (fun j hj => by
              rcases Nat.lt_or_ge j w.length with q | q
              · rw [va_up_ne _ _ (by omega), le1 j q, zapp_getD1 q]
              · rw [show j = w.length by omega, va_up_self, show (w ++ [x]).getD w.length 0 = x from (zapp_getD2 (xs := w) (ys := [x]) (i := 0))])⟩
    · refine zp_aload_n dX11_comes_139 rfl ?_
      refine zp_iconst (v := nI (1)) dX11_comes_140 (by decide) ?_
      refine zp_put (fs' := [.int (th), .ref (65), .ref (66), .ref (67), .ref (68), .ref (69), .ref (70), .ref (71), .ref (72), .ref (73), .ref (74), .ref (75), .ref (76), .ref (77), .ref (78), .ref (79), .ref (80), .ref (81), .ref (82), .ref (83), .ref (84), .int (nI (w.length)), .int (nI (1)), .int (rp), .int (wi), .int (pa), .int (nI (x)), .int (zrun la ru (nI x)), .int (nI (x)), .int (nI (1)), .int (nI (1)), .int (ta), .int (fa), .ref (85), .ref (86), .ref (87), .int (nI (mn)), .ref (88), .ref (89), .ref (90), .ref (91), .ref (92), .ref (93), .int (nI (tp)), .ref (94), .int (nI (ou))]) dX11_comes_141 pX11_199_10 (by omega) k63_0 (Nat.le_of_ble_eq_true rfl) zfit_1 rfl ?_
      refine zp_nh (fun h69x eh69x => ?_)
      have k69_0 : h69x (64) = some (.inl (10, [.int (th), .ref (65), .ref (66), .ref (67), .ref (68), .ref (69), .ref (70), .ref (71), .ref (72), .ref (73), .ref (74), .ref (75), .ref (76), .ref (77), .ref (78), .ref (79), .ref (80), .ref (81), .ref (82), .ref (83), .ref (84), .int (nI (w.length)), .int (nI (1)), .int (rp), .int (wi), .int (pa), .int (nI (x)), .int (zrun la ru (nI x)), .int (nI (x)), .int (nI (1)), .int (nI (1)), .int (ta), .int (fa), .ref (85), .ref (86), .ref (87), .int (nI (mn)), .ref (88), .ref (89), .ref (90), .ref (91), .ref (92), .ref (93), .int (nI (tp)), .ref (94), .int (nI (ou))])) := by rw [eh69x]; exact va_up_self _ _ _
      have k69_1 := (congrFun eh69x (84)).trans ((va_up_ne _ _ (by omega)).trans k63_1)
      have sw70 : zsm h63x h69x (zon (64)) := zsm.rf.up eh69x rfl
      have zw70 : zsh h63x h69x := zsh.obj eh69x k63_0
      refine zp_aload_n dX11_comes_144 rfl ?_
      refine zp_dup dX11_comes_145 rfl ?_
      refine zp_get dX11_comes_146 gX11_203_10 k69_0 rfl ?_
      refine zp_iconst (v := nI (1)) dX11_comes_149 (by decide) ?_
      refine zp_iadd dX11_comes_150 ?_
      refine zp_put (fs' := [.int (th), .ref (65), .ref (66), .ref (67), .ref (68), .ref (69), .ref (70), .ref (71), .ref (72), .ref (73), .ref (74), .ref (75), .ref (76), .ref (77), .ref (78), .ref (79), .ref (80), .ref (81), .ref (82), .ref (83), .ref (84), .int (nI (w.length)), .int (nI (1)), .int (rp), .int (wi), .int (pa), .int (nI (x)), .int (zrun la ru (nI x)), .int (nI (x)), .int (nI (1)), .int (nI (1)), .int (ta), .int ((fa) + (nI (1))), .ref (85), .ref (86), .ref (87), .int (nI (mn)), .ref (88), .ref (89), .ref (90), .ref (91), .ref (92), .ref (93), .int (nI (tp)), .ref (94), .int (nI (ou))]) dX11_comes_151 pX11_203_10 (by omega) k69_0 (Nat.le_of_ble_eq_true rfl) (zfit_i _) rfl ?_
      refine zp_nh (fun h71x eh71x => ?_)
      have k71_0 : h71x (64) = some (.inl (10, [.int (th), .ref (65), .ref (66), .ref (67), .ref (68), .ref (69), .ref (70), .ref (71), .ref (72), .ref (73), .ref (74), .ref (75), .ref (76), .ref (77), .ref (78), .ref (79), .ref (80), .ref (81), .ref (82), .ref (83), .ref (84), .int (nI (w.length)), .int (nI (1)), .int (rp), .int (wi), .int (pa), .int (nI (x)), .int (zrun la ru (nI x)), .int (nI (x)), .int (nI (1)), .int (nI (1)), .int (ta), .int ((fa) + (nI (1))), .ref (85), .ref (86), .ref (87), .int (nI (mn)), .ref (88), .ref (89), .ref (90), .ref (91), .ref (92), .ref (93), .int (nI (tp)), .ref (94), .int (nI (ou))])) := by rw [eh71x]; exact va_up_self _ _ _
      have k71_1 := (congrFun eh71x (84)).trans ((va_up_ne _ _ (by omega)).trans k69_1)
      have sw72 : zsm h69x h71x (zon (64)) := zsm.rf.up eh71x rfl
      have zw72 : zsh h69x h71x := zsh.obj eh71x k69_0
      refine zp_aload_n dX11_comes_154 rfl ?_
      refine zp_pc (pc' := 155) rfl ?_
      refine zp_iconst (v := nI (0)) dX11_comes_155 (by decide) ?_
      refine zp_i (y := nI (([] : List Nat).length)) rfl ?_
      refine zp_put (fs' := [.int (th), .ref (65), .ref (66), .ref (67), .ref (68), .ref (69), .ref (70), .ref (71), .ref (72), .ref (73), .ref (74), .ref (75), .ref (76), .ref (77), .ref (78), .ref (79), .ref (80), .ref (81), .ref (82), .ref (83), .ref (84), .int (nI (([] : List Nat).length)), .int (nI (1)), .int (rp), .int (wi), .int (pa), .int (nI (x)), .int (zrun la ru (nI x)), .int (nI (x)), .int (nI (1)), .int (nI (1)), .int (ta), .int ((fa) + (nI (1))), .ref (85), .ref (86), .ref (87), .int (nI (mn)), .ref (88), .ref (89), .ref (90), .ref (91), .ref (92), .ref (93), .int (nI (tp)), .ref (94), .int (nI (ou))]) dX11_comes_156 pX11_206_10 (by omega) k71_0 (Nat.le_of_ble_eq_true rfl) (zfit_i _) rfl ?_
      refine zp_nh (fun h73x eh73x => ?_)
      have k73_0 : h73x (64) = some (.inl (10, [.int (th), .ref (65), .ref (66), .ref (67), .ref (68), .ref (69), .ref (70), .ref (71), .ref (72), .ref (73), .ref (74), .ref (75), .ref (76), .ref (77), .ref (78), .ref (79), .ref (80), .ref (81), .ref (82), .ref (83), .ref (84), .int (nI (([] : List Nat).length)), .int (nI (1)), .int (rp), .int (wi), .int (pa), .int (nI (x)), .int (zrun la ru (nI x)), .int (nI (x)), .int (nI (1)), .int (nI (1)), .int (ta), .int ((fa) + (nI (1))), .ref (85), .ref (86), .ref (87), .int (nI (mn)), .ref (88), .ref (89), .ref (90), .ref (91), .ref (92), .ref (93), .int (nI (tp)), .ref (94), .int (nI (ou))])) := by rw [eh73x]; exact va_up_self _ _ _
      have k73_1 := (congrFun eh73x (84)).trans ((va_up_ne _ _ (by omega)).trans k71_1)
      have sw74 : zsm h71x h73x (zon (64)) := zsm.rf.up eh73x rfl
      have zw74 : zsh h71x h73x := zsh.obj eh73x k71_0
      refine zp_goto (tgt := 182) dX11_comes_159 (by decide) ?_
      refine zp_pc (pc' := 182) rfl ?_
      have dT : (decide (zrun la ru (nI x) = rp)) = true := by rcases Bool.eq_false_or_eq_true (decide (zrun la ru (nI x) = rp)) with q | q; exact q; rw [q] at c136; exact absurd rfl c136
      have bd : (zrun la ru (nI x) = rp ∨ zfrq pa sa me (nI x) = true) := Or.inl (of_decide_eq_true dT)
      have eZ : zS12 (w, rp, wi, pa, un, la, ru, sa, me, se, ta, fa) x = ([], rp, wi, pa, true, (nI x), zrun la ru (nI x), (nI x), nI 1, nI 1, ta, fa + nI 1) := by show (if _ then _ else _) = _; rw [if_pos bd, eS]
      refine zp_ret (v := none) dX11_comes_182 ⟨rfl, rfl⟩ (by decide) (by decide) ?_
      rw [hQ]
      exact ⟨rfl, rfl, ((((((((sw4).mono (fun i hi => by unfold zsw2; unfold zon at hi; omega)).trans ((sw6).mono (fun i hi => by unfold zsw2; unfold zon at hi; omega))).trans ((sw60).mono (fun i hi => by unfold zsw2; unfold zon at hi; omega))).trans ((sw62).mono (fun i hi => by unfold zsw2; unfold zon at hi; omega))).trans ((sw64).mono (fun i hi => by unfold zsw2; unfold zon at hi; omega))).trans ((sw70).mono (fun i hi => by unfold zsw2; unfold zon at hi; omega))).trans ((sw72).mono (fun i hi => by unfold zsw2; unfold zon at hi; omega))).trans ((sw74).mono (fun i hi => by unfold zsw2; unfold zon at hi; omega)), (((((((zw4).trans zw6).trans zw60).trans zw62).trans zw64).trans zw70).trans zw72).trans zw74, nI (1), nI (1), by rw [eZ]; exact k73_0, by rw [eZ]; exact fun _ => ⟨rfl, rfl⟩, by rw [eZ]; exact zar.mk (L := 0) k73_1 rfl (by omega) (by decide) (fun y hy => absurd hy (List.not_mem_nil)) (fun j hj => absurd hj (by omega))⟩
