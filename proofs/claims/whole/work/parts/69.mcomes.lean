/-! the reference: its supply -/
def zmoc (th : Int32) (mn tp ou : Nat) (m1 s1 : Int32) : ZSup → ZC
  | (w, rp, wi, pa, un, la, ru, sa, _, _, ta, fa) => .inl (10, [.int (th), .ref (65), .ref (66), .ref (67), .ref (68), .ref (69), .ref (70), .ref (71), .ref (72), .ref (73), .ref (74), .ref (75), .ref (76), .ref (77), .ref (78), .ref (79), .ref (80), .ref (81), .ref (82), .ref (83), .ref (84), .int (nI (w.length)), .int (nI (zbi un)), .int (rp), .int (wi), .int (pa), .int (la), .int (ru), .int (sa), .int (m1), .int (s1), .int (ta), .int (fa), .ref (85), .ref (86), .ref (87), .int (nI (mn)), .ref (88), .ref (89), .ref (90), .ref (91), .ref (92), .ref (93), .int (nI (tp)), .ref (94), .int (nI (ou))])
/-- met and seen count where there is a sample -/
def zmst (m1 s1 : Int32) : ZSup → Prop
  | (_, _, _, _, _, _, _, sa, me, se, _, _) => sa ≠ -1 → m1 = me ∧ s1 = se
abbrev zsw2 : Nat → Prop := fun i => i = 64 ∨ i = 84
abbrev zS12 (S : ZSup) (x : Nat) : ZSup := zstep S (nI x) x
set_option maxRecDepth 10000 in
set_option maxHeartbeats 2000000 in
theorem e_mcomes {g : ZG} {h : ZH} {n : Nat} {w : List Nat} {un : Bool} {rp wi pa la ru sa me se ta fa m1 s1 th : Int32} {mn tp ou x : Nat} (ho : h 64 = some (zmoc th mn tp ou m1 s1 (w, rp, wi, pa, un, la, ru, sa, me, se, ta, fa))) (hm : zmst m1 s1 (w, rp, wi, pa, un, la, ru, sa, me, se, ta, fa)) (hx : zar h 84 1000 w) (hb : x < 256) (hl : w.length < 1000) : zMt g mX11_comes (zR 0 0 0) [.ref (64), .int (nI (x))] h n (fun v h' n' => v = none ∧ n' = n ∧ zsm h h' zsw2 ∧ zsh h h' ∧ ∃ m2 s2, h' 64 = some (zmoc th mn tp ou m2 s2 (zS12 (w, rp, wi, pa, un, la, ru, sa, me, se, ta, fa) x)) ∧ zmst m2 s2 (zS12 (w, rp, wi, pa, un, la, ru, sa, me, se, ta, fa) x) ∧ zar h' 84 1000 (zS12 (w, rp, wi, pa, un, la, ru, sa, me, se, ta, fa) x).1) := by
  refine zMt.of [some (.ref (64)), some (.int (nI (x))), none] (by decide) rfl (Nat.le_of_ble_eq_true rfl) ?_
  obtain ⟨Qf, hQ⟩ : ∃ Qf : ZQ, Qf = (fun v h' n' => v = none ∧ n' = n ∧ zsm h h' zsw2 ∧ zsh h h' ∧ ∃ m2 s2, h' 64 = some (zmoc th mn tp ou m2 s2 (zS12 (w, rp, wi, pa, un, la, ru, sa, me, se, ta, fa) x)) ∧ zmst m2 s2 (zS12 (w, rp, wi, pa, un, la, ru, sa, me, se, ta, fa) x) ∧ zar h' 84 1000 (zS12 (w, rp, wi, pa, un, la, ru, sa, me, se, ta, fa) x).1) := ⟨_, rfl⟩
  rw [← hQ]
  have ho : h 64 = some (.inl (10, [.int (th), .ref (65), .ref (66), .ref (67), .ref (68), .ref (69), .ref (70), .ref (71), .ref (72), .ref (73), .ref (74), .ref (75), .ref (76), .ref (77), .ref (78), .ref (79), .ref (80), .ref (81), .ref (82), .ref (83), .ref (84), .int (nI (w.length)), .int (nI (zbi un)), .int (rp), .int (wi), .int (pa), .int (la), .int (ru), .int (sa), .int (m1), .int (s1), .int (ta), .int (fa), .ref (85), .ref (86), .ref (87), .int (nI (mn)), .ref (88), .ref (89), .ref (90), .ref (91), .ref (92), .ref (93), .int (nI (tp)), .ref (94), .int (nI (ou))])) := ho
  obtain ⟨la101, lb101, lc101, lf101, ld101, le101⟩ := id hx
  refine zp_aload_n dX11_comes_0 rfl ?_
  refine zp_iload_n dX11_comes_1 rfl ?_
  refine zp_aload_n dX11_comes_2 rfl ?_
  refine zp_get dX11_comes_3 gX11_81_10 ho rfl ?_
  refine zp_pc (pc' := 6) rfl ?_
  have jn102 : zP g mX11_comes (zR 0 0 0) Qf 0 0 19 [some (.ref (64)), some (.int (nI (x))), none] [.int (zrun la ru (nI x)), .ref (64)] h n → zP g mX11_comes (zR 0 0 0) Qf 0 0 6 [some (.ref (64)), some (.int (nI (x))), none] [.int (la), .int (nI (x)), .ref (64)] h n := by
    intro jk102
    refine zp_icmp_ne (tgt := 18) dX11_comes_6 (by decide) (fun c6 => ?_) (fun c6 => ?_)
    · refine zp_iconst (v := nI (1)) dX11_comes_18 (by decide) ?_
      refine zp_pc (pc' := 19) rfl ?_
      refine zp_i (y := zrun la ru (nI x)) (by unfold zrun; rw [if_neg c6]) ?_
      exact jk102
    · refine zp_aload_n dX11_comes_9 rfl ?_
      refine zp_get dX11_comes_10 gX11_190_10 ho rfl ?_
      refine zp_iconst (v := nI (1)) dX11_comes_13 (by decide) ?_
      refine zp_iadd dX11_comes_14 ?_
      refine zp_goto (tgt := 19) dX11_comes_15 (by decide) ?_
      refine zp_pc (pc' := 19) rfl ?_
      refine zp_i (y := zrun la ru (nI x)) (by unfold zrun; rw [if_pos c6]) ?_
      exact jk102
  refine jn102 ?_
  refine zp_put (fs' := [.int (th), .ref (65), .ref (66), .ref (67), .ref (68), .ref (69), .ref (70), .ref (71), .ref (72), .ref (73), .ref (74), .ref (75), .ref (76), .ref (77), .ref (78), .ref (79), .ref (80), .ref (81), .ref (82), .ref (83), .ref (84), .int (nI (w.length)), .int (nI (zbi un)), .int (rp), .int (wi), .int (pa), .int (la), .int (zrun la ru (nI x)), .int (sa), .int (m1), .int (s1), .int (ta), .int (fa), .ref (85), .ref (86), .ref (87), .int (nI (mn)), .ref (88), .ref (89), .ref (90), .ref (91), .ref (92), .ref (93), .int (nI (tp)), .ref (94), .int (nI (ou))]) dX11_comes_19 pX11_190_10 (by omega) ho (Nat.le_of_ble_eq_true rfl) (zfit_i _) rfl ?_
  refine zp_nh (fun h103x eh103x => ?_)
  have k103_0 : h103x (64) = some (.inl (10, [.int (th), .ref (65), .ref (66), .ref (67), .ref (68), .ref (69), .ref (70), .ref (71), .ref (72), .ref (73), .ref (74), .ref (75), .ref (76), .ref (77), .ref (78), .ref (79), .ref (80), .ref (81), .ref (82), .ref (83), .ref (84), .int (nI (w.length)), .int (nI (zbi un)), .int (rp), .int (wi), .int (pa), .int (la), .int (zrun la ru (nI x)), .int (sa), .int (m1), .int (s1), .int (ta), .int (fa), .ref (85), .ref (86), .ref (87), .int (nI (mn)), .ref (88), .ref (89), .ref (90), .ref (91), .ref (92), .ref (93), .int (nI (tp)), .ref (94), .int (nI (ou))])) := by rw [eh103x]; exact va_up_self _ _ _
  have k103_1 := (congrFun eh103x (84)).trans ((va_up_ne _ _ (by omega)).trans ld101)
  have sw104 : zsm h h103x (zon (64)) := zsm.rf.up eh103x rfl
  have zw104 : zsh h h103x := zsh.obj eh103x ho
  refine zp_aload_n dX11_comes_22 rfl ?_
  refine zp_iload_n dX11_comes_23 rfl ?_
  refine zp_put (fs' := [.int (th), .ref (65), .ref (66), .ref (67), .ref (68), .ref (69), .ref (70), .ref (71), .ref (72), .ref (73), .ref (74), .ref (75), .ref (76), .ref (77), .ref (78), .ref (79), .ref (80), .ref (81), .ref (82), .ref (83), .ref (84), .int (nI (w.length)), .int (nI (zbi un)), .int (rp), .int (wi), .int (pa), .int (nI (x)), .int (zrun la ru (nI x)), .int (sa), .int (m1), .int (s1), .int (ta), .int (fa), .ref (85), .ref (86), .ref (87), .int (nI (mn)), .ref (88), .ref (89), .ref (90), .ref (91), .ref (92), .ref (93), .int (nI (tp)), .ref (94), .int (nI (ou))]) dX11_comes_24 pX11_81_10 (by omega) k103_0 (Nat.le_of_ble_eq_true rfl) (zfit_i _) rfl ?_
  refine zp_nh (fun h105x eh105x => ?_)
  have k105_0 : h105x (64) = some (.inl (10, [.int (th), .ref (65), .ref (66), .ref (67), .ref (68), .ref (69), .ref (70), .ref (71), .ref (72), .ref (73), .ref (74), .ref (75), .ref (76), .ref (77), .ref (78), .ref (79), .ref (80), .ref (81), .ref (82), .ref (83), .ref (84), .int (nI (w.length)), .int (nI (zbi un)), .int (rp), .int (wi), .int (pa), .int (nI (x)), .int (zrun la ru (nI x)), .int (sa), .int (m1), .int (s1), .int (ta), .int (fa), .ref (85), .ref (86), .ref (87), .int (nI (mn)), .ref (88), .ref (89), .ref (90), .ref (91), .ref (92), .ref (93), .int (nI (tp)), .ref (94), .int (nI (ou))])) := by rw [eh105x]; exact va_up_self _ _ _
  have k105_1 := (congrFun eh105x (84)).trans ((va_up_ne _ _ (by omega)).trans k103_1)
  have sw106 : zsm h103x h105x (zon (64)) := zsm.rf.up eh105x rfl
  have zw106 : zsh h103x h105x := zsh.obj eh105x k103_0
  refine zp_aload_n dX11_comes_27 rfl ?_
  refine zp_get dX11_comes_28 gX11_190_10 k105_0 rfl ?_
  refine zp_aload_n dX11_comes_31 rfl ?_
  refine zp_get dX11_comes_32 gX11_71_10 k105_0 rfl ?_
  refine zp_pc (pc' := 35) rfl ?_
  have jn107 : zP g mX11_comes (zR 0 0 0) Qf 0 0 43 [some (.ref (64)), some (.int (nI (x))), none] [.int (nI (zbi (decide (zrun la ru (nI x) = rp))))] h105x n → zP g mX11_comes (zR 0 0 0) Qf 0 0 35 [some (.ref (64)), some (.int (nI (x))), none] [.int (rp), .int (zrun la ru (nI x))] h105x n := by
    intro jk107
    refine zp_icmp_ne (tgt := 42) dX11_comes_35 (by decide) (fun c35 => ?_) (fun c35 => ?_)
    · refine zp_iconst (v := nI (0)) dX11_comes_42 (by decide) ?_
      refine zp_pc (pc' := 43) rfl ?_
      refine zp_i (y := nI (zbi (decide (zrun la ru (nI x) = rp)))) (by rw [show (decide (zrun la ru (nI x) = rp)) = false from decide_eq_false c35]; rfl) ?_
      exact jk107
    · refine zp_iconst (v := nI (1)) dX11_comes_38 (by decide) ?_
      refine zp_goto (tgt := 43) dX11_comes_39 (by decide) ?_
      refine zp_pc (pc' := 43) rfl ?_
      refine zp_i (y := nI (zbi (decide (zrun la ru (nI x) = rp)))) (by rw [show (decide (zrun la ru (nI x) = rp)) = true from decide_eq_true c35]; rfl) ?_
      exact jk107
  refine jn107 ?_
  refine zp_istore_n (ls' := [some (.ref (64)), some (.int (nI (x))), some (.int (nI (zbi (decide (zrun la ru (nI x) = rp)))))]) dX11_comes_43 (by decide) rfl ?_
  refine zp_aload_n dX11_comes_44 rfl ?_
  refine zp_get dX11_comes_45 gX11_84_10 k105_0 rfl ?_
  refine zp_iconst (v := (-1)) dX11_comes_48 (by decide) ?_
  refine zp_pc (pc' := 49) rfl ?_
  refine zp_icmp_ne (tgt := 70) dX11_comes_49 (by decide) (fun c49 => ?_) (fun c49 => ?_)
  · obtain ⟨em, es⟩ := hm c49
    skip
    refine zp_iload_n dX11_comes_70 rfl ?_
    refine zp_aload_n dX11_comes_71 rfl ?_
    refine zp_get dX11_comes_72 gX11_84_10 k105_0 rfl ?_
    refine zp_pc (pc' := 75) rfl ?_
    refine zp_icmp_ne (tgt := 109) dX11_comes_75 (by decide) (fun c75 => ?_) (fun c75 => ?_)
    · have ef : zfrq pa sa me (nI x) = false := by unfold zfrq; rw [if_neg c49, if_neg c75]
      refine zp_aload_n dX11_comes_109 rfl ?_
      refine zp_dup dX11_comes_110 rfl ?_
      refine zp_get dX11_comes_111 gX11_196_10 k105_0 rfl ?_
      refine zp_iconst (v := nI (1)) dX11_comes_114 (by decide) ?_
      refine zp_iadd dX11_comes_115 ?_
      refine zp_put (fs' := [.int (th), .ref (65), .ref (66), .ref (67), .ref (68), .ref (69), .ref (70), .ref (71), .ref (72), .ref (73), .ref (74), .ref (75), .ref (76), .ref (77), .ref (78), .ref (79), .ref (80), .ref (81), .ref (82), .ref (83), .ref (84), .int (nI (w.length)), .int (nI (zbi un)), .int (rp), .int (wi), .int (pa), .int (nI (x)), .int (zrun la ru (nI x)), .int (sa), .int (m1), .int ((s1) + (nI (1))), .int (ta), .int (fa), .ref (85), .ref (86), .ref (87), .int (nI (mn)), .ref (88), .ref (89), .ref (90), .ref (91), .ref (92), .ref (93), .int (nI (tp)), .ref (94), .int (nI (ou))]) dX11_comes_116 pX11_196_10 (by omega) k105_0 (Nat.le_of_ble_eq_true rfl) (zfit_i _) rfl ?_
      refine zp_nh (fun h108x eh108x => ?_)
      have k108_0 : h108x (64) = some (.inl (10, [.int (th), .ref (65), .ref (66), .ref (67), .ref (68), .ref (69), .ref (70), .ref (71), .ref (72), .ref (73), .ref (74), .ref (75), .ref (76), .ref (77), .ref (78), .ref (79), .ref (80), .ref (81), .ref (82), .ref (83), .ref (84), .int (nI (w.length)), .int (nI (zbi un)), .int (rp), .int (wi), .int (pa), .int (nI (x)), .int (zrun la ru (nI x)), .int (sa), .int (m1), .int ((s1) + (nI (1))), .int (ta), .int (fa), .ref (85), .ref (86), .ref (87), .int (nI (mn)), .ref (88), .ref (89), .ref (90), .ref (91), .ref (92), .ref (93), .int (nI (tp)), .ref (94), .int (nI (ou))])) := by rw [eh108x]; exact va_up_self _ _ _
      have k108_1 := (congrFun eh108x (84)).trans ((va_up_ne _ _ (by omega)).trans k105_1)
      have sw109 : zsm h105x h108x (zon (64)) := zsm.rf.up eh108x rfl
      have zw109 : zsh h105x h108x := zsh.obj eh108x k105_0
      refine zp_aload_n dX11_comes_119 rfl ?_
      refine zp_get dX11_comes_120 gX11_196_10 k108_0 rfl ?_
      refine zp_aload_n dX11_comes_123 rfl ?_
      refine zp_get dX11_comes_124 gX11_75_10 k108_0 rfl ?_
      refine zp_pc (pc' := 127) rfl ?_
      refine zp_icmp_ne (tgt := 135) dX11_comes_127 (by decide) (fun c127 => ?_) (fun c127 => ?_)
      · refine zp_iload_n dX11_comes_135 rfl ?_
        refine zp_pc (pc' := 136) rfl ?_
        have eS : zsmp wi sa me se (nI x) = (sa, me, se + nI 1) := by unfold zsmp; rw [if_neg c49, if_neg (by rw [← es]; exact c127), if_neg c75]
        refine zn_if_eq (tgt := 162) dX11_comes_136 (by decide) (by have := zbi_lt (decide (zrun la ru (nI x) = rp)); omega) (fun c136 => ?_) (fun c136 => ?_)
        · refine zp_aload_n dX11_comes_162 rfl ?_
          refine zp_get dX11_comes_163 gX11_68_10 k108_0 rfl ?_
          refine zp_aload_n dX11_comes_166 rfl ?_
          refine zp_get dX11_comes_167 gX11_206_10 k108_0 rfl ?_
          refine zp_iload_n dX11_comes_170 rfl ?_
          refine zn_iast dX11_comes_171 (by omega) k108_1 (by omega) (by omega) ?_
          refine zp_nh (fun h110x eh110x => ?_)
          have k110_0 := (congrFun eh110x (64)).trans ((va_up_ne _ _ (by omega)).trans k108_0)
          have k110_1 : h110x (84) = some (.inr (1000, .inl (va_up lf101 (w.length) (nI (x))))) := by rw [eh110x]; exact va_up_self _ _ _
          have sw111 : zsm h108x h110x (zon (84)) := zsm.rf.up eh110x rfl
          have zw111 : zsh h108x h110x := zsh.fill eh110x k108_1
          refine zp_aload_n dX11_comes_172 rfl ?_
          refine zp_dup dX11_comes_173 rfl ?_
          refine zp_get dX11_comes_174 gX11_206_10 k110_0 rfl ?_
          refine zp_iconst (v := nI (1)) dX11_comes_177 (by decide) ?_
          refine zp_pc (pc' := 178) rfl ?_
          refine zn_iadd dX11_comes_178 ?_
          refine zp_i (y := nI ((w ++ [x]).length)) (by rw [List.length_append]; rfl) ?_
          refine zp_put (fs' := [.int (th), .ref (65), .ref (66), .ref (67), .ref (68), .ref (69), .ref (70), .ref (71), .ref (72), .ref (73), .ref (74), .ref (75), .ref (76), .ref (77), .ref (78), .ref (79), .ref (80), .ref (81), .ref (82), .ref (83), .ref (84), .int (nI ((w ++ [x]).length)), .int (nI (zbi un)), .int (rp), .int (wi), .int (pa), .int (nI (x)), .int (zrun la ru (nI x)), .int (sa), .int (m1), .int ((s1) + (nI (1))), .int (ta), .int (fa), .ref (85), .ref (86), .ref (87), .int (nI (mn)), .ref (88), .ref (89), .ref (90), .ref (91), .ref (92), .ref (93), .int (nI (tp)), .ref (94), .int (nI (ou))]) dX11_comes_179 pX11_206_10 (by omega) k110_0 (Nat.le_of_ble_eq_true rfl) (zfit_i _) rfl ?_
          refine zp_nh (fun h112x eh112x => ?_)
          have k112_0 : h112x (64) = some (.inl (10, [.int (th), .ref (65), .ref (66), .ref (67), .ref (68), .ref (69), .ref (70), .ref (71), .ref (72), .ref (73), .ref (74), .ref (75), .ref (76), .ref (77), .ref (78), .ref (79), .ref (80), .ref (81), .ref (82), .ref (83), .ref (84), .int (nI ((w ++ [x]).length)), .int (nI (zbi un)), .int (rp), .int (wi), .int (pa), .int (nI (x)), .int (zrun la ru (nI x)), .int (sa), .int (m1), .int ((s1) + (nI (1))), .int (ta), .int (fa), .ref (85), .ref (86), .ref (87), .int (nI (mn)), .ref (88), .ref (89), .ref (90), .ref (91), .ref (92), .ref (93), .int (nI (tp)), .ref (94), .int (nI (ou))])) := by rw [eh112x]; exact va_up_self _ _ _
          have k112_1 := (congrFun eh112x (84)).trans ((va_up_ne _ _ (by omega)).trans k110_1)
          have sw113 : zsm h110x h112x (zon (64)) := zsm.rf.up eh112x rfl
          have zw113 : zsh h110x h112x := zsh.obj eh112x k110_0
          refine zp_pc (pc' := 182) rfl ?_
          have dF : (decide (zrun la ru (nI x) = rp)) = false := by rcases Bool.eq_false_or_eq_true (decide (zrun la ru (nI x) = rp)) with q | q; rw [q] at c136; exact absurd c136 (by decide); exact q
          have bd : ¬ (zrun la ru (nI x) = rp ∨ zfrq pa sa me (nI x) = true) := fun q => q.elim (of_decide_eq_false dF) (fun q => by rw [ef] at q; cases q)
          have eZ : zS12 (w, rp, wi, pa, un, la, ru, sa, me, se, ta, fa) x = (w ++ [x], rp, wi, pa, un, (nI x), zrun la ru (nI x), sa, me, se + nI 1, ta, fa) := by show (if _ then _ else _) = _; rw [if_neg bd, eS]
          refine zp_ret (v := none) dX11_comes_182 ⟨rfl, rfl⟩ (by decide) (by decide) ?_
          rw [hQ]
          exact ⟨rfl, rfl, (((((sw104).mono (fun i hi => by unfold zsw2; unfold zon at hi; omega)).trans ((sw106).mono (fun i hi => by unfold zsw2; unfold zon at hi; omega))).trans ((sw109).mono (fun i hi => by unfold zsw2; unfold zon at hi; omega))).trans ((sw111).mono (fun i hi => by unfold zsw2; unfold zon at hi; omega))).trans ((sw113).mono (fun i hi => by unfold zsw2; unfold zon at hi; omega)), ((((zw104).trans zw106).trans zw109).trans zw111).trans zw113, m1, (s1) + (nI (1)), by rw [eZ]; exact k112_0, by rw [eZ]; exact fun _ => ⟨em, by rw [es]⟩, by rw [eZ]; exact zar.mk (L := w.length + 1) k112_1 (by rw [List.length_append]; rfl) (by omega) (by decide) (zapp_lt lc101 (fun y hy => by rw [List.mem_singleton.mp hy]; exact hb)) (fun j hj => by
                  rcases Nat.lt_or_ge j w.length with q | q
                  · rw [va_up_ne _ _ (by omega), le101 j q, zapp_getD1 q]
                  · rw [show j = w.length by omega, va_up_self, show (w ++ [x]).getD w.length 0 = x from (zapp_getD2 (xs := w) (ys := [x]) (i := 0))])⟩
        · refine zp_aload_n dX11_comes_139 rfl ?_
          refine zp_iconst (v := nI (1)) dX11_comes_140 (by decide) ?_
          refine zp_put (fs' := [.int (th), .ref (65), .ref (66), .ref (67), .ref (68), .ref (69), .ref (70), .ref (71), .ref (72), .ref (73), .ref (74), .ref (75), .ref (76), .ref (77), .ref (78), .ref (79), .ref (80), .ref (81), .ref (82), .ref (83), .ref (84), .int (nI (w.length)), .int (nI (1)), .int (rp), .int (wi), .int (pa), .int (nI (x)), .int (zrun la ru (nI x)), .int (sa), .int (m1), .int ((s1) + (nI (1))), .int (ta), .int (fa), .ref (85), .ref (86), .ref (87), .int (nI (mn)), .ref (88), .ref (89), .ref (90), .ref (91), .ref (92), .ref (93), .int (nI (tp)), .ref (94), .int (nI (ou))]) dX11_comes_141 pX11_199_10 (by omega) k108_0 (Nat.le_of_ble_eq_true rfl) zfit_1 rfl ?_
          refine zp_nh (fun h114x eh114x => ?_)
          have k114_0 : h114x (64) = some (.inl (10, [.int (th), .ref (65), .ref (66), .ref (67), .ref (68), .ref (69), .ref (70), .ref (71), .ref (72), .ref (73), .ref (74), .ref (75), .ref (76), .ref (77), .ref (78), .ref (79), .ref (80), .ref (81), .ref (82), .ref (83), .ref (84), .int (nI (w.length)), .int (nI (1)), .int (rp), .int (wi), .int (pa), .int (nI (x)), .int (zrun la ru (nI x)), .int (sa), .int (m1), .int ((s1) + (nI (1))), .int (ta), .int (fa), .ref (85), .ref (86), .ref (87), .int (nI (mn)), .ref (88), .ref (89), .ref (90), .ref (91), .ref (92), .ref (93), .int (nI (tp)), .ref (94), .int (nI (ou))])) := by rw [eh114x]; exact va_up_self _ _ _
          have k114_1 := (congrFun eh114x (84)).trans ((va_up_ne _ _ (by omega)).trans k108_1)
          have sw115 : zsm h108x h114x (zon (64)) := zsm.rf.up eh114x rfl
          have zw115 : zsh h108x h114x := zsh.obj eh114x k108_0
          refine zp_aload_n dX11_comes_144 rfl ?_
          refine zp_dup dX11_comes_145 rfl ?_
          refine zp_get dX11_comes_146 gX11_203_10 k114_0 rfl ?_
          refine zp_iconst (v := nI (1)) dX11_comes_149 (by decide) ?_
          refine zp_iadd dX11_comes_150 ?_
          refine zp_put (fs' := [.int (th), .ref (65), .ref (66), .ref (67), .ref (68), .ref (69), .ref (70), .ref (71), .ref (72), .ref (73), .ref (74), .ref (75), .ref (76), .ref (77), .ref (78), .ref (79), .ref (80), .ref (81), .ref (82), .ref (83), .ref (84), .int (nI (w.length)), .int (nI (1)), .int (rp), .int (wi), .int (pa), .int (nI (x)), .int (zrun la ru (nI x)), .int (sa), .int (m1), .int ((s1) + (nI (1))), .int (ta), .int ((fa) + (nI (1))), .ref (85), .ref (86), .ref (87), .int (nI (mn)), .ref (88), .ref (89), .ref (90), .ref (91), .ref (92), .ref (93), .int (nI (tp)), .ref (94), .int (nI (ou))]) dX11_comes_151 pX11_203_10 (by omega) k114_0 (Nat.le_of_ble_eq_true rfl) (zfit_i _) rfl ?_
          refine zp_nh (fun h116x eh116x => ?_)
          have k116_0 : h116x (64) = some (.inl (10, [.int (th), .ref (65), .ref (66), .ref (67), .ref (68), .ref (69), .ref (70), .ref (71), .ref (72), .ref (73), .ref (74), .ref (75), .ref (76), .ref (77), .ref (78), .ref (79), .ref (80), .ref (81), .ref (82), .ref (83), .ref (84), .int (nI (w.length)), .int (nI (1)), .int (rp), .int (wi), .int (pa), .int (nI (x)), .int (zrun la ru (nI x)), .int (sa), .int (m1), .int ((s1) + (nI (1))), .int (ta), .int ((fa) + (nI (1))), .ref (85), .ref (86), .ref (87), .int (nI (mn)), .ref (88), .ref (89), .ref (90), .ref (91), .ref (92), .ref (93), .int (nI (tp)), .ref (94), .int (nI (ou))])) := by rw [eh116x]; exact va_up_self _ _ _
          have k116_1 := (congrFun eh116x (84)).trans ((va_up_ne _ _ (by omega)).trans k114_1)
          have sw117 : zsm h114x h116x (zon (64)) := zsm.rf.up eh116x rfl
          have zw117 : zsh h114x h116x := zsh.obj eh116x k114_0
          refine zp_aload_n dX11_comes_154 rfl ?_
          refine zp_pc (pc' := 155) rfl ?_
          refine zp_iconst (v := nI (0)) dX11_comes_155 (by decide) ?_
          refine zp_i (y := nI (([] : List Nat).length)) rfl ?_
          refine zp_put (fs' := [.int (th), .ref (65), .ref (66), .ref (67), .ref (68), .ref (69), .ref (70), .ref (71), .ref (72), .ref (73), .ref (74), .ref (75), .ref (76), .ref (77), .ref (78), .ref (79), .ref (80), .ref (81), .ref (82), .ref (83), .ref (84), .int (nI (([] : List Nat).length)), .int (nI (1)), .int (rp), .int (wi), .int (pa), .int (nI (x)), .int (zrun la ru (nI x)), .int (sa), .int (m1), .int ((s1) + (nI (1))), .int (ta), .int ((fa) + (nI (1))), .ref (85), .ref (86), .ref (87), .int (nI (mn)), .ref (88), .ref (89), .ref (90), .ref (91), .ref (92), .ref (93), .int (nI (tp)), .ref (94), .int (nI (ou))]) dX11_comes_156 pX11_206_10 (by omega) k116_0 (Nat.le_of_ble_eq_true rfl) (zfit_i _) rfl ?_
          refine zp_nh (fun h118x eh118x => ?_)
          have k118_0 : h118x (64) = some (.inl (10, [.int (th), .ref (65), .ref (66), .ref (67), .ref (68), .ref (69), .ref (70), .ref (71), .ref (72), .ref (73), .ref (74), .ref (75), .ref (76), .ref (77), .ref (78), .ref (79), .ref (80), .ref (81), .ref (82), .ref (83), .ref (84), .int (nI (([] : List Nat).length)), .int (nI (1)), .int (rp), .int (wi), .int (pa), .int (nI (x)), .int (zrun la ru (nI x)), .int (sa), .int (m1), .int ((s1) + (nI (1))), .int (ta), .int ((fa) + (nI (1))), .ref (85), .ref (86), .ref (87), .int (nI (mn)), .ref (88), .ref (89), .ref (90), .ref (91), .ref (92), .ref (93), .int (nI (tp)), .ref (94), .int (nI (ou))])) := by rw [eh118x]; exact va_up_self _ _ _
          have k118_1 := (congrFun eh118x (84)).trans ((va_up_ne _ _ (by omega)).trans k116_1)
          have sw119 : zsm h116x h118x (zon (64)) := zsm.rf.up eh118x rfl
          have zw119 : zsh h116x h118x := zsh.obj eh118x k116_0
          refine zp_goto (tgt := 182) dX11_comes_159 (by decide) ?_
          refine zp_pc (pc' := 182) rfl ?_
          have dT : (decide (zrun la ru (nI x) = rp)) = true := by rcases Bool.eq_false_or_eq_true (decide (zrun la ru (nI x) = rp)) with q | q; exact q; rw [q] at c136; exact absurd rfl c136
          have bd : (zrun la ru (nI x) = rp ∨ zfrq pa sa me (nI x) = true) := Or.inl (of_decide_eq_true dT)
          have eZ : zS12 (w, rp, wi, pa, un, la, ru, sa, me, se, ta, fa) x = ([], rp, wi, pa, true, (nI x), zrun la ru (nI x), sa, me, se + nI 1, ta, fa + nI 1) := by show (if _ then _ else _) = _; rw [if_pos bd, eS]
          refine zp_ret (v := none) dX11_comes_182 ⟨rfl, rfl⟩ (by decide) (by decide) ?_
          rw [hQ]
          exact ⟨rfl, rfl, ((((((sw104).mono (fun i hi => by unfold zsw2; unfold zon at hi; omega)).trans ((sw106).mono (fun i hi => by unfold zsw2; unfold zon at hi; omega))).trans ((sw109).mono (fun i hi => by unfold zsw2; unfold zon at hi; omega))).trans ((sw115).mono (fun i hi => by unfold zsw2; unfold zon at hi; omega))).trans ((sw117).mono (fun i hi => by unfold zsw2; unfold zon at hi; omega))).trans ((sw119).mono (fun i hi => by unfold zsw2; unfold zon at hi; omega)), (((((zw104).trans zw106).trans zw109).trans zw115).trans zw117).trans zw119, m1, (s1) + (nI (1)), by rw [eZ]; exact k118_0, by rw [eZ]; exact fun _ => ⟨em, by rw [es]⟩, by rw [eZ]; exact zar.mk (L := 0) k118_1 rfl (by omega) (by decide) (fun y hy => absurd hy (List.not_mem_nil)) (fun j hj => absurd hj (by omega))⟩
      · refine zp_aload_n dX11_comes_130 rfl ?_
        refine zp_iconst (v := (-1)) dX11_comes_131 (by decide) ?_
        refine zp_put (fs' := [.int (th), .ref (65), .ref (66), .ref (67), .ref (68), .ref (69), .ref (70), .ref (71), .ref (72), .ref (73), .ref (74), .ref (75), .ref (76), .ref (77), .ref (78), .ref (79), .ref (80), .ref (81), .ref (82), .ref (83), .ref (84), .int (nI (w.length)), .int (nI (zbi un)), .int (rp), .int (wi), .int (pa), .int (nI (x)), .int (zrun la ru (nI x)), .int ((-1)), .int (m1), .int ((s1) + (nI (1))), .int (ta), .int (fa), .ref (85), .ref (86), .ref (87), .int (nI (mn)), .ref (88), .ref (89), .ref (90), .ref (91), .ref (92), .ref (93), .int (nI (tp)), .ref (94), .int (nI (ou))]) dX11_comes_132 pX11_84_10 (by omega) k108_0 (Nat.le_of_ble_eq_true rfl) (zfit_i _) rfl ?_
        refine zp_nh (fun h120x eh120x => ?_)
        have k120_0 : h120x (64) = some (.inl (10, [.int (th), .ref (65), .ref (66), .ref (67), .ref (68), .ref (69), .ref (70), .ref (71), .ref (72), .ref (73), .ref (74), .ref (75), .ref (76), .ref (77), .ref (78), .ref (79), .ref (80), .ref (81), .ref (82), .ref (83), .ref (84), .int (nI (w.length)), .int (nI (zbi un)), .int (rp), .int (wi), .int (pa), .int (nI (x)), .int (zrun la ru (nI x)), .int ((-1)), .int (m1), .int ((s1) + (nI (1))), .int (ta), .int (fa), .ref (85), .ref (86), .ref (87), .int (nI (mn)), .ref (88), .ref (89), .ref (90), .ref (91), .ref (92), .ref (93), .int (nI (tp)), .ref (94), .int (nI (ou))])) := by rw [eh120x]; exact va_up_self _ _ _
        have k120_1 := (congrFun eh120x (84)).trans ((va_up_ne _ _ (by omega)).trans k108_1)
        have sw121 : zsm h108x h120x (zon (64)) := zsm.rf.up eh120x rfl
        have zw121 : zsh h108x h120x := zsh.obj eh120x k108_0
        refine zp_iload_n dX11_comes_135 rfl ?_
        refine zp_pc (pc' := 136) rfl ?_
        have eS : zsmp wi sa me se (nI x) = (-1, nI 0, nI 0) := by unfold zsmp; rw [if_neg c49, if_pos (by rw [← es]; exact c127)]
        refine zn_if_eq (tgt := 162) dX11_comes_136 (by decide) (by have := zbi_lt (decide (zrun la ru (nI x) = rp)); omega) (fun c136 => ?_) (fun c136 => ?_)
        · refine zp_aload_n dX11_comes_162 rfl ?_
          refine zp_get dX11_comes_163 gX11_68_10 k120_0 rfl ?_
          refine zp_aload_n dX11_comes_166 rfl ?_
          refine zp_get dX11_comes_167 gX11_206_10 k120_0 rfl ?_
          refine zp_iload_n dX11_comes_170 rfl ?_
          refine zn_iast dX11_comes_171 (by omega) k120_1 (by omega) (by omega) ?_
          refine zp_nh (fun h122x eh122x => ?_)
          have k122_0 := (congrFun eh122x (64)).trans ((va_up_ne _ _ (by omega)).trans k120_0)
          have k122_1 : h122x (84) = some (.inr (1000, .inl (va_up lf101 (w.length) (nI (x))))) := by rw [eh122x]; exact va_up_self _ _ _
          have sw123 : zsm h120x h122x (zon (84)) := zsm.rf.up eh122x rfl
          have zw123 : zsh h120x h122x := zsh.fill eh122x k120_1
          refine zp_aload_n dX11_comes_172 rfl ?_
          refine zp_dup dX11_comes_173 rfl ?_
          refine zp_get dX11_comes_174 gX11_206_10 k122_0 rfl ?_
          refine zp_iconst (v := nI (1)) dX11_comes_177 (by decide) ?_
          refine zp_pc (pc' := 178) rfl ?_
          refine zn_iadd dX11_comes_178 ?_
          refine zp_i (y := nI ((w ++ [x]).length)) (by rw [List.length_append]; rfl) ?_
          refine zp_put (fs' := [.int (th), .ref (65), .ref (66), .ref (67), .ref (68), .ref (69), .ref (70), .ref (71), .ref (72), .ref (73), .ref (74), .ref (75), .ref (76), .ref (77), .ref (78), .ref (79), .ref (80), .ref (81), .ref (82), .ref (83), .ref (84), .int (nI ((w ++ [x]).length)), .int (nI (zbi un)), .int (rp), .int (wi), .int (pa), .int (nI (x)), .int (zrun la ru (nI x)), .int ((-1)), .int (m1), .int ((s1) + (nI (1))), .int (ta), .int (fa), .ref (85), .ref (86), .ref (87), .int (nI (mn)), .ref (88), .ref (89), .ref (90), .ref (91), .ref (92), .ref (93), .int (nI (tp)), .ref (94), .int (nI (ou))]) dX11_comes_179 pX11_206_10 (by omega) k122_0 (Nat.le_of_ble_eq_true rfl) (zfit_i _) rfl ?_
          refine zp_nh (fun h124x eh124x => ?_)
          have k124_0 : h124x (64) = some (.inl (10, [.int (th), .ref (65), .ref (66), .ref (67), .ref (68), .ref (69), .ref (70), .ref (71), .ref (72), .ref (73), .ref (74), .ref (75), .ref (76), .ref (77), .ref (78), .ref (79), .ref (80), .ref (81), .ref (82), .ref (83), .ref (84), .int (nI ((w ++ [x]).length)), .int (nI (zbi un)), .int (rp), .int (wi), .int (pa), .int (nI (x)), .int (zrun la ru (nI x)), .int ((-1)), .int (m1), .int ((s1) + (nI (1))), .int (ta), .int (fa), .ref (85), .ref (86), .ref (87), .int (nI (mn)), .ref (88), .ref (89), .ref (90), .ref (91), .ref (92), .ref (93), .int (nI (tp)), .ref (94), .int (nI (ou))])) := by rw [eh124x]; exact va_up_self _ _ _
          have k124_1 := (congrFun eh124x (84)).trans ((va_up_ne _ _ (by omega)).trans k122_1)
          have sw125 : zsm h122x h124x (zon (64)) := zsm.rf.up eh124x rfl
          have zw125 : zsh h122x h124x := zsh.obj eh124x k122_0
          refine zp_pc (pc' := 182) rfl ?_
          have dF : (decide (zrun la ru (nI x) = rp)) = false := by rcases Bool.eq_false_or_eq_true (decide (zrun la ru (nI x) = rp)) with q | q; rw [q] at c136; exact absurd c136 (by decide); exact q
          have bd : ¬ (zrun la ru (nI x) = rp ∨ zfrq pa sa me (nI x) = true) := fun q => q.elim (of_decide_eq_false dF) (fun q => by rw [ef] at q; cases q)
          have eZ : zS12 (w, rp, wi, pa, un, la, ru, sa, me, se, ta, fa) x = (w ++ [x], rp, wi, pa, un, (nI x), zrun la ru (nI x), -1, nI 0, nI 0, ta, fa) := by show (if _ then _ else _) = _; rw [if_neg bd, eS]
          refine zp_ret (v := none) dX11_comes_182 ⟨rfl, rfl⟩ (by decide) (by decide) ?_
          rw [hQ]
          exact ⟨rfl, rfl, ((((((sw104).mono (fun i hi => by unfold zsw2; unfold zon at hi; omega)).trans ((sw106).mono (fun i hi => by unfold zsw2; unfold zon at hi; omega))).trans ((sw109).mono (fun i hi => by unfold zsw2; unfold zon at hi; omega))).trans ((sw121).mono (fun i hi => by unfold zsw2; unfold zon at hi; omega))).trans ((sw123).mono (fun i hi => by unfold zsw2; unfold zon at hi; omega))).trans ((sw125).mono (fun i hi => by unfold zsw2; unfold zon at hi; omega)), (((((zw104).trans zw106).trans zw109).trans zw121).trans zw123).trans zw125, m1, (s1) + (nI (1)), by rw [eZ]; exact k124_0, by rw [eZ]; exact fun q => absurd rfl q, by rw [eZ]; exact zar.mk (L := w.length + 1) k124_1 (by rw [List.length_append]; rfl) (by omega) (by decide) (zapp_lt lc101 (fun y hy => by rw [List.mem_singleton.mp hy]; exact hb)) (fun j hj => by
                  rcases Nat.lt_or_ge j w.length with q | q
                  · rw [va_up_ne _ _ (by omega), le101 j q, zapp_getD1 q]
                  · rw [show j = w.length by omega, va_up_self, show (w ++ [x]).getD w.length 0 = x from (zapp_getD2 (xs := w) (ys := [x]) (i := 0))])⟩
        · refine zp_aload_n dX11_comes_139 rfl ?_
          refine zp_iconst (v := nI (1)) dX11_comes_140 (by decide) ?_
          refine zp_put (fs' := [.int (th), .ref (65), .ref (66), .ref (67), .ref (68), .ref (69), .ref (70), .ref (71), .ref (72), .ref (73), .ref (74), .ref (75), .ref (76), .ref (77), .ref (78), .ref (79), .ref (80), .ref (81), .ref (82), .ref (83), .ref (84), .int (nI (w.length)), .int (nI (1)), .int (rp), .int (wi), .int (pa), .int (nI (x)), .int (zrun la ru (nI x)), .int ((-1)), .int (m1), .int ((s1) + (nI (1))), .int (ta), .int (fa), .ref (85), .ref (86), .ref (87), .int (nI (mn)), .ref (88), .ref (89), .ref (90), .ref (91), .ref (92), .ref (93), .int (nI (tp)), .ref (94), .int (nI (ou))]) dX11_comes_141 pX11_199_10 (by omega) k120_0 (Nat.le_of_ble_eq_true rfl) zfit_1 rfl ?_
          refine zp_nh (fun h126x eh126x => ?_)
          have k126_0 : h126x (64) = some (.inl (10, [.int (th), .ref (65), .ref (66), .ref (67), .ref (68), .ref (69), .ref (70), .ref (71), .ref (72), .ref (73), .ref (74), .ref (75), .ref (76), .ref (77), .ref (78), .ref (79), .ref (80), .ref (81), .ref (82), .ref (83), .ref (84), .int (nI (w.length)), .int (nI (1)), .int (rp), .int (wi), .int (pa), .int (nI (x)), .int (zrun la ru (nI x)), .int ((-1)), .int (m1), .int ((s1) + (nI (1))), .int (ta), .int (fa), .ref (85), .ref (86), .ref (87), .int (nI (mn)), .ref (88), .ref (89), .ref (90), .ref (91), .ref (92), .ref (93), .int (nI (tp)), .ref (94), .int (nI (ou))])) := by rw [eh126x]; exact va_up_self _ _ _
          have k126_1 := (congrFun eh126x (84)).trans ((va_up_ne _ _ (by omega)).trans k120_1)
          have sw127 : zsm h120x h126x (zon (64)) := zsm.rf.up eh126x rfl
          have zw127 : zsh h120x h126x := zsh.obj eh126x k120_0
          refine zp_aload_n dX11_comes_144 rfl ?_
          refine zp_dup dX11_comes_145 rfl ?_
          refine zp_get dX11_comes_146 gX11_203_10 k126_0 rfl ?_
          refine zp_iconst (v := nI (1)) dX11_comes_149 (by decide) ?_
          refine zp_iadd dX11_comes_150 ?_
          refine zp_put (fs' := [.int (th), .ref (65), .ref (66), .ref (67), .ref (68), .ref (69), .ref (70), .ref (71), .ref (72), .ref (73), .ref (74), .ref (75), .ref (76), .ref (77), .ref (78), .ref (79), .ref (80), .ref (81), .ref (82), .ref (83), .ref (84), .int (nI (w.length)), .int (nI (1)), .int (rp), .int (wi), .int (pa), .int (nI (x)), .int (zrun la ru (nI x)), .int ((-1)), .int (m1), .int ((s1) + (nI (1))), .int (ta), .int ((fa) + (nI (1))), .ref (85), .ref (86), .ref (87), .int (nI (mn)), .ref (88), .ref (89), .ref (90), .ref (91), .ref (92), .ref (93), .int (nI (tp)), .ref (94), .int (nI (ou))]) dX11_comes_151 pX11_203_10 (by omega) k126_0 (Nat.le_of_ble_eq_true rfl) (zfit_i _) rfl ?_
          refine zp_nh (fun h128x eh128x => ?_)
          have k128_0 : h128x (64) = some (.inl (10, [.int (th), .ref (65), .ref (66), .ref (67), .ref (68), .ref (69), .ref (70), .ref (71), .ref (72), .ref (73), .ref (74), .ref (75), .ref (76), .ref (77), .ref (78), .ref (79), .ref (80), .ref (81), .ref (82), .ref (83), .ref (84), .int (nI (w.length)), .int (nI (1)), .int (rp), .int (wi), .int (pa), .int (nI (x)), .int (zrun la ru (nI x)), .int ((-1)), .int (m1), .int ((s1) + (nI (1))), .int (ta), .int ((fa) + (nI (1))), .ref (85), .ref (86), .ref (87), .int (nI (mn)), .ref (88), .ref (89), .ref (90), .ref (91), .ref (92), .ref (93), .int (nI (tp)), .ref (94), .int (nI (ou))])) := by rw [eh128x]; exact va_up_self _ _ _
          have k128_1 := (congrFun eh128x (84)).trans ((va_up_ne _ _ (by omega)).trans k126_1)
          have sw129 : zsm h126x h128x (zon (64)) := zsm.rf.up eh128x rfl
          have zw129 : zsh h126x h128x := zsh.obj eh128x k126_0
          refine zp_aload_n dX11_comes_154 rfl ?_
          refine zp_pc (pc' := 155) rfl ?_
          refine zp_iconst (v := nI (0)) dX11_comes_155 (by decide) ?_
          refine zp_i (y := nI (([] : List Nat).length)) rfl ?_
          refine zp_put (fs' := [.int (th), .ref (65), .ref (66), .ref (67), .ref (68), .ref (69), .ref (70), .ref (71), .ref (72), .ref (73), .ref (74), .ref (75), .ref (76), .ref (77), .ref (78), .ref (79), .ref (80), .ref (81), .ref (82), .ref (83), .ref (84), .int (nI (([] : List Nat).length)), .int (nI (1)), .int (rp), .int (wi), .int (pa), .int (nI (x)), .int (zrun la ru (nI x)), .int ((-1)), .int (m1), .int ((s1) + (nI (1))), .int (ta), .int ((fa) + (nI (1))), .ref (85), .ref (86), .ref (87), .int (nI (mn)), .ref (88), .ref (89), .ref (90), .ref (91), .ref (92), .ref (93), .int (nI (tp)), .ref (94), .int (nI (ou))]) dX11_comes_156 pX11_206_10 (by omega) k128_0 (Nat.le_of_ble_eq_true rfl) (zfit_i _) rfl ?_
          refine zp_nh (fun h130x eh130x => ?_)
          have k130_0 : h130x (64) = some (.inl (10, [.int (th), .ref (65), .ref (66), .ref (67), .ref (68), .ref (69), .ref (70), .ref (71), .ref (72), .ref (73), .ref (74), .ref (75), .ref (76), .ref (77), .ref (78), .ref (79), .ref (80), .ref (81), .ref (82), .ref (83), .ref (84), .int (nI (([] : List Nat).length)), .int (nI (1)), .int (rp), .int (wi), .int (pa), .int (nI (x)), .int (zrun la ru (nI x)), .int ((-1)), .int (m1), .int ((s1) + (nI (1))), .int (ta), .int ((fa) + (nI (1))), .ref (85), .ref (86), .ref (87), .int (nI (mn)), .ref (88), .ref (89), .ref (90), .ref (91), .ref (92), .ref (93), .int (nI (tp)), .ref (94), .int (nI (ou))])) := by rw [eh130x]; exact va_up_self _ _ _
          have k130_1 := (congrFun eh130x (84)).trans ((va_up_ne _ _ (by omega)).trans k128_1)
          have sw131 : zsm h128x h130x (zon (64)) := zsm.rf.up eh130x rfl
          have zw131 : zsh h128x h130x := zsh.obj eh130x k128_0
          refine zp_goto (tgt := 182) dX11_comes_159 (by decide) ?_
          refine zp_pc (pc' := 182) rfl ?_
          have dT : (decide (zrun la ru (nI x) = rp)) = true := by rcases Bool.eq_false_or_eq_true (decide (zrun la ru (nI x) = rp)) with q | q; exact q; rw [q] at c136; exact absurd rfl c136
          have bd : (zrun la ru (nI x) = rp ∨ zfrq pa sa me (nI x) = true) := Or.inl (of_decide_eq_true dT)
          have eZ : zS12 (w, rp, wi, pa, un, la, ru, sa, me, se, ta, fa) x = ([], rp, wi, pa, true, (nI x), zrun la ru (nI x), -1, nI 0, nI 0, ta, fa + nI 1) := by show (if _ then _ else _) = _; rw [if_pos bd, eS]
          refine zp_ret (v := none) dX11_comes_182 ⟨rfl, rfl⟩ (by decide) (by decide) ?_
          rw [hQ]
          exact ⟨rfl, rfl, (((((((sw104).mono (fun i hi => by unfold zsw2; unfold zon at hi; omega)).trans ((sw106).mono (fun i hi => by unfold zsw2; unfold zon at hi; omega))).trans ((sw109).mono (fun i hi => by unfold zsw2; unfold zon at hi; omega))).trans ((sw121).mono (fun i hi => by unfold zsw2; unfold zon at hi; omega))).trans ((sw127).mono (fun i hi => by unfold zsw2; unfold zon at hi; omega))).trans ((sw129).mono (fun i hi => by unfold zsw2; unfold zon at hi; omega))).trans ((sw131).mono (fun i hi => by unfold zsw2; unfold zon at hi; omega)), ((((((zw104).trans zw106).trans zw109).trans zw121).trans zw127).trans zw129).trans zw131, m1, (s1) + (nI (1)), by rw [eZ]; exact k130_0, by rw [eZ]; exact fun q => absurd rfl q, by rw [eZ]; exact zar.mk (L := 0) k130_1 rfl (by omega) (by decide) (fun y hy => absurd hy (List.not_mem_nil)) (fun j hj => absurd hj (by omega))⟩
    · refine zp_aload_n dX11_comes_78 rfl ?_
      refine zp_dup dX11_comes_79 rfl ?_
      refine zp_get dX11_comes_80 gX11_193_10 k105_0 rfl ?_
      refine zp_iconst (v := nI (1)) dX11_comes_83 (by decide) ?_
      refine zp_iadd dX11_comes_84 ?_
      refine zp_put (fs' := [.int (th), .ref (65), .ref (66), .ref (67), .ref (68), .ref (69), .ref (70), .ref (71), .ref (72), .ref (73), .ref (74), .ref (75), .ref (76), .ref (77), .ref (78), .ref (79), .ref (80), .ref (81), .ref (82), .ref (83), .ref (84), .int (nI (w.length)), .int (nI (zbi un)), .int (rp), .int (wi), .int (pa), .int (nI (x)), .int (zrun la ru (nI x)), .int (sa), .int ((m1) + (nI (1))), .int (s1), .int (ta), .int (fa), .ref (85), .ref (86), .ref (87), .int (nI (mn)), .ref (88), .ref (89), .ref (90), .ref (91), .ref (92), .ref (93), .int (nI (tp)), .ref (94), .int (nI (ou))]) dX11_comes_85 pX11_193_10 (by omega) k105_0 (Nat.le_of_ble_eq_true rfl) (zfit_i _) rfl ?_
      refine zp_nh (fun h132x eh132x => ?_)
      have k132_0 : h132x (64) = some (.inl (10, [.int (th), .ref (65), .ref (66), .ref (67), .ref (68), .ref (69), .ref (70), .ref (71), .ref (72), .ref (73), .ref (74), .ref (75), .ref (76), .ref (77), .ref (78), .ref (79), .ref (80), .ref (81), .ref (82), .ref (83), .ref (84), .int (nI (w.length)), .int (nI (zbi un)), .int (rp), .int (wi), .int (pa), .int (nI (x)), .int (zrun la ru (nI x)), .int (sa), .int ((m1) + (nI (1))), .int (s1), .int (ta), .int (fa), .ref (85), .ref (86), .ref (87), .int (nI (mn)), .ref (88), .ref (89), .ref (90), .ref (91), .ref (92), .ref (93), .int (nI (tp)), .ref (94), .int (nI (ou))])) := by rw [eh132x]; exact va_up_self _ _ _
      have k132_1 := (congrFun eh132x (84)).trans ((va_up_ne _ _ (by omega)).trans k105_1)
      have sw133 : zsm h105x h132x (zon (64)) := zsm.rf.up eh132x rfl
      have zw133 : zsh h105x h132x := zsh.obj eh132x k105_0
      refine zp_iload_n dX11_comes_88 rfl ?_
      refine zp_pc (pc' := 89) rfl ?_
      have ef : zfrq pa sa me (nI x) = if m1 + nI 1 = pa then true else false := by unfold zfrq; rw [if_neg c49, if_pos c75, em]
      have jn134 : zP g mX11_comes (zR 0 0 0) Qf 0 0 108 [some (.ref (64)), some (.int (nI (x))), some (.int (nI (zbi (decide (zrun la ru (nI x) = rp)))))] [.int (nI (zbi (decide (zrun la ru (nI x) = rp ∨ zfrq pa sa me (nI x) = true))))] h132x n → zP g mX11_comes (zR 0 0 0) Qf 0 0 89 [some (.ref (64)), some (.int (nI (x))), some (.int (nI (zbi (decide (zrun la ru (nI x) = rp)))))] [.int (nI (zbi (decide (zrun la ru (nI x) = rp))))] h132x n := by
        intro jk134
        refine zn_if_ne (tgt := 103) dX11_comes_89 (by decide) (by have := zbi_lt (decide (zrun la ru (nI x) = rp)); omega) (fun c89 => ?_) (fun c89 => ?_)
        · refine zp_iconst (v := nI (1)) dX11_comes_103 (by decide) ?_
          refine zp_goto (tgt := 108) dX11_comes_104 (by decide) ?_
          refine zp_pc (pc' := 108) rfl ?_
          have dT1 : (decide (zrun la ru (nI x) = rp)) = true := by rcases Bool.eq_false_or_eq_true (decide (zrun la ru (nI x) = rp)) with q | q; exact q; rw [q] at c89; exact absurd rfl c89
          refine zp_i (y := nI (zbi (decide (zrun la ru (nI x) = rp ∨ zfrq pa sa me (nI x) = true)))) (by rw [show (decide (zrun la ru (nI x) = rp ∨ zfrq pa sa me (nI x) = true)) = true from decide_eq_true (Or.inl (of_decide_eq_true dT1))]; rfl) ?_
          exact jk134
        · refine zp_aload_n dX11_comes_92 rfl ?_
          refine zp_get dX11_comes_93 gX11_193_10 k132_0 rfl ?_
          refine zp_aload_n dX11_comes_96 rfl ?_
          refine zp_get dX11_comes_97 gX11_78_10 k132_0 rfl ?_
          refine zp_pc (pc' := 100) rfl ?_
          have dF1 : (decide (zrun la ru (nI x) = rp)) = false := by rcases Bool.eq_false_or_eq_true (decide (zrun la ru (nI x) = rp)) with q | q; rw [q] at c89; exact absurd c89 (by decide); exact q
          refine zp_icmp_ne (tgt := 107) dX11_comes_100 (by decide) (fun c100 => ?_) (fun c100 => ?_)
          · refine zp_iconst (v := nI (0)) dX11_comes_107 (by decide) ?_
            refine zp_pc (pc' := 108) rfl ?_
            refine zp_i (y := nI (zbi (decide (zrun la ru (nI x) = rp ∨ zfrq pa sa me (nI x) = true)))) (by rw [show (decide (zrun la ru (nI x) = rp ∨ zfrq pa sa me (nI x) = true)) = false from decide_eq_false (fun q => q.elim (of_decide_eq_false dF1) (fun q => by rw [ef, if_neg c100] at q; cases q))]; rfl) ?_
            exact jk134
          · refine zp_iconst (v := nI (1)) dX11_comes_103 (by decide) ?_
            refine zp_goto (tgt := 108) dX11_comes_104 (by decide) ?_
            refine zp_pc (pc' := 108) rfl ?_
            refine zp_i (y := nI (zbi (decide (zrun la ru (nI x) = rp ∨ zfrq pa sa me (nI x) = true)))) (by rw [show (decide (zrun la ru (nI x) = rp ∨ zfrq pa sa me (nI x) = true)) = true from decide_eq_true (Or.inr (by rw [ef, if_pos c100]))]; rfl) ?_
            exact jk134
      refine jn134 ?_
      refine zp_istore_n (ls' := [some (.ref (64)), some (.int (nI (x))), some (.int (nI (zbi (decide (zrun la ru (nI x) = rp ∨ zfrq pa sa me (nI x) = true)))))]) dX11_comes_108 (by decide) rfl ?_
      refine zp_pc (pc' := 109) rfl ?_
      refine zp_aload_n dX11_comes_109 rfl ?_
      refine zp_dup dX11_comes_110 rfl ?_
      refine zp_get dX11_comes_111 gX11_196_10 k132_0 rfl ?_
      refine zp_iconst (v := nI (1)) dX11_comes_114 (by decide) ?_
      refine zp_iadd dX11_comes_115 ?_
      refine zp_put (fs' := [.int (th), .ref (65), .ref (66), .ref (67), .ref (68), .ref (69), .ref (70), .ref (71), .ref (72), .ref (73), .ref (74), .ref (75), .ref (76), .ref (77), .ref (78), .ref (79), .ref (80), .ref (81), .ref (82), .ref (83), .ref (84), .int (nI (w.length)), .int (nI (zbi un)), .int (rp), .int (wi), .int (pa), .int (nI (x)), .int (zrun la ru (nI x)), .int (sa), .int ((m1) + (nI (1))), .int ((s1) + (nI (1))), .int (ta), .int (fa), .ref (85), .ref (86), .ref (87), .int (nI (mn)), .ref (88), .ref (89), .ref (90), .ref (91), .ref (92), .ref (93), .int (nI (tp)), .ref (94), .int (nI (ou))]) dX11_comes_116 pX11_196_10 (by omega) k132_0 (Nat.le_of_ble_eq_true rfl) (zfit_i _) rfl ?_
      refine zp_nh (fun h135x eh135x => ?_)
      have k135_0 : h135x (64) = some (.inl (10, [.int (th), .ref (65), .ref (66), .ref (67), .ref (68), .ref (69), .ref (70), .ref (71), .ref (72), .ref (73), .ref (74), .ref (75), .ref (76), .ref (77), .ref (78), .ref (79), .ref (80), .ref (81), .ref (82), .ref (83), .ref (84), .int (nI (w.length)), .int (nI (zbi un)), .int (rp), .int (wi), .int (pa), .int (nI (x)), .int (zrun la ru (nI x)), .int (sa), .int ((m1) + (nI (1))), .int ((s1) + (nI (1))), .int (ta), .int (fa), .ref (85), .ref (86), .ref (87), .int (nI (mn)), .ref (88), .ref (89), .ref (90), .ref (91), .ref (92), .ref (93), .int (nI (tp)), .ref (94), .int (nI (ou))])) := by rw [eh135x]; exact va_up_self _ _ _
      have k135_1 := (congrFun eh135x (84)).trans ((va_up_ne _ _ (by omega)).trans k132_1)
      have sw136 : zsm h132x h135x (zon (64)) := zsm.rf.up eh135x rfl
      have zw136 : zsh h132x h135x := zsh.obj eh135x k132_0
      refine zp_aload_n dX11_comes_119 rfl ?_
      refine zp_get dX11_comes_120 gX11_196_10 k135_0 rfl ?_
      refine zp_aload_n dX11_comes_123 rfl ?_
      refine zp_get dX11_comes_124 gX11_75_10 k135_0 rfl ?_
      refine zp_pc (pc' := 127) rfl ?_
      refine zp_icmp_ne (tgt := 135) dX11_comes_127 (by decide) (fun c127 => ?_) (fun c127 => ?_)
      · refine zp_iload_n dX11_comes_135 rfl ?_
        refine zp_pc (pc' := 136) rfl ?_
        have eS : zsmp wi sa me se (nI x) = (sa, me + nI 1, se + nI 1) := by unfold zsmp; rw [if_neg c49, if_neg (by rw [← es]; exact c127), if_pos c75]
        refine zn_if_eq (tgt := 162) dX11_comes_136 (by decide) (by have := zbi_lt (decide (zrun la ru (nI x) = rp ∨ zfrq pa sa me (nI x) = true)); omega) (fun c136 => ?_) (fun c136 => ?_)
        · refine zp_aload_n dX11_comes_162 rfl ?_
          refine zp_get dX11_comes_163 gX11_68_10 k135_0 rfl ?_
          refine zp_aload_n dX11_comes_166 rfl ?_
          refine zp_get dX11_comes_167 gX11_206_10 k135_0 rfl ?_
          refine zp_iload_n dX11_comes_170 rfl ?_
          refine zn_iast dX11_comes_171 (by omega) k135_1 (by omega) (by omega) ?_
          refine zp_nh (fun h137x eh137x => ?_)
          have k137_0 := (congrFun eh137x (64)).trans ((va_up_ne _ _ (by omega)).trans k135_0)
          have k137_1 : h137x (84) = some (.inr (1000, .inl (va_up lf101 (w.length) (nI (x))))) := by rw [eh137x]; exact va_up_self _ _ _
          have sw138 : zsm h135x h137x (zon (84)) := zsm.rf.up eh137x rfl
          have zw138 : zsh h135x h137x := zsh.fill eh137x k135_1
          refine zp_aload_n dX11_comes_172 rfl ?_
          refine zp_dup dX11_comes_173 rfl ?_
          refine zp_get dX11_comes_174 gX11_206_10 k137_0 rfl ?_
          refine zp_iconst (v := nI (1)) dX11_comes_177 (by decide) ?_
          refine zp_pc (pc' := 178) rfl ?_
          refine zn_iadd dX11_comes_178 ?_
          refine zp_i (y := nI ((w ++ [x]).length)) (by rw [List.length_append]; rfl) ?_
          refine zp_put (fs' := [.int (th), .ref (65), .ref (66), .ref (67), .ref (68), .ref (69), .ref (70), .ref (71), .ref (72), .ref (73), .ref (74), .ref (75), .ref (76), .ref (77), .ref (78), .ref (79), .ref (80), .ref (81), .ref (82), .ref (83), .ref (84), .int (nI ((w ++ [x]).length)), .int (nI (zbi un)), .int (rp), .int (wi), .int (pa), .int (nI (x)), .int (zrun la ru (nI x)), .int (sa), .int ((m1) + (nI (1))), .int ((s1) + (nI (1))), .int (ta), .int (fa), .ref (85), .ref (86), .ref (87), .int (nI (mn)), .ref (88), .ref (89), .ref (90), .ref (91), .ref (92), .ref (93), .int (nI (tp)), .ref (94), .int (nI (ou))]) dX11_comes_179 pX11_206_10 (by omega) k137_0 (Nat.le_of_ble_eq_true rfl) (zfit_i _) rfl ?_
          refine zp_nh (fun h139x eh139x => ?_)
          have k139_0 : h139x (64) = some (.inl (10, [.int (th), .ref (65), .ref (66), .ref (67), .ref (68), .ref (69), .ref (70), .ref (71), .ref (72), .ref (73), .ref (74), .ref (75), .ref (76), .ref (77), .ref (78), .ref (79), .ref (80), .ref (81), .ref (82), .ref (83), .ref (84), .int (nI ((w ++ [x]).length)), .int (nI (zbi un)), .int (rp), .int (wi), .int (pa), .int (nI (x)), .int (zrun la ru (nI x)), .int (sa), .int ((m1) + (nI (1))), .int ((s1) + (nI (1))), .int (ta), .int (fa), .ref (85), .ref (86), .ref (87), .int (nI (mn)), .ref (88), .ref (89), .ref (90), .ref (91), .ref (92), .ref (93), .int (nI (tp)), .ref (94), .int (nI (ou))])) := by rw [eh139x]; exact va_up_self _ _ _
          have k139_1 := (congrFun eh139x (84)).trans ((va_up_ne _ _ (by omega)).trans k137_1)
          have sw140 : zsm h137x h139x (zon (64)) := zsm.rf.up eh139x rfl
          have zw140 : zsh h137x h139x := zsh.obj eh139x k137_0
          refine zp_pc (pc' := 182) rfl ?_
          have dF : (decide (zrun la ru (nI x) = rp ∨ zfrq pa sa me (nI x) = true)) = false := by rcases Bool.eq_false_or_eq_true (decide (zrun la ru (nI x) = rp ∨ zfrq pa sa me (nI x) = true)) with q | q; rw [q] at c136; exact absurd c136 (by decide); exact q
          have bd : ¬ (zrun la ru (nI x) = rp ∨ zfrq pa sa me (nI x) = true) := of_decide_eq_false dF
          have eZ : zS12 (w, rp, wi, pa, un, la, ru, sa, me, se, ta, fa) x = (w ++ [x], rp, wi, pa, un, (nI x), zrun la ru (nI x), sa, me + nI 1, se + nI 1, ta, fa) := by show (if _ then _ else _) = _; rw [if_neg bd, eS]
          refine zp_ret (v := none) dX11_comes_182 ⟨rfl, rfl⟩ (by decide) (by decide) ?_
          rw [hQ]
          exact ⟨rfl, rfl, ((((((sw104).mono (fun i hi => by unfold zsw2; unfold zon at hi; omega)).trans ((sw106).mono (fun i hi => by unfold zsw2; unfold zon at hi; omega))).trans ((sw133).mono (fun i hi => by unfold zsw2; unfold zon at hi; omega))).trans ((sw136).mono (fun i hi => by unfold zsw2; unfold zon at hi; omega))).trans ((sw138).mono (fun i hi => by unfold zsw2; unfold zon at hi; omega))).trans ((sw140).mono (fun i hi => by unfold zsw2; unfold zon at hi; omega)), (((((zw104).trans zw106).trans zw133).trans zw136).trans zw138).trans zw140, (m1) + (nI (1)), (s1) + (nI (1)), by rw [eZ]; exact k139_0, by rw [eZ]; exact fun _ => ⟨by rw [em], by rw [es]⟩, by rw [eZ]; exact zar.mk (L := w.length + 1) k139_1 (by rw [List.length_append]; rfl) (by omega) (by decide) (zapp_lt lc101 (fun y hy => by rw [List.mem_singleton.mp hy]; exact hb)) (fun j hj => by
                  rcases Nat.lt_or_ge j w.length with q | q
                  · rw [va_up_ne _ _ (by omega), le101 j q, zapp_getD1 q]
                  · rw [show j = w.length by omega, va_up_self, show (w ++ [x]).getD w.length 0 = x from (zapp_getD2 (xs := w) (ys := [x]) (i := 0))])⟩
        · refine zp_aload_n dX11_comes_139 rfl ?_
          refine zp_iconst (v := nI (1)) dX11_comes_140 (by decide) ?_
          refine zp_put (fs' := [.int (th), .ref (65), .ref (66), .ref (67), .ref (68), .ref (69), .ref (70), .ref (71), .ref (72), .ref (73), .ref (74), .ref (75), .ref (76), .ref (77), .ref (78), .ref (79), .ref (80), .ref (81), .ref (82), .ref (83), .ref (84), .int (nI (w.length)), .int (nI (1)), .int (rp), .int (wi), .int (pa), .int (nI (x)), .int (zrun la ru (nI x)), .int (sa), .int ((m1) + (nI (1))), .int ((s1) + (nI (1))), .int (ta), .int (fa), .ref (85), .ref (86), .ref (87), .int (nI (mn)), .ref (88), .ref (89), .ref (90), .ref (91), .ref (92), .ref (93), .int (nI (tp)), .ref (94), .int (nI (ou))]) dX11_comes_141 pX11_199_10 (by omega) k135_0 (Nat.le_of_ble_eq_true rfl) zfit_1 rfl ?_
          refine zp_nh (fun h141x eh141x => ?_)
          have k141_0 : h141x (64) = some (.inl (10, [.int (th), .ref (65), .ref (66), .ref (67), .ref (68), .ref (69), .ref (70), .ref (71), .ref (72), .ref (73), .ref (74), .ref (75), .ref (76), .ref (77), .ref (78), .ref (79), .ref (80), .ref (81), .ref (82), .ref (83), .ref (84), .int (nI (w.length)), .int (nI (1)), .int (rp), .int (wi), .int (pa), .int (nI (x)), .int (zrun la ru (nI x)), .int (sa), .int ((m1) + (nI (1))), .int ((s1) + (nI (1))), .int (ta), .int (fa), .ref (85), .ref (86), .ref (87), .int (nI (mn)), .ref (88), .ref (89), .ref (90), .ref (91), .ref (92), .ref (93), .int (nI (tp)), .ref (94), .int (nI (ou))])) := by rw [eh141x]; exact va_up_self _ _ _
          have k141_1 := (congrFun eh141x (84)).trans ((va_up_ne _ _ (by omega)).trans k135_1)
          have sw142 : zsm h135x h141x (zon (64)) := zsm.rf.up eh141x rfl
          have zw142 : zsh h135x h141x := zsh.obj eh141x k135_0
          refine zp_aload_n dX11_comes_144 rfl ?_
          refine zp_dup dX11_comes_145 rfl ?_
          refine zp_get dX11_comes_146 gX11_203_10 k141_0 rfl ?_
          refine zp_iconst (v := nI (1)) dX11_comes_149 (by decide) ?_
          refine zp_iadd dX11_comes_150 ?_
          refine zp_put (fs' := [.int (th), .ref (65), .ref (66), .ref (67), .ref (68), .ref (69), .ref (70), .ref (71), .ref (72), .ref (73), .ref (74), .ref (75), .ref (76), .ref (77), .ref (78), .ref (79), .ref (80), .ref (81), .ref (82), .ref (83), .ref (84), .int (nI (w.length)), .int (nI (1)), .int (rp), .int (wi), .int (pa), .int (nI (x)), .int (zrun la ru (nI x)), .int (sa), .int ((m1) + (nI (1))), .int ((s1) + (nI (1))), .int (ta), .int ((fa) + (nI (1))), .ref (85), .ref (86), .ref (87), .int (nI (mn)), .ref (88), .ref (89), .ref (90), .ref (91), .ref (92), .ref (93), .int (nI (tp)), .ref (94), .int (nI (ou))]) dX11_comes_151 pX11_203_10 (by omega) k141_0 (Nat.le_of_ble_eq_true rfl) (zfit_i _) rfl ?_
          refine zp_nh (fun h143x eh143x => ?_)
          have k143_0 : h143x (64) = some (.inl (10, [.int (th), .ref (65), .ref (66), .ref (67), .ref (68), .ref (69), .ref (70), .ref (71), .ref (72), .ref (73), .ref (74), .ref (75), .ref (76), .ref (77), .ref (78), .ref (79), .ref (80), .ref (81), .ref (82), .ref (83), .ref (84), .int (nI (w.length)), .int (nI (1)), .int (rp), .int (wi), .int (pa), .int (nI (x)), .int (zrun la ru (nI x)), .int (sa), .int ((m1) + (nI (1))), .int ((s1) + (nI (1))), .int (ta), .int ((fa) + (nI (1))), .ref (85), .ref (86), .ref (87), .int (nI (mn)), .ref (88), .ref (89), .ref (90), .ref (91), .ref (92), .ref (93), .int (nI (tp)), .ref (94), .int (nI (ou))])) := by rw [eh143x]; exact va_up_self _ _ _
          have k143_1 := (congrFun eh143x (84)).trans ((va_up_ne _ _ (by omega)).trans k141_1)
          have sw144 : zsm h141x h143x (zon (64)) := zsm.rf.up eh143x rfl
          have zw144 : zsh h141x h143x := zsh.obj eh143x k141_0
          refine zp_aload_n dX11_comes_154 rfl ?_
          refine zp_pc (pc' := 155) rfl ?_
          refine zp_iconst (v := nI (0)) dX11_comes_155 (by decide) ?_
          refine zp_i (y := nI (([] : List Nat).length)) rfl ?_
          refine zp_put (fs' := [.int (th), .ref (65), .ref (66), .ref (67), .ref (68), .ref (69), .ref (70), .ref (71), .ref (72), .ref (73), .ref (74), .ref (75), .ref (76), .ref (77), .ref (78), .ref (79), .ref (80), .ref (81), .ref (82), .ref (83), .ref (84), .int (nI (([] : List Nat).length)), .int (nI (1)), .int (rp), .int (wi), .int (pa), .int (nI (x)), .int (zrun la ru (nI x)), .int (sa), .int ((m1) + (nI (1))), .int ((s1) + (nI (1))), .int (ta), .int ((fa) + (nI (1))), .ref (85), .ref (86), .ref (87), .int (nI (mn)), .ref (88), .ref (89), .ref (90), .ref (91), .ref (92), .ref (93), .int (nI (tp)), .ref (94), .int (nI (ou))]) dX11_comes_156 pX11_206_10 (by omega) k143_0 (Nat.le_of_ble_eq_true rfl) (zfit_i _) rfl ?_
          refine zp_nh (fun h145x eh145x => ?_)
          have k145_0 : h145x (64) = some (.inl (10, [.int (th), .ref (65), .ref (66), .ref (67), .ref (68), .ref (69), .ref (70), .ref (71), .ref (72), .ref (73), .ref (74), .ref (75), .ref (76), .ref (77), .ref (78), .ref (79), .ref (80), .ref (81), .ref (82), .ref (83), .ref (84), .int (nI (([] : List Nat).length)), .int (nI (1)), .int (rp), .int (wi), .int (pa), .int (nI (x)), .int (zrun la ru (nI x)), .int (sa), .int ((m1) + (nI (1))), .int ((s1) + (nI (1))), .int (ta), .int ((fa) + (nI (1))), .ref (85), .ref (86), .ref (87), .int (nI (mn)), .ref (88), .ref (89), .ref (90), .ref (91), .ref (92), .ref (93), .int (nI (tp)), .ref (94), .int (nI (ou))])) := by rw [eh145x]; exact va_up_self _ _ _
          have k145_1 := (congrFun eh145x (84)).trans ((va_up_ne _ _ (by omega)).trans k143_1)
          have sw146 : zsm h143x h145x (zon (64)) := zsm.rf.up eh145x rfl
          have zw146 : zsh h143x h145x := zsh.obj eh145x k143_0
          refine zp_goto (tgt := 182) dX11_comes_159 (by decide) ?_
          refine zp_pc (pc' := 182) rfl ?_
          have dT : (decide (zrun la ru (nI x) = rp ∨ zfrq pa sa me (nI x) = true)) = true := by rcases Bool.eq_false_or_eq_true (decide (zrun la ru (nI x) = rp ∨ zfrq pa sa me (nI x) = true)) with q | q; exact q; rw [q] at c136; exact absurd rfl c136
          have bd : (zrun la ru (nI x) = rp ∨ zfrq pa sa me (nI x) = true) := of_decide_eq_true dT
          have eZ : zS12 (w, rp, wi, pa, un, la, ru, sa, me, se, ta, fa) x = ([], rp, wi, pa, true, (nI x), zrun la ru (nI x), sa, me + nI 1, se + nI 1, ta, fa + nI 1) := by show (if _ then _ else _) = _; rw [if_pos bd, eS]
          refine zp_ret (v := none) dX11_comes_182 ⟨rfl, rfl⟩ (by decide) (by decide) ?_
          rw [hQ]
          exact ⟨rfl, rfl, (((((((sw104).mono (fun i hi => by unfold zsw2; unfold zon at hi; omega)).trans ((sw106).mono (fun i hi => by unfold zsw2; unfold zon at hi; omega))).trans ((sw133).mono (fun i hi => by unfold zsw2; unfold zon at hi; omega))).trans ((sw136).mono (fun i hi => by unfold zsw2; unfold zon at hi; omega))).trans ((sw142).mono (fun i hi => by unfold zsw2; unfold zon at hi; omega))).trans ((sw144).mono (fun i hi => by unfold zsw2; unfold zon at hi; omega))).trans ((sw146).mono (fun i hi => by unfold zsw2; unfold zon at hi; omega)), ((((((zw104).trans zw106).trans zw133).trans zw136).trans zw142).trans zw144).trans zw146, (m1) + (nI (1)), (s1) + (nI (1)), by rw [eZ]; exact k145_0, by rw [eZ]; exact fun _ => ⟨by rw [em], by rw [es]⟩, by rw [eZ]; exact zar.mk (L := 0) k145_1 rfl (by omega) (by decide) (fun y hy => absurd hy (List.not_mem_nil)) (fun j hj => absurd hj (by omega))⟩
      · refine zp_aload_n dX11_comes_130 rfl ?_
        refine zp_iconst (v := (-1)) dX11_comes_131 (by decide) ?_
        refine zp_put (fs' := [.int (th), .ref (65), .ref (66), .ref (67), .ref (68), .ref (69), .ref (70), .ref (71), .ref (72), .ref (73), .ref (74), .ref (75), .ref (76), .ref (77), .ref (78), .ref (79), .ref (80), .ref (81), .ref (82), .ref (83), .ref (84), .int (nI (w.length)), .int (nI (zbi un)), .int (rp), .int (wi), .int (pa), .int (nI (x)), .int (zrun la ru (nI x)), .int ((-1)), .int ((m1) + (nI (1))), .int ((s1) + (nI (1))), .int (ta), .int (fa), .ref (85), .ref (86), .ref (87), .int (nI (mn)), .ref (88), .ref (89), .ref (90), .ref (91), .ref (92), .ref (93), .int (nI (tp)), .ref (94), .int (nI (ou))]) dX11_comes_132 pX11_84_10 (by omega) k135_0 (Nat.le_of_ble_eq_true rfl) (zfit_i _) rfl ?_
        refine zp_nh (fun h147x eh147x => ?_)
        have k147_0 : h147x (64) = some (.inl (10, [.int (th), .ref (65), .ref (66), .ref (67), .ref (68), .ref (69), .ref (70), .ref (71), .ref (72), .ref (73), .ref (74), .ref (75), .ref (76), .ref (77), .ref (78), .ref (79), .ref (80), .ref (81), .ref (82), .ref (83), .ref (84), .int (nI (w.length)), .int (nI (zbi un)), .int (rp), .int (wi), .int (pa), .int (nI (x)), .int (zrun la ru (nI x)), .int ((-1)), .int ((m1) + (nI (1))), .int ((s1) + (nI (1))), .int (ta), .int (fa), .ref (85), .ref (86), .ref (87), .int (nI (mn)), .ref (88), .ref (89), .ref (90), .ref (91), .ref (92), .ref (93), .int (nI (tp)), .ref (94), .int (nI (ou))])) := by rw [eh147x]; exact va_up_self _ _ _
        have k147_1 := (congrFun eh147x (84)).trans ((va_up_ne _ _ (by omega)).trans k135_1)
        have sw148 : zsm h135x h147x (zon (64)) := zsm.rf.up eh147x rfl
        have zw148 : zsh h135x h147x := zsh.obj eh147x k135_0
        refine zp_iload_n dX11_comes_135 rfl ?_
        refine zp_pc (pc' := 136) rfl ?_
        have eS : zsmp wi sa me se (nI x) = (-1, nI 0, nI 0) := by unfold zsmp; rw [if_neg c49, if_pos (by rw [← es]; exact c127)]
        refine zn_if_eq (tgt := 162) dX11_comes_136 (by decide) (by have := zbi_lt (decide (zrun la ru (nI x) = rp ∨ zfrq pa sa me (nI x) = true)); omega) (fun c136 => ?_) (fun c136 => ?_)
        · refine zp_aload_n dX11_comes_162 rfl ?_
          refine zp_get dX11_comes_163 gX11_68_10 k147_0 rfl ?_
          refine zp_aload_n dX11_comes_166 rfl ?_
          refine zp_get dX11_comes_167 gX11_206_10 k147_0 rfl ?_
          refine zp_iload_n dX11_comes_170 rfl ?_
          refine zn_iast dX11_comes_171 (by omega) k147_1 (by omega) (by omega) ?_
          refine zp_nh (fun h149x eh149x => ?_)
          have k149_0 := (congrFun eh149x (64)).trans ((va_up_ne _ _ (by omega)).trans k147_0)
          have k149_1 : h149x (84) = some (.inr (1000, .inl (va_up lf101 (w.length) (nI (x))))) := by rw [eh149x]; exact va_up_self _ _ _
          have sw150 : zsm h147x h149x (zon (84)) := zsm.rf.up eh149x rfl
          have zw150 : zsh h147x h149x := zsh.fill eh149x k147_1
          refine zp_aload_n dX11_comes_172 rfl ?_
          refine zp_dup dX11_comes_173 rfl ?_
          refine zp_get dX11_comes_174 gX11_206_10 k149_0 rfl ?_
          refine zp_iconst (v := nI (1)) dX11_comes_177 (by decide) ?_
          refine zp_pc (pc' := 178) rfl ?_
          refine zn_iadd dX11_comes_178 ?_
          refine zp_i (y := nI ((w ++ [x]).length)) (by rw [List.length_append]; rfl) ?_
          refine zp_put (fs' := [.int (th), .ref (65), .ref (66), .ref (67), .ref (68), .ref (69), .ref (70), .ref (71), .ref (72), .ref (73), .ref (74), .ref (75), .ref (76), .ref (77), .ref (78), .ref (79), .ref (80), .ref (81), .ref (82), .ref (83), .ref (84), .int (nI ((w ++ [x]).length)), .int (nI (zbi un)), .int (rp), .int (wi), .int (pa), .int (nI (x)), .int (zrun la ru (nI x)), .int ((-1)), .int ((m1) + (nI (1))), .int ((s1) + (nI (1))), .int (ta), .int (fa), .ref (85), .ref (86), .ref (87), .int (nI (mn)), .ref (88), .ref (89), .ref (90), .ref (91), .ref (92), .ref (93), .int (nI (tp)), .ref (94), .int (nI (ou))]) dX11_comes_179 pX11_206_10 (by omega) k149_0 (Nat.le_of_ble_eq_true rfl) (zfit_i _) rfl ?_
          refine zp_nh (fun h151x eh151x => ?_)
          have k151_0 : h151x (64) = some (.inl (10, [.int (th), .ref (65), .ref (66), .ref (67), .ref (68), .ref (69), .ref (70), .ref (71), .ref (72), .ref (73), .ref (74), .ref (75), .ref (76), .ref (77), .ref (78), .ref (79), .ref (80), .ref (81), .ref (82), .ref (83), .ref (84), .int (nI ((w ++ [x]).length)), .int (nI (zbi un)), .int (rp), .int (wi), .int (pa), .int (nI (x)), .int (zrun la ru (nI x)), .int ((-1)), .int ((m1) + (nI (1))), .int ((s1) + (nI (1))), .int (ta), .int (fa), .ref (85), .ref (86), .ref (87), .int (nI (mn)), .ref (88), .ref (89), .ref (90), .ref (91), .ref (92), .ref (93), .int (nI (tp)), .ref (94), .int (nI (ou))])) := by rw [eh151x]; exact va_up_self _ _ _
          have k151_1 := (congrFun eh151x (84)).trans ((va_up_ne _ _ (by omega)).trans k149_1)
          have sw152 : zsm h149x h151x (zon (64)) := zsm.rf.up eh151x rfl
          have zw152 : zsh h149x h151x := zsh.obj eh151x k149_0
          refine zp_pc (pc' := 182) rfl ?_
          have dF : (decide (zrun la ru (nI x) = rp ∨ zfrq pa sa me (nI x) = true)) = false := by rcases Bool.eq_false_or_eq_true (decide (zrun la ru (nI x) = rp ∨ zfrq pa sa me (nI x) = true)) with q | q; rw [q] at c136; exact absurd c136 (by decide); exact q
          have bd : ¬ (zrun la ru (nI x) = rp ∨ zfrq pa sa me (nI x) = true) := of_decide_eq_false dF
          have eZ : zS12 (w, rp, wi, pa, un, la, ru, sa, me, se, ta, fa) x = (w ++ [x], rp, wi, pa, un, (nI x), zrun la ru (nI x), -1, nI 0, nI 0, ta, fa) := by show (if _ then _ else _) = _; rw [if_neg bd, eS]
          refine zp_ret (v := none) dX11_comes_182 ⟨rfl, rfl⟩ (by decide) (by decide) ?_
          rw [hQ]
          exact ⟨rfl, rfl, (((((((sw104).mono (fun i hi => by unfold zsw2; unfold zon at hi; omega)).trans ((sw106).mono (fun i hi => by unfold zsw2; unfold zon at hi; omega))).trans ((sw133).mono (fun i hi => by unfold zsw2; unfold zon at hi; omega))).trans ((sw136).mono (fun i hi => by unfold zsw2; unfold zon at hi; omega))).trans ((sw148).mono (fun i hi => by unfold zsw2; unfold zon at hi; omega))).trans ((sw150).mono (fun i hi => by unfold zsw2; unfold zon at hi; omega))).trans ((sw152).mono (fun i hi => by unfold zsw2; unfold zon at hi; omega)), ((((((zw104).trans zw106).trans zw133).trans zw136).trans zw148).trans zw150).trans zw152, (m1) + (nI (1)), (s1) + (nI (1)), by rw [eZ]; exact k151_0, by rw [eZ]; exact fun q => absurd rfl q, by rw [eZ]; exact zar.mk (L := w.length + 1) k151_1 (by rw [List.length_append]; rfl) (by omega) (by decide) (zapp_lt lc101 (fun y hy => by rw [List.mem_singleton.mp hy]; exact hb)) (fun j hj => by
                  rcases Nat.lt_or_ge j w.length with q | q
                  · rw [va_up_ne _ _ (by omega), le101 j q, zapp_getD1 q]
                  · rw [show j = w.length by omega, va_up_self, show (w ++ [x]).getD w.length 0 = x from (zapp_getD2 (xs := w) (ys := [x]) (i := 0))])⟩
        · refine zp_aload_n dX11_comes_139 rfl ?_
          refine zp_iconst (v := nI (1)) dX11_comes_140 (by decide) ?_
          refine zp_put (fs' := [.int (th), .ref (65), .ref (66), .ref (67), .ref (68), .ref (69), .ref (70), .ref (71), .ref (72), .ref (73), .ref (74), .ref (75), .ref (76), .ref (77), .ref (78), .ref (79), .ref (80), .ref (81), .ref (82), .ref (83), .ref (84), .int (nI (w.length)), .int (nI (1)), .int (rp), .int (wi), .int (pa), .int (nI (x)), .int (zrun la ru (nI x)), .int ((-1)), .int ((m1) + (nI (1))), .int ((s1) + (nI (1))), .int (ta), .int (fa), .ref (85), .ref (86), .ref (87), .int (nI (mn)), .ref (88), .ref (89), .ref (90), .ref (91), .ref (92), .ref (93), .int (nI (tp)), .ref (94), .int (nI (ou))]) dX11_comes_141 pX11_199_10 (by omega) k147_0 (Nat.le_of_ble_eq_true rfl) zfit_1 rfl ?_
          refine zp_nh (fun h153x eh153x => ?_)
          have k153_0 : h153x (64) = some (.inl (10, [.int (th), .ref (65), .ref (66), .ref (67), .ref (68), .ref (69), .ref (70), .ref (71), .ref (72), .ref (73), .ref (74), .ref (75), .ref (76), .ref (77), .ref (78), .ref (79), .ref (80), .ref (81), .ref (82), .ref (83), .ref (84), .int (nI (w.length)), .int (nI (1)), .int (rp), .int (wi), .int (pa), .int (nI (x)), .int (zrun la ru (nI x)), .int ((-1)), .int ((m1) + (nI (1))), .int ((s1) + (nI (1))), .int (ta), .int (fa), .ref (85), .ref (86), .ref (87), .int (nI (mn)), .ref (88), .ref (89), .ref (90), .ref (91), .ref (92), .ref (93), .int (nI (tp)), .ref (94), .int (nI (ou))])) := by rw [eh153x]; exact va_up_self _ _ _
          have k153_1 := (congrFun eh153x (84)).trans ((va_up_ne _ _ (by omega)).trans k147_1)
          have sw154 : zsm h147x h153x (zon (64)) := zsm.rf.up eh153x rfl
          have zw154 : zsh h147x h153x := zsh.obj eh153x k147_0
          refine zp_aload_n dX11_comes_144 rfl ?_
          refine zp_dup dX11_comes_145 rfl ?_
          refine zp_get dX11_comes_146 gX11_203_10 k153_0 rfl ?_
          refine zp_iconst (v := nI (1)) dX11_comes_149 (by decide) ?_
          refine zp_iadd dX11_comes_150 ?_
          refine zp_put (fs' := [.int (th), .ref (65), .ref (66), .ref (67), .ref (68), .ref (69), .ref (70), .ref (71), .ref (72), .ref (73), .ref (74), .ref (75), .ref (76), .ref (77), .ref (78), .ref (79), .ref (80), .ref (81), .ref (82), .ref (83), .ref (84), .int (nI (w.length)), .int (nI (1)), .int (rp), .int (wi), .int (pa), .int (nI (x)), .int (zrun la ru (nI x)), .int ((-1)), .int ((m1) + (nI (1))), .int ((s1) + (nI (1))), .int (ta), .int ((fa) + (nI (1))), .ref (85), .ref (86), .ref (87), .int (nI (mn)), .ref (88), .ref (89), .ref (90), .ref (91), .ref (92), .ref (93), .int (nI (tp)), .ref (94), .int (nI (ou))]) dX11_comes_151 pX11_203_10 (by omega) k153_0 (Nat.le_of_ble_eq_true rfl) (zfit_i _) rfl ?_
          refine zp_nh (fun h155x eh155x => ?_)
          have k155_0 : h155x (64) = some (.inl (10, [.int (th), .ref (65), .ref (66), .ref (67), .ref (68), .ref (69), .ref (70), .ref (71), .ref (72), .ref (73), .ref (74), .ref (75), .ref (76), .ref (77), .ref (78), .ref (79), .ref (80), .ref (81), .ref (82), .ref (83), .ref (84), .int (nI (w.length)), .int (nI (1)), .int (rp), .int (wi), .int (pa), .int (nI (x)), .int (zrun la ru (nI x)), .int ((-1)), .int ((m1) + (nI (1))), .int ((s1) + (nI (1))), .int (ta), .int ((fa) + (nI (1))), .ref (85), .ref (86), .ref (87), .int (nI (mn)), .ref (88), .ref (89), .ref (90), .ref (91), .ref (92), .ref (93), .int (nI (tp)), .ref (94), .int (nI (ou))])) := by rw [eh155x]; exact va_up_self _ _ _
          have k155_1 := (congrFun eh155x (84)).trans ((va_up_ne _ _ (by omega)).trans k153_1)
          have sw156 : zsm h153x h155x (zon (64)) := zsm.rf.up eh155x rfl
          have zw156 : zsh h153x h155x := zsh.obj eh155x k153_0
          refine zp_aload_n dX11_comes_154 rfl ?_
          refine zp_pc (pc' := 155) rfl ?_
          refine zp_iconst (v := nI (0)) dX11_comes_155 (by decide) ?_
          refine zp_i (y := nI (([] : List Nat).length)) rfl ?_
          refine zp_put (fs' := [.int (th), .ref (65), .ref (66), .ref (67), .ref (68), .ref (69), .ref (70), .ref (71), .ref (72), .ref (73), .ref (74), .ref (75), .ref (76), .ref (77), .ref (78), .ref (79), .ref (80), .ref (81), .ref (82), .ref (83), .ref (84), .int (nI (([] : List Nat).length)), .int (nI (1)), .int (rp), .int (wi), .int (pa), .int (nI (x)), .int (zrun la ru (nI x)), .int ((-1)), .int ((m1) + (nI (1))), .int ((s1) + (nI (1))), .int (ta), .int ((fa) + (nI (1))), .ref (85), .ref (86), .ref (87), .int (nI (mn)), .ref (88), .ref (89), .ref (90), .ref (91), .ref (92), .ref (93), .int (nI (tp)), .ref (94), .int (nI (ou))]) dX11_comes_156 pX11_206_10 (by omega) k155_0 (Nat.le_of_ble_eq_true rfl) (zfit_i _) rfl ?_
          refine zp_nh (fun h157x eh157x => ?_)
          have k157_0 : h157x (64) = some (.inl (10, [.int (th), .ref (65), .ref (66), .ref (67), .ref (68), .ref (69), .ref (70), .ref (71), .ref (72), .ref (73), .ref (74), .ref (75), .ref (76), .ref (77), .ref (78), .ref (79), .ref (80), .ref (81), .ref (82), .ref (83), .ref (84), .int (nI (([] : List Nat).length)), .int (nI (1)), .int (rp), .int (wi), .int (pa), .int (nI (x)), .int (zrun la ru (nI x)), .int ((-1)), .int ((m1) + (nI (1))), .int ((s1) + (nI (1))), .int (ta), .int ((fa) + (nI (1))), .ref (85), .ref (86), .ref (87), .int (nI (mn)), .ref (88), .ref (89), .ref (90), .ref (91), .ref (92), .ref (93), .int (nI (tp)), .ref (94), .int (nI (ou))])) := by rw [eh157x]; exact va_up_self _ _ _
          have k157_1 := (congrFun eh157x (84)).trans ((va_up_ne _ _ (by omega)).trans k155_1)
          have sw158 : zsm h155x h157x (zon (64)) := zsm.rf.up eh157x rfl
          have zw158 : zsh h155x h157x := zsh.obj eh157x k155_0
          refine zp_goto (tgt := 182) dX11_comes_159 (by decide) ?_
          refine zp_pc (pc' := 182) rfl ?_
          have dT : (decide (zrun la ru (nI x) = rp ∨ zfrq pa sa me (nI x) = true)) = true := by rcases Bool.eq_false_or_eq_true (decide (zrun la ru (nI x) = rp ∨ zfrq pa sa me (nI x) = true)) with q | q; exact q; rw [q] at c136; exact absurd rfl c136
          have bd : (zrun la ru (nI x) = rp ∨ zfrq pa sa me (nI x) = true) := of_decide_eq_true dT
          have eZ : zS12 (w, rp, wi, pa, un, la, ru, sa, me, se, ta, fa) x = ([], rp, wi, pa, true, (nI x), zrun la ru (nI x), -1, nI 0, nI 0, ta, fa + nI 1) := by show (if _ then _ else _) = _; rw [if_pos bd, eS]
          refine zp_ret (v := none) dX11_comes_182 ⟨rfl, rfl⟩ (by decide) (by decide) ?_
          rw [hQ]
          exact ⟨rfl, rfl, ((((((((sw104).mono (fun i hi => by unfold zsw2; unfold zon at hi; omega)).trans ((sw106).mono (fun i hi => by unfold zsw2; unfold zon at hi; omega))).trans ((sw133).mono (fun i hi => by unfold zsw2; unfold zon at hi; omega))).trans ((sw136).mono (fun i hi => by unfold zsw2; unfold zon at hi; omega))).trans ((sw148).mono (fun i hi => by unfold zsw2; unfold zon at hi; omega))).trans ((sw154).mono (fun i hi => by unfold zsw2; unfold zon at hi; omega))).trans ((sw156).mono (fun i hi => by unfold zsw2; unfold zon at hi; omega))).trans ((sw158).mono (fun i hi => by unfold zsw2; unfold zon at hi; omega)), (((((((zw104).trans zw106).trans zw133).trans zw136).trans zw148).trans zw154).trans zw156).trans zw158, (m1) + (nI (1)), (s1) + (nI (1)), by rw [eZ]; exact k157_0, by rw [eZ]; exact fun q => absurd rfl q, by rw [eZ]; exact zar.mk (L := 0) k157_1 rfl (by omega) (by decide) (fun y hy => absurd hy (List.not_mem_nil)) (fun j hj => absurd hj (by omega))⟩
  · have ef : zfrq pa sa me (nI x) = false := by unfold zfrq; rw [if_pos c49]
    refine zp_aload_n dX11_comes_52 rfl ?_
    refine zp_iload_n dX11_comes_53 rfl ?_
    refine zp_put (fs' := [.int (th), .ref (65), .ref (66), .ref (67), .ref (68), .ref (69), .ref (70), .ref (71), .ref (72), .ref (73), .ref (74), .ref (75), .ref (76), .ref (77), .ref (78), .ref (79), .ref (80), .ref (81), .ref (82), .ref (83), .ref (84), .int (nI (w.length)), .int (nI (zbi un)), .int (rp), .int (wi), .int (pa), .int (nI (x)), .int (zrun la ru (nI x)), .int (nI (x)), .int (m1), .int (s1), .int (ta), .int (fa), .ref (85), .ref (86), .ref (87), .int (nI (mn)), .ref (88), .ref (89), .ref (90), .ref (91), .ref (92), .ref (93), .int (nI (tp)), .ref (94), .int (nI (ou))]) dX11_comes_54 pX11_84_10 (by omega) k105_0 (Nat.le_of_ble_eq_true rfl) (zfit_i _) rfl ?_
    refine zp_nh (fun h159x eh159x => ?_)
    have k159_0 : h159x (64) = some (.inl (10, [.int (th), .ref (65), .ref (66), .ref (67), .ref (68), .ref (69), .ref (70), .ref (71), .ref (72), .ref (73), .ref (74), .ref (75), .ref (76), .ref (77), .ref (78), .ref (79), .ref (80), .ref (81), .ref (82), .ref (83), .ref (84), .int (nI (w.length)), .int (nI (zbi un)), .int (rp), .int (wi), .int (pa), .int (nI (x)), .int (zrun la ru (nI x)), .int (nI (x)), .int (m1), .int (s1), .int (ta), .int (fa), .ref (85), .ref (86), .ref (87), .int (nI (mn)), .ref (88), .ref (89), .ref (90), .ref (91), .ref (92), .ref (93), .int (nI (tp)), .ref (94), .int (nI (ou))])) := by rw [eh159x]; exact va_up_self _ _ _
    have k159_1 := (congrFun eh159x (84)).trans ((va_up_ne _ _ (by omega)).trans k105_1)
    have sw160 : zsm h105x h159x (zon (64)) := zsm.rf.up eh159x rfl
    have zw160 : zsh h105x h159x := zsh.obj eh159x k105_0
    refine zp_aload_n dX11_comes_57 rfl ?_
    refine zp_iconst (v := nI (1)) dX11_comes_58 (by decide) ?_
    refine zp_put (fs' := [.int (th), .ref (65), .ref (66), .ref (67), .ref (68), .ref (69), .ref (70), .ref (71), .ref (72), .ref (73), .ref (74), .ref (75), .ref (76), .ref (77), .ref (78), .ref (79), .ref (80), .ref (81), .ref (82), .ref (83), .ref (84), .int (nI (w.length)), .int (nI (zbi un)), .int (rp), .int (wi), .int (pa), .int (nI (x)), .int (zrun la ru (nI x)), .int (nI (x)), .int (nI (1)), .int (s1), .int (ta), .int (fa), .ref (85), .ref (86), .ref (87), .int (nI (mn)), .ref (88), .ref (89), .ref (90), .ref (91), .ref (92), .ref (93), .int (nI (tp)), .ref (94), .int (nI (ou))]) dX11_comes_59 pX11_193_10 (by omega) k159_0 (Nat.le_of_ble_eq_true rfl) (zfit_i _) rfl ?_
    refine zp_nh (fun h161x eh161x => ?_)
    have k161_0 : h161x (64) = some (.inl (10, [.int (th), .ref (65), .ref (66), .ref (67), .ref (68), .ref (69), .ref (70), .ref (71), .ref (72), .ref (73), .ref (74), .ref (75), .ref (76), .ref (77), .ref (78), .ref (79), .ref (80), .ref (81), .ref (82), .ref (83), .ref (84), .int (nI (w.length)), .int (nI (zbi un)), .int (rp), .int (wi), .int (pa), .int (nI (x)), .int (zrun la ru (nI x)), .int (nI (x)), .int (nI (1)), .int (s1), .int (ta), .int (fa), .ref (85), .ref (86), .ref (87), .int (nI (mn)), .ref (88), .ref (89), .ref (90), .ref (91), .ref (92), .ref (93), .int (nI (tp)), .ref (94), .int (nI (ou))])) := by rw [eh161x]; exact va_up_self _ _ _
    have k161_1 := (congrFun eh161x (84)).trans ((va_up_ne _ _ (by omega)).trans k159_1)
    have sw162 : zsm h159x h161x (zon (64)) := zsm.rf.up eh161x rfl
    have zw162 : zsh h159x h161x := zsh.obj eh161x k159_0
    refine zp_aload_n dX11_comes_62 rfl ?_
    refine zp_iconst (v := nI (1)) dX11_comes_63 (by decide) ?_
    refine zp_put (fs' := [.int (th), .ref (65), .ref (66), .ref (67), .ref (68), .ref (69), .ref (70), .ref (71), .ref (72), .ref (73), .ref (74), .ref (75), .ref (76), .ref (77), .ref (78), .ref (79), .ref (80), .ref (81), .ref (82), .ref (83), .ref (84), .int (nI (w.length)), .int (nI (zbi un)), .int (rp), .int (wi), .int (pa), .int (nI (x)), .int (zrun la ru (nI x)), .int (nI (x)), .int (nI (1)), .int (nI (1)), .int (ta), .int (fa), .ref (85), .ref (86), .ref (87), .int (nI (mn)), .ref (88), .ref (89), .ref (90), .ref (91), .ref (92), .ref (93), .int (nI (tp)), .ref (94), .int (nI (ou))]) dX11_comes_64 pX11_196_10 (by omega) k161_0 (Nat.le_of_ble_eq_true rfl) (zfit_i _) rfl ?_
    refine zp_nh (fun h163x eh163x => ?_)
    have k163_0 : h163x (64) = some (.inl (10, [.int (th), .ref (65), .ref (66), .ref (67), .ref (68), .ref (69), .ref (70), .ref (71), .ref (72), .ref (73), .ref (74), .ref (75), .ref (76), .ref (77), .ref (78), .ref (79), .ref (80), .ref (81), .ref (82), .ref (83), .ref (84), .int (nI (w.length)), .int (nI (zbi un)), .int (rp), .int (wi), .int (pa), .int (nI (x)), .int (zrun la ru (nI x)), .int (nI (x)), .int (nI (1)), .int (nI (1)), .int (ta), .int (fa), .ref (85), .ref (86), .ref (87), .int (nI (mn)), .ref (88), .ref (89), .ref (90), .ref (91), .ref (92), .ref (93), .int (nI (tp)), .ref (94), .int (nI (ou))])) := by rw [eh163x]; exact va_up_self _ _ _
    have k163_1 := (congrFun eh163x (84)).trans ((va_up_ne _ _ (by omega)).trans k161_1)
    have sw164 : zsm h161x h163x (zon (64)) := zsm.rf.up eh163x rfl
    have zw164 : zsh h161x h163x := zsh.obj eh163x k161_0
    refine zp_goto (tgt := 135) dX11_comes_67 (by decide) ?_
    refine zp_pc (pc' := 135) rfl ?_
    refine zp_iload_n dX11_comes_135 rfl ?_
    refine zp_pc (pc' := 136) rfl ?_
    have eS : zsmp wi sa me se (nI x) = ((nI x), nI 1, nI 1) := by unfold zsmp; rw [if_pos c49]
    refine zn_if_eq (tgt := 162) dX11_comes_136 (by decide) (by have := zbi_lt (decide (zrun la ru (nI x) = rp)); omega) (fun c136 => ?_) (fun c136 => ?_)
    · refine zp_aload_n dX11_comes_162 rfl ?_
      refine zp_get dX11_comes_163 gX11_68_10 k163_0 rfl ?_
      refine zp_aload_n dX11_comes_166 rfl ?_
      refine zp_get dX11_comes_167 gX11_206_10 k163_0 rfl ?_
      refine zp_iload_n dX11_comes_170 rfl ?_
      refine zn_iast dX11_comes_171 (by omega) k163_1 (by omega) (by omega) ?_
      refine zp_nh (fun h165x eh165x => ?_)
      have k165_0 := (congrFun eh165x (64)).trans ((va_up_ne _ _ (by omega)).trans k163_0)
      have k165_1 : h165x (84) = some (.inr (1000, .inl (va_up lf101 (w.length) (nI (x))))) := by rw [eh165x]; exact va_up_self _ _ _
      have sw166 : zsm h163x h165x (zon (84)) := zsm.rf.up eh165x rfl
      have zw166 : zsh h163x h165x := zsh.fill eh165x k163_1
      refine zp_aload_n dX11_comes_172 rfl ?_
      refine zp_dup dX11_comes_173 rfl ?_
      refine zp_get dX11_comes_174 gX11_206_10 k165_0 rfl ?_
      refine zp_iconst (v := nI (1)) dX11_comes_177 (by decide) ?_
      refine zp_pc (pc' := 178) rfl ?_
      refine zn_iadd dX11_comes_178 ?_
      refine zp_i (y := nI ((w ++ [x]).length)) (by rw [List.length_append]; rfl) ?_
      refine zp_put (fs' := [.int (th), .ref (65), .ref (66), .ref (67), .ref (68), .ref (69), .ref (70), .ref (71), .ref (72), .ref (73), .ref (74), .ref (75), .ref (76), .ref (77), .ref (78), .ref (79), .ref (80), .ref (81), .ref (82), .ref (83), .ref (84), .int (nI ((w ++ [x]).length)), .int (nI (zbi un)), .int (rp), .int (wi), .int (pa), .int (nI (x)), .int (zrun la ru (nI x)), .int (nI (x)), .int (nI (1)), .int (nI (1)), .int (ta), .int (fa), .ref (85), .ref (86), .ref (87), .int (nI (mn)), .ref (88), .ref (89), .ref (90), .ref (91), .ref (92), .ref (93), .int (nI (tp)), .ref (94), .int (nI (ou))]) dX11_comes_179 pX11_206_10 (by omega) k165_0 (Nat.le_of_ble_eq_true rfl) (zfit_i _) rfl ?_
      refine zp_nh (fun h167x eh167x => ?_)
      have k167_0 : h167x (64) = some (.inl (10, [.int (th), .ref (65), .ref (66), .ref (67), .ref (68), .ref (69), .ref (70), .ref (71), .ref (72), .ref (73), .ref (74), .ref (75), .ref (76), .ref (77), .ref (78), .ref (79), .ref (80), .ref (81), .ref (82), .ref (83), .ref (84), .int (nI ((w ++ [x]).length)), .int (nI (zbi un)), .int (rp), .int (wi), .int (pa), .int (nI (x)), .int (zrun la ru (nI x)), .int (nI (x)), .int (nI (1)), .int (nI (1)), .int (ta), .int (fa), .ref (85), .ref (86), .ref (87), .int (nI (mn)), .ref (88), .ref (89), .ref (90), .ref (91), .ref (92), .ref (93), .int (nI (tp)), .ref (94), .int (nI (ou))])) := by rw [eh167x]; exact va_up_self _ _ _
      have k167_1 := (congrFun eh167x (84)).trans ((va_up_ne _ _ (by omega)).trans k165_1)
      have sw168 : zsm h165x h167x (zon (64)) := zsm.rf.up eh167x rfl
      have zw168 : zsh h165x h167x := zsh.obj eh167x k165_0
      refine zp_pc (pc' := 182) rfl ?_
      have dF : (decide (zrun la ru (nI x) = rp)) = false := by rcases Bool.eq_false_or_eq_true (decide (zrun la ru (nI x) = rp)) with q | q; rw [q] at c136; exact absurd c136 (by decide); exact q
      have bd : ¬ (zrun la ru (nI x) = rp ∨ zfrq pa sa me (nI x) = true) := fun q => q.elim (of_decide_eq_false dF) (fun q => by rw [ef] at q; cases q)
      have eZ : zS12 (w, rp, wi, pa, un, la, ru, sa, me, se, ta, fa) x = (w ++ [x], rp, wi, pa, un, (nI x), zrun la ru (nI x), (nI x), nI 1, nI 1, ta, fa) := by show (if _ then _ else _) = _; rw [if_neg bd, eS]
      refine zp_ret (v := none) dX11_comes_182 ⟨rfl, rfl⟩ (by decide) (by decide) ?_
      rw [hQ]
      exact ⟨rfl, rfl, (((((((sw104).mono (fun i hi => by unfold zsw2; unfold zon at hi; omega)).trans ((sw106).mono (fun i hi => by unfold zsw2; unfold zon at hi; omega))).trans ((sw160).mono (fun i hi => by unfold zsw2; unfold zon at hi; omega))).trans ((sw162).mono (fun i hi => by unfold zsw2; unfold zon at hi; omega))).trans ((sw164).mono (fun i hi => by unfold zsw2; unfold zon at hi; omega))).trans ((sw166).mono (fun i hi => by unfold zsw2; unfold zon at hi; omega))).trans ((sw168).mono (fun i hi => by unfold zsw2; unfold zon at hi; omega)), ((((((zw104).trans zw106).trans zw160).trans zw162).trans zw164).trans zw166).trans zw168, nI (1), nI (1), by rw [eZ]; exact k167_0, by rw [eZ]; exact fun _ => ⟨rfl, rfl⟩, by rw [eZ]; exact zar.mk (L := w.length + 1) k167_1 (by rw [List.length_append]; rfl) (by omega) (by decide) (zapp_lt lc101 (fun y hy => by rw [List.mem_singleton.mp hy]; exact hb)) (fun j hj => by
              rcases Nat.lt_or_ge j w.length with q | q
              · rw [va_up_ne _ _ (by omega), le101 j q, zapp_getD1 q]
              · rw [show j = w.length by omega, va_up_self, show (w ++ [x]).getD w.length 0 = x from (zapp_getD2 (xs := w) (ys := [x]) (i := 0))])⟩
    · refine zp_aload_n dX11_comes_139 rfl ?_
      refine zp_iconst (v := nI (1)) dX11_comes_140 (by decide) ?_
      refine zp_put (fs' := [.int (th), .ref (65), .ref (66), .ref (67), .ref (68), .ref (69), .ref (70), .ref (71), .ref (72), .ref (73), .ref (74), .ref (75), .ref (76), .ref (77), .ref (78), .ref (79), .ref (80), .ref (81), .ref (82), .ref (83), .ref (84), .int (nI (w.length)), .int (nI (1)), .int (rp), .int (wi), .int (pa), .int (nI (x)), .int (zrun la ru (nI x)), .int (nI (x)), .int (nI (1)), .int (nI (1)), .int (ta), .int (fa), .ref (85), .ref (86), .ref (87), .int (nI (mn)), .ref (88), .ref (89), .ref (90), .ref (91), .ref (92), .ref (93), .int (nI (tp)), .ref (94), .int (nI (ou))]) dX11_comes_141 pX11_199_10 (by omega) k163_0 (Nat.le_of_ble_eq_true rfl) zfit_1 rfl ?_
      refine zp_nh (fun h169x eh169x => ?_)
      have k169_0 : h169x (64) = some (.inl (10, [.int (th), .ref (65), .ref (66), .ref (67), .ref (68), .ref (69), .ref (70), .ref (71), .ref (72), .ref (73), .ref (74), .ref (75), .ref (76), .ref (77), .ref (78), .ref (79), .ref (80), .ref (81), .ref (82), .ref (83), .ref (84), .int (nI (w.length)), .int (nI (1)), .int (rp), .int (wi), .int (pa), .int (nI (x)), .int (zrun la ru (nI x)), .int (nI (x)), .int (nI (1)), .int (nI (1)), .int (ta), .int (fa), .ref (85), .ref (86), .ref (87), .int (nI (mn)), .ref (88), .ref (89), .ref (90), .ref (91), .ref (92), .ref (93), .int (nI (tp)), .ref (94), .int (nI (ou))])) := by rw [eh169x]; exact va_up_self _ _ _
      have k169_1 := (congrFun eh169x (84)).trans ((va_up_ne _ _ (by omega)).trans k163_1)
      have sw170 : zsm h163x h169x (zon (64)) := zsm.rf.up eh169x rfl
      have zw170 : zsh h163x h169x := zsh.obj eh169x k163_0
      refine zp_aload_n dX11_comes_144 rfl ?_
      refine zp_dup dX11_comes_145 rfl ?_
      refine zp_get dX11_comes_146 gX11_203_10 k169_0 rfl ?_
      refine zp_iconst (v := nI (1)) dX11_comes_149 (by decide) ?_
      refine zp_iadd dX11_comes_150 ?_
      refine zp_put (fs' := [.int (th), .ref (65), .ref (66), .ref (67), .ref (68), .ref (69), .ref (70), .ref (71), .ref (72), .ref (73), .ref (74), .ref (75), .ref (76), .ref (77), .ref (78), .ref (79), .ref (80), .ref (81), .ref (82), .ref (83), .ref (84), .int (nI (w.length)), .int (nI (1)), .int (rp), .int (wi), .int (pa), .int (nI (x)), .int (zrun la ru (nI x)), .int (nI (x)), .int (nI (1)), .int (nI (1)), .int (ta), .int ((fa) + (nI (1))), .ref (85), .ref (86), .ref (87), .int (nI (mn)), .ref (88), .ref (89), .ref (90), .ref (91), .ref (92), .ref (93), .int (nI (tp)), .ref (94), .int (nI (ou))]) dX11_comes_151 pX11_203_10 (by omega) k169_0 (Nat.le_of_ble_eq_true rfl) (zfit_i _) rfl ?_
      refine zp_nh (fun h171x eh171x => ?_)
      have k171_0 : h171x (64) = some (.inl (10, [.int (th), .ref (65), .ref (66), .ref (67), .ref (68), .ref (69), .ref (70), .ref (71), .ref (72), .ref (73), .ref (74), .ref (75), .ref (76), .ref (77), .ref (78), .ref (79), .ref (80), .ref (81), .ref (82), .ref (83), .ref (84), .int (nI (w.length)), .int (nI (1)), .int (rp), .int (wi), .int (pa), .int (nI (x)), .int (zrun la ru (nI x)), .int (nI (x)), .int (nI (1)), .int (nI (1)), .int (ta), .int ((fa) + (nI (1))), .ref (85), .ref (86), .ref (87), .int (nI (mn)), .ref (88), .ref (89), .ref (90), .ref (91), .ref (92), .ref (93), .int (nI (tp)), .ref (94), .int (nI (ou))])) := by rw [eh171x]; exact va_up_self _ _ _
      have k171_1 := (congrFun eh171x (84)).trans ((va_up_ne _ _ (by omega)).trans k169_1)
      have sw172 : zsm h169x h171x (zon (64)) := zsm.rf.up eh171x rfl
      have zw172 : zsh h169x h171x := zsh.obj eh171x k169_0
      refine zp_aload_n dX11_comes_154 rfl ?_
      refine zp_pc (pc' := 155) rfl ?_
      refine zp_iconst (v := nI (0)) dX11_comes_155 (by decide) ?_
      refine zp_i (y := nI (([] : List Nat).length)) rfl ?_
      refine zp_put (fs' := [.int (th), .ref (65), .ref (66), .ref (67), .ref (68), .ref (69), .ref (70), .ref (71), .ref (72), .ref (73), .ref (74), .ref (75), .ref (76), .ref (77), .ref (78), .ref (79), .ref (80), .ref (81), .ref (82), .ref (83), .ref (84), .int (nI (([] : List Nat).length)), .int (nI (1)), .int (rp), .int (wi), .int (pa), .int (nI (x)), .int (zrun la ru (nI x)), .int (nI (x)), .int (nI (1)), .int (nI (1)), .int (ta), .int ((fa) + (nI (1))), .ref (85), .ref (86), .ref (87), .int (nI (mn)), .ref (88), .ref (89), .ref (90), .ref (91), .ref (92), .ref (93), .int (nI (tp)), .ref (94), .int (nI (ou))]) dX11_comes_156 pX11_206_10 (by omega) k171_0 (Nat.le_of_ble_eq_true rfl) (zfit_i _) rfl ?_
      refine zp_nh (fun h173x eh173x => ?_)
      have k173_0 : h173x (64) = some (.inl (10, [.int (th), .ref (65), .ref (66), .ref (67), .ref (68), .ref (69), .ref (70), .ref (71), .ref (72), .ref (73), .ref (74), .ref (75), .ref (76), .ref (77), .ref (78), .ref (79), .ref (80), .ref (81), .ref (82), .ref (83), .ref (84), .int (nI (([] : List Nat).length)), .int (nI (1)), .int (rp), .int (wi), .int (pa), .int (nI (x)), .int (zrun la ru (nI x)), .int (nI (x)), .int (nI (1)), .int (nI (1)), .int (ta), .int ((fa) + (nI (1))), .ref (85), .ref (86), .ref (87), .int (nI (mn)), .ref (88), .ref (89), .ref (90), .ref (91), .ref (92), .ref (93), .int (nI (tp)), .ref (94), .int (nI (ou))])) := by rw [eh173x]; exact va_up_self _ _ _
      have k173_1 := (congrFun eh173x (84)).trans ((va_up_ne _ _ (by omega)).trans k171_1)
      have sw174 : zsm h171x h173x (zon (64)) := zsm.rf.up eh173x rfl
      have zw174 : zsh h171x h173x := zsh.obj eh173x k171_0
      refine zp_goto (tgt := 182) dX11_comes_159 (by decide) ?_
      refine zp_pc (pc' := 182) rfl ?_
      have dT : (decide (zrun la ru (nI x) = rp)) = true := by rcases Bool.eq_false_or_eq_true (decide (zrun la ru (nI x) = rp)) with q | q; exact q; rw [q] at c136; exact absurd rfl c136
      have bd : (zrun la ru (nI x) = rp ∨ zfrq pa sa me (nI x) = true) := Or.inl (of_decide_eq_true dT)
      have eZ : zS12 (w, rp, wi, pa, un, la, ru, sa, me, se, ta, fa) x = ([], rp, wi, pa, true, (nI x), zrun la ru (nI x), (nI x), nI 1, nI 1, ta, fa + nI 1) := by show (if _ then _ else _) = _; rw [if_pos bd, eS]
      refine zp_ret (v := none) dX11_comes_182 ⟨rfl, rfl⟩ (by decide) (by decide) ?_
      rw [hQ]
      exact ⟨rfl, rfl, ((((((((sw104).mono (fun i hi => by unfold zsw2; unfold zon at hi; omega)).trans ((sw106).mono (fun i hi => by unfold zsw2; unfold zon at hi; omega))).trans ((sw160).mono (fun i hi => by unfold zsw2; unfold zon at hi; omega))).trans ((sw162).mono (fun i hi => by unfold zsw2; unfold zon at hi; omega))).trans ((sw164).mono (fun i hi => by unfold zsw2; unfold zon at hi; omega))).trans ((sw170).mono (fun i hi => by unfold zsw2; unfold zon at hi; omega))).trans ((sw172).mono (fun i hi => by unfold zsw2; unfold zon at hi; omega))).trans ((sw174).mono (fun i hi => by unfold zsw2; unfold zon at hi; omega)), (((((((zw104).trans zw106).trans zw160).trans zw162).trans zw164).trans zw170).trans zw172).trans zw174, nI (1), nI (1), by rw [eZ]; exact k173_0, by rw [eZ]; exact fun _ => ⟨rfl, rfl⟩, by rw [eZ]; exact zar.mk (L := 0) k173_1 rfl (by omega) (by decide) (fun y hy => absurd hy (List.not_mem_nil)) (fun j hj => absurd hj (by omega))⟩
