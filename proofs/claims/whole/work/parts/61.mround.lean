abbrev zb3 (a b : Nat) : Nat → Prop := fun i => a ≤ i ∧ i ≤ b
theorem z8f_ext {f : Nat → Int64} {s : Z8} (h0 : f 0 = s.1) (h1 : f 1 = s.2.1) (h2 : f 2 = s.2.2.1) (h3 : f 3 = s.2.2.2.1) (h4 : f 4 = s.2.2.2.2.1) (h5 : f 5 = s.2.2.2.2.2.1) (h6 : f 6 = s.2.2.2.2.2.2.1) (h7 : f 7 = s.2.2.2.2.2.2.2) : ∀ j, j < 8 → f j = z8f s j := fun j hj => by
  have : j = 0 ∨ j = 1 ∨ j = 2 ∨ j = 3 ∨ j = 4 ∨ j = 5 ∨ j = 6 ∨ j = 7 := by omega
  rcases this with rfl | rfl | rfl | rfl | rfl | rfl | rfl | rfl <;> assumption
theorem zrn_ge (b : Bool) : 16 ≤ zrn b ∧ zrn b ≤ 80 := by cases b <;> decide
set_option maxRecDepth 10000 in
set_option maxHeartbeats 2000000 in
theorem e_mround {g : ZG} {h : ZH} {n : Nat} {b : Bool} {at_ : Nat} {f : Nat → Int32} {fw fh fs : Nat → Int64} {s : Z8} {th : Int32} {wt : Nat} {un : Bool} {rp wi pa be ru sa me se ta fa : Int32} {mn tp ou : Nat} (ht : ztab h) (ho : h 64 = some (.inl (10, [.int (th), .ref (65), .ref (66), .ref (67), .ref (68), .ref (69), .ref (70), .ref (71), .ref (72), .ref (73), .ref (74), .ref (75), .ref (76), .ref (77), .ref (78), .ref (79), .ref (80), .ref (81), .ref (82), .ref (83), .ref (84), .int (nI (wt)), .int (nI (zbi un)), .int (rp), .int (wi), .int (pa), .int (be), .int (ru), .int (sa), .int (me), .int (se), .int (ta), .int (fa), .ref (85), .ref (86), .ref (87), .int (nI (mn)), .ref (88), .ref (89), .ref (90), .ref (91), .ref (92), .ref (93), .int (nI (tp)), .ref (94), .int (nI (ou))]))) (hc : h 65 = some (.inr (80, .inr (.inl (fun j => zt_ROUND.getD j 0))))) (hp : h 70 = some (.inr (1200, .inl f))) (hw : h 71 = some (.inr (80, .inr (.inl fw)))) (hh : h 72 = some (.inr (8, .inr (.inl fh)))) (hs : h 73 = some (.inr (8, .inr (.inl fs)))) (eh : ∀ j, j < 8 → fh j = z8f s j) (ha : at_ + 16 * zwb b ≤ 1200) : zMt g mX11_round (zR 2 0 0) [.ref (64), .int (nI (8 * zwb b)), .int (nI (at_))] h n (fun v h' n' => v = none ∧ n' = n ∧ zsm h h' (zb3 71 73) ∧ (∃ fh', h' 72 = some (.inr (8, .inr (.inl fh'))) ∧ ∀ j, j < 8 → fh' j = z8f (zcomp b (zsch b f at_ (zrn b - 16)) s) j) ∧ zla h' 71 80 ∧ zla h' 73 8) := by
  refine zMt.of [some (.ref (64)), some (.int (nI (8 * zwb b))), some (.int (nI (at_))), none, none, none, none, none, none, none, none, none, none, none, none, none, none] (by decide) rfl (Nat.le_of_ble_eq_true rfl) ?_
  obtain ⟨Qf, hQ⟩ : ∃ Qf : ZQ, Qf = (fun v h' n' => v = none ∧ n' = n ∧ zsm h h' (zb3 71 73) ∧ (∃ fh', h' 72 = some (.inr (8, .inr (.inl fh'))) ∧ ∀ j, j < 8 → fh' j = z8f (zcomp b (zsch b f at_ (zrn b - 16)) s) j) ∧ zla h' 71 80 ∧ zla h' 73 8) := ⟨_, rfl⟩
  rw [← hQ]
  have hz := zwb_or b
  have hr := zrn_ge b
  obtain ⟨W, eW⟩ : ∃ W, W = zsch b f at_ (zrn b - 16) := ⟨_, rfl⟩
  refine zp_iload_n dX11_round_0 rfl ?_
  refine zp_bipush (v := nI (8)) dX11_round_1 (by decide) ?_
  refine zp_pc (pc' := 3) rfl ?_
  refine zn_idiv dX11_round_3 (by omega) (by omega) (by omega) ?_
  refine zp_i (y := nI (zwb b)) (by rw [Nat.mul_div_cancel_left _ (by decide)]) ?_
  refine zp_istore_n (ls' := [some (.ref (64)), some (.int (nI (8 * zwb b))), some (.int (nI (at_))), some (.int (nI (zwb b))), none, none, none, none, none, none, none, none, none, none, none, none, none]) dX11_round_4 (by decide) rfl ?_
  refine zp_iload_n dX11_round_5 rfl ?_
  refine zp_bipush (v := nI (64)) dX11_round_6 (by decide) ?_
  refine zp_pc (pc' := 8) rfl ?_
  have cont : zP g mX11_round (zR 2 0 0) Qf 0 0 20 [some (.ref (64)), some (.int (nI (8 * zwb b))), some (.int (nI (at_))), some (.int (nI (zwb b))), some (.int (nI (zrn b))), none, none, none, none, none, none, none, none, none, none, none, none] [] h n := by
    refine zp_iconst (v := nI (0)) dX11_round_20 (by decide) ?_
    refine zp_istore (ls' := [some (.ref (64)), some (.int (nI (8 * zwb b))), some (.int (nI (at_))), some (.int (nI (zwb b))), some (.int (nI (zrn b))), some (.int (nI (0))), none, none, none, none, none, none, none, none, none, none, none]) dX11_round_21 (by decide) rfl ?_
    refine zp_pc (pc' := 23) rfl ?_
    have lp1 : zP g mX11_round (zR 2 0 0) Qf 0 0 92 [some (.ref (64)), some (.int (nI (8 * zwb b))), some (.int (nI (at_))), some (.int (nI (zwb b))), some (.int (nI (zrn b))), some (.int (nI (16))), none, none, none, none, none, none, none, none, none, none, none] [] (va_up h (71) (some (.inr (80, .inr (.inl (zfl fw (0) (16) (fun t => W t))))))) n → ∀ (m k1 : Nat), m = (16) - k1 → k1 ≤ (16) → zP g mX11_round (zR 2 0 0) Qf 0 0 23 [some (.ref (64)), some (.int (nI (8 * zwb b))), some (.int (nI (at_))), some (.int (nI (zwb b))), some (.int (nI (zrn b))), some (.int (nI (k1))), none, none, none, none, none, none, none, none, none, none, none] [] (va_up h (71) (some (.inr (80, .inr (.inl (zfl fw (0) (k1) (fun t => W t))))))) n := by
      intro kk m
      induction m using Nat.strongRecOn with
      | _ m ih =>
        intro k1 hm1 hk1
        refine zp_nh (fun hX1 eX1 => ?_)
        have k2_0 := (congrFun eX1 (64)).trans ((va_up_ne _ _ (by omega)).trans ho)
        have k2_1 := (congrFun eX1 (65)).trans ((va_up_ne _ _ (by omega)).trans hc)
        have k2_2 := (congrFun eX1 (70)).trans ((va_up_ne _ _ (by omega)).trans hp)
        have k2_3 : hX1 (71) = some (.inr (80, .inr (.inl (zfl fw (0) (k1) (fun t => W t))))) := by rw [eX1]; exact va_up_self _ _ _
        have k2_4 := (congrFun eX1 (72)).trans ((va_up_ne _ _ (by omega)).trans hh)
        have k2_5 := (congrFun eX1 (73)).trans ((va_up_ne _ _ (by omega)).trans hs)
        have k2_6 := (congrFun eX1 (9)).trans ((va_up_ne _ _ (by omega)).trans ht.2.2.2.2.2.2.2.2)
        refine zp_iload dX11_round_23 rfl ?_
        refine zp_bipush (v := nI (16)) dX11_round_25 (by decide) ?_
        refine zp_pc (pc' := 27) rfl ?_
        refine zn_icmp_ge (tgt := 92) dX11_round_27 (by decide) (by omega) (by omega) (fun c27 => ?_) (fun c27 => ?_)
        · have e1 : k1 = (16) := by omega
          subst e1
          rw [eX1]
          exact kk
        · refine zp_aload_n dX11_round_30 rfl ?_
          refine zp_get dX11_round_31 gX11_29_10 k2_0 rfl ?_
          refine zp_iload dX11_round_34 rfl ?_
          refine zp_lconst (v := 0) dX11_round_36 (by decide) ?_
          refine zn_last dX11_round_37 (by omega) k2_3 (by omega) (by omega) ?_
          refine zp_nh (fun h3x eh3x => ?_)
          have k3_0 := (congrFun eh3x (64)).trans ((va_up_ne _ _ (by omega)).trans k2_0)
          have k3_1 := (congrFun eh3x (65)).trans ((va_up_ne _ _ (by omega)).trans k2_1)
          have k3_2 := (congrFun eh3x (70)).trans ((va_up_ne _ _ (by omega)).trans k2_2)
          have k3_3 : h3x (71) = some (.inr (80, .inr (.inl (va_up (zfl fw (0) (k1) (fun t => W t)) (k1) (0))))) := by rw [eh3x]; exact va_up_self _ _ _
          have k3_4 := (congrFun eh3x (72)).trans ((va_up_ne _ _ (by omega)).trans k2_4)
          have k3_5 := (congrFun eh3x (73)).trans ((va_up_ne _ _ (by omega)).trans k2_5)
          have k3_6 := (congrFun eh3x (9)).trans ((va_up_ne _ _ (by omega)).trans k2_6)
          refine zp_iconst (v := nI (0)) dX11_round_38 (by decide) ?_
          refine zp_istore (ls' := [some (.ref (64)), some (.int (nI (8 * zwb b))), some (.int (nI (at_))), some (.int (nI (zwb b))), some (.int (nI (zrn b))), some (.int (nI (k1))), some (.int (nI (0))), none, none, none, none, none, none, none, none, none, none]) dX11_round_39 (by decide) rfl ?_
          refine zp_pc (pc' := 41) rfl ?_
          have lq4 : zP g mX11_round (zR 2 0 0) Qf 0 0 86 [some (.ref (64)), some (.int (nI (8 * zwb b))), some (.int (nI (at_))), some (.int (nI (zwb b))), some (.int (nI (zrn b))), some (.int (nI (k1))), some (.int (nI (zwb b))), none, none, none, none, none, none, none, none, none, none] [] (va_up hX1 71 (some (.inr (80, .inr (.inl (va_up (zfl fw (0) (k1) (fun t => W t)) (k1) (zword f (at_ + zwb b * k1) (zwb b)))))))) n → ∀ (m i : Nat), m = zwb b - i → i ≤ zwb b → zP g mX11_round (zR 2 0 0) Qf 0 0 41 [some (.ref (64)), some (.int (nI (8 * zwb b))), some (.int (nI (at_))), some (.int (nI (zwb b))), some (.int (nI (zrn b))), some (.int (nI (k1))), some (.int (nI (i))), none, none, none, none, none, none, none, none, none, none] [] (va_up hX1 71 (some (.inr (80, .inr (.inl (va_up (zfl fw (0) (k1) (fun t => W t)) (k1) (zword f (at_ + zwb b * k1) (i)))))))) n := by
            intro kq m
            induction m using Nat.strongRecOn with
            | _ m ih2 =>
              intro i hmi hki
              refine zp_nh (fun hV4 eV4 => ?_)
              have k5_0 := (congrFun eV4 (64)).trans ((va_up_ne _ _ (by omega)).trans k2_0)
              have k5_1 := (congrFun eV4 (65)).trans ((va_up_ne _ _ (by omega)).trans k2_1)
              have k5_2 := (congrFun eV4 (70)).trans ((va_up_ne _ _ (by omega)).trans k2_2)
              have k5_3 : hV4 (71) = some (.inr (80, .inr (.inl (va_up (zfl fw (0) (k1) (fun t => W t)) (k1) (zword f (at_ + zwb b * k1) (i)))))) := by rw [eV4]; exact va_up_self _ _ _
              have k5_4 := (congrFun eV4 (72)).trans ((va_up_ne _ _ (by omega)).trans k2_4)
              have k5_5 := (congrFun eV4 (73)).trans ((va_up_ne _ _ (by omega)).trans k2_5)
              have k5_6 := (congrFun eV4 (9)).trans ((va_up_ne _ _ (by omega)).trans k2_6)
              refine zp_iload dX11_round_41 rfl ?_
              refine zp_iload_n dX11_round_43 rfl ?_
              refine zp_pc (pc' := 44) rfl ?_
              refine zn_icmp_ge (tgt := 86) dX11_round_44 (by decide) (by omega) (by omega) (fun c44 => ?_) (fun c44 => ?_)
              · have ei : i = zwb b := by omega
                subst ei
                rw [eV4]
                exact kq
              · refine zp_aload_n dX11_round_47 rfl ?_
                refine zp_get dX11_round_48 gX11_29_10 k5_0 rfl ?_
                refine zp_iload dX11_round_51 rfl ?_
                refine zp_aload_n dX11_round_53 rfl ?_
                refine zp_get dX11_round_54 gX11_29_10 k5_0 rfl ?_
                refine zp_iload dX11_round_57 rfl ?_
                refine zp_pc (pc' := 59) rfl ?_
                refine zn_lald (j := k1) dX11_round_59 k5_3 (by omega) (by omega) ?_
                refine zp_l (y := zword f (at_ + zwb b * k1) i) (va_up_self _ _ _) ?_
                refine zp_bipush (v := nI (8)) dX11_round_60 (by decide) ?_
                refine zp_lshl dX11_round_62 ?_
                refine zp_aload_n dX11_round_63 rfl ?_
                refine zp_get dX11_round_64 gX11_26_10 k5_0 rfl ?_
                refine zp_iload_n dX11_round_67 rfl ?_
                refine zp_iload dX11_round_68 rfl ?_
                refine zp_iload_n dX11_round_70 rfl ?_
                refine zn_imul dX11_round_71 ?_
                refine zn_iadd dX11_round_72 ?_
                refine zp_iload dX11_round_73 rfl ?_
                refine zn_iadd dX11_round_75 ?_
                refine zp_pc (pc' := 76) rfl ?_
                refine zn_iald (j := ((at_) + ((k1) * (zwb b))) + (i)) dX11_round_76 k5_2 (by have := Nat.mul_le_mul (show k1 + 1 ≤ 16 by omega) (Nat.le_refl (zwb b)); rw [Nat.add_mul] at this; omega) (by omega) ?_
                refine zp_i (y := f (at_ + zwb b * k1 + i)) (by rw [Nat.mul_comm k1 (zwb b)]) ?_
                refine zp_i2l dX11_round_77 ?_
                refine zp_pc (pc' := 78) rfl ?_
                refine zp_lor dX11_round_78 ?_
                refine zp_l (y := zword f (at_ + zwb b * k1) (i + 1)) rfl ?_
                refine zn_last dX11_round_79 (by omega) k5_3 (by omega) (by omega) ?_
                refine zp_nh (fun h6x eh6x => ?_)
                have k6_0 := (congrFun eh6x (64)).trans ((va_up_ne _ _ (by omega)).trans k5_0)
                have k6_1 := (congrFun eh6x (65)).trans ((va_up_ne _ _ (by omega)).trans k5_1)
                have k6_2 := (congrFun eh6x (70)).trans ((va_up_ne _ _ (by omega)).trans k5_2)
                have k6_3 : h6x (71) = some (.inr (80, .inr (.inl (va_up (va_up (zfl fw (0) (k1) (fun t => W t)) (k1) (zword f (at_ + zwb b * k1) (i))) (k1) (zword f (at_ + zwb b * k1) (i + 1)))))) := by rw [eh6x]; exact va_up_self _ _ _
                have k6_4 := (congrFun eh6x (72)).trans ((va_up_ne _ _ (by omega)).trans k5_4)
                have k6_5 := (congrFun eh6x (73)).trans ((va_up_ne _ _ (by omega)).trans k5_5)
                have k6_6 := (congrFun eh6x (9)).trans ((va_up_ne _ _ (by omega)).trans k5_6)
                refine zp_pc (pc' := 80) rfl ?_
                refine zn_iinc 1 (ls' := [some (.ref (64)), some (.int (nI (8 * zwb b))), some (.int (nI (at_))), some (.int (nI (zwb b))), some (.int (nI (zrn b))), some (.int (nI (k1))), some (.int (nI (i + 1))), none, none, none, none, none, none, none, none, none, none]) dX11_round_80 (by decide) (by decide) rfl rfl ?_
                refine zp_goto (tgt := 41) dX11_round_83 (by decide) ?_
                refine zp_pc (pc' := 41) rfl ?_
                have eN : h6x = va_up hX1 71 (some (.inr (80, .inr (.inl (va_up (zfl fw (0) (k1) (fun t => W t)) (k1) (zword f (at_ + zwb b * k1) (i + 1))))))) := by rw [eh6x, eV4, zup_up, zup_up]
                rw [eN]
                exact ih2 (zwb b - (i + 1)) (by omega) (i + 1) rfl (by omega)
          suffices Kq4 : zP g mX11_round (zR 2 0 0) Qf 0 0 86 [some (.ref (64)), some (.int (nI (8 * zwb b))), some (.int (nI (at_))), some (.int (nI (zwb b))), some (.int (nI (zrn b))), some (.int (nI (k1))), some (.int (nI (zwb b))), none, none, none, none, none, none, none, none, none, none] [] (va_up hX1 71 (some (.inr (80, .inr (.inl (va_up (zfl fw (0) (k1) (fun t => W t)) (k1) (zword f (at_ + zwb b * k1) (zwb b)))))))) n by
            have q := lq4 Kq4 (zwb b - 0) 0 rfl (Nat.zero_le _)
            rw [eh3x]
            exact q
          refine zp_nh (fun hU4 eU4 => ?_)
          have k7_0 := (congrFun eU4 (64)).trans ((va_up_ne _ _ (by omega)).trans k2_0)
          have k7_1 := (congrFun eU4 (65)).trans ((va_up_ne _ _ (by omega)).trans k2_1)
          have k7_2 := (congrFun eU4 (70)).trans ((va_up_ne _ _ (by omega)).trans k2_2)
          have k7_3 : hU4 (71) = some (.inr (80, .inr (.inl (va_up (zfl fw (0) (k1) (fun t => W t)) (k1) (zword f (at_ + zwb b * k1) (zwb b)))))) := by rw [eU4]; exact va_up_self _ _ _
          have k7_4 := (congrFun eU4 (72)).trans ((va_up_ne _ _ (by omega)).trans k2_4)
          have k7_5 := (congrFun eU4 (73)).trans ((va_up_ne _ _ (by omega)).trans k2_5)
          have k7_6 := (congrFun eU4 (9)).trans ((va_up_ne _ _ (by omega)).trans k2_6)
          refine zn_iinc 1 (ls' := [some (.ref (64)), some (.int (nI (8 * zwb b))), some (.int (nI (at_))), some (.int (nI (zwb b))), some (.int (nI (zrn b))), some (.int (nI (k1 + 1))), some (.int (nI (zwb b))), none, none, none, none, none, none, none, none, none, none]) dX11_round_86 (by decide) (by decide) rfl rfl ?_
          refine zp_pc (pc' := 89) rfl ?_
          refine zp_goto (tgt := 23) dX11_round_89 (by decide) ?_
          refine zp_pc (pc' := 23) rfl ?_
          refine zp_drop (ls' := [some (.ref (64)), some (.int (nI (8 * zwb b))), some (.int (nI (at_))), some (.int (nI (zwb b))), some (.int (nI (zrn b))), some (.int (nI (k1 + 1))), none, none, none, none, none, none, none, none, none, none, none]) (fun i v hv => ?_) ?_
          · rcases i with _ | _ | _ | _ | _ | _ | _ | _ | _ | _ | _ | _ | _ | _ | _ | _ | _ | i <;> simp at hv ⊢ <;> exact hv
          rw [zfl_stepL eX1 eU4 (by omega) (by show _ = W k1; rw [eW, zsch_0 b f at_ (by omega)])]
          exact ih ((16) - (k1 + 1)) (by omega) (k1 + 1) rfl (by omega)
    suffices K1 : zP g mX11_round (zR 2 0 0) Qf 0 0 92 [some (.ref (64)), some (.int (nI (8 * zwb b))), some (.int (nI (at_))), some (.int (nI (zwb b))), some (.int (nI (zrn b))), some (.int (nI (16))), none, none, none, none, none, none, none, none, none, none, none] [] (va_up h (71) (some (.inr (80, .inr (.inl (zfl fw (0) (16) (fun t => W t))))))) n by
      have q := lp1 K1 ((16) - 0) 0 rfl (Nat.zero_le _)
      rw [zfl_0, zup_same hw] at q
      exact q
    refine zp_nh (fun hY1 eY1 => ?_)
    have k8_0 := (congrFun eY1 (64)).trans ((va_up_ne _ _ (by omega)).trans ho)
    have k8_1 := (congrFun eY1 (65)).trans ((va_up_ne _ _ (by omega)).trans hc)
    have k8_2 := (congrFun eY1 (70)).trans ((va_up_ne _ _ (by omega)).trans hp)
    have k8_3 : hY1 (71) = some (.inr (80, .inr (.inl (zfl fw (0) (16) (fun t => W t))))) := by rw [eY1]; exact va_up_self _ _ _
    have k8_4 := (congrFun eY1 (72)).trans ((va_up_ne _ _ (by omega)).trans hh)
    have k8_5 := (congrFun eY1 (73)).trans ((va_up_ne _ _ (by omega)).trans hs)
    have k8_6 := (congrFun eY1 (9)).trans ((va_up_ne _ _ (by omega)).trans ht.2.2.2.2.2.2.2.2)
    refine zp_bipush (v := nI (16)) dX11_round_92 (by decide) ?_
    refine zp_istore (ls' := [some (.ref (64)), some (.int (nI (8 * zwb b))), some (.int (nI (at_))), some (.int (nI (zwb b))), some (.int (nI (zrn b))), some (.int (nI (16))), none, none, none, none, none, none, none, none, none, none, none]) dX11_round_94 (by decide) rfl ?_
    refine zp_pc (pc' := 96) rfl ?_
    have q1 : ∀ t, t < 16 → (zfl fw (0) (16) (fun t => W t)) t = W t := fun t ht => zfl_in0 ht
    refine zp_ls (ls' := [some (.ref (64)), some (.int (nI (8 * zwb b))), some (.int (nI (at_))), some (.int (nI (zwb b))), some (.int (nI (zrn b))), some (.int (nI (16 + (0)))), none, none, none, none, none, none, none, none, none, none, none]) rfl ?_
    have lp9 : zP g mX11_round (zR 2 0 0) Qf 0 0 172 [some (.ref (64)), some (.int (nI (8 * zwb b))), some (.int (nI (at_))), some (.int (nI (zwb b))), some (.int (nI (zrn b))), some (.int (nI (16 + (zrn b - 16)))), none, none, none, none, none, none, none, none, none, none, none] [] (va_up hY1 (71) (some (.inr (80, .inr (.inl (zfl (zfl fw (0) (16) (fun t => W t)) (16) (zrn b - 16) (fun c => W (16 + c)))))))) n → ∀ (m k9 : Nat), m = (zrn b - 16) - k9 → k9 ≤ (zrn b - 16) → zP g mX11_round (zR 2 0 0) Qf 0 0 96 [some (.ref (64)), some (.int (nI (8 * zwb b))), some (.int (nI (at_))), some (.int (nI (zwb b))), some (.int (nI (zrn b))), some (.int (nI (16 + (k9)))), none, none, none, none, none, none, none, none, none, none, none] [] (va_up hY1 (71) (some (.inr (80, .inr (.inl (zfl (zfl fw (0) (16) (fun t => W t)) (16) (k9) (fun c => W (16 + c)))))))) n := by
      intro kk m
      induction m using Nat.strongRecOn with
      | _ m ih =>
        intro k9 hm9 hk9
        refine zp_nh (fun hX9 eX9 => ?_)
        have k10_0 := (congrFun eX9 (64)).trans ((va_up_ne _ _ (by omega)).trans k8_0)
        have k10_1 := (congrFun eX9 (65)).trans ((va_up_ne _ _ (by omega)).trans k8_1)
        have k10_2 := (congrFun eX9 (70)).trans ((va_up_ne _ _ (by omega)).trans k8_2)
        have k10_3 : hX9 (71) = some (.inr (80, .inr (.inl (zfl (zfl fw (0) (16) (fun t => W t)) (16) (k9) (fun c => W (16 + c)))))) := by rw [eX9]; exact va_up_self _ _ _
        have k10_4 := (congrFun eX9 (72)).trans ((va_up_ne _ _ (by omega)).trans k8_4)
        have k10_5 := (congrFun eX9 (73)).trans ((va_up_ne _ _ (by omega)).trans k8_5)
        have k10_6 := (congrFun eX9 (9)).trans ((va_up_ne _ _ (by omega)).trans k8_6)
        refine zp_iload dX11_round_96 rfl ?_
        refine zp_iload dX11_round_98 rfl ?_
        refine zp_pc (pc' := 100) rfl ?_
        refine zn_icmp_ge (tgt := 172) dX11_round_100 (by decide) (by omega) (by omega) (fun c100 => ?_) (fun c100 => ?_)
        · have e9 : k9 = (zrn b - 16) := by omega
          subst e9
          rw [eX9]
          exact kk
        · have sT : zsm h hX9 (zb3 70 74) := (((zsm.fill eY1)).mono (fun i hi => by unfold zb3; unfold zon at hi; omega)).trans (((zsm.fill eX9)).mono (fun i hi => by unfold zb3; unfold zon at hi; omega))
          have q2 : ∀ t, t < 16 + k9 → (zfl (zfl fw (0) (16) (fun t => W t)) (16) (k9) (fun c => W (16 + c))) t = W t := fun t ht => by
            rcases Nat.lt_or_ge t 16 with q | q
            · rw [zfl_out (Or.inl q)]; exact q1 t q
            · obtain ⟨d, rfl⟩ := Nat.exists_eq_add_of_le q
              rw [zfl_in (by omega)]
          refine zp_aload_n dX11_round_103 rfl ?_
          refine zp_get dX11_round_104 gX11_29_10 k10_0 rfl ?_
          refine zp_iload dX11_round_107 rfl ?_
          refine zp_aload_n dX11_round_109 rfl ?_
          refine zp_get dX11_round_110 gX11_29_10 k10_0 rfl ?_
          refine zp_iload dX11_round_113 rfl ?_
          refine zp_iconst (v := nI (2)) dX11_round_115 (by decide) ?_
          refine zn_isub dX11_round_116 (by omega) ?_
          refine zp_pc (pc' := 117) rfl ?_
          refine zn_lald (j := (16 + (k9)) - (2)) dX11_round_117 k10_3 (by omega) (by omega) ?_
          refine zp_l (y := W (k9 + 14)) (by rw [q2 _ (by omega), show 16 + k9 - 2 = k9 + 14 by omega]) ?_
          refine zp_iconst (v := nI (3)) dX11_round_118 (by decide) ?_
          refine zp_iload_n dX11_round_119 rfl ?_
          refine zp_pc (pc' := 120) rfl ?_
          refine zp_callS (As := [.long (W (k9 + 14)), .int (nI (3)), .int (nI (8 * zwb b))]) (st := [.int (nI (16 + (k9))), .ref (71)]) dX11_round_120 cX11_157 rfl (e_mixed (b := b) (q := 3) (ht.sm sT (fun i hi => by unfold zb3 at hi; omega)) (by decide)) (by decide) (by decide) (Nat.le_of_ble_eq_true rfl) (fun v11 h11 n11 q11 => ?_)
          obtain ⟨rfl, H11, N11⟩ := q11
          rw [N11, H11]
          refine zp_nrm (cells' := 0) (slots' := 0) (st' := [.long (zmxd b (W (k9 + 14)) 3), .int (nI (16 + (k9))), .ref (71)]) rfl rfl rfl ?_
          refine zp_aload_n dX11_round_123 rfl ?_
          refine zp_get dX11_round_124 gX11_29_10 k10_0 rfl ?_
          refine zp_iload dX11_round_127 rfl ?_
          refine zp_bipush (v := nI (7)) dX11_round_129 (by decide) ?_
          refine zn_isub dX11_round_131 (by omega) ?_
          refine zp_pc (pc' := 132) rfl ?_
          refine zn_lald (j := (16 + (k9)) - (7)) dX11_round_132 k10_3 (by omega) (by omega) ?_
          refine zp_l (y := W (k9 + 9)) (by rw [q2 _ (by omega), show 16 + k9 - 7 = k9 + 9 by omega]) ?_
          refine zp_ladd dX11_round_133 ?_
          refine zp_aload_n dX11_round_134 rfl ?_
          refine zp_get dX11_round_135 gX11_29_10 k10_0 rfl ?_
          refine zp_iload dX11_round_138 rfl ?_
          refine zp_bipush (v := nI (15)) dX11_round_140 (by decide) ?_
          refine zn_isub dX11_round_142 (by omega) ?_
          refine zp_pc (pc' := 143) rfl ?_
          refine zn_lald (j := (16 + (k9)) - (15)) dX11_round_143 k10_3 (by omega) (by omega) ?_
          refine zp_l (y := W (k9 + 1)) (by rw [q2 _ (by omega), show 16 + k9 - 15 = k9 + 1 by omega]) ?_
          refine zp_iconst (v := nI (2)) dX11_round_144 (by decide) ?_
          refine zp_iload_n dX11_round_145 rfl ?_
          refine zp_pc (pc' := 146) rfl ?_
          refine zp_callS (As := [.long (W (k9 + 1)), .int (nI (2)), .int (nI (8 * zwb b))]) (st := [.long ((zmxd b (W (k9 + 14)) 3) + (W (k9 + 9))), .int (nI (16 + (k9))), .ref (71)]) dX11_round_146 cX11_157 rfl (e_mixed (b := b) (q := 2) (ht.sm sT (fun i hi => by unfold zb3 at hi; omega)) (by decide)) (by decide) (by decide) (Nat.le_of_ble_eq_true rfl) (fun v12 h12 n12 q12 => ?_)
          obtain ⟨rfl, H12, N12⟩ := q12
          rw [N12, H12]
          refine zp_nrm (cells' := 0) (slots' := 0) (st' := [.long (zmxd b (W (k9 + 1)) 2), .long ((zmxd b (W (k9 + 14)) 3) + (W (k9 + 9))), .int (nI (16 + (k9))), .ref (71)]) rfl rfl rfl ?_
          refine zp_ladd dX11_round_149 ?_
          refine zp_aload_n dX11_round_150 rfl ?_
          refine zp_get dX11_round_151 gX11_29_10 k10_0 rfl ?_
          refine zp_iload dX11_round_154 rfl ?_
          refine zp_bipush (v := nI (16)) dX11_round_156 (by decide) ?_
          refine zn_isub dX11_round_158 (by omega) ?_
          refine zp_pc (pc' := 159) rfl ?_
          refine zn_lald (j := (16 + (k9)) - (16)) dX11_round_159 k10_3 (by omega) (by omega) ?_
          refine zp_l (y := W k9) (by rw [q2 _ (by omega), show 16 + k9 - 16 = k9 by omega]) ?_
          refine zp_ladd dX11_round_160 ?_
          refine zp_iload_n dX11_round_161 rfl ?_
          refine zp_pc (pc' := 162) rfl ?_
          refine zp_callS (As := [.long ((((zmxd b (W (k9 + 14)) 3) + (W (k9 + 9))) + (zmxd b (W (k9 + 1)) 2)) + (W k9)), .int (nI (8 * zwb b))]) (st := [.int (nI (16 + (k9))), .ref (71)]) dX11_round_162 cX11_160 rfl (e_mcut (b := b)) (by decide) (by decide) (Nat.le_of_ble_eq_true rfl) (fun v13 h13 n13 q13 => ?_)
          obtain ⟨rfl, H13, N13⟩ := q13
          rw [N13, H13]
          refine zp_nrm (cells' := 0) (slots' := 0) (st' := [.long (((zmxd b (W (k9 + 14)) 3 + W (k9 + 9) + zmxd b (W (k9 + 1)) 2 + W k9) &&& zmask b)), .int (nI (16 + (k9))), .ref (71)]) rfl rfl rfl ?_
          refine zp_l (y := W (16 + k9)) (by rw [eW, zsch_at b f at_ (show k9 < zrn b - 16 by omega), ← eW, zmxd_3, zmxd_2]; congr 1; rw [Int64.add_comm (zg1 b (W (k9 + 14))) (W (k9 + 9)), Int64.add_comm (W (k9 + 9) + zg1 b (W (k9 + 14)) + zg0 b (W (k9 + 1))) (W k9), Int64.add_assoc (W k9), Int64.add_assoc (W k9), Int64.add_comm (zg0 b (W (k9 + 1))), Int64.add_assoc (W (k9 + 9)) (zg1 b (W (k9 + 14))), Int64.add_comm (zg1 b (W (k9 + 14))) (zg0 b (W (k9 + 1))), ← Int64.add_assoc (W (k9 + 9))]) ?_
          refine zn_last dX11_round_165 (by omega) k10_3 (by omega) (by omega) ?_
          refine zp_nh (fun h14x eh14x => ?_)
          have k14_0 := (congrFun eh14x (64)).trans ((va_up_ne _ _ (by omega)).trans k10_0)
          have k14_1 := (congrFun eh14x (65)).trans ((va_up_ne _ _ (by omega)).trans k10_1)
          have k14_2 := (congrFun eh14x (70)).trans ((va_up_ne _ _ (by omega)).trans k10_2)
          have k14_3 : h14x (71) = some (.inr (80, .inr (.inl (va_up (zfl (zfl fw (0) (16) (fun t => W t)) (16) (k9) (fun c => W (16 + c))) (16 + (k9)) (W (16 + k9)))))) := by rw [eh14x]; exact va_up_self _ _ _
          have k14_4 := (congrFun eh14x (72)).trans ((va_up_ne _ _ (by omega)).trans k10_4)
          have k14_5 := (congrFun eh14x (73)).trans ((va_up_ne _ _ (by omega)).trans k10_5)
          have k14_6 := (congrFun eh14x (9)).trans ((va_up_ne _ _ (by omega)).trans k10_6)
          refine zn_iinc 1 (ls' := [some (.ref (64)), some (.int (nI (8 * zwb b))), some (.int (nI (at_))), some (.int (nI (zwb b))), some (.int (nI (zrn b))), some (.int (nI (16 + (k9) + 1))), none, none, none, none, none, none, none, none, none, none, none]) dX11_round_166 (by decide) (by decide) rfl rfl ?_
          refine zp_pc (pc' := 169) rfl ?_
          refine zp_goto (tgt := 96) dX11_round_169 (by decide) ?_
          refine zp_pc (pc' := 96) rfl ?_
          refine zp_ls (ls' := [some (.ref (64)), some (.int (nI (8 * zwb b))), some (.int (nI (at_))), some (.int (nI (zwb b))), some (.int (nI (zrn b))), some (.int (nI (16 + ((k9 + 1))))), none, none, none, none, none, none, none, none, none, none, none]) rfl ?_
          rw [zfl_stepL eX9 eh14x (by omega) rfl]
          exact ih ((zrn b - 16) - (k9 + 1)) (by omega) (k9 + 1) rfl (by omega)
    suffices K9 : zP g mX11_round (zR 2 0 0) Qf 0 0 172 [some (.ref (64)), some (.int (nI (8 * zwb b))), some (.int (nI (at_))), some (.int (nI (zwb b))), some (.int (nI (zrn b))), some (.int (nI (16 + (zrn b - 16)))), none, none, none, none, none, none, none, none, none, none, none] [] (va_up hY1 (71) (some (.inr (80, .inr (.inl (zfl (zfl fw (0) (16) (fun t => W t)) (16) (zrn b - 16) (fun c => W (16 + c)))))))) n by
      have q := lp9 K9 ((zrn b - 16) - 0) 0 rfl (Nat.zero_le _)
      rw [zfl_0, zup_same k8_3] at q
      exact q
    refine zp_nh (fun hY9 eY9 => ?_)
    have k15_0 := (congrFun eY9 (64)).trans ((va_up_ne _ _ (by omega)).trans k8_0)
    have k15_1 := (congrFun eY9 (65)).trans ((va_up_ne _ _ (by omega)).trans k8_1)
    have k15_2 := (congrFun eY9 (70)).trans ((va_up_ne _ _ (by omega)).trans k8_2)
    have k15_3 : hY9 (71) = some (.inr (80, .inr (.inl (zfl (zfl fw (0) (16) (fun t => W t)) (16) (zrn b - 16) (fun c => W (16 + c)))))) := by rw [eY9]; exact va_up_self _ _ _
    have k15_4 := (congrFun eY9 (72)).trans ((va_up_ne _ _ (by omega)).trans k8_4)
    have k15_5 := (congrFun eY9 (73)).trans ((va_up_ne _ _ (by omega)).trans k8_5)
    have k15_6 := (congrFun eY9 (9)).trans ((va_up_ne _ _ (by omega)).trans k8_6)
    have q3 : ∀ t, t < zrn b → (zfl (zfl fw (0) (16) (fun t => W t)) (16) (zrn b - 16) (fun c => W (16 + c))) t = W t := fun t ht => by
      rcases Nat.lt_or_ge t 16 with q | q
      · rw [zfl_out (Or.inl q)]; exact q1 t q
      · obtain ⟨d, rfl⟩ := Nat.exists_eq_add_of_le q
        rw [zfl_in (by omega)]
    refine zp_iconst (v := nI (0)) dX11_round_172 (by decide) ?_
    refine zp_istore (ls' := [some (.ref (64)), some (.int (nI (8 * zwb b))), some (.int (nI (at_))), some (.int (nI (zwb b))), some (.int (nI (zrn b))), some (.int (nI (0))), none, none, none, none, none, none, none, none, none, none, none]) dX11_round_173 (by decide) rfl ?_
    refine zp_pc (pc' := 175) rfl ?_
    have lp16 : zP g mX11_round (zR 2 0 0) Qf 0 0 202 [some (.ref (64)), some (.int (nI (8 * zwb b))), some (.int (nI (at_))), some (.int (nI (zwb b))), some (.int (nI (zrn b))), some (.int (nI (8))), none, none, none, none, none, none, none, none, none, none, none] [] (va_up hY9 (73) (some (.inr (8, .inr (.inl (zfl fs (0) (8) fh)))))) n → ∀ (m k16 : Nat), m = (8) - k16 → k16 ≤ (8) → zP g mX11_round (zR 2 0 0) Qf 0 0 175 [some (.ref (64)), some (.int (nI (8 * zwb b))), some (.int (nI (at_))), some (.int (nI (zwb b))), some (.int (nI (zrn b))), some (.int (nI (k16))), none, none, none, none, none, none, none, none, none, none, none] [] (va_up hY9 (73) (some (.inr (8, .inr (.inl (zfl fs (0) (k16) fh)))))) n := by
      intro kk m
      induction m using Nat.strongRecOn with
      | _ m ih =>
        intro k16 hm16 hk16
        refine zp_nh (fun hX16 eX16 => ?_)
        have k17_0 := (congrFun eX16 (64)).trans ((va_up_ne _ _ (by omega)).trans k15_0)
        have k17_1 := (congrFun eX16 (65)).trans ((va_up_ne _ _ (by omega)).trans k15_1)
        have k17_2 := (congrFun eX16 (70)).trans ((va_up_ne _ _ (by omega)).trans k15_2)
        have k17_3 := (congrFun eX16 (71)).trans ((va_up_ne _ _ (by omega)).trans k15_3)
        have k17_4 := (congrFun eX16 (72)).trans ((va_up_ne _ _ (by omega)).trans k15_4)
        have k17_5 : hX16 (73) = some (.inr (8, .inr (.inl (zfl fs (0) (k16) fh)))) := by rw [eX16]; exact va_up_self _ _ _
        have k17_6 := (congrFun eX16 (9)).trans ((va_up_ne _ _ (by omega)).trans k15_6)
        refine zp_iload dX11_round_175 rfl ?_
        refine zp_bipush (v := nI (8)) dX11_round_177 (by decide) ?_
        refine zp_pc (pc' := 179) rfl ?_
        refine zn_icmp_ge (tgt := 202) dX11_round_179 (by decide) (by omega) (by omega) (fun c179 => ?_) (fun c179 => ?_)
        · have e16 : k16 = (8) := by omega
          subst e16
          rw [eX16]
          exact kk
        · refine zp_aload_n dX11_round_182 rfl ?_
          refine zp_get dX11_round_183 gX11_35_10 k17_0 rfl ?_
          refine zp_iload dX11_round_186 rfl ?_
          refine zp_aload_n dX11_round_188 rfl ?_
          refine zp_get dX11_round_189 gX11_32_10 k17_0 rfl ?_
          refine zp_iload dX11_round_192 rfl ?_
          refine zn_lald (j := k16) dX11_round_194 k17_4 (by omega) (by omega) ?_
          refine zn_last dX11_round_195 (by omega) k17_5 (by omega) (by omega) ?_
          refine zp_nh (fun h18x eh18x => ?_)
          have k18_0 := (congrFun eh18x (64)).trans ((va_up_ne _ _ (by omega)).trans k17_0)
          have k18_1 := (congrFun eh18x (65)).trans ((va_up_ne _ _ (by omega)).trans k17_1)
          have k18_2 := (congrFun eh18x (70)).trans ((va_up_ne _ _ (by omega)).trans k17_2)
          have k18_3 := (congrFun eh18x (71)).trans ((va_up_ne _ _ (by omega)).trans k17_3)
          have k18_4 := (congrFun eh18x (72)).trans ((va_up_ne _ _ (by omega)).trans k17_4)
          have k18_5 : h18x (73) = some (.inr (8, .inr (.inl (va_up (zfl fs (0) (k16) fh) (k16) (fh (k16)))))) := by rw [eh18x]; exact va_up_self _ _ _
          have k18_6 := (congrFun eh18x (9)).trans ((va_up_ne _ _ (by omega)).trans k17_6)
          refine zp_pc (pc' := 196) rfl ?_
          refine zn_iinc 1 (ls' := [some (.ref (64)), some (.int (nI (8 * zwb b))), some (.int (nI (at_))), some (.int (nI (zwb b))), some (.int (nI (zrn b))), some (.int (nI (k16 + 1))), none, none, none, none, none, none, none, none, none, none, none]) dX11_round_196 (by decide) (by decide) rfl rfl ?_
          refine zp_goto (tgt := 175) dX11_round_199 (by decide) ?_
          refine zp_pc (pc' := 175) rfl ?_
          rw [zfl_stepL eX16 eh18x (by omega) rfl]
          exact ih ((8) - (k16 + 1)) (by omega) (k16 + 1) rfl (by omega)
    suffices K16 : zP g mX11_round (zR 2 0 0) Qf 0 0 202 [some (.ref (64)), some (.int (nI (8 * zwb b))), some (.int (nI (at_))), some (.int (nI (zwb b))), some (.int (nI (zrn b))), some (.int (nI (8))), none, none, none, none, none, none, none, none, none, none, none] [] (va_up hY9 (73) (some (.inr (8, .inr (.inl (zfl fs (0) (8) fh)))))) n by
      have q := lp16 K16 ((8) - 0) 0 rfl (Nat.zero_le _)
      rw [zfl_0, zup_same k15_5] at q
      exact q
    refine zp_nh (fun hY16 eY16 => ?_)
    have k19_0 := (congrFun eY16 (64)).trans ((va_up_ne _ _ (by omega)).trans k15_0)
    have k19_1 := (congrFun eY16 (65)).trans ((va_up_ne _ _ (by omega)).trans k15_1)
    have k19_2 := (congrFun eY16 (70)).trans ((va_up_ne _ _ (by omega)).trans k15_2)
    have k19_3 := (congrFun eY16 (71)).trans ((va_up_ne _ _ (by omega)).trans k15_3)
    have k19_4 := (congrFun eY16 (72)).trans ((va_up_ne _ _ (by omega)).trans k15_4)
    have k19_5 : hY16 (73) = some (.inr (8, .inr (.inl (zfl fs (0) (8) fh)))) := by rw [eY16]; exact va_up_self _ _ _
    have k19_6 := (congrFun eY16 (9)).trans ((va_up_ne _ _ (by omega)).trans k15_6)
    obtain ⟨g3, eg3⟩ : ∃ g3 : Nat → Int64, g3 = zfl fs (0) (8) fh := ⟨_, rfl⟩
    rw [← eg3] at k19_5
    have e3 : ∀ j, j < 8 → g3 j = z8f (zrounds b W s 0) j := fun j hj => by rw [eg3, zfl_in0 hj]; exact eh j hj
    obtain ⟨g2, eg2⟩ : ∃ g2 : Nat → Int64, g2 = (zfl (zfl fw (0) (16) (fun t => W t)) (16) (zrn b - 16) (fun c => W (16 + c))) := ⟨_, rfl⟩
    rw [← eg2] at k19_3 q3
    refine zp_iconst (v := nI (0)) dX11_round_202 (by decide) ?_
    refine zp_istore (ls' := [some (.ref (64)), some (.int (nI (8 * zwb b))), some (.int (nI (at_))), some (.int (nI (zwb b))), some (.int (nI (zrn b))), some (.int (nI (0))), none, none, none, none, none, none, none, none, none, none, none]) dX11_round_203 (by decide) rfl ?_
    refine zp_pc (pc' := 205) rfl ?_
    have fin : ∀ (h1 : ZH) (g4 : Nat → Int64), zsm hY16 h1 (zon 73) → h1 73 = some (.inr (8, .inr (.inl g4))) → (∀ j, j < 8 → g4 j = z8f (zrounds b W s (zrn b)) j) → zP g mX11_round (zR 2 0 0) Qf 0 0 451 [some (.ref (64)), some (.int (nI (8 * zwb b))), some (.int (nI (at_))), some (.int (nI (zwb b))), some (.int (nI (zrn b))), none, none, none, none, none, none, none, none, none, none, none, none] [] h1 n := by
      intro h1 g4 s4 e73 eg4
      have m20 : h1 (64) = some (.inl (10, [.int (th), .ref (65), .ref (66), .ref (67), .ref (68), .ref (69), .ref (70), .ref (71), .ref (72), .ref (73), .ref (74), .ref (75), .ref (76), .ref (77), .ref (78), .ref (79), .ref (80), .ref (81), .ref (82), .ref (83), .ref (84), .int (nI (wt)), .int (nI (zbi un)), .int (rp), .int (wi), .int (pa), .int (be), .int (ru), .int (sa), .int (me), .int (se), .int (ta), .int (fa), .ref (85), .ref (86), .ref (87), .int (nI (mn)), .ref (88), .ref (89), .ref (90), .ref (91), .ref (92), .ref (93), .int (nI (tp)), .ref (94), .int (nI (ou))])) := (s4 _ (by unfold zon; omega)).trans k19_0
      have m21 : h1 (65) = some (.inr (80, .inr (.inl (fun j => zt_ROUND.getD j 0)))) := (s4 _ (by unfold zon; omega)).trans k19_1
      have m22 : h1 (70) = some (.inr (1200, .inl f)) := (s4 _ (by unfold zon; omega)).trans k19_2
      have m23 : h1 (71) = some (.inr (80, .inr (.inl g2))) := (s4 _ (by unfold zon; omega)).trans k19_3
      have m24 : h1 (72) = some (.inr (8, .inr (.inl fh))) := (s4 _ (by unfold zon; omega)).trans k19_4
      have m25 : h1 (9) = some (.inr (24, .inl (fun j => zt_TURNS.getD j 0))) := (s4 _ (by unfold zon; omega)).trans k19_6
      refine zp_iconst (v := nI (0)) dX11_round_451 (by decide) ?_
      refine zp_istore (ls' := [some (.ref (64)), some (.int (nI (8 * zwb b))), some (.int (nI (at_))), some (.int (nI (zwb b))), some (.int (nI (zrn b))), some (.int (nI (0))), none, none, none, none, none, none, none, none, none, none, none]) dX11_round_452 (by decide) rfl ?_
      refine zp_pc (pc' := 454) rfl ?_
      have lp26 : zP g mX11_round (zR 2 0 0) Qf 0 0 493 [some (.ref (64)), some (.int (nI (8 * zwb b))), some (.int (nI (at_))), some (.int (nI (zwb b))), some (.int (nI (zrn b))), some (.int (nI (8))), none, none, none, none, none, none, none, none, none, none, none] [] (va_up h1 (72) (some (.inr (8, .inr (.inl (zfl fh (0) (8) (fun i => (fh i + g4 i) &&& zmask b))))))) n → ∀ (m k26 : Nat), m = (8) - k26 → k26 ≤ (8) → zP g mX11_round (zR 2 0 0) Qf 0 0 454 [some (.ref (64)), some (.int (nI (8 * zwb b))), some (.int (nI (at_))), some (.int (nI (zwb b))), some (.int (nI (zrn b))), some (.int (nI (k26))), none, none, none, none, none, none, none, none, none, none, none] [] (va_up h1 (72) (some (.inr (8, .inr (.inl (zfl fh (0) (k26) (fun i => (fh i + g4 i) &&& zmask b))))))) n := by
        intro kk m
        induction m using Nat.strongRecOn with
        | _ m ih =>
          intro k26 hm26 hk26
          refine zp_nh (fun hX26 eX26 => ?_)
          have k27_0 := (congrFun eX26 (64)).trans ((va_up_ne _ _ (by omega)).trans m20)
          have k27_1 := (congrFun eX26 (65)).trans ((va_up_ne _ _ (by omega)).trans m21)
          have k27_2 := (congrFun eX26 (70)).trans ((va_up_ne _ _ (by omega)).trans m22)
          have k27_3 := (congrFun eX26 (71)).trans ((va_up_ne _ _ (by omega)).trans m23)
          have k27_4 : hX26 (72) = some (.inr (8, .inr (.inl (zfl fh (0) (k26) (fun i => (fh i + g4 i) &&& zmask b))))) := by rw [eX26]; exact va_up_self _ _ _
          have k27_5 := (congrFun eX26 (9)).trans ((va_up_ne _ _ (by omega)).trans m25)
          have k27_6 := (congrFun eX26 (73)).trans ((va_up_ne _ _ (by omega)).trans e73)
          refine zp_iload dX11_round_454 rfl ?_
          refine zp_bipush (v := nI (8)) dX11_round_456 (by decide) ?_
          refine zp_pc (pc' := 458) rfl ?_
          refine zn_icmp_ge (tgt := 493) dX11_round_458 (by decide) (by omega) (by omega) (fun c458 => ?_) (fun c458 => ?_)
          · have e26 : k26 = (8) := by omega
            subst e26
            rw [eX26]
            exact kk
          · refine zp_aload_n dX11_round_461 rfl ?_
            refine zp_get dX11_round_462 gX11_32_10 k27_0 rfl ?_
            refine zp_iload dX11_round_465 rfl ?_
            refine zp_aload_n dX11_round_467 rfl ?_
            refine zp_get dX11_round_468 gX11_32_10 k27_0 rfl ?_
            refine zp_iload dX11_round_471 rfl ?_
            refine zp_pc (pc' := 473) rfl ?_
            refine zn_lald (j := k26) dX11_round_473 k27_4 (by omega) (by omega) ?_
            refine zp_l (y := fh k26) (zfl_out (by omega)) ?_
            refine zp_aload_n dX11_round_474 rfl ?_
            refine zp_get dX11_round_475 gX11_35_10 k27_0 rfl ?_
            refine zp_iload dX11_round_478 rfl ?_
            refine zn_lald (j := k26) dX11_round_480 k27_6 (by omega) (by omega) ?_
            refine zp_ladd dX11_round_481 ?_
            refine zp_iload_n dX11_round_482 rfl ?_
            refine zp_pc (pc' := 483) rfl ?_
            refine zp_callS (As := [.long ((fh k26) + (g4 (k26))), .int (nI (8 * zwb b))]) (st := [.int (nI (k26)), .ref (72)]) dX11_round_483 cX11_160 rfl (e_mcut (b := b)) (by decide) (by decide) (Nat.le_of_ble_eq_true rfl) (fun v28 h28 n28 q28 => ?_)
            obtain ⟨rfl, H28, N28⟩ := q28
            rw [N28, H28]
            refine zp_nrm (cells' := 0) (slots' := 0) (st' := [.long (((fh k26 + g4 k26) &&& zmask b)), .int (nI (k26)), .ref (72)]) rfl rfl rfl ?_
            refine zn_last dX11_round_486 (by omega) k27_4 (by omega) (by omega) ?_
            refine zp_nh (fun h29x eh29x => ?_)
            have k29_0 := (congrFun eh29x (64)).trans ((va_up_ne _ _ (by omega)).trans k27_0)
            have k29_1 := (congrFun eh29x (65)).trans ((va_up_ne _ _ (by omega)).trans k27_1)
            have k29_2 := (congrFun eh29x (70)).trans ((va_up_ne _ _ (by omega)).trans k27_2)
            have k29_3 := (congrFun eh29x (71)).trans ((va_up_ne _ _ (by omega)).trans k27_3)
            have k29_4 : h29x (72) = some (.inr (8, .inr (.inl (va_up (zfl fh (0) (k26) (fun i => (fh i + g4 i) &&& zmask b)) (k26) (((fh k26 + g4 k26) &&& zmask b)))))) := by rw [eh29x]; exact va_up_self _ _ _
            have k29_5 := (congrFun eh29x (9)).trans ((va_up_ne _ _ (by omega)).trans k27_5)
            have k29_6 := (congrFun eh29x (73)).trans ((va_up_ne _ _ (by omega)).trans k27_6)
            refine zn_iinc 1 (ls' := [some (.ref (64)), some (.int (nI (8 * zwb b))), some (.int (nI (at_))), some (.int (nI (zwb b))), some (.int (nI (zrn b))), some (.int (nI (k26 + 1))), none, none, none, none, none, none, none, none, none, none, none]) dX11_round_487 (by decide) (by decide) rfl rfl ?_
            refine zp_pc (pc' := 490) rfl ?_
            refine zp_goto (tgt := 454) dX11_round_490 (by decide) ?_
            refine zp_pc (pc' := 454) rfl ?_
            rw [zfl_stepL eX26 eh29x (by omega) rfl]
            exact ih ((8) - (k26 + 1)) (by omega) (k26 + 1) rfl (by omega)
      suffices K26 : zP g mX11_round (zR 2 0 0) Qf 0 0 493 [some (.ref (64)), some (.int (nI (8 * zwb b))), some (.int (nI (at_))), some (.int (nI (zwb b))), some (.int (nI (zrn b))), some (.int (nI (8))), none, none, none, none, none, none, none, none, none, none, none] [] (va_up h1 (72) (some (.inr (8, .inr (.inl (zfl fh (0) (8) (fun i => (fh i + g4 i) &&& zmask b))))))) n by
        have q := lp26 K26 ((8) - 0) 0 rfl (Nat.zero_le _)
        rw [zfl_0, zup_same m24] at q
        exact q
      refine zp_nh (fun hY26 eY26 => ?_)
      have k30_0 := (congrFun eY26 (64)).trans ((va_up_ne _ _ (by omega)).trans m20)
      have k30_1 := (congrFun eY26 (65)).trans ((va_up_ne _ _ (by omega)).trans m21)
      have k30_2 := (congrFun eY26 (70)).trans ((va_up_ne _ _ (by omega)).trans m22)
      have k30_3 := (congrFun eY26 (71)).trans ((va_up_ne _ _ (by omega)).trans m23)
      have k30_4 : hY26 (72) = some (.inr (8, .inr (.inl (zfl fh (0) (8) (fun i => (fh i + g4 i) &&& zmask b))))) := by rw [eY26]; exact va_up_self _ _ _
      have k30_5 := (congrFun eY26 (9)).trans ((va_up_ne _ _ (by omega)).trans m25)
      have k30_6 := (congrFun eY26 (73)).trans ((va_up_ne _ _ (by omega)).trans e73)
      have sA : zsm h hY26 (zb3 71 73) := ((((((zsm.fill eY1)).mono (fun i hi => by unfold zb3; unfold zon at hi; omega)).trans (((zsm.fill eY9)).mono (fun i hi => by unfold zb3; unfold zon at hi; omega))).trans (((zsm.fill eY16)).mono (fun i hi => by unfold zb3; unfold zon at hi; omega))).trans ((s4).mono (fun i hi => by unfold zb3; unfold zon at hi; omega))).trans (((zsm.fill eY26)).mono (fun i hi => by unfold zb3; unfold zon at hi; omega))
      refine zp_ret (v := none) dX11_round_493 ⟨rfl, rfl⟩ (by decide) (by decide) ?_
      rw [hQ]
      exact ⟨rfl, rfl, sA, ⟨_, k30_4, fun j hj => by rw [zfl_in0 hj, eh j hj, eg4 j hj, ← eW]; exact z8f_ext (f := fun j => (z8f s j + z8f (zrounds b W s (zrn b)) j) &&& zmask b) (s := zcomp b W s) rfl rfl rfl rfl rfl rfl rfl rfl j hj⟩, ⟨_, k30_3⟩, ⟨_, k30_6⟩⟩
    have lp : ∀ (m : Nat) (c : Nat) (h1 : ZH) (g4 : Nat → Int64), m = zrn b - c → c ≤ zrn b → zsm hY16 h1 (zon 73) → h1 73 = some (.inr (8, .inr (.inl g4))) → (∀ j, j < 8 → g4 j = z8f (zrounds b W s c) j) → zP g mX11_round (zR 2 0 0) Qf 0 0 205 [some (.ref (64)), some (.int (nI (8 * zwb b))), some (.int (nI (at_))), some (.int (nI (zwb b))), some (.int (nI (zrn b))), some (.int (nI (c))), none, none, none, none, none, none, none, none, none, none, none] [] h1 n := by
      intro m
      induction m using Nat.strongRecOn with
      | _ m ih =>
        intro c h1 g4 hm hc s4 e73 eg4
        have m31 : h1 (64) = some (.inl (10, [.int (th), .ref (65), .ref (66), .ref (67), .ref (68), .ref (69), .ref (70), .ref (71), .ref (72), .ref (73), .ref (74), .ref (75), .ref (76), .ref (77), .ref (78), .ref (79), .ref (80), .ref (81), .ref (82), .ref (83), .ref (84), .int (nI (wt)), .int (nI (zbi un)), .int (rp), .int (wi), .int (pa), .int (be), .int (ru), .int (sa), .int (me), .int (se), .int (ta), .int (fa), .ref (85), .ref (86), .ref (87), .int (nI (mn)), .ref (88), .ref (89), .ref (90), .ref (91), .ref (92), .ref (93), .int (nI (tp)), .ref (94), .int (nI (ou))])) := (s4 _ (by unfold zon; omega)).trans k19_0
        have m32 : h1 (65) = some (.inr (80, .inr (.inl (fun j => zt_ROUND.getD j 0)))) := (s4 _ (by unfold zon; omega)).trans k19_1
        have m33 : h1 (70) = some (.inr (1200, .inl f)) := (s4 _ (by unfold zon; omega)).trans k19_2
        have m34 : h1 (71) = some (.inr (80, .inr (.inl g2))) := (s4 _ (by unfold zon; omega)).trans k19_3
        have m35 : h1 (72) = some (.inr (8, .inr (.inl fh))) := (s4 _ (by unfold zon; omega)).trans k19_4
        have m36 : h1 (9) = some (.inr (24, .inl (fun j => zt_TURNS.getD j 0))) := (s4 _ (by unfold zon; omega)).trans k19_6
        have sT : zsm h h1 (zb3 70 74) := (((((zsm.fill eY1)).mono (fun i hi => by unfold zb3; unfold zon at hi; omega)).trans (((zsm.fill eY9)).mono (fun i hi => by unfold zb3; unfold zon at hi; omega))).trans (((zsm.fill eY16)).mono (fun i hi => by unfold zb3; unfold zon at hi; omega))).trans ((s4).mono (fun i hi => by unfold zb3; unfold zon at hi; omega))
        refine zp_iload dX11_round_205 rfl ?_
        refine zp_iload dX11_round_207 rfl ?_
        refine zp_pc (pc' := 209) rfl ?_
        refine zn_icmp_ge (tgt := 451) dX11_round_209 (by decide) (by omega) (by omega) (fun c209 => ?_) (fun c209 => ?_)
        · have ec : c = zrn b := by omega
          subst ec
          refine zp_drop (ls' := [some (.ref (64)), some (.int (nI (8 * zwb b))), some (.int (nI (at_))), some (.int (nI (zwb b))), some (.int (nI (zrn b))), none, none, none, none, none, none, none, none, none, none, none, none]) (fun i v hv => ?_) ?_
          · rcases i with _ | _ | _ | _ | _ | _ | _ | _ | _ | _ | _ | _ | _ | _ | _ | _ | _ | i <;> simp at hv ⊢ <;> exact hv
          exact fin h1 g4 s4 e73 eg4
        · obtain ⟨q, eq⟩ : ∃ q, q = zrounds b W s c := ⟨_, rfl⟩
          rw [← eq] at eg4
          have z0 : g4 0 = q.1 := eg4 0 (by decide)
          have z1 : g4 1 = q.2.1 := eg4 1 (by decide)
          have z2 : g4 2 = q.2.2.1 := eg4 2 (by decide)
          have z3 : g4 3 = q.2.2.2.1 := eg4 3 (by decide)
          have z4 : g4 4 = q.2.2.2.2.1 := eg4 4 (by decide)
          have z5 : g4 5 = q.2.2.2.2.2.1 := eg4 5 (by decide)
          have z6 : g4 6 = q.2.2.2.2.2.2.1 := eg4 6 (by decide)
          have z7 : g4 7 = q.2.2.2.2.2.2.2 := eg4 7 (by decide)
          have cont2 : zP g mX11_round (zR 2 0 0) Qf 0 0 238 [some (.ref (64)), some (.int (nI (8 * zwb b))), some (.int (nI (at_))), some (.int (nI (zwb b))), some (.int (nI (zrn b))), some (.int (nI (c))), none, none, none, none, none, none, none, none, none, none, none] [.long (zcut b (zt_ROUND.getD c 0))] h1 n := by
            refine zp_lstore (ls' := [some (.ref (64)), some (.int (nI (8 * zwb b))), some (.int (nI (at_))), some (.int (nI (zwb b))), some (.int (nI (zrn b))), some (.int (nI (c))), some (.long (zcut b (zt_ROUND.getD c 0))), none, none, none, none, none, none, none, none, none, none]) dX11_round_238 (by decide) rfl ?_
            refine zp_aload_n dX11_round_240 rfl ?_
            refine zp_get dX11_round_241 gX11_35_10 m31 rfl ?_
            refine zp_iconst (v := nI (4)) dX11_round_244 (by decide) ?_
            refine zp_pc (pc' := 245) rfl ?_
            refine zn_lald (j := 4) dX11_round_245 e73 (by omega) (by omega) ?_
            refine zp_l (y := q.2.2.2.2.1) z4 ?_
            refine zp_aload_n dX11_round_246 rfl ?_
            refine zp_get dX11_round_247 gX11_35_10 m31 rfl ?_
            refine zp_iconst (v := nI (5)) dX11_round_250 (by decide) ?_
            refine zp_pc (pc' := 251) rfl ?_
            refine zn_lald (j := 5) dX11_round_251 e73 (by omega) (by omega) ?_
            refine zp_l (y := q.2.2.2.2.2.1) z5 ?_
            refine zp_land dX11_round_252 ?_
            refine zp_aload_n dX11_round_253 rfl ?_
            refine zp_get dX11_round_254 gX11_35_10 m31 rfl ?_
            refine zp_iconst (v := nI (4)) dX11_round_257 (by decide) ?_
            refine zp_pc (pc' := 258) rfl ?_
            refine zn_lald (j := 4) dX11_round_258 e73 (by omega) (by omega) ?_
            refine zp_l (y := q.2.2.2.2.1) z4 ?_
            refine zp_ldc2 dX11_round_259 kcX11_164 ?_
            refine zp_lxor dX11_round_262 ?_
            refine zp_aload_n dX11_round_263 rfl ?_
            refine zp_get dX11_round_264 gX11_35_10 m31 rfl ?_
            refine zp_bipush (v := nI (6)) dX11_round_267 (by decide) ?_
            refine zp_pc (pc' := 269) rfl ?_
            refine zn_lald (j := 6) dX11_round_269 e73 (by omega) (by omega) ?_
            refine zp_l (y := q.2.2.2.2.2.2.1) z6 ?_
            refine zp_land dX11_round_270 ?_
            refine zp_lxor dX11_round_271 ?_
            refine zp_pc (pc' := 272) rfl ?_
            refine zp_lstore (ls' := [some (.ref (64)), some (.int (nI (8 * zwb b))), some (.int (nI (at_))), some (.int (nI (zwb b))), some (.int (nI (zrn b))), some (.int (nI (c))), some (.long (zcut b (zt_ROUND.getD c 0))), none, some (.long (((q.2.2.2.2.1) &&& (q.2.2.2.2.2.1)) ^^^ (((q.2.2.2.2.1) ^^^ ((-1))) &&& (q.2.2.2.2.2.2.1)))), none, none, none, none, none, none, none, none]) dX11_round_272 (by decide) rfl ?_
            refine zp_aload_n dX11_round_274 rfl ?_
            refine zp_get dX11_round_275 gX11_35_10 m31 rfl ?_
            refine zp_iconst (v := nI (0)) dX11_round_278 (by decide) ?_
            refine zp_pc (pc' := 279) rfl ?_
            refine zn_lald (j := 0) dX11_round_279 e73 (by omega) (by omega) ?_
            refine zp_l (y := q.1) z0 ?_
            refine zp_aload_n dX11_round_280 rfl ?_
            refine zp_get dX11_round_281 gX11_35_10 m31 rfl ?_
            refine zp_iconst (v := nI (1)) dX11_round_284 (by decide) ?_
            refine zp_pc (pc' := 285) rfl ?_
            refine zn_lald (j := 1) dX11_round_285 e73 (by omega) (by omega) ?_
            refine zp_l (y := q.2.1) z1 ?_
            refine zp_land dX11_round_286 ?_
            refine zp_aload_n dX11_round_287 rfl ?_
            refine zp_get dX11_round_288 gX11_35_10 m31 rfl ?_
            refine zp_iconst (v := nI (0)) dX11_round_291 (by decide) ?_
            refine zp_pc (pc' := 292) rfl ?_
            refine zn_lald (j := 0) dX11_round_292 e73 (by omega) (by omega) ?_
            refine zp_l (y := q.1) z0 ?_
            refine zp_aload_n dX11_round_293 rfl ?_
            refine zp_get dX11_round_294 gX11_35_10 m31 rfl ?_
            refine zp_iconst (v := nI (2)) dX11_round_297 (by decide) ?_
            refine zp_pc (pc' := 298) rfl ?_
            refine zn_lald (j := 2) dX11_round_298 e73 (by omega) (by omega) ?_
            refine zp_l (y := q.2.2.1) z2 ?_
            refine zp_land dX11_round_299 ?_
            refine zp_lxor dX11_round_300 ?_
            refine zp_aload_n dX11_round_301 rfl ?_
            refine zp_get dX11_round_302 gX11_35_10 m31 rfl ?_
            refine zp_iconst (v := nI (1)) dX11_round_305 (by decide) ?_
            refine zp_pc (pc' := 306) rfl ?_
            refine zn_lald (j := 1) dX11_round_306 e73 (by omega) (by omega) ?_
            refine zp_l (y := q.2.1) z1 ?_
            refine zp_aload_n dX11_round_307 rfl ?_
            refine zp_get dX11_round_308 gX11_35_10 m31 rfl ?_
            refine zp_iconst (v := nI (2)) dX11_round_311 (by decide) ?_
            refine zp_pc (pc' := 312) rfl ?_
            refine zn_lald (j := 2) dX11_round_312 e73 (by omega) (by omega) ?_
            refine zp_l (y := q.2.2.1) z2 ?_
            refine zp_land dX11_round_313 ?_
            refine zp_lxor dX11_round_314 ?_
            refine zp_lstore (ls' := [some (.ref (64)), some (.int (nI (8 * zwb b))), some (.int (nI (at_))), some (.int (nI (zwb b))), some (.int (nI (zrn b))), some (.int (nI (c))), some (.long (zcut b (zt_ROUND.getD c 0))), none, some (.long (((q.2.2.2.2.1) &&& (q.2.2.2.2.2.1)) ^^^ (((q.2.2.2.2.1) ^^^ ((-1))) &&& (q.2.2.2.2.2.2.1)))), none, some (.long ((((q.1) &&& (q.2.1)) ^^^ ((q.1) &&& (q.2.2.1))) ^^^ ((q.2.1) &&& (q.2.2.1)))), none, none, none, none, none, none]) dX11_round_315 (by decide) rfl ?_
            refine zp_aload_n dX11_round_317 rfl ?_
            refine zp_get dX11_round_318 gX11_35_10 m31 rfl ?_
            refine zp_bipush (v := nI (7)) dX11_round_321 (by decide) ?_
            refine zp_pc (pc' := 323) rfl ?_
            refine zn_lald (j := 7) dX11_round_323 e73 (by omega) (by omega) ?_
            refine zp_l (y := q.2.2.2.2.2.2.2) z7 ?_
            refine zp_aload_n dX11_round_324 rfl ?_
            refine zp_get dX11_round_325 gX11_35_10 m31 rfl ?_
            refine zp_iconst (v := nI (4)) dX11_round_328 (by decide) ?_
            refine zp_pc (pc' := 329) rfl ?_
            refine zn_lald (j := 4) dX11_round_329 e73 (by omega) (by omega) ?_
            refine zp_l (y := q.2.2.2.2.1) z4 ?_
            refine zp_iconst (v := nI (1)) dX11_round_330 (by decide) ?_
            refine zp_iload_n dX11_round_331 rfl ?_
            refine zp_pc (pc' := 332) rfl ?_
            refine zp_callS (As := [.long (q.2.2.2.2.1), .int (nI (1)), .int (nI (8 * zwb b))]) (st := [.long (q.2.2.2.2.2.2.2)]) dX11_round_332 cX11_157 rfl (e_mixed (b := b) (q := 1) (ht.sm sT (fun i hi => by unfold zb3 at hi; omega)) (by decide)) (by decide) (by decide) (Nat.le_of_ble_eq_true rfl) (fun v37 h37 n37 q37 => ?_)
            obtain ⟨rfl, H37, N37⟩ := q37
            rw [N37, H37]
            refine zp_nrm (cells' := 0) (slots' := 0) (st' := [.long (zmxd b (q.2.2.2.2.1) 1), .long (q.2.2.2.2.2.2.2)]) rfl rfl rfl ?_
            refine zp_ladd dX11_round_335 ?_
            refine zp_lload dX11_round_336 rfl ?_
            refine zp_iload_n dX11_round_338 rfl ?_
            refine zp_pc (pc' := 339) rfl ?_
            refine zp_pc (pc' := 339) rfl ?_
            refine zp_callS (As := [.long (((q.2.2.2.2.1) &&& (q.2.2.2.2.2.1)) ^^^ (((q.2.2.2.2.1) ^^^ ((-1))) &&& (q.2.2.2.2.2.2.1))), .int (nI (8 * zwb b))]) (st := [.long ((q.2.2.2.2.2.2.2) + (zmxd b (q.2.2.2.2.1) 1))]) dX11_round_339 cX11_160 rfl (e_mcut (b := b)) (by decide) (by decide) (Nat.le_of_ble_eq_true rfl) (fun v38 h38 n38 q38 => ?_)
            obtain ⟨rfl, H38, N38⟩ := q38
            rw [N38, H38]
            refine zp_nrm (cells' := 0) (slots' := 0) (st' := [.long (((q.2.2.2.2.1 &&& q.2.2.2.2.2.1 ^^^ (q.2.2.2.2.1 ^^^ (-1)) &&& q.2.2.2.2.2.2.1) &&& zmask b)), .long ((q.2.2.2.2.2.2.2) + (zmxd b (q.2.2.2.2.1) 1))]) rfl rfl rfl ?_
            refine zp_ladd dX11_round_342 ?_
            refine zp_lload dX11_round_343 rfl ?_
            refine zp_ladd dX11_round_345 ?_
            refine zp_aload_n dX11_round_346 rfl ?_
            refine zp_get dX11_round_347 gX11_29_10 m31 rfl ?_
            refine zp_iload dX11_round_350 rfl ?_
            refine zp_pc (pc' := 352) rfl ?_
            refine zn_lald (j := c) dX11_round_352 m34 (by omega) (by omega) ?_
            refine zp_l (y := W c) (q3 c (by omega)) ?_
            refine zp_ladd dX11_round_353 ?_
            refine zp_iload_n dX11_round_354 rfl ?_
            refine zp_pc (pc' := 355) rfl ?_
            refine zp_callS (As := [.long (((((q.2.2.2.2.2.2.2) + (zmxd b (q.2.2.2.2.1) 1)) + (((q.2.2.2.2.1 &&& q.2.2.2.2.2.1 ^^^ (q.2.2.2.2.1 ^^^ (-1)) &&& q.2.2.2.2.2.2.1) &&& zmask b))) + (zcut b (zt_ROUND.getD c 0))) + (W c)), .int (nI (8 * zwb b))]) (st := []) dX11_round_355 cX11_160 rfl (e_mcut (b := b)) (by decide) (by decide) (Nat.le_of_ble_eq_true rfl) (fun v39 h39 n39 q39 => ?_)
            obtain ⟨rfl, H39, N39⟩ := q39
            rw [N39, H39]
            refine zp_nrm (cells' := 0) (slots' := 0) (st' := [.long (((q.2.2.2.2.2.2.2 + zmxd b (q.2.2.2.2.1) 1 + ((q.2.2.2.2.1 &&& q.2.2.2.2.2.1 ^^^ (q.2.2.2.2.1 ^^^ (-1)) &&& q.2.2.2.2.2.2.1) &&& zmask b) + zcut b (zt_ROUND.getD c 0) + W c) &&& zmask b))]) rfl rfl rfl ?_
            refine zp_lstore (ls' := [some (.ref (64)), some (.int (nI (8 * zwb b))), some (.int (nI (at_))), some (.int (nI (zwb b))), some (.int (nI (zrn b))), some (.int (nI (c))), some (.long (zcut b (zt_ROUND.getD c 0))), none, some (.long (((q.2.2.2.2.1) &&& (q.2.2.2.2.2.1)) ^^^ (((q.2.2.2.2.1) ^^^ ((-1))) &&& (q.2.2.2.2.2.2.1)))), none, some (.long ((((q.1) &&& (q.2.1)) ^^^ ((q.1) &&& (q.2.2.1))) ^^^ ((q.2.1) &&& (q.2.2.1)))), none, some (.long (((q.2.2.2.2.2.2.2 + zmxd b (q.2.2.2.2.1) 1 + ((q.2.2.2.2.1 &&& q.2.2.2.2.2.1 ^^^ (q.2.2.2.2.1 ^^^ (-1)) &&& q.2.2.2.2.2.2.1) &&& zmask b) + zcut b (zt_ROUND.getD c 0) + W c) &&& zmask b))), none, none, none, none]) dX11_round_358 (by decide) rfl ?_
            refine zp_aload_n dX11_round_360 rfl ?_
            refine zp_get dX11_round_361 gX11_35_10 m31 rfl ?_
            refine zp_iconst (v := nI (0)) dX11_round_364 (by decide) ?_
            refine zp_pc (pc' := 365) rfl ?_
            refine zn_lald (j := 0) dX11_round_365 e73 (by omega) (by omega) ?_
            refine zp_l (y := q.1) z0 ?_
            refine zp_iconst (v := nI (0)) dX11_round_366 (by decide) ?_
            refine zp_iload_n dX11_round_367 rfl ?_
            refine zp_pc (pc' := 368) rfl ?_
            refine zp_callS (As := [.long (q.1), .int (nI (0)), .int (nI (8 * zwb b))]) (st := []) dX11_round_368 cX11_157 rfl (e_mixed (b := b) (q := 0) (ht.sm sT (fun i hi => by unfold zb3 at hi; omega)) (by decide)) (by decide) (by decide) (Nat.le_of_ble_eq_true rfl) (fun v40 h40 n40 q40 => ?_)
            obtain ⟨rfl, H40, N40⟩ := q40
            rw [N40, H40]
            refine zp_nrm (cells' := 0) (slots' := 0) (st' := [.long (zmxd b (q.1) 0)]) rfl rfl rfl ?_
            refine zp_lload dX11_round_371 rfl ?_
            refine zp_ladd dX11_round_373 ?_
            refine zp_iload_n dX11_round_374 rfl ?_
            refine zp_pc (pc' := 375) rfl ?_
            refine zp_callS (As := [.long ((zmxd b (q.1) 0) + ((((q.1) &&& (q.2.1)) ^^^ ((q.1) &&& (q.2.2.1))) ^^^ ((q.2.1) &&& (q.2.2.1)))), .int (nI (8 * zwb b))]) (st := []) dX11_round_375 cX11_160 rfl (e_mcut (b := b)) (by decide) (by decide) (Nat.le_of_ble_eq_true rfl) (fun v41 h41 n41 q41 => ?_)
            obtain ⟨rfl, H41, N41⟩ := q41
            rw [N41, H41]
            refine zp_nrm (cells' := 0) (slots' := 0) (st' := [.long (((zmxd b (q.1) 0 + (q.1 &&& q.2.1 ^^^ q.1 &&& q.2.2.1 ^^^ q.2.1 &&& q.2.2.1)) &&& zmask b))]) rfl rfl rfl ?_
            refine zp_lstore (ls' := [some (.ref (64)), some (.int (nI (8 * zwb b))), some (.int (nI (at_))), some (.int (nI (zwb b))), some (.int (nI (zrn b))), some (.int (nI (c))), some (.long (zcut b (zt_ROUND.getD c 0))), none, some (.long (((q.2.2.2.2.1) &&& (q.2.2.2.2.2.1)) ^^^ (((q.2.2.2.2.1) ^^^ ((-1))) &&& (q.2.2.2.2.2.2.1)))), none, some (.long ((((q.1) &&& (q.2.1)) ^^^ ((q.1) &&& (q.2.2.1))) ^^^ ((q.2.1) &&& (q.2.2.1)))), none, some (.long (((q.2.2.2.2.2.2.2 + zmxd b (q.2.2.2.2.1) 1 + ((q.2.2.2.2.1 &&& q.2.2.2.2.2.1 ^^^ (q.2.2.2.2.1 ^^^ (-1)) &&& q.2.2.2.2.2.2.1) &&& zmask b) + zcut b (zt_ROUND.getD c 0) + W c) &&& zmask b))), none, some (.long (((zmxd b (q.1) 0 + (q.1 &&& q.2.1 ^^^ q.1 &&& q.2.2.1 ^^^ q.2.1 &&& q.2.2.1)) &&& zmask b))), none, none]) dX11_round_378 (by decide) rfl ?_
            refine zp_bipush (v := nI (7)) dX11_round_380 (by decide) ?_
            refine zp_istore (ls' := [some (.ref (64)), some (.int (nI (8 * zwb b))), some (.int (nI (at_))), some (.int (nI (zwb b))), some (.int (nI (zrn b))), some (.int (nI (c))), some (.long (zcut b (zt_ROUND.getD c 0))), none, some (.long (((q.2.2.2.2.1) &&& (q.2.2.2.2.2.1)) ^^^ (((q.2.2.2.2.1) ^^^ ((-1))) &&& (q.2.2.2.2.2.2.1)))), none, some (.long ((((q.1) &&& (q.2.1)) ^^^ ((q.1) &&& (q.2.2.1))) ^^^ ((q.2.1) &&& (q.2.2.1)))), none, some (.long (((q.2.2.2.2.2.2.2 + zmxd b (q.2.2.2.2.1) 1 + ((q.2.2.2.2.1 &&& q.2.2.2.2.2.1 ^^^ (q.2.2.2.2.1 ^^^ (-1)) &&& q.2.2.2.2.2.2.1) &&& zmask b) + zcut b (zt_ROUND.getD c 0) + W c) &&& zmask b))), none, some (.long (((zmxd b (q.1) 0 + (q.1 &&& q.2.1 ^^^ q.1 &&& q.2.2.1 ^^^ q.2.1 &&& q.2.2.1)) &&& zmask b))), none, some (.int (nI (7)))]) dX11_round_382 (by decide) rfl ?_
            refine zp_pc (pc' := 384) rfl ?_
            refine zp_ls (ls' := [some (.ref (64)), some (.int (nI (8 * zwb b))), some (.int (nI (at_))), some (.int (nI (zwb b))), some (.int (nI (zrn b))), some (.int (nI (c))), some (.long (zcut b (zt_ROUND.getD c 0))), none, some (.long (((q.2.2.2.2.1) &&& (q.2.2.2.2.2.1)) ^^^ (((q.2.2.2.2.1) ^^^ ((-1))) &&& (q.2.2.2.2.2.2.1)))), none, some (.long ((((q.1) &&& (q.2.1)) ^^^ ((q.1) &&& (q.2.2.1))) ^^^ ((q.2.1) &&& (q.2.2.1)))), none, some (.long (((q.2.2.2.2.2.2.2 + zmxd b (q.2.2.2.2.1) 1 + ((q.2.2.2.2.1 &&& q.2.2.2.2.2.1 ^^^ (q.2.2.2.2.1 ^^^ (-1)) &&& q.2.2.2.2.2.2.1) &&& zmask b) + zcut b (zt_ROUND.getD c 0) + W c) &&& zmask b))), none, some (.long (((zmxd b (q.1) 0 + (q.1 &&& q.2.1 ^^^ q.1 &&& q.2.2.1 ^^^ q.2.1 &&& q.2.2.1)) &&& zmask b))), none, some (.int (nI (7)))]) rfl ?_
            refine zp_iload dX11_round_384 rfl ?_
            refine zp_pc (pc' := 386) rfl ?_
            refine zn_if_le (tgt := 411) dX11_round_386 (by decide) (by decide) (fun c386 => ?_) (fun c386 => ?_)
            · exact absurd c386 (by decide)
            · refine zp_aload_n dX11_round_389 rfl ?_
              refine zp_get dX11_round_390 gX11_35_10 m31 rfl ?_
              refine zp_iload dX11_round_393 rfl ?_
              refine zp_aload_n dX11_round_395 rfl ?_
              refine zp_get dX11_round_396 gX11_35_10 m31 rfl ?_
              refine zp_iload dX11_round_399 rfl ?_
              refine zp_iconst (v := nI (1)) dX11_round_401 (by decide) ?_
              refine zp_pc (pc' := 402) rfl ?_
              refine zn_isub dX11_round_402 (by omega) ?_
              refine zn_lald (j := (7) - (1)) dX11_round_403 e73 (by omega) (by omega) ?_
              refine zn_last dX11_round_404 (by omega) e73 (by omega) (by omega) ?_
              refine zp_nh (fun h42x eh42x => ?_)
              have k42_0 := (congrFun eh42x (64)).trans ((va_up_ne _ _ (by omega)).trans m31)
              have k42_1 := (congrFun eh42x (65)).trans ((va_up_ne _ _ (by omega)).trans m32)
              have k42_2 := (congrFun eh42x (70)).trans ((va_up_ne _ _ (by omega)).trans m33)
              have k42_3 := (congrFun eh42x (71)).trans ((va_up_ne _ _ (by omega)).trans m34)
              have k42_4 := (congrFun eh42x (72)).trans ((va_up_ne _ _ (by omega)).trans m35)
              have k42_5 := (congrFun eh42x (9)).trans ((va_up_ne _ _ (by omega)).trans m36)
              have k42_6 : h42x (73) = some (.inr (8, .inr (.inl (va_up g4 (7) (g4 ((7) - (1))))))) := by rw [eh42x]; exact va_up_self _ _ _
              refine zp_pc (pc' := 405) rfl ?_
              refine zp_ls (ls' := [some (.ref (64)), some (.int (nI (8 * zwb b))), some (.int (nI (at_))), some (.int (nI (zwb b))), some (.int (nI (zrn b))), some (.int (nI (c))), some (.long (zcut b (zt_ROUND.getD c 0))), none, some (.long (((q.2.2.2.2.1) &&& (q.2.2.2.2.2.1)) ^^^ (((q.2.2.2.2.1) ^^^ ((-1))) &&& (q.2.2.2.2.2.2.1)))), none, some (.long ((((q.1) &&& (q.2.1)) ^^^ ((q.1) &&& (q.2.2.1))) ^^^ ((q.2.1) &&& (q.2.2.1)))), none, some (.long (((q.2.2.2.2.2.2.2 + zmxd b (q.2.2.2.2.1) 1 + ((q.2.2.2.2.1 &&& q.2.2.2.2.2.1 ^^^ (q.2.2.2.2.1 ^^^ (-1)) &&& q.2.2.2.2.2.2.1) &&& zmask b) + zcut b (zt_ROUND.getD c 0) + W c) &&& zmask b))), none, some (.long (((zmxd b (q.1) 0 + (q.1 &&& q.2.1 ^^^ q.1 &&& q.2.2.1 ^^^ q.2.1 &&& q.2.2.1)) &&& zmask b))), none, some (.int (nI (6 + 1)))]) rfl ?_
              refine zn_idec (ls' := [some (.ref (64)), some (.int (nI (8 * zwb b))), some (.int (nI (at_))), some (.int (nI (zwb b))), some (.int (nI (zrn b))), some (.int (nI (c))), some (.long (zcut b (zt_ROUND.getD c 0))), none, some (.long (((q.2.2.2.2.1) &&& (q.2.2.2.2.2.1)) ^^^ (((q.2.2.2.2.1) ^^^ ((-1))) &&& (q.2.2.2.2.2.2.1)))), none, some (.long ((((q.1) &&& (q.2.1)) ^^^ ((q.1) &&& (q.2.2.1))) ^^^ ((q.2.1) &&& (q.2.2.1)))), none, some (.long (((q.2.2.2.2.2.2.2 + zmxd b (q.2.2.2.2.1) 1 + ((q.2.2.2.2.1 &&& q.2.2.2.2.2.1 ^^^ (q.2.2.2.2.1 ^^^ (-1)) &&& q.2.2.2.2.2.2.1) &&& zmask b) + zcut b (zt_ROUND.getD c 0) + W c) &&& zmask b))), none, some (.long (((zmxd b (q.1) 0 + (q.1 &&& q.2.1 ^^^ q.1 &&& q.2.2.1 ^^^ q.2.1 &&& q.2.2.1)) &&& zmask b))), none, some (.int (nI (6)))]) dX11_round_405 (by decide) rfl rfl ?_
              refine zp_pc (pc' := 408) rfl ?_
              refine zp_goto (tgt := 384) dX11_round_408 (by decide) ?_
              refine zp_pc (pc' := 384) rfl ?_
              refine zp_ls (ls' := [some (.ref (64)), some (.int (nI (8 * zwb b))), some (.int (nI (at_))), some (.int (nI (zwb b))), some (.int (nI (zrn b))), some (.int (nI (c))), some (.long (zcut b (zt_ROUND.getD c 0))), none, some (.long (((q.2.2.2.2.1) &&& (q.2.2.2.2.2.1)) ^^^ (((q.2.2.2.2.1) ^^^ ((-1))) &&& (q.2.2.2.2.2.2.1)))), none, some (.long ((((q.1) &&& (q.2.1)) ^^^ ((q.1) &&& (q.2.2.1))) ^^^ ((q.2.1) &&& (q.2.2.1)))), none, some (.long (((q.2.2.2.2.2.2.2 + zmxd b (q.2.2.2.2.1) 1 + ((q.2.2.2.2.1 &&& q.2.2.2.2.2.1 ^^^ (q.2.2.2.2.1 ^^^ (-1)) &&& q.2.2.2.2.2.2.1) &&& zmask b) + zcut b (zt_ROUND.getD c 0) + W c) &&& zmask b))), none, some (.long (((zmxd b (q.1) 0 + (q.1 &&& q.2.1 ^^^ q.1 &&& q.2.2.1 ^^^ q.2.1 &&& q.2.2.1)) &&& zmask b))), none, some (.int (nI (6)))]) rfl ?_
              refine zp_iload dX11_round_384 rfl ?_
              refine zp_pc (pc' := 386) rfl ?_
              refine zn_if_le (tgt := 411) dX11_round_386 (by decide) (by decide) (fun c386 => ?_) (fun c386 => ?_)
              · exact absurd c386 (by decide)
              · refine zp_aload_n dX11_round_389 rfl ?_
                refine zp_get dX11_round_390 gX11_35_10 k42_0 rfl ?_
                refine zp_iload dX11_round_393 rfl ?_
                refine zp_aload_n dX11_round_395 rfl ?_
                refine zp_get dX11_round_396 gX11_35_10 k42_0 rfl ?_
                refine zp_iload dX11_round_399 rfl ?_
                refine zp_iconst (v := nI (1)) dX11_round_401 (by decide) ?_
                refine zp_pc (pc' := 402) rfl ?_
                refine zn_isub dX11_round_402 (by omega) ?_
                refine zn_lald (j := (6) - (1)) dX11_round_403 k42_6 (by omega) (by omega) ?_
                refine zn_last dX11_round_404 (by omega) k42_6 (by omega) (by omega) ?_
                refine zp_nh (fun h43x eh43x => ?_)
                have k43_0 := (congrFun eh43x (64)).trans ((va_up_ne _ _ (by omega)).trans k42_0)
                have k43_1 := (congrFun eh43x (65)).trans ((va_up_ne _ _ (by omega)).trans k42_1)
                have k43_2 := (congrFun eh43x (70)).trans ((va_up_ne _ _ (by omega)).trans k42_2)
                have k43_3 := (congrFun eh43x (71)).trans ((va_up_ne _ _ (by omega)).trans k42_3)
                have k43_4 := (congrFun eh43x (72)).trans ((va_up_ne _ _ (by omega)).trans k42_4)
                have k43_5 := (congrFun eh43x (9)).trans ((va_up_ne _ _ (by omega)).trans k42_5)
                have k43_6 : h43x (73) = some (.inr (8, .inr (.inl (va_up (va_up g4 (7) (g4 ((7) - (1)))) (6) ((va_up g4 (7) (g4 ((7) - (1)))) ((6) - (1))))))) := by rw [eh43x]; exact va_up_self _ _ _
                refine zp_pc (pc' := 405) rfl ?_
                refine zp_ls (ls' := [some (.ref (64)), some (.int (nI (8 * zwb b))), some (.int (nI (at_))), some (.int (nI (zwb b))), some (.int (nI (zrn b))), some (.int (nI (c))), some (.long (zcut b (zt_ROUND.getD c 0))), none, some (.long (((q.2.2.2.2.1) &&& (q.2.2.2.2.2.1)) ^^^ (((q.2.2.2.2.1) ^^^ ((-1))) &&& (q.2.2.2.2.2.2.1)))), none, some (.long ((((q.1) &&& (q.2.1)) ^^^ ((q.1) &&& (q.2.2.1))) ^^^ ((q.2.1) &&& (q.2.2.1)))), none, some (.long (((q.2.2.2.2.2.2.2 + zmxd b (q.2.2.2.2.1) 1 + ((q.2.2.2.2.1 &&& q.2.2.2.2.2.1 ^^^ (q.2.2.2.2.1 ^^^ (-1)) &&& q.2.2.2.2.2.2.1) &&& zmask b) + zcut b (zt_ROUND.getD c 0) + W c) &&& zmask b))), none, some (.long (((zmxd b (q.1) 0 + (q.1 &&& q.2.1 ^^^ q.1 &&& q.2.2.1 ^^^ q.2.1 &&& q.2.2.1)) &&& zmask b))), none, some (.int (nI (5 + 1)))]) rfl ?_
                refine zn_idec (ls' := [some (.ref (64)), some (.int (nI (8 * zwb b))), some (.int (nI (at_))), some (.int (nI (zwb b))), some (.int (nI (zrn b))), some (.int (nI (c))), some (.long (zcut b (zt_ROUND.getD c 0))), none, some (.long (((q.2.2.2.2.1) &&& (q.2.2.2.2.2.1)) ^^^ (((q.2.2.2.2.1) ^^^ ((-1))) &&& (q.2.2.2.2.2.2.1)))), none, some (.long ((((q.1) &&& (q.2.1)) ^^^ ((q.1) &&& (q.2.2.1))) ^^^ ((q.2.1) &&& (q.2.2.1)))), none, some (.long (((q.2.2.2.2.2.2.2 + zmxd b (q.2.2.2.2.1) 1 + ((q.2.2.2.2.1 &&& q.2.2.2.2.2.1 ^^^ (q.2.2.2.2.1 ^^^ (-1)) &&& q.2.2.2.2.2.2.1) &&& zmask b) + zcut b (zt_ROUND.getD c 0) + W c) &&& zmask b))), none, some (.long (((zmxd b (q.1) 0 + (q.1 &&& q.2.1 ^^^ q.1 &&& q.2.2.1 ^^^ q.2.1 &&& q.2.2.1)) &&& zmask b))), none, some (.int (nI (5)))]) dX11_round_405 (by decide) rfl rfl ?_
                refine zp_pc (pc' := 408) rfl ?_
                refine zp_goto (tgt := 384) dX11_round_408 (by decide) ?_
                refine zp_pc (pc' := 384) rfl ?_
                refine zp_ls (ls' := [some (.ref (64)), some (.int (nI (8 * zwb b))), some (.int (nI (at_))), some (.int (nI (zwb b))), some (.int (nI (zrn b))), some (.int (nI (c))), some (.long (zcut b (zt_ROUND.getD c 0))), none, some (.long (((q.2.2.2.2.1) &&& (q.2.2.2.2.2.1)) ^^^ (((q.2.2.2.2.1) ^^^ ((-1))) &&& (q.2.2.2.2.2.2.1)))), none, some (.long ((((q.1) &&& (q.2.1)) ^^^ ((q.1) &&& (q.2.2.1))) ^^^ ((q.2.1) &&& (q.2.2.1)))), none, some (.long (((q.2.2.2.2.2.2.2 + zmxd b (q.2.2.2.2.1) 1 + ((q.2.2.2.2.1 &&& q.2.2.2.2.2.1 ^^^ (q.2.2.2.2.1 ^^^ (-1)) &&& q.2.2.2.2.2.2.1) &&& zmask b) + zcut b (zt_ROUND.getD c 0) + W c) &&& zmask b))), none, some (.long (((zmxd b (q.1) 0 + (q.1 &&& q.2.1 ^^^ q.1 &&& q.2.2.1 ^^^ q.2.1 &&& q.2.2.1)) &&& zmask b))), none, some (.int (nI (5)))]) rfl ?_
                refine zp_iload dX11_round_384 rfl ?_
                refine zp_pc (pc' := 386) rfl ?_
                refine zn_if_le (tgt := 411) dX11_round_386 (by decide) (by decide) (fun c386 => ?_) (fun c386 => ?_)
                · exact absurd c386 (by decide)
                · refine zp_aload_n dX11_round_389 rfl ?_
                  refine zp_get dX11_round_390 gX11_35_10 k43_0 rfl ?_
                  refine zp_iload dX11_round_393 rfl ?_
                  refine zp_aload_n dX11_round_395 rfl ?_
                  refine zp_get dX11_round_396 gX11_35_10 k43_0 rfl ?_
                  refine zp_iload dX11_round_399 rfl ?_
                  refine zp_iconst (v := nI (1)) dX11_round_401 (by decide) ?_
                  refine zp_pc (pc' := 402) rfl ?_
                  refine zn_isub dX11_round_402 (by omega) ?_
                  refine zn_lald (j := (5) - (1)) dX11_round_403 k43_6 (by omega) (by omega) ?_
                  refine zn_last dX11_round_404 (by omega) k43_6 (by omega) (by omega) ?_
                  refine zp_nh (fun h44x eh44x => ?_)
                  have k44_0 := (congrFun eh44x (64)).trans ((va_up_ne _ _ (by omega)).trans k43_0)
                  have k44_1 := (congrFun eh44x (65)).trans ((va_up_ne _ _ (by omega)).trans k43_1)
                  have k44_2 := (congrFun eh44x (70)).trans ((va_up_ne _ _ (by omega)).trans k43_2)
                  have k44_3 := (congrFun eh44x (71)).trans ((va_up_ne _ _ (by omega)).trans k43_3)
                  have k44_4 := (congrFun eh44x (72)).trans ((va_up_ne _ _ (by omega)).trans k43_4)
                  have k44_5 := (congrFun eh44x (9)).trans ((va_up_ne _ _ (by omega)).trans k43_5)
                  have k44_6 : h44x (73) = some (.inr (8, .inr (.inl (va_up (va_up (va_up g4 (7) (g4 ((7) - (1)))) (6) ((va_up g4 (7) (g4 ((7) - (1)))) ((6) - (1)))) (5) ((va_up (va_up g4 (7) (g4 ((7) - (1)))) (6) ((va_up g4 (7) (g4 ((7) - (1)))) ((6) - (1)))) ((5) - (1))))))) := by rw [eh44x]; exact va_up_self _ _ _
                  refine zp_pc (pc' := 405) rfl ?_
                  refine zp_ls (ls' := [some (.ref (64)), some (.int (nI (8 * zwb b))), some (.int (nI (at_))), some (.int (nI (zwb b))), some (.int (nI (zrn b))), some (.int (nI (c))), some (.long (zcut b (zt_ROUND.getD c 0))), none, some (.long (((q.2.2.2.2.1) &&& (q.2.2.2.2.2.1)) ^^^ (((q.2.2.2.2.1) ^^^ ((-1))) &&& (q.2.2.2.2.2.2.1)))), none, some (.long ((((q.1) &&& (q.2.1)) ^^^ ((q.1) &&& (q.2.2.1))) ^^^ ((q.2.1) &&& (q.2.2.1)))), none, some (.long (((q.2.2.2.2.2.2.2 + zmxd b (q.2.2.2.2.1) 1 + ((q.2.2.2.2.1 &&& q.2.2.2.2.2.1 ^^^ (q.2.2.2.2.1 ^^^ (-1)) &&& q.2.2.2.2.2.2.1) &&& zmask b) + zcut b (zt_ROUND.getD c 0) + W c) &&& zmask b))), none, some (.long (((zmxd b (q.1) 0 + (q.1 &&& q.2.1 ^^^ q.1 &&& q.2.2.1 ^^^ q.2.1 &&& q.2.2.1)) &&& zmask b))), none, some (.int (nI (4 + 1)))]) rfl ?_
                  refine zn_idec (ls' := [some (.ref (64)), some (.int (nI (8 * zwb b))), some (.int (nI (at_))), some (.int (nI (zwb b))), some (.int (nI (zrn b))), some (.int (nI (c))), some (.long (zcut b (zt_ROUND.getD c 0))), none, some (.long (((q.2.2.2.2.1) &&& (q.2.2.2.2.2.1)) ^^^ (((q.2.2.2.2.1) ^^^ ((-1))) &&& (q.2.2.2.2.2.2.1)))), none, some (.long ((((q.1) &&& (q.2.1)) ^^^ ((q.1) &&& (q.2.2.1))) ^^^ ((q.2.1) &&& (q.2.2.1)))), none, some (.long (((q.2.2.2.2.2.2.2 + zmxd b (q.2.2.2.2.1) 1 + ((q.2.2.2.2.1 &&& q.2.2.2.2.2.1 ^^^ (q.2.2.2.2.1 ^^^ (-1)) &&& q.2.2.2.2.2.2.1) &&& zmask b) + zcut b (zt_ROUND.getD c 0) + W c) &&& zmask b))), none, some (.long (((zmxd b (q.1) 0 + (q.1 &&& q.2.1 ^^^ q.1 &&& q.2.2.1 ^^^ q.2.1 &&& q.2.2.1)) &&& zmask b))), none, some (.int (nI (4)))]) dX11_round_405 (by decide) rfl rfl ?_
                  refine zp_pc (pc' := 408) rfl ?_
                  refine zp_goto (tgt := 384) dX11_round_408 (by decide) ?_
                  refine zp_pc (pc' := 384) rfl ?_
                  refine zp_ls (ls' := [some (.ref (64)), some (.int (nI (8 * zwb b))), some (.int (nI (at_))), some (.int (nI (zwb b))), some (.int (nI (zrn b))), some (.int (nI (c))), some (.long (zcut b (zt_ROUND.getD c 0))), none, some (.long (((q.2.2.2.2.1) &&& (q.2.2.2.2.2.1)) ^^^ (((q.2.2.2.2.1) ^^^ ((-1))) &&& (q.2.2.2.2.2.2.1)))), none, some (.long ((((q.1) &&& (q.2.1)) ^^^ ((q.1) &&& (q.2.2.1))) ^^^ ((q.2.1) &&& (q.2.2.1)))), none, some (.long (((q.2.2.2.2.2.2.2 + zmxd b (q.2.2.2.2.1) 1 + ((q.2.2.2.2.1 &&& q.2.2.2.2.2.1 ^^^ (q.2.2.2.2.1 ^^^ (-1)) &&& q.2.2.2.2.2.2.1) &&& zmask b) + zcut b (zt_ROUND.getD c 0) + W c) &&& zmask b))), none, some (.long (((zmxd b (q.1) 0 + (q.1 &&& q.2.1 ^^^ q.1 &&& q.2.2.1 ^^^ q.2.1 &&& q.2.2.1)) &&& zmask b))), none, some (.int (nI (4)))]) rfl ?_
                  refine zp_iload dX11_round_384 rfl ?_
                  refine zp_pc (pc' := 386) rfl ?_
                  refine zn_if_le (tgt := 411) dX11_round_386 (by decide) (by decide) (fun c386 => ?_) (fun c386 => ?_)
                  · exact absurd c386 (by decide)
                  · refine zp_aload_n dX11_round_389 rfl ?_
                    refine zp_get dX11_round_390 gX11_35_10 k44_0 rfl ?_
                    refine zp_iload dX11_round_393 rfl ?_
                    refine zp_aload_n dX11_round_395 rfl ?_
                    refine zp_get dX11_round_396 gX11_35_10 k44_0 rfl ?_
                    refine zp_iload dX11_round_399 rfl ?_
                    refine zp_iconst (v := nI (1)) dX11_round_401 (by decide) ?_
                    refine zp_pc (pc' := 402) rfl ?_
                    refine zn_isub dX11_round_402 (by omega) ?_
                    refine zn_lald (j := (4) - (1)) dX11_round_403 k44_6 (by omega) (by omega) ?_
                    refine zn_last dX11_round_404 (by omega) k44_6 (by omega) (by omega) ?_
                    refine zp_nh (fun h45x eh45x => ?_)
                    have k45_0 := (congrFun eh45x (64)).trans ((va_up_ne _ _ (by omega)).trans k44_0)
                    have k45_1 := (congrFun eh45x (65)).trans ((va_up_ne _ _ (by omega)).trans k44_1)
                    have k45_2 := (congrFun eh45x (70)).trans ((va_up_ne _ _ (by omega)).trans k44_2)
                    have k45_3 := (congrFun eh45x (71)).trans ((va_up_ne _ _ (by omega)).trans k44_3)
                    have k45_4 := (congrFun eh45x (72)).trans ((va_up_ne _ _ (by omega)).trans k44_4)
                    have k45_5 := (congrFun eh45x (9)).trans ((va_up_ne _ _ (by omega)).trans k44_5)
                    have k45_6 : h45x (73) = some (.inr (8, .inr (.inl (va_up (va_up (va_up (va_up g4 (7) (g4 ((7) - (1)))) (6) ((va_up g4 (7) (g4 ((7) - (1)))) ((6) - (1)))) (5) ((va_up (va_up g4 (7) (g4 ((7) - (1)))) (6) ((va_up g4 (7) (g4 ((7) - (1)))) ((6) - (1)))) ((5) - (1)))) (4) ((va_up (va_up (va_up g4 (7) (g4 ((7) - (1)))) (6) ((va_up g4 (7) (g4 ((7) - (1)))) ((6) - (1)))) (5) ((va_up (va_up g4 (7) (g4 ((7) - (1)))) (6) ((va_up g4 (7) (g4 ((7) - (1)))) ((6) - (1)))) ((5) - (1)))) ((4) - (1))))))) := by rw [eh45x]; exact va_up_self _ _ _
                    refine zp_pc (pc' := 405) rfl ?_
                    refine zp_ls (ls' := [some (.ref (64)), some (.int (nI (8 * zwb b))), some (.int (nI (at_))), some (.int (nI (zwb b))), some (.int (nI (zrn b))), some (.int (nI (c))), some (.long (zcut b (zt_ROUND.getD c 0))), none, some (.long (((q.2.2.2.2.1) &&& (q.2.2.2.2.2.1)) ^^^ (((q.2.2.2.2.1) ^^^ ((-1))) &&& (q.2.2.2.2.2.2.1)))), none, some (.long ((((q.1) &&& (q.2.1)) ^^^ ((q.1) &&& (q.2.2.1))) ^^^ ((q.2.1) &&& (q.2.2.1)))), none, some (.long (((q.2.2.2.2.2.2.2 + zmxd b (q.2.2.2.2.1) 1 + ((q.2.2.2.2.1 &&& q.2.2.2.2.2.1 ^^^ (q.2.2.2.2.1 ^^^ (-1)) &&& q.2.2.2.2.2.2.1) &&& zmask b) + zcut b (zt_ROUND.getD c 0) + W c) &&& zmask b))), none, some (.long (((zmxd b (q.1) 0 + (q.1 &&& q.2.1 ^^^ q.1 &&& q.2.2.1 ^^^ q.2.1 &&& q.2.2.1)) &&& zmask b))), none, some (.int (nI (3 + 1)))]) rfl ?_
                    refine zn_idec (ls' := [some (.ref (64)), some (.int (nI (8 * zwb b))), some (.int (nI (at_))), some (.int (nI (zwb b))), some (.int (nI (zrn b))), some (.int (nI (c))), some (.long (zcut b (zt_ROUND.getD c 0))), none, some (.long (((q.2.2.2.2.1) &&& (q.2.2.2.2.2.1)) ^^^ (((q.2.2.2.2.1) ^^^ ((-1))) &&& (q.2.2.2.2.2.2.1)))), none, some (.long ((((q.1) &&& (q.2.1)) ^^^ ((q.1) &&& (q.2.2.1))) ^^^ ((q.2.1) &&& (q.2.2.1)))), none, some (.long (((q.2.2.2.2.2.2.2 + zmxd b (q.2.2.2.2.1) 1 + ((q.2.2.2.2.1 &&& q.2.2.2.2.2.1 ^^^ (q.2.2.2.2.1 ^^^ (-1)) &&& q.2.2.2.2.2.2.1) &&& zmask b) + zcut b (zt_ROUND.getD c 0) + W c) &&& zmask b))), none, some (.long (((zmxd b (q.1) 0 + (q.1 &&& q.2.1 ^^^ q.1 &&& q.2.2.1 ^^^ q.2.1 &&& q.2.2.1)) &&& zmask b))), none, some (.int (nI (3)))]) dX11_round_405 (by decide) rfl rfl ?_
                    refine zp_pc (pc' := 408) rfl ?_
                    refine zp_goto (tgt := 384) dX11_round_408 (by decide) ?_
                    refine zp_pc (pc' := 384) rfl ?_
                    refine zp_ls (ls' := [some (.ref (64)), some (.int (nI (8 * zwb b))), some (.int (nI (at_))), some (.int (nI (zwb b))), some (.int (nI (zrn b))), some (.int (nI (c))), some (.long (zcut b (zt_ROUND.getD c 0))), none, some (.long (((q.2.2.2.2.1) &&& (q.2.2.2.2.2.1)) ^^^ (((q.2.2.2.2.1) ^^^ ((-1))) &&& (q.2.2.2.2.2.2.1)))), none, some (.long ((((q.1) &&& (q.2.1)) ^^^ ((q.1) &&& (q.2.2.1))) ^^^ ((q.2.1) &&& (q.2.2.1)))), none, some (.long (((q.2.2.2.2.2.2.2 + zmxd b (q.2.2.2.2.1) 1 + ((q.2.2.2.2.1 &&& q.2.2.2.2.2.1 ^^^ (q.2.2.2.2.1 ^^^ (-1)) &&& q.2.2.2.2.2.2.1) &&& zmask b) + zcut b (zt_ROUND.getD c 0) + W c) &&& zmask b))), none, some (.long (((zmxd b (q.1) 0 + (q.1 &&& q.2.1 ^^^ q.1 &&& q.2.2.1 ^^^ q.2.1 &&& q.2.2.1)) &&& zmask b))), none, some (.int (nI (3)))]) rfl ?_
                    refine zp_iload dX11_round_384 rfl ?_
                    refine zp_pc (pc' := 386) rfl ?_
                    refine zn_if_le (tgt := 411) dX11_round_386 (by decide) (by decide) (fun c386 => ?_) (fun c386 => ?_)
                    · exact absurd c386 (by decide)
                    · refine zp_aload_n dX11_round_389 rfl ?_
                      refine zp_get dX11_round_390 gX11_35_10 k45_0 rfl ?_
                      refine zp_iload dX11_round_393 rfl ?_
                      refine zp_aload_n dX11_round_395 rfl ?_
                      refine zp_get dX11_round_396 gX11_35_10 k45_0 rfl ?_
                      refine zp_iload dX11_round_399 rfl ?_
                      refine zp_iconst (v := nI (1)) dX11_round_401 (by decide) ?_
                      refine zp_pc (pc' := 402) rfl ?_
                      refine zn_isub dX11_round_402 (by omega) ?_
                      refine zn_lald (j := (3) - (1)) dX11_round_403 k45_6 (by omega) (by omega) ?_
                      refine zn_last dX11_round_404 (by omega) k45_6 (by omega) (by omega) ?_
                      refine zp_nh (fun h46x eh46x => ?_)
                      have k46_0 := (congrFun eh46x (64)).trans ((va_up_ne _ _ (by omega)).trans k45_0)
                      have k46_1 := (congrFun eh46x (65)).trans ((va_up_ne _ _ (by omega)).trans k45_1)
                      have k46_2 := (congrFun eh46x (70)).trans ((va_up_ne _ _ (by omega)).trans k45_2)
                      have k46_3 := (congrFun eh46x (71)).trans ((va_up_ne _ _ (by omega)).trans k45_3)
                      have k46_4 := (congrFun eh46x (72)).trans ((va_up_ne _ _ (by omega)).trans k45_4)
                      have k46_5 := (congrFun eh46x (9)).trans ((va_up_ne _ _ (by omega)).trans k45_5)
                      have k46_6 : h46x (73) = some (.inr (8, .inr (.inl (va_up (va_up (va_up (va_up (va_up g4 (7) (g4 ((7) - (1)))) (6) ((va_up g4 (7) (g4 ((7) - (1)))) ((6) - (1)))) (5) ((va_up (va_up g4 (7) (g4 ((7) - (1)))) (6) ((va_up g4 (7) (g4 ((7) - (1)))) ((6) - (1)))) ((5) - (1)))) (4) ((va_up (va_up (va_up g4 (7) (g4 ((7) - (1)))) (6) ((va_up g4 (7) (g4 ((7) - (1)))) ((6) - (1)))) (5) ((va_up (va_up g4 (7) (g4 ((7) - (1)))) (6) ((va_up g4 (7) (g4 ((7) - (1)))) ((6) - (1)))) ((5) - (1)))) ((4) - (1)))) (3) ((va_up (va_up (va_up (va_up g4 (7) (g4 ((7) - (1)))) (6) ((va_up g4 (7) (g4 ((7) - (1)))) ((6) - (1)))) (5) ((va_up (va_up g4 (7) (g4 ((7) - (1)))) (6) ((va_up g4 (7) (g4 ((7) - (1)))) ((6) - (1)))) ((5) - (1)))) (4) ((va_up (va_up (va_up g4 (7) (g4 ((7) - (1)))) (6) ((va_up g4 (7) (g4 ((7) - (1)))) ((6) - (1)))) (5) ((va_up (va_up g4 (7) (g4 ((7) - (1)))) (6) ((va_up g4 (7) (g4 ((7) - (1)))) ((6) - (1)))) ((5) - (1)))) ((4) - (1)))) ((3) - (1))))))) := by rw [eh46x]; exact va_up_self _ _ _
                      refine zp_pc (pc' := 405) rfl ?_
                      refine zp_ls (ls' := [some (.ref (64)), some (.int (nI (8 * zwb b))), some (.int (nI (at_))), some (.int (nI (zwb b))), some (.int (nI (zrn b))), some (.int (nI (c))), some (.long (zcut b (zt_ROUND.getD c 0))), none, some (.long (((q.2.2.2.2.1) &&& (q.2.2.2.2.2.1)) ^^^ (((q.2.2.2.2.1) ^^^ ((-1))) &&& (q.2.2.2.2.2.2.1)))), none, some (.long ((((q.1) &&& (q.2.1)) ^^^ ((q.1) &&& (q.2.2.1))) ^^^ ((q.2.1) &&& (q.2.2.1)))), none, some (.long (((q.2.2.2.2.2.2.2 + zmxd b (q.2.2.2.2.1) 1 + ((q.2.2.2.2.1 &&& q.2.2.2.2.2.1 ^^^ (q.2.2.2.2.1 ^^^ (-1)) &&& q.2.2.2.2.2.2.1) &&& zmask b) + zcut b (zt_ROUND.getD c 0) + W c) &&& zmask b))), none, some (.long (((zmxd b (q.1) 0 + (q.1 &&& q.2.1 ^^^ q.1 &&& q.2.2.1 ^^^ q.2.1 &&& q.2.2.1)) &&& zmask b))), none, some (.int (nI (2 + 1)))]) rfl ?_
                      refine zn_idec (ls' := [some (.ref (64)), some (.int (nI (8 * zwb b))), some (.int (nI (at_))), some (.int (nI (zwb b))), some (.int (nI (zrn b))), some (.int (nI (c))), some (.long (zcut b (zt_ROUND.getD c 0))), none, some (.long (((q.2.2.2.2.1) &&& (q.2.2.2.2.2.1)) ^^^ (((q.2.2.2.2.1) ^^^ ((-1))) &&& (q.2.2.2.2.2.2.1)))), none, some (.long ((((q.1) &&& (q.2.1)) ^^^ ((q.1) &&& (q.2.2.1))) ^^^ ((q.2.1) &&& (q.2.2.1)))), none, some (.long (((q.2.2.2.2.2.2.2 + zmxd b (q.2.2.2.2.1) 1 + ((q.2.2.2.2.1 &&& q.2.2.2.2.2.1 ^^^ (q.2.2.2.2.1 ^^^ (-1)) &&& q.2.2.2.2.2.2.1) &&& zmask b) + zcut b (zt_ROUND.getD c 0) + W c) &&& zmask b))), none, some (.long (((zmxd b (q.1) 0 + (q.1 &&& q.2.1 ^^^ q.1 &&& q.2.2.1 ^^^ q.2.1 &&& q.2.2.1)) &&& zmask b))), none, some (.int (nI (2)))]) dX11_round_405 (by decide) rfl rfl ?_
                      refine zp_pc (pc' := 408) rfl ?_
                      refine zp_goto (tgt := 384) dX11_round_408 (by decide) ?_
                      refine zp_pc (pc' := 384) rfl ?_
                      refine zp_ls (ls' := [some (.ref (64)), some (.int (nI (8 * zwb b))), some (.int (nI (at_))), some (.int (nI (zwb b))), some (.int (nI (zrn b))), some (.int (nI (c))), some (.long (zcut b (zt_ROUND.getD c 0))), none, some (.long (((q.2.2.2.2.1) &&& (q.2.2.2.2.2.1)) ^^^ (((q.2.2.2.2.1) ^^^ ((-1))) &&& (q.2.2.2.2.2.2.1)))), none, some (.long ((((q.1) &&& (q.2.1)) ^^^ ((q.1) &&& (q.2.2.1))) ^^^ ((q.2.1) &&& (q.2.2.1)))), none, some (.long (((q.2.2.2.2.2.2.2 + zmxd b (q.2.2.2.2.1) 1 + ((q.2.2.2.2.1 &&& q.2.2.2.2.2.1 ^^^ (q.2.2.2.2.1 ^^^ (-1)) &&& q.2.2.2.2.2.2.1) &&& zmask b) + zcut b (zt_ROUND.getD c 0) + W c) &&& zmask b))), none, some (.long (((zmxd b (q.1) 0 + (q.1 &&& q.2.1 ^^^ q.1 &&& q.2.2.1 ^^^ q.2.1 &&& q.2.2.1)) &&& zmask b))), none, some (.int (nI (2)))]) rfl ?_
                      refine zp_iload dX11_round_384 rfl ?_
                      refine zp_pc (pc' := 386) rfl ?_
                      refine zn_if_le (tgt := 411) dX11_round_386 (by decide) (by decide) (fun c386 => ?_) (fun c386 => ?_)
                      · exact absurd c386 (by decide)
                      · refine zp_aload_n dX11_round_389 rfl ?_
                        refine zp_get dX11_round_390 gX11_35_10 k46_0 rfl ?_
                        refine zp_iload dX11_round_393 rfl ?_
                        refine zp_aload_n dX11_round_395 rfl ?_
                        refine zp_get dX11_round_396 gX11_35_10 k46_0 rfl ?_
                        refine zp_iload dX11_round_399 rfl ?_
                        refine zp_iconst (v := nI (1)) dX11_round_401 (by decide) ?_
                        refine zp_pc (pc' := 402) rfl ?_
                        refine zn_isub dX11_round_402 (by omega) ?_
                        refine zn_lald (j := (2) - (1)) dX11_round_403 k46_6 (by omega) (by omega) ?_
                        refine zn_last dX11_round_404 (by omega) k46_6 (by omega) (by omega) ?_
                        refine zp_nh (fun h47x eh47x => ?_)
                        have k47_0 := (congrFun eh47x (64)).trans ((va_up_ne _ _ (by omega)).trans k46_0)
                        have k47_1 := (congrFun eh47x (65)).trans ((va_up_ne _ _ (by omega)).trans k46_1)
                        have k47_2 := (congrFun eh47x (70)).trans ((va_up_ne _ _ (by omega)).trans k46_2)
                        have k47_3 := (congrFun eh47x (71)).trans ((va_up_ne _ _ (by omega)).trans k46_3)
                        have k47_4 := (congrFun eh47x (72)).trans ((va_up_ne _ _ (by omega)).trans k46_4)
                        have k47_5 := (congrFun eh47x (9)).trans ((va_up_ne _ _ (by omega)).trans k46_5)
                        have k47_6 : h47x (73) = some (.inr (8, .inr (.inl (va_up (va_up (va_up (va_up (va_up (va_up g4 (7) (g4 ((7) - (1)))) (6) ((va_up g4 (7) (g4 ((7) - (1)))) ((6) - (1)))) (5) ((va_up (va_up g4 (7) (g4 ((7) - (1)))) (6) ((va_up g4 (7) (g4 ((7) - (1)))) ((6) - (1)))) ((5) - (1)))) (4) ((va_up (va_up (va_up g4 (7) (g4 ((7) - (1)))) (6) ((va_up g4 (7) (g4 ((7) - (1)))) ((6) - (1)))) (5) ((va_up (va_up g4 (7) (g4 ((7) - (1)))) (6) ((va_up g4 (7) (g4 ((7) - (1)))) ((6) - (1)))) ((5) - (1)))) ((4) - (1)))) (3) ((va_up (va_up (va_up (va_up g4 (7) (g4 ((7) - (1)))) (6) ((va_up g4 (7) (g4 ((7) - (1)))) ((6) - (1)))) (5) ((va_up (va_up g4 (7) (g4 ((7) - (1)))) (6) ((va_up g4 (7) (g4 ((7) - (1)))) ((6) - (1)))) ((5) - (1)))) (4) ((va_up (va_up (va_up g4 (7) (g4 ((7) - (1)))) (6) ((va_up g4 (7) (g4 ((7) - (1)))) ((6) - (1)))) (5) ((va_up (va_up g4 (7) (g4 ((7) - (1)))) (6) ((va_up g4 (7) (g4 ((7) - (1)))) ((6) - (1)))) ((5) - (1)))) ((4) - (1)))) ((3) - (1)))) (2) ((va_up (va_up (va_up (va_up (va_up g4 (7) (g4 ((7) - (1)))) (6) ((va_up g4 (7) (g4 ((7) - (1)))) ((6) - (1)))) (5) ((va_up (va_up g4 (7) (g4 ((7) - (1)))) (6) ((va_up g4 (7) (g4 ((7) - (1)))) ((6) - (1)))) ((5) - (1)))) (4) ((va_up (va_up (va_up g4 (7) (g4 ((7) - (1)))) (6) ((va_up g4 (7) (g4 ((7) - (1)))) ((6) - (1)))) (5) ((va_up (va_up g4 (7) (g4 ((7) - (1)))) (6) ((va_up g4 (7) (g4 ((7) - (1)))) ((6) - (1)))) ((5) - (1)))) ((4) - (1)))) (3) ((va_up (va_up (va_up (va_up g4 (7) (g4 ((7) - (1)))) (6) ((va_up g4 (7) (g4 ((7) - (1)))) ((6) - (1)))) (5) ((va_up (va_up g4 (7) (g4 ((7) - (1)))) (6) ((va_up g4 (7) (g4 ((7) - (1)))) ((6) - (1)))) ((5) - (1)))) (4) ((va_up (va_up (va_up g4 (7) (g4 ((7) - (1)))) (6) ((va_up g4 (7) (g4 ((7) - (1)))) ((6) - (1)))) (5) ((va_up (va_up g4 (7) (g4 ((7) - (1)))) (6) ((va_up g4 (7) (g4 ((7) - (1)))) ((6) - (1)))) ((5) - (1)))) ((4) - (1)))) ((3) - (1)))) ((2) - (1))))))) := by rw [eh47x]; exact va_up_self _ _ _
                        refine zp_pc (pc' := 405) rfl ?_
                        refine zp_ls (ls' := [some (.ref (64)), some (.int (nI (8 * zwb b))), some (.int (nI (at_))), some (.int (nI (zwb b))), some (.int (nI (zrn b))), some (.int (nI (c))), some (.long (zcut b (zt_ROUND.getD c 0))), none, some (.long (((q.2.2.2.2.1) &&& (q.2.2.2.2.2.1)) ^^^ (((q.2.2.2.2.1) ^^^ ((-1))) &&& (q.2.2.2.2.2.2.1)))), none, some (.long ((((q.1) &&& (q.2.1)) ^^^ ((q.1) &&& (q.2.2.1))) ^^^ ((q.2.1) &&& (q.2.2.1)))), none, some (.long (((q.2.2.2.2.2.2.2 + zmxd b (q.2.2.2.2.1) 1 + ((q.2.2.2.2.1 &&& q.2.2.2.2.2.1 ^^^ (q.2.2.2.2.1 ^^^ (-1)) &&& q.2.2.2.2.2.2.1) &&& zmask b) + zcut b (zt_ROUND.getD c 0) + W c) &&& zmask b))), none, some (.long (((zmxd b (q.1) 0 + (q.1 &&& q.2.1 ^^^ q.1 &&& q.2.2.1 ^^^ q.2.1 &&& q.2.2.1)) &&& zmask b))), none, some (.int (nI (1 + 1)))]) rfl ?_
                        refine zn_idec (ls' := [some (.ref (64)), some (.int (nI (8 * zwb b))), some (.int (nI (at_))), some (.int (nI (zwb b))), some (.int (nI (zrn b))), some (.int (nI (c))), some (.long (zcut b (zt_ROUND.getD c 0))), none, some (.long (((q.2.2.2.2.1) &&& (q.2.2.2.2.2.1)) ^^^ (((q.2.2.2.2.1) ^^^ ((-1))) &&& (q.2.2.2.2.2.2.1)))), none, some (.long ((((q.1) &&& (q.2.1)) ^^^ ((q.1) &&& (q.2.2.1))) ^^^ ((q.2.1) &&& (q.2.2.1)))), none, some (.long (((q.2.2.2.2.2.2.2 + zmxd b (q.2.2.2.2.1) 1 + ((q.2.2.2.2.1 &&& q.2.2.2.2.2.1 ^^^ (q.2.2.2.2.1 ^^^ (-1)) &&& q.2.2.2.2.2.2.1) &&& zmask b) + zcut b (zt_ROUND.getD c 0) + W c) &&& zmask b))), none, some (.long (((zmxd b (q.1) 0 + (q.1 &&& q.2.1 ^^^ q.1 &&& q.2.2.1 ^^^ q.2.1 &&& q.2.2.1)) &&& zmask b))), none, some (.int (nI (1)))]) dX11_round_405 (by decide) rfl rfl ?_
                        refine zp_pc (pc' := 408) rfl ?_
                        refine zp_goto (tgt := 384) dX11_round_408 (by decide) ?_
                        refine zp_pc (pc' := 384) rfl ?_
                        refine zp_ls (ls' := [some (.ref (64)), some (.int (nI (8 * zwb b))), some (.int (nI (at_))), some (.int (nI (zwb b))), some (.int (nI (zrn b))), some (.int (nI (c))), some (.long (zcut b (zt_ROUND.getD c 0))), none, some (.long (((q.2.2.2.2.1) &&& (q.2.2.2.2.2.1)) ^^^ (((q.2.2.2.2.1) ^^^ ((-1))) &&& (q.2.2.2.2.2.2.1)))), none, some (.long ((((q.1) &&& (q.2.1)) ^^^ ((q.1) &&& (q.2.2.1))) ^^^ ((q.2.1) &&& (q.2.2.1)))), none, some (.long (((q.2.2.2.2.2.2.2 + zmxd b (q.2.2.2.2.1) 1 + ((q.2.2.2.2.1 &&& q.2.2.2.2.2.1 ^^^ (q.2.2.2.2.1 ^^^ (-1)) &&& q.2.2.2.2.2.2.1) &&& zmask b) + zcut b (zt_ROUND.getD c 0) + W c) &&& zmask b))), none, some (.long (((zmxd b (q.1) 0 + (q.1 &&& q.2.1 ^^^ q.1 &&& q.2.2.1 ^^^ q.2.1 &&& q.2.2.1)) &&& zmask b))), none, some (.int (nI (1)))]) rfl ?_
                        refine zp_iload dX11_round_384 rfl ?_
                        refine zp_pc (pc' := 386) rfl ?_
                        refine zn_if_le (tgt := 411) dX11_round_386 (by decide) (by decide) (fun c386 => ?_) (fun c386 => ?_)
                        · exact absurd c386 (by decide)
                        · refine zp_aload_n dX11_round_389 rfl ?_
                          refine zp_get dX11_round_390 gX11_35_10 k47_0 rfl ?_
                          refine zp_iload dX11_round_393 rfl ?_
                          refine zp_aload_n dX11_round_395 rfl ?_
                          refine zp_get dX11_round_396 gX11_35_10 k47_0 rfl ?_
                          refine zp_iload dX11_round_399 rfl ?_
                          refine zp_iconst (v := nI (1)) dX11_round_401 (by decide) ?_
                          refine zp_pc (pc' := 402) rfl ?_
                          refine zn_isub dX11_round_402 (by omega) ?_
                          refine zn_lald (j := (1) - (1)) dX11_round_403 k47_6 (by omega) (by omega) ?_
                          refine zn_last dX11_round_404 (by omega) k47_6 (by omega) (by omega) ?_
                          refine zp_nh (fun h48x eh48x => ?_)
                          have k48_0 := (congrFun eh48x (64)).trans ((va_up_ne _ _ (by omega)).trans k47_0)
                          have k48_1 := (congrFun eh48x (65)).trans ((va_up_ne _ _ (by omega)).trans k47_1)
                          have k48_2 := (congrFun eh48x (70)).trans ((va_up_ne _ _ (by omega)).trans k47_2)
                          have k48_3 := (congrFun eh48x (71)).trans ((va_up_ne _ _ (by omega)).trans k47_3)
                          have k48_4 := (congrFun eh48x (72)).trans ((va_up_ne _ _ (by omega)).trans k47_4)
                          have k48_5 := (congrFun eh48x (9)).trans ((va_up_ne _ _ (by omega)).trans k47_5)
                          have k48_6 : h48x (73) = some (.inr (8, .inr (.inl (va_up (va_up (va_up (va_up (va_up (va_up (va_up g4 (7) (g4 ((7) - (1)))) (6) ((va_up g4 (7) (g4 ((7) - (1)))) ((6) - (1)))) (5) ((va_up (va_up g4 (7) (g4 ((7) - (1)))) (6) ((va_up g4 (7) (g4 ((7) - (1)))) ((6) - (1)))) ((5) - (1)))) (4) ((va_up (va_up (va_up g4 (7) (g4 ((7) - (1)))) (6) ((va_up g4 (7) (g4 ((7) - (1)))) ((6) - (1)))) (5) ((va_up (va_up g4 (7) (g4 ((7) - (1)))) (6) ((va_up g4 (7) (g4 ((7) - (1)))) ((6) - (1)))) ((5) - (1)))) ((4) - (1)))) (3) ((va_up (va_up (va_up (va_up g4 (7) (g4 ((7) - (1)))) (6) ((va_up g4 (7) (g4 ((7) - (1)))) ((6) - (1)))) (5) ((va_up (va_up g4 (7) (g4 ((7) - (1)))) (6) ((va_up g4 (7) (g4 ((7) - (1)))) ((6) - (1)))) ((5) - (1)))) (4) ((va_up (va_up (va_up g4 (7) (g4 ((7) - (1)))) (6) ((va_up g4 (7) (g4 ((7) - (1)))) ((6) - (1)))) (5) ((va_up (va_up g4 (7) (g4 ((7) - (1)))) (6) ((va_up g4 (7) (g4 ((7) - (1)))) ((6) - (1)))) ((5) - (1)))) ((4) - (1)))) ((3) - (1)))) (2) ((va_up (va_up (va_up (va_up (va_up g4 (7) (g4 ((7) - (1)))) (6) ((va_up g4 (7) (g4 ((7) - (1)))) ((6) - (1)))) (5) ((va_up (va_up g4 (7) (g4 ((7) - (1)))) (6) ((va_up g4 (7) (g4 ((7) - (1)))) ((6) - (1)))) ((5) - (1)))) (4) ((va_up (va_up (va_up g4 (7) (g4 ((7) - (1)))) (6) ((va_up g4 (7) (g4 ((7) - (1)))) ((6) - (1)))) (5) ((va_up (va_up g4 (7) (g4 ((7) - (1)))) (6) ((va_up g4 (7) (g4 ((7) - (1)))) ((6) - (1)))) ((5) - (1)))) ((4) - (1)))) (3) ((va_up (va_up (va_up (va_up g4 (7) (g4 ((7) - (1)))) (6) ((va_up g4 (7) (g4 ((7) - (1)))) ((6) - (1)))) (5) ((va_up (va_up g4 (7) (g4 ((7) - (1)))) (6) ((va_up g4 (7) (g4 ((7) - (1)))) ((6) - (1)))) ((5) - (1)))) (4) ((va_up (va_up (va_up g4 (7) (g4 ((7) - (1)))) (6) ((va_up g4 (7) (g4 ((7) - (1)))) ((6) - (1)))) (5) ((va_up (va_up g4 (7) (g4 ((7) - (1)))) (6) ((va_up g4 (7) (g4 ((7) - (1)))) ((6) - (1)))) ((5) - (1)))) ((4) - (1)))) ((3) - (1)))) ((2) - (1)))) (1) ((va_up (va_up (va_up (va_up (va_up (va_up g4 (7) (g4 ((7) - (1)))) (6) ((va_up g4 (7) (g4 ((7) - (1)))) ((6) - (1)))) (5) ((va_up (va_up g4 (7) (g4 ((7) - (1)))) (6) ((va_up g4 (7) (g4 ((7) - (1)))) ((6) - (1)))) ((5) - (1)))) (4) ((va_up (va_up (va_up g4 (7) (g4 ((7) - (1)))) (6) ((va_up g4 (7) (g4 ((7) - (1)))) ((6) - (1)))) (5) ((va_up (va_up g4 (7) (g4 ((7) - (1)))) (6) ((va_up g4 (7) (g4 ((7) - (1)))) ((6) - (1)))) ((5) - (1)))) ((4) - (1)))) (3) ((va_up (va_up (va_up (va_up g4 (7) (g4 ((7) - (1)))) (6) ((va_up g4 (7) (g4 ((7) - (1)))) ((6) - (1)))) (5) ((va_up (va_up g4 (7) (g4 ((7) - (1)))) (6) ((va_up g4 (7) (g4 ((7) - (1)))) ((6) - (1)))) ((5) - (1)))) (4) ((va_up (va_up (va_up g4 (7) (g4 ((7) - (1)))) (6) ((va_up g4 (7) (g4 ((7) - (1)))) ((6) - (1)))) (5) ((va_up (va_up g4 (7) (g4 ((7) - (1)))) (6) ((va_up g4 (7) (g4 ((7) - (1)))) ((6) - (1)))) ((5) - (1)))) ((4) - (1)))) ((3) - (1)))) (2) ((va_up (va_up (va_up (va_up (va_up g4 (7) (g4 ((7) - (1)))) (6) ((va_up g4 (7) (g4 ((7) - (1)))) ((6) - (1)))) (5) ((va_up (va_up g4 (7) (g4 ((7) - (1)))) (6) ((va_up g4 (7) (g4 ((7) - (1)))) ((6) - (1)))) ((5) - (1)))) (4) ((va_up (va_up (va_up g4 (7) (g4 ((7) - (1)))) (6) ((va_up g4 (7) (g4 ((7) - (1)))) ((6) - (1)))) (5) ((va_up (va_up g4 (7) (g4 ((7) - (1)))) (6) ((va_up g4 (7) (g4 ((7) - (1)))) ((6) - (1)))) ((5) - (1)))) ((4) - (1)))) (3) ((va_up (va_up (va_up (va_up g4 (7) (g4 ((7) - (1)))) (6) ((va_up g4 (7) (g4 ((7) - (1)))) ((6) - (1)))) (5) ((va_up (va_up g4 (7) (g4 ((7) - (1)))) (6) ((va_up g4 (7) (g4 ((7) - (1)))) ((6) - (1)))) ((5) - (1)))) (4) ((va_up (va_up (va_up g4 (7) (g4 ((7) - (1)))) (6) ((va_up g4 (7) (g4 ((7) - (1)))) ((6) - (1)))) (5) ((va_up (va_up g4 (7) (g4 ((7) - (1)))) (6) ((va_up g4 (7) (g4 ((7) - (1)))) ((6) - (1)))) ((5) - (1)))) ((4) - (1)))) ((3) - (1)))) ((2) - (1)))) ((1) - (1))))))) := by rw [eh48x]; exact va_up_self _ _ _
                          refine zp_pc (pc' := 405) rfl ?_
                          refine zp_ls (ls' := [some (.ref (64)), some (.int (nI (8 * zwb b))), some (.int (nI (at_))), some (.int (nI (zwb b))), some (.int (nI (zrn b))), some (.int (nI (c))), some (.long (zcut b (zt_ROUND.getD c 0))), none, some (.long (((q.2.2.2.2.1) &&& (q.2.2.2.2.2.1)) ^^^ (((q.2.2.2.2.1) ^^^ ((-1))) &&& (q.2.2.2.2.2.2.1)))), none, some (.long ((((q.1) &&& (q.2.1)) ^^^ ((q.1) &&& (q.2.2.1))) ^^^ ((q.2.1) &&& (q.2.2.1)))), none, some (.long (((q.2.2.2.2.2.2.2 + zmxd b (q.2.2.2.2.1) 1 + ((q.2.2.2.2.1 &&& q.2.2.2.2.2.1 ^^^ (q.2.2.2.2.1 ^^^ (-1)) &&& q.2.2.2.2.2.2.1) &&& zmask b) + zcut b (zt_ROUND.getD c 0) + W c) &&& zmask b))), none, some (.long (((zmxd b (q.1) 0 + (q.1 &&& q.2.1 ^^^ q.1 &&& q.2.2.1 ^^^ q.2.1 &&& q.2.2.1)) &&& zmask b))), none, some (.int (nI (0 + 1)))]) rfl ?_
                          refine zn_idec (ls' := [some (.ref (64)), some (.int (nI (8 * zwb b))), some (.int (nI (at_))), some (.int (nI (zwb b))), some (.int (nI (zrn b))), some (.int (nI (c))), some (.long (zcut b (zt_ROUND.getD c 0))), none, some (.long (((q.2.2.2.2.1) &&& (q.2.2.2.2.2.1)) ^^^ (((q.2.2.2.2.1) ^^^ ((-1))) &&& (q.2.2.2.2.2.2.1)))), none, some (.long ((((q.1) &&& (q.2.1)) ^^^ ((q.1) &&& (q.2.2.1))) ^^^ ((q.2.1) &&& (q.2.2.1)))), none, some (.long (((q.2.2.2.2.2.2.2 + zmxd b (q.2.2.2.2.1) 1 + ((q.2.2.2.2.1 &&& q.2.2.2.2.2.1 ^^^ (q.2.2.2.2.1 ^^^ (-1)) &&& q.2.2.2.2.2.2.1) &&& zmask b) + zcut b (zt_ROUND.getD c 0) + W c) &&& zmask b))), none, some (.long (((zmxd b (q.1) 0 + (q.1 &&& q.2.1 ^^^ q.1 &&& q.2.2.1 ^^^ q.2.1 &&& q.2.2.1)) &&& zmask b))), none, some (.int (nI (0)))]) dX11_round_405 (by decide) rfl rfl ?_
                          refine zp_pc (pc' := 408) rfl ?_
                          refine zp_goto (tgt := 384) dX11_round_408 (by decide) ?_
                          refine zp_pc (pc' := 384) rfl ?_
                          refine zp_ls (ls' := [some (.ref (64)), some (.int (nI (8 * zwb b))), some (.int (nI (at_))), some (.int (nI (zwb b))), some (.int (nI (zrn b))), some (.int (nI (c))), some (.long (zcut b (zt_ROUND.getD c 0))), none, some (.long (((q.2.2.2.2.1) &&& (q.2.2.2.2.2.1)) ^^^ (((q.2.2.2.2.1) ^^^ ((-1))) &&& (q.2.2.2.2.2.2.1)))), none, some (.long ((((q.1) &&& (q.2.1)) ^^^ ((q.1) &&& (q.2.2.1))) ^^^ ((q.2.1) &&& (q.2.2.1)))), none, some (.long (((q.2.2.2.2.2.2.2 + zmxd b (q.2.2.2.2.1) 1 + ((q.2.2.2.2.1 &&& q.2.2.2.2.2.1 ^^^ (q.2.2.2.2.1 ^^^ (-1)) &&& q.2.2.2.2.2.2.1) &&& zmask b) + zcut b (zt_ROUND.getD c 0) + W c) &&& zmask b))), none, some (.long (((zmxd b (q.1) 0 + (q.1 &&& q.2.1 ^^^ q.1 &&& q.2.2.1 ^^^ q.2.1 &&& q.2.2.1)) &&& zmask b))), none, some (.int (nI (0)))]) rfl ?_
                          refine zp_iload dX11_round_384 rfl ?_
                          refine zp_pc (pc' := 386) rfl ?_
                          refine zn_if_le (tgt := 411) dX11_round_386 (by decide) (by decide) (fun c386 => ?_) (fun c386 => ?_)
                          · refine zp_aload_n dX11_round_411 rfl ?_
                            refine zp_get dX11_round_412 gX11_35_10 k48_0 rfl ?_
                            refine zp_iconst (v := nI (4)) dX11_round_415 (by decide) ?_
                            refine zp_aload_n dX11_round_416 rfl ?_
                            refine zp_get dX11_round_417 gX11_35_10 k48_0 rfl ?_
                            refine zp_iconst (v := nI (4)) dX11_round_420 (by decide) ?_
                            refine zp_pc (pc' := 421) rfl ?_
                            refine zn_lald (j := 4) dX11_round_421 k48_6 (by omega) (by omega) ?_
                            refine zp_l (y := q.2.2.2.1) z3 ?_
                            refine zp_lload dX11_round_422 rfl ?_
                            refine zp_ladd dX11_round_424 ?_
                            refine zp_iload_n dX11_round_425 rfl ?_
                            refine zp_pc (pc' := 426) rfl ?_
                            refine zp_callS (As := [.long ((q.2.2.2.1) + (((q.2.2.2.2.2.2.2 + zmxd b (q.2.2.2.2.1) 1 + ((q.2.2.2.2.1 &&& q.2.2.2.2.2.1 ^^^ (q.2.2.2.2.1 ^^^ (-1)) &&& q.2.2.2.2.2.2.1) &&& zmask b) + zcut b (zt_ROUND.getD c 0) + W c) &&& zmask b))), .int (nI (8 * zwb b))]) (st := [.int (nI (4)), .ref (73)]) dX11_round_426 cX11_160 rfl (e_mcut (b := b)) (by decide) (by decide) (Nat.le_of_ble_eq_true rfl) (fun v49 h49 n49 q49 => ?_)
                            obtain ⟨rfl, H49, N49⟩ := q49
                            rw [N49, H49]
                            refine zp_nrm (cells' := 0) (slots' := 0) (st' := [.long (((q.2.2.2.1 + ((q.2.2.2.2.2.2.2 + zmxd b (q.2.2.2.2.1) 1 + ((q.2.2.2.2.1 &&& q.2.2.2.2.2.1 ^^^ (q.2.2.2.2.1 ^^^ (-1)) &&& q.2.2.2.2.2.2.1) &&& zmask b) + zcut b (zt_ROUND.getD c 0) + W c) &&& zmask b)) &&& zmask b)), .int (nI (4)), .ref (73)]) rfl rfl rfl ?_
                            refine zn_last dX11_round_429 (by omega) k48_6 (by omega) (by omega) ?_
                            refine zp_nh (fun h50x eh50x => ?_)
                            have k50_0 := (congrFun eh50x (64)).trans ((va_up_ne _ _ (by omega)).trans k48_0)
                            have k50_1 := (congrFun eh50x (65)).trans ((va_up_ne _ _ (by omega)).trans k48_1)
                            have k50_2 := (congrFun eh50x (70)).trans ((va_up_ne _ _ (by omega)).trans k48_2)
                            have k50_3 := (congrFun eh50x (71)).trans ((va_up_ne _ _ (by omega)).trans k48_3)
                            have k50_4 := (congrFun eh50x (72)).trans ((va_up_ne _ _ (by omega)).trans k48_4)
                            have k50_5 := (congrFun eh50x (9)).trans ((va_up_ne _ _ (by omega)).trans k48_5)
                            have k50_6 : h50x (73) = some (.inr (8, .inr (.inl (va_up (va_up (va_up (va_up (va_up (va_up (va_up (va_up g4 (7) (g4 ((7) - (1)))) (6) ((va_up g4 (7) (g4 ((7) - (1)))) ((6) - (1)))) (5) ((va_up (va_up g4 (7) (g4 ((7) - (1)))) (6) ((va_up g4 (7) (g4 ((7) - (1)))) ((6) - (1)))) ((5) - (1)))) (4) ((va_up (va_up (va_up g4 (7) (g4 ((7) - (1)))) (6) ((va_up g4 (7) (g4 ((7) - (1)))) ((6) - (1)))) (5) ((va_up (va_up g4 (7) (g4 ((7) - (1)))) (6) ((va_up g4 (7) (g4 ((7) - (1)))) ((6) - (1)))) ((5) - (1)))) ((4) - (1)))) (3) ((va_up (va_up (va_up (va_up g4 (7) (g4 ((7) - (1)))) (6) ((va_up g4 (7) (g4 ((7) - (1)))) ((6) - (1)))) (5) ((va_up (va_up g4 (7) (g4 ((7) - (1)))) (6) ((va_up g4 (7) (g4 ((7) - (1)))) ((6) - (1)))) ((5) - (1)))) (4) ((va_up (va_up (va_up g4 (7) (g4 ((7) - (1)))) (6) ((va_up g4 (7) (g4 ((7) - (1)))) ((6) - (1)))) (5) ((va_up (va_up g4 (7) (g4 ((7) - (1)))) (6) ((va_up g4 (7) (g4 ((7) - (1)))) ((6) - (1)))) ((5) - (1)))) ((4) - (1)))) ((3) - (1)))) (2) ((va_up (va_up (va_up (va_up (va_up g4 (7) (g4 ((7) - (1)))) (6) ((va_up g4 (7) (g4 ((7) - (1)))) ((6) - (1)))) (5) ((va_up (va_up g4 (7) (g4 ((7) - (1)))) (6) ((va_up g4 (7) (g4 ((7) - (1)))) ((6) - (1)))) ((5) - (1)))) (4) ((va_up (va_up (va_up g4 (7) (g4 ((7) - (1)))) (6) ((va_up g4 (7) (g4 ((7) - (1)))) ((6) - (1)))) (5) ((va_up (va_up g4 (7) (g4 ((7) - (1)))) (6) ((va_up g4 (7) (g4 ((7) - (1)))) ((6) - (1)))) ((5) - (1)))) ((4) - (1)))) (3) ((va_up (va_up (va_up (va_up g4 (7) (g4 ((7) - (1)))) (6) ((va_up g4 (7) (g4 ((7) - (1)))) ((6) - (1)))) (5) ((va_up (va_up g4 (7) (g4 ((7) - (1)))) (6) ((va_up g4 (7) (g4 ((7) - (1)))) ((6) - (1)))) ((5) - (1)))) (4) ((va_up (va_up (va_up g4 (7) (g4 ((7) - (1)))) (6) ((va_up g4 (7) (g4 ((7) - (1)))) ((6) - (1)))) (5) ((va_up (va_up g4 (7) (g4 ((7) - (1)))) (6) ((va_up g4 (7) (g4 ((7) - (1)))) ((6) - (1)))) ((5) - (1)))) ((4) - (1)))) ((3) - (1)))) ((2) - (1)))) (1) ((va_up (va_up (va_up (va_up (va_up (va_up g4 (7) (g4 ((7) - (1)))) (6) ((va_up g4 (7) (g4 ((7) - (1)))) ((6) - (1)))) (5) ((va_up (va_up g4 (7) (g4 ((7) - (1)))) (6) ((va_up g4 (7) (g4 ((7) - (1)))) ((6) - (1)))) ((5) - (1)))) (4) ((va_up (va_up (va_up g4 (7) (g4 ((7) - (1)))) (6) ((va_up g4 (7) (g4 ((7) - (1)))) ((6) - (1)))) (5) ((va_up (va_up g4 (7) (g4 ((7) - (1)))) (6) ((va_up g4 (7) (g4 ((7) - (1)))) ((6) - (1)))) ((5) - (1)))) ((4) - (1)))) (3) ((va_up (va_up (va_up (va_up g4 (7) (g4 ((7) - (1)))) (6) ((va_up g4 (7) (g4 ((7) - (1)))) ((6) - (1)))) (5) ((va_up (va_up g4 (7) (g4 ((7) - (1)))) (6) ((va_up g4 (7) (g4 ((7) - (1)))) ((6) - (1)))) ((5) - (1)))) (4) ((va_up (va_up (va_up g4 (7) (g4 ((7) - (1)))) (6) ((va_up g4 (7) (g4 ((7) - (1)))) ((6) - (1)))) (5) ((va_up (va_up g4 (7) (g4 ((7) - (1)))) (6) ((va_up g4 (7) (g4 ((7) - (1)))) ((6) - (1)))) ((5) - (1)))) ((4) - (1)))) ((3) - (1)))) (2) ((va_up (va_up (va_up (va_up (va_up g4 (7) (g4 ((7) - (1)))) (6) ((va_up g4 (7) (g4 ((7) - (1)))) ((6) - (1)))) (5) ((va_up (va_up g4 (7) (g4 ((7) - (1)))) (6) ((va_up g4 (7) (g4 ((7) - (1)))) ((6) - (1)))) ((5) - (1)))) (4) ((va_up (va_up (va_up g4 (7) (g4 ((7) - (1)))) (6) ((va_up g4 (7) (g4 ((7) - (1)))) ((6) - (1)))) (5) ((va_up (va_up g4 (7) (g4 ((7) - (1)))) (6) ((va_up g4 (7) (g4 ((7) - (1)))) ((6) - (1)))) ((5) - (1)))) ((4) - (1)))) (3) ((va_up (va_up (va_up (va_up g4 (7) (g4 ((7) - (1)))) (6) ((va_up g4 (7) (g4 ((7) - (1)))) ((6) - (1)))) (5) ((va_up (va_up g4 (7) (g4 ((7) - (1)))) (6) ((va_up g4 (7) (g4 ((7) - (1)))) ((6) - (1)))) ((5) - (1)))) (4) ((va_up (va_up (va_up g4 (7) (g4 ((7) - (1)))) (6) ((va_up g4 (7) (g4 ((7) - (1)))) ((6) - (1)))) (5) ((va_up (va_up g4 (7) (g4 ((7) - (1)))) (6) ((va_up g4 (7) (g4 ((7) - (1)))) ((6) - (1)))) ((5) - (1)))) ((4) - (1)))) ((3) - (1)))) ((2) - (1)))) ((1) - (1)))) (4) (((q.2.2.2.1 + ((q.2.2.2.2.2.2.2 + zmxd b (q.2.2.2.2.1) 1 + ((q.2.2.2.2.1 &&& q.2.2.2.2.2.1 ^^^ (q.2.2.2.2.1 ^^^ (-1)) &&& q.2.2.2.2.2.2.1) &&& zmask b) + zcut b (zt_ROUND.getD c 0) + W c) &&& zmask b)) &&& zmask b)))))) := by rw [eh50x]; exact va_up_self _ _ _
                            refine zp_aload_n dX11_round_430 rfl ?_
                            refine zp_get dX11_round_431 gX11_35_10 k50_0 rfl ?_
                            refine zp_iconst (v := nI (0)) dX11_round_434 (by decide) ?_
                            refine zp_lload dX11_round_435 rfl ?_
                            refine zp_lload dX11_round_437 rfl ?_
                            refine zp_ladd dX11_round_439 ?_
                            refine zp_iload_n dX11_round_440 rfl ?_
                            refine zp_pc (pc' := 441) rfl ?_
                            refine zp_callS (As := [.long ((((q.2.2.2.2.2.2.2 + zmxd b (q.2.2.2.2.1) 1 + ((q.2.2.2.2.1 &&& q.2.2.2.2.2.1 ^^^ (q.2.2.2.2.1 ^^^ (-1)) &&& q.2.2.2.2.2.2.1) &&& zmask b) + zcut b (zt_ROUND.getD c 0) + W c) &&& zmask b)) + (((zmxd b (q.1) 0 + (q.1 &&& q.2.1 ^^^ q.1 &&& q.2.2.1 ^^^ q.2.1 &&& q.2.2.1)) &&& zmask b))), .int (nI (8 * zwb b))]) (st := [.int (nI (0)), .ref (73)]) dX11_round_441 cX11_160 rfl (e_mcut (b := b)) (by decide) (by decide) (Nat.le_of_ble_eq_true rfl) (fun v51 h51 n51 q51 => ?_)
                            obtain ⟨rfl, H51, N51⟩ := q51
                            rw [N51, H51]
                            refine zp_nrm (cells' := 0) (slots' := 0) (st' := [.long (((((q.2.2.2.2.2.2.2 + zmxd b (q.2.2.2.2.1) 1 + ((q.2.2.2.2.1 &&& q.2.2.2.2.2.1 ^^^ (q.2.2.2.2.1 ^^^ (-1)) &&& q.2.2.2.2.2.2.1) &&& zmask b) + zcut b (zt_ROUND.getD c 0) + W c) &&& zmask b) + ((zmxd b (q.1) 0 + (q.1 &&& q.2.1 ^^^ q.1 &&& q.2.2.1 ^^^ q.2.1 &&& q.2.2.1)) &&& zmask b)) &&& zmask b)), .int (nI (0)), .ref (73)]) rfl rfl rfl ?_
                            refine zn_last dX11_round_444 (by omega) k50_6 (by omega) (by omega) ?_
                            refine zp_nh (fun h52x eh52x => ?_)
                            have k52_0 := (congrFun eh52x (64)).trans ((va_up_ne _ _ (by omega)).trans k50_0)
                            have k52_1 := (congrFun eh52x (65)).trans ((va_up_ne _ _ (by omega)).trans k50_1)
                            have k52_2 := (congrFun eh52x (70)).trans ((va_up_ne _ _ (by omega)).trans k50_2)
                            have k52_3 := (congrFun eh52x (71)).trans ((va_up_ne _ _ (by omega)).trans k50_3)
                            have k52_4 := (congrFun eh52x (72)).trans ((va_up_ne _ _ (by omega)).trans k50_4)
                            have k52_5 := (congrFun eh52x (9)).trans ((va_up_ne _ _ (by omega)).trans k50_5)
                            have k52_6 : h52x (73) = some (.inr (8, .inr (.inl (va_up (va_up (va_up (va_up (va_up (va_up (va_up (va_up (va_up g4 (7) (g4 ((7) - (1)))) (6) ((va_up g4 (7) (g4 ((7) - (1)))) ((6) - (1)))) (5) ((va_up (va_up g4 (7) (g4 ((7) - (1)))) (6) ((va_up g4 (7) (g4 ((7) - (1)))) ((6) - (1)))) ((5) - (1)))) (4) ((va_up (va_up (va_up g4 (7) (g4 ((7) - (1)))) (6) ((va_up g4 (7) (g4 ((7) - (1)))) ((6) - (1)))) (5) ((va_up (va_up g4 (7) (g4 ((7) - (1)))) (6) ((va_up g4 (7) (g4 ((7) - (1)))) ((6) - (1)))) ((5) - (1)))) ((4) - (1)))) (3) ((va_up (va_up (va_up (va_up g4 (7) (g4 ((7) - (1)))) (6) ((va_up g4 (7) (g4 ((7) - (1)))) ((6) - (1)))) (5) ((va_up (va_up g4 (7) (g4 ((7) - (1)))) (6) ((va_up g4 (7) (g4 ((7) - (1)))) ((6) - (1)))) ((5) - (1)))) (4) ((va_up (va_up (va_up g4 (7) (g4 ((7) - (1)))) (6) ((va_up g4 (7) (g4 ((7) - (1)))) ((6) - (1)))) (5) ((va_up (va_up g4 (7) (g4 ((7) - (1)))) (6) ((va_up g4 (7) (g4 ((7) - (1)))) ((6) - (1)))) ((5) - (1)))) ((4) - (1)))) ((3) - (1)))) (2) ((va_up (va_up (va_up (va_up (va_up g4 (7) (g4 ((7) - (1)))) (6) ((va_up g4 (7) (g4 ((7) - (1)))) ((6) - (1)))) (5) ((va_up (va_up g4 (7) (g4 ((7) - (1)))) (6) ((va_up g4 (7) (g4 ((7) - (1)))) ((6) - (1)))) ((5) - (1)))) (4) ((va_up (va_up (va_up g4 (7) (g4 ((7) - (1)))) (6) ((va_up g4 (7) (g4 ((7) - (1)))) ((6) - (1)))) (5) ((va_up (va_up g4 (7) (g4 ((7) - (1)))) (6) ((va_up g4 (7) (g4 ((7) - (1)))) ((6) - (1)))) ((5) - (1)))) ((4) - (1)))) (3) ((va_up (va_up (va_up (va_up g4 (7) (g4 ((7) - (1)))) (6) ((va_up g4 (7) (g4 ((7) - (1)))) ((6) - (1)))) (5) ((va_up (va_up g4 (7) (g4 ((7) - (1)))) (6) ((va_up g4 (7) (g4 ((7) - (1)))) ((6) - (1)))) ((5) - (1)))) (4) ((va_up (va_up (va_up g4 (7) (g4 ((7) - (1)))) (6) ((va_up g4 (7) (g4 ((7) - (1)))) ((6) - (1)))) (5) ((va_up (va_up g4 (7) (g4 ((7) - (1)))) (6) ((va_up g4 (7) (g4 ((7) - (1)))) ((6) - (1)))) ((5) - (1)))) ((4) - (1)))) ((3) - (1)))) ((2) - (1)))) (1) ((va_up (va_up (va_up (va_up (va_up (va_up g4 (7) (g4 ((7) - (1)))) (6) ((va_up g4 (7) (g4 ((7) - (1)))) ((6) - (1)))) (5) ((va_up (va_up g4 (7) (g4 ((7) - (1)))) (6) ((va_up g4 (7) (g4 ((7) - (1)))) ((6) - (1)))) ((5) - (1)))) (4) ((va_up (va_up (va_up g4 (7) (g4 ((7) - (1)))) (6) ((va_up g4 (7) (g4 ((7) - (1)))) ((6) - (1)))) (5) ((va_up (va_up g4 (7) (g4 ((7) - (1)))) (6) ((va_up g4 (7) (g4 ((7) - (1)))) ((6) - (1)))) ((5) - (1)))) ((4) - (1)))) (3) ((va_up (va_up (va_up (va_up g4 (7) (g4 ((7) - (1)))) (6) ((va_up g4 (7) (g4 ((7) - (1)))) ((6) - (1)))) (5) ((va_up (va_up g4 (7) (g4 ((7) - (1)))) (6) ((va_up g4 (7) (g4 ((7) - (1)))) ((6) - (1)))) ((5) - (1)))) (4) ((va_up (va_up (va_up g4 (7) (g4 ((7) - (1)))) (6) ((va_up g4 (7) (g4 ((7) - (1)))) ((6) - (1)))) (5) ((va_up (va_up g4 (7) (g4 ((7) - (1)))) (6) ((va_up g4 (7) (g4 ((7) - (1)))) ((6) - (1)))) ((5) - (1)))) ((4) - (1)))) ((3) - (1)))) (2) ((va_up (va_up (va_up (va_up (va_up g4 (7) (g4 ((7) - (1)))) (6) ((va_up g4 (7) (g4 ((7) - (1)))) ((6) - (1)))) (5) ((va_up (va_up g4 (7) (g4 ((7) - (1)))) (6) ((va_up g4 (7) (g4 ((7) - (1)))) ((6) - (1)))) ((5) - (1)))) (4) ((va_up (va_up (va_up g4 (7) (g4 ((7) - (1)))) (6) ((va_up g4 (7) (g4 ((7) - (1)))) ((6) - (1)))) (5) ((va_up (va_up g4 (7) (g4 ((7) - (1)))) (6) ((va_up g4 (7) (g4 ((7) - (1)))) ((6) - (1)))) ((5) - (1)))) ((4) - (1)))) (3) ((va_up (va_up (va_up (va_up g4 (7) (g4 ((7) - (1)))) (6) ((va_up g4 (7) (g4 ((7) - (1)))) ((6) - (1)))) (5) ((va_up (va_up g4 (7) (g4 ((7) - (1)))) (6) ((va_up g4 (7) (g4 ((7) - (1)))) ((6) - (1)))) ((5) - (1)))) (4) ((va_up (va_up (va_up g4 (7) (g4 ((7) - (1)))) (6) ((va_up g4 (7) (g4 ((7) - (1)))) ((6) - (1)))) (5) ((va_up (va_up g4 (7) (g4 ((7) - (1)))) (6) ((va_up g4 (7) (g4 ((7) - (1)))) ((6) - (1)))) ((5) - (1)))) ((4) - (1)))) ((3) - (1)))) ((2) - (1)))) ((1) - (1)))) (4) (((q.2.2.2.1 + ((q.2.2.2.2.2.2.2 + zmxd b (q.2.2.2.2.1) 1 + ((q.2.2.2.2.1 &&& q.2.2.2.2.2.1 ^^^ (q.2.2.2.2.1 ^^^ (-1)) &&& q.2.2.2.2.2.2.1) &&& zmask b) + zcut b (zt_ROUND.getD c 0) + W c) &&& zmask b)) &&& zmask b))) (0) (((((q.2.2.2.2.2.2.2 + zmxd b (q.2.2.2.2.1) 1 + ((q.2.2.2.2.1 &&& q.2.2.2.2.2.1 ^^^ (q.2.2.2.2.1 ^^^ (-1)) &&& q.2.2.2.2.2.2.1) &&& zmask b) + zcut b (zt_ROUND.getD c 0) + W c) &&& zmask b) + ((zmxd b (q.1) 0 + (q.1 &&& q.2.1 ^^^ q.1 &&& q.2.2.1 ^^^ q.2.1 &&& q.2.2.1)) &&& zmask b)) &&& zmask b)))))) := by rw [eh52x]; exact va_up_self _ _ _
                            refine zp_pc (pc' := 445) rfl ?_
                            refine zn_iinc 1 (ls' := [some (.ref (64)), some (.int (nI (8 * zwb b))), some (.int (nI (at_))), some (.int (nI (zwb b))), some (.int (nI (zrn b))), some (.int (nI (c + 1))), some (.long (zcut b (zt_ROUND.getD c 0))), none, some (.long (((q.2.2.2.2.1) &&& (q.2.2.2.2.2.1)) ^^^ (((q.2.2.2.2.1) ^^^ ((-1))) &&& (q.2.2.2.2.2.2.1)))), none, some (.long ((((q.1) &&& (q.2.1)) ^^^ ((q.1) &&& (q.2.2.1))) ^^^ ((q.2.1) &&& (q.2.2.1)))), none, some (.long (((q.2.2.2.2.2.2.2 + zmxd b (q.2.2.2.2.1) 1 + ((q.2.2.2.2.1 &&& q.2.2.2.2.2.1 ^^^ (q.2.2.2.2.1 ^^^ (-1)) &&& q.2.2.2.2.2.2.1) &&& zmask b) + zcut b (zt_ROUND.getD c 0) + W c) &&& zmask b))), none, some (.long (((zmxd b (q.1) 0 + (q.1 &&& q.2.1 ^^^ q.1 &&& q.2.2.1 ^^^ q.2.1 &&& q.2.2.1)) &&& zmask b))), none, some (.int (nI (0)))]) dX11_round_445 (by decide) (by decide) rfl rfl ?_
                            refine zp_goto (tgt := 205) dX11_round_448 (by decide) ?_
                            refine zp_pc (pc' := 205) rfl ?_
                            refine zp_drop (ls' := [some (.ref (64)), some (.int (nI (8 * zwb b))), some (.int (nI (at_))), some (.int (nI (zwb b))), some (.int (nI (zrn b))), some (.int (nI (c + 1))), none, none, none, none, none, none, none, none, none, none, none]) (fun i v hv => ?_) ?_
                            · rcases i with _ | _ | _ | _ | _ | _ | _ | _ | _ | _ | _ | _ | _ | _ | _ | _ | _ | i <;> simp at hv ⊢ <;> exact hv
                            refine ih (zrn b - (c + 1)) (by omega) (c + 1) h52x _ rfl (by omega) ((((((((((((((((((s4).trans (zsm.fill eh42x))).trans (zsm.fill eh43x))).trans (zsm.fill eh44x))).trans (zsm.fill eh45x))).trans (zsm.fill eh46x))).trans (zsm.fill eh47x))).trans (zsm.fill eh48x))).trans (zsm.fill eh50x))).trans (zsm.fill eh52x)) k52_6 ?_
                            have er : zrounds b W s (c + 1) = zround b (zcut b (zt_ROUND.getD c 0)) (W c) q := by rw [eq]; rfl
                            rw [er, zround_m]
                            exact z8f_ext rfl z0 z1 z2 rfl z4 z5 z6
                          · exact absurd c386 (by decide)
          refine zp_iload_n dX11_round_212 rfl ?_
          refine zp_bipush (v := nI (64)) dX11_round_213 (by decide) ?_
          refine zp_pc (pc' := 215) rfl ?_
          refine zn_icmp_ne (tgt := 228) dX11_round_215 (by decide) (by omega) (by omega) (fun c215 => ?_) (fun c215 => ?_)
          · have bb : b = false := by cases b; rfl; exact absurd rfl c215
            refine zp_aload_n dX11_round_228 rfl ?_
            refine zp_get dX11_round_229 gX11_7_10 m31 rfl ?_
            refine zp_iload dX11_round_232 rfl ?_
            refine zn_lald (j := c) dX11_round_234 m32 (by omega) (by omega) ?_
            refine zp_bipush (v := nI (32)) dX11_round_235 (by decide) ?_
            refine zp_lushr dX11_round_237 ?_
            refine zp_pc (pc' := 238) rfl ?_
            subst bb
            exact cont2
          · have bb : b = true := by cases b; exact absurd c215 (by decide); rfl
            refine zp_aload_n dX11_round_218 rfl ?_
            refine zp_get dX11_round_219 gX11_7_10 m31 rfl ?_
            refine zp_iload dX11_round_222 rfl ?_
            refine zn_lald (j := c) dX11_round_224 m32 (by omega) (by omega) ?_
            refine zp_pc (pc' := 225) rfl ?_
            rw [bb, zcut_t] at cont2
            refine zp_goto (tgt := 238) dX11_round_225 (by decide) ?_
            refine zp_pc (pc' := 238) rfl ?_
            rw [bb]
            exact cont2
    exact lp _ 0 hY16 g3 rfl (Nat.zero_le _) zsm.rf k19_5 e3
  refine zn_icmp_ne (tgt := 16) dX11_round_8 (by decide) (by omega) (by omega) (fun c8 => ?_) (fun c8 => ?_)
  · have bb : b = false := by cases b; rfl; exact absurd rfl c8
    refine zp_bipush (v := nI (64)) dX11_round_16 (by decide) ?_
    refine zp_istore (ls' := [some (.ref (64)), some (.int (nI (8 * zwb b))), some (.int (nI (at_))), some (.int (nI (zwb b))), some (.int (nI (64))), none, none, none, none, none, none, none, none, none, none, none, none]) dX11_round_18 (by decide) rfl ?_
    refine zp_pc (pc' := 20) rfl ?_
    subst bb
    exact cont
  · have bb : b = true := by cases b; exact absurd c8 (by decide); rfl
    refine zp_bipush (v := nI (80)) dX11_round_11 (by decide) ?_
    refine zp_goto (tgt := 18) dX11_round_13 (by decide) ?_
    refine zp_istore (ls' := [some (.ref (64)), some (.int (nI (8 * zwb b))), some (.int (nI (at_))), some (.int (nI (zwb b))), some (.int (nI (80))), none, none, none, none, none, none, none, none, none, none, none, none]) dX11_round_18 (by decide) rfl ?_
    refine zp_pc (pc' := 20) rfl ?_
    subst bb
    exact cont
