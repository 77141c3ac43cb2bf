section ZGA
variable {g : ZG} {M : ZM} {R : Room} {Qf : ZQ} {cells slots pc : Nat} {ls : List (Option Value)} {h : ZH} {n : Nat} {a t kd sg : Nat} {rs : Bool} {iv ct : Nat} {dr : Int32} {sd : Nat} {V C : List Nat}
theorem zp_gast {k N : Nat} {f : Nat → Option Nat} {i : Int32} {st : List Value} (hd : decode M.2.1 pc = .ok (.aastore, 1)) (hk : 16 ≤ k) (hh : h k = some (.inr (N, .inr (.inr (false, f))))) (hi : vp_in i N) (hG : zgen h a t (kd, sg, rs, iv, ct, dr, sd, V, C)) (kk : zP g M R Qf cells slots (pc + 1) ls st (va_up h k (some (.inr (N, .inr (.inr (false, va_up f i.toNatClampNeg (some a))))))) n) : zP g M R Qf cells slots pc ls (.ref a :: .int i :: .ref k :: st) h n := by
  obtain ⟨-, k8, -, -, -, -, o, -⟩ := id hG
  rcases zkind k8 with ⟨q1, -, -, -, -, e6, -⟩ | ⟨q1, q2, -, -, -, -, e6, -⟩ | ⟨q1, q2, -, -, -, -, e6, -⟩
  · rw [e6] at o; exact zp_aast (q0 := (RX4, TX4, 12)) hd hk hh hi o rfl (Or.inr zca_RX4) kk
  · rw [e6] at o; exact zp_aast (q0 := (RX6, TX6, 12)) hd hk hh hi o rfl (Or.inr zca_RX6) kk
  · rw [e6] at o; exact zp_aast (q0 := (RX1, TX1, 13)) hd hk hh hi o rfl (Or.inr zca_RX1) kk
end ZGA
set_option maxRecDepth 10000 in
set_option maxHeartbeats 2000000 in
theorem e_open {g : ZG} {h : ZH} {n : Nat} {lo t : Nat} {A : Nat → Option Nat} {T O : List Nat} {S : ZSup} {Gs : Nat → Option ZGn} {x s v0 : Int32} {r : Bool} (H : zBA lo t h n A (T, O, S, Gs)) (hu : t < 80000) : zMt g mX9_open (zR 8 5 239) [.ref (16), .int (x), .int (s), .int (nI (zbi r)), .int (v0)] h n (fun v h' n' => v = some (.int (zqopen x s r v0 (T, O, S, Gs)).1) ∧ (n ≤ n' ∧ n' ≤ n + 5) ∧ zsm h h' (zxs lo) ∧ zBW lo (t + 2) h' n' (zqopen x s r v0 (T, O, S, Gs)).2) := by
  refine zMt.of [some (.ref (16)), some (.int (x)), some (.int (s)), some (.int (nI (zbi r))), some (.int (v0)), none, none, none] (by decide) rfl (Nat.le_of_ble_eq_true rfl) ?_
  obtain ⟨Qf, hQ⟩ : ∃ Qf : ZQ, Qf = (fun v h' n' => v = some (.int (zqopen x s r v0 (T, O, S, Gs)).1) ∧ (n ≤ n' ∧ n' ≤ n + 5) ∧ zsm h h' (zxs lo) ∧ zBW lo (t + 2) h' n' (zqopen x s r v0 (T, O, S, Gs)).2) := ⟨_, rfl⟩
  rw [← hQ]
  obtain ⟨w, rp, wi, pa, un, la, ru, sa, me, se, ta, fa⟩ := S
  obtain ⟨w0, w1, w2, w3, w4, w5, w6, w7, w8⟩ := id H
  have lT := w1.len
  have lO := w2.len
  refine zp_iload_n dX9_open_0 rfl ?_
  refine zp_pc (pc' := 1) rfl ?_
  refine zp_if_lt (tgt := 23) dX9_open_1 (by decide) (fun c1 => ?_) (fun c1 => ?_)
  · have eq : zqopen x s r v0 (T, O, (w, rp, wi, pa, un, la, ru, sa, me, se, ta, fa), Gs) = (-7, T, O, (w, rp, wi, pa, un, la, ru, sa, me, se, ta, fa), Gs) := if_pos (Or.inl c1)
    refine zp_bipush (v := (-7)) dX9_open_23 (by decide) ?_
    refine zp_pc (pc' := 25) rfl ?_
    refine zp_ret (v := (some (.int ((-7))))) dX9_open_25 ⟨⟨_, rfl, rfl⟩, rfl⟩ (by decide) (by decide) ?_
    rw [hQ]
    rw [eq]; exact ⟨rfl, ⟨Nat.le_refl _, by omega⟩, zsm.rf, H.rf (by omega)⟩
  · refine zp_iload_n dX9_open_4 rfl ?_
    refine zp_bipush (v := nI (8)) dX9_open_5 (by decide) ?_
    refine zp_pc (pc' := 7) rfl ?_
    refine zp_icmp_ge (tgt := 23) dX9_open_7 (by decide) (fun c7 => ?_) (fun c7 => ?_)
    · have eq : zqopen x s r v0 (T, O, (w, rp, wi, pa, un, la, ru, sa, me, se, ta, fa), Gs) = (-7, T, O, (w, rp, wi, pa, un, la, ru, sa, me, se, ta, fa), Gs) := if_pos (Or.inr (Or.inl c7))
      refine zp_bipush (v := (-7)) dX9_open_23 (by decide) ?_
      refine zp_pc (pc' := 25) rfl ?_
      refine zp_ret (v := (some (.int ((-7))))) dX9_open_25 ⟨⟨_, rfl, rfl⟩, rfl⟩ (by decide) (by decide) ?_
      rw [hQ]
      rw [eq]; exact ⟨rfl, ⟨Nat.le_refl _, by omega⟩, zsm.rf, H.rf (by omega)⟩
    · refine zp_iload dX9_open_10 rfl ?_
      refine zp_iconst (v := nI (1)) dX9_open_12 (by decide) ?_
      refine zp_pc (pc' := 13) rfl ?_
      refine zp_icmp_lt (tgt := 23) dX9_open_13 (by decide) (fun c13 => ?_) (fun c13 => ?_)
      · have eq : zqopen x s r v0 (T, O, (w, rp, wi, pa, un, la, ru, sa, me, se, ta, fa), Gs) = (-7, T, O, (w, rp, wi, pa, un, la, ru, sa, me, se, ta, fa), Gs) := if_pos (Or.inr (Or.inr (Or.inl c13)))
        refine zp_bipush (v := (-7)) dX9_open_23 (by decide) ?_
        refine zp_pc (pc' := 25) rfl ?_
        refine zp_ret (v := (some (.int ((-7))))) dX9_open_25 ⟨⟨_, rfl, rfl⟩, rfl⟩ (by decide) (by decide) ?_
        rw [hQ]
        rw [eq]; exact ⟨rfl, ⟨Nat.le_refl _, by omega⟩, zsm.rf, H.rf (by omega)⟩
      · refine zp_iload dX9_open_16 rfl ?_
        refine zp_pc (pc' := 18) rfl ?_
        refine zp_ldc dX9_open_18 kcX9_74 ?_
        refine zp_i (y := nI (100000)) (by decide) ?_
        refine zp_pc (pc' := 20) rfl ?_
        refine zp_icmp_le (tgt := 26) dX9_open_20 (by decide) (fun c20 => ?_) (fun c20 => ?_)
        · have cn : ¬ (x < 0 ∨ nI 8 ≤ x ∨ v0 < nI 1 ∨ nI 100000 < v0) := fun q => by
            rcases q with q | q | q | q
            · exact c1 q
            · exact c7 q
            · exact c13 q
            · exact Int32.not_le.mpr q c20
          have eq0 : zqopen x s r v0 (T, O, (w, rp, wi, pa, un, la, ru, sa, me, se, ta, fa), Gs) = _ := if_neg cn
          obtain ⟨kd, k31, rfl⟩ := nI_of c1
          have hk : kd < 8 := Nat.not_le.mp (fun q => c7 (nI_le q k31))
          have v00 : ¬ v0 < 0 := fun q => c13 (Int32.lt_trans q (by decide))
          obtain ⟨iv, v31, rfl⟩ := nI_of v00
          have hv := (nI_leI v31 (by decide)).mp c20
          rw [nI_clamp k31, nI_clamp v31] at eq0
          have fl := zfree_le Gs
          refine zp_aload_n dX9_open_26 rfl ?_
          refine zp_pc (pc' := 27) rfl ?_
          refine zp_callV (As := []) (k := 16) (st := []) (ci := 8) dX9_open_27 cX9_75 rfl w0 rfl rfl (e_freeNumber H) (by decide) (by decide) (Nat.le_of_ble_eq_true rfl) (fun v1 h1 n1 q1 => ?_)
          obtain ⟨rfl, H1, N1⟩ := q1
          rw [N1, H1]
          refine zp_nrm (cells' := 0) (slots' := 0) (st' := [.int (if zfree Gs = 4 then -1 else nI (zfree Gs))]) rfl rfl rfl ?_
          by_cases hf : zfree Gs = 4
          · refine zp_i (y := (-1)) (if_pos hf) ?_
            refine zp_istore (ls' := [some (.ref (16)), some (.int (nI (kd))), some (.int (s)), some (.int (nI (zbi r))), some (.int (nI (iv))), some (.int ((-1))), none, none]) dX9_open_30 (by decide) rfl ?_
            refine zp_iload dX9_open_32 rfl ?_
            refine zp_iconst (v := (-1)) dX9_open_34 (by decide) ?_
            refine zp_pc (pc' := 35) rfl ?_
            refine zp_icmp_ne (tgt := 41) dX9_open_35 (by decide) (fun c35 => ?_) (fun c35 => ?_)
            · exact absurd rfl c35
            · have eq := eq0.trans (if_pos hf)
              refine zp_bipush (v := (-8)) dX9_open_38 (by decide) ?_
              refine zp_pc (pc' := 40) rfl ?_
              refine zp_ret (v := (some (.int ((-8))))) dX9_open_40 ⟨⟨_, rfl, rfl⟩, rfl⟩ (by decide) (by decide) ?_
              rw [hQ]
              rw [eq]; exact ⟨rfl, ⟨Nat.le_refl _, by omega⟩, zsm.rf, H.rf (by omega)⟩
          · refine zp_i (y := nI (zfree Gs)) (if_neg hf) ?_
            have eq1 := eq0.trans (if_neg hf)
            have hf4 : zfree Gs < 4 := by omega
            obtain ⟨fj, efj⟩ : ∃ fj, zfree Gs = fj := ⟨_, rfl⟩
            rw [efj] at hf hf4 eq1
            rw [efj]
            refine zp_istore (ls' := [some (.ref (16)), some (.int (nI (kd))), some (.int (s)), some (.int (nI (zbi r))), some (.int (nI (iv))), some (.int (nI (fj))), none, none]) dX9_open_30 (by decide) rfl ?_
            refine zp_iload dX9_open_32 rfl ?_
            refine zp_iconst (v := (-1)) dX9_open_34 (by decide) ?_
            refine zp_pc (pc' := 35) rfl ?_
            refine zp_icmp_ne (tgt := 41) dX9_open_35 (by decide) (fun c35 => ?_) (fun c35 => ?_)
            · refine zp_iload_n dX9_open_41 rfl ?_
              refine zp_iconst (v := nI (1)) dX9_open_42 (by decide) ?_
              refine zp_pc (pc' := 43) rfl ?_
              refine zp_icmp_lt (tgt := 54) dX9_open_43 (by decide) (fun c43 => ?_) (fun c43 => ?_)
              · have eq := eq1.trans (if_pos (Or.inl c43))
                refine zp_bipush (v := (-3)) dX9_open_54 (by decide) ?_
                refine zp_pc (pc' := 56) rfl ?_
                refine zp_ret (v := (some (.int ((-3))))) dX9_open_56 ⟨⟨_, rfl, rfl⟩, rfl⟩ (by decide) (by decide) ?_
                rw [hQ]
                rw [eq]; exact ⟨rfl, ⟨Nat.le_refl _, by omega⟩, zsm.rf, H.rf (by omega)⟩
              · refine zp_iload_n dX9_open_46 rfl ?_
                refine zp_iload_n dX9_open_47 rfl ?_
                refine zp_pc (pc' := 48) rfl ?_
                refine zp_callS (As := [.int (nI (kd))]) (st := [.int (s)]) dX9_open_48 cX9_78 rfl (e_strongest w4.1 hk) (by decide) (by decide) (Nat.le_of_ble_eq_true rfl) (fun v2 h2 n2 q2 => ?_)
                obtain ⟨rfl, H2, N2⟩ := q2
                rw [N2, H2]
                refine zp_nrm (cells' := 0) (slots' := 0) (st' := [.int (nI (zstrong kd)), .int (s)]) rfl rfl rfl ?_
                have sl := zstrong_le kd
                refine zp_pc (pc' := 51) rfl ?_
                refine zp_icmp_le (tgt := 57) dX9_open_51 (by decide) (fun c51 => ?_) (fun c51 => ?_)
                · have eq2 := eq1.trans (if_neg (fun q => q.elim c43 (fun q => Int32.not_le.mpr q c51)))
                  have s00 : ¬ s < 0 := fun q => c43 (Int32.lt_trans q (by decide))
                  obtain ⟨sp, s31, rfl⟩ := nI_of s00
                  have hs := (nI_leI s31 (by omega)).mp c51
                  rw [nI_clamp s31] at eq2
                  have zl := zleast_le sp
                  refine zp_aload_n dX9_open_57 rfl ?_
                  refine zp_iload_n dX9_open_58 rfl ?_
                  refine zp_iload_n dX9_open_59 rfl ?_
                  refine zp_pc (pc' := 60) rfl ?_
                  refine zp_callS (As := [.int (nI (sp))]) (st := [.int (nI (kd)), .ref (16)]) dX9_open_60 cX9_81 rfl (e_least w4.1 (by omega)) (by decide) (by decide) (Nat.le_of_ble_eq_true rfl) (fun v3 h3 n3 q3 => ?_)
                  obtain ⟨rfl, H3, N3⟩ := q3
                  rw [N3, H3]
                  refine zp_nrm (cells' := 0) (slots' := 0) (st' := [.int (nI (zleast sp)), .int (nI (kd)), .ref (16)]) rfl rfl rfl ?_
                  refine zp_iload_n dX9_open_63 rfl ?_
                  refine zp_iload dX9_open_64 rfl ?_
                  refine zp_pc (pc' := 66) rfl ?_
                  refine zp_callV (As := [.int (nI (kd)), .int (nI (zleast sp)), .int (nI (zbi r)), .int (nI (iv))]) (k := 16) (st := []) (ci := 8) dX9_open_66 cX9_84 rfl w0 rfl rfl (e_make (r := r) w0 w4 (by omega) hk zl hv) (by decide) (by decide) (Nat.le_of_ble_eq_true rfl) (fun v4 h4 n4 q4 => ?_)
                  obtain ⟨rfl, N4, s4, hG⟩ := q4
                  rw [N4]
                  refine zp_nrm (cells' := 0 + 5) (slots' := 0 + 239) (st' := [.ref (n)]) rfl rfl rfl ?_
                  have Hn : zBA lo t h4 (n + 5) A (T, O, (w, rp, wi, pa, un, la, ru, sa, me, se, ta, fa), Gs) := H.fresh s4 (fun i hi => by unfold zbt at hi; omega) (by omega) (Nat.le_refl _)
                  have Hq := id Hn
                  obtain ⟨u0, u1, u2, u3, u4, u5, u6, u7, u8⟩ := Hq
                  refine zp_astore (ls' := [some (.ref (16)), some (.int (nI (kd))), some (.int (nI (sp))), some (.int (nI (zbi r))), some (.int (nI (iv))), some (.int (nI (fj))), some (.ref (n)), none]) dX9_open_69 (by decide) rfl ?_
                  refine zp_aload_n dX9_open_71 rfl ?_
                  refine zp_aload dX9_open_72 rfl ?_
                  refine zp_iconst (v := nI (0)) dX9_open_74 (by decide) ?_
                  refine zp_pc (pc' := 75) rfl ?_
                  have hu9 := hu
                  have hu : 0 < 90000 := by decide
                  refine zp_callV (As := [.ref (n), .int (nI (0))]) (k := 16) (st := []) (ci := 8) dX9_open_75 cX9_88 rfl u0 rfl rfl (e_refusal (r := false) Hn hG hu) (by decide) (by decide) (Nat.le_of_ble_eq_true rfl) (fun v5 h5 n5 q5 => ?_)
                  obtain ⟨rfl, H5, N5⟩ := q5
                  rw [N5, H5]
                  refine zp_nrm (cells' := 0 + 5) (slots' := 0 + 239) (st' := [.int (nI (zrefuse false T (w, rp, wi, pa, un, la, ru, sa, me, se, ta, fa) (kd, zleast sp, r, iv, 0, nI 0, 0, [], [])))]) rfl rfl rfl ?_
                  have hrl := zrefuse_lt (r := false) (T := T) (S := (w, rp, wi, pa, un, la, ru, sa, me, se, ta, fa)) (G := (kd, zleast sp, r, iv, 0, nI 0, 0, [], []))
                  refine zp_istore (ls' := [some (.ref (16)), some (.int (nI (kd))), some (.int (nI (sp))), some (.int (nI (zbi r))), some (.int (nI (iv))), some (.int (nI (fj))), some (.ref (n)), some (.int (nI (zrefuse false T (w, rp, wi, pa, un, la, ru, sa, me, se, ta, fa) (kd, zleast sp, r, iv, 0, nI 0, 0, [], []))))]) dX9_open_78 (by decide) rfl ?_
                  refine zp_iload dX9_open_80 rfl ?_
                  refine zp_pc (pc' := 82) rfl ?_
                  refine zn_if_eq (tgt := 89) dX9_open_82 (by decide) (by omega) (fun c82 => ?_) (fun c82 => ?_)
                  · have hd0 := zrefuse_0 c82
                    have hd0 : zdem kd (zleast sp) (zsd kd) 0 ≤ w.length := hd0
                    have hd48 : zdem kd (zleast sp) (zsd kd) 0 ≤ 48 := zdem_le hk zl
                    have eq := eq2.trans (if_pos c82)
                    refine zp_aload dX9_open_89 rfl ?_
                    refine zp_aload_n dX9_open_91 rfl ?_
                    refine zp_get dX9_open_92 gX9_24_8 u0 rfl ?_
                    refine zp_aload dX9_open_95 rfl ?_
                    refine zp_pc (pc' := 97) rfl ?_
                    refine zp_gcall (As := []) (a := n) (st := [.ref (21), .ref (n)]) dX9_open_97 cX9_92_4 cX9_92_5 cX9_92_1 rfl hG (fun _ => (e_gdemand hG hu)) (fun _ _ => (e_gdemand hG hu)) (fun _ _ => (e_gdemand hG hu)) (by decide) (by decide) (by decide) (by decide) (Nat.le_of_ble_eq_true rfl) (fun v6 h6 n6 q6 => ?_)
                    obtain ⟨rfl, H6, N6⟩ := q6
                    rw [N6, H6]
                    refine zp_nrm (cells' := 0 + 5) (slots' := 0 + 239) (st' := [.int (nI (zdem kd (zleast sp) (zsd kd) 0)), .ref (21), .ref (n)]) rfl rfl rfl ?_
                    refine zp_callV (As := [.int (nI (zdem kd (zleast sp) (zsd kd) 0))]) (k := 21) (st := [.ref (n)]) (ci := 7) dX9_open_100 cX9_95 rfl u3.2.1 rfl rfl (e_give (k := zdem kd (zleast sp) (zsd kd) 0) u3 hd0 hd48) (by decide) (by decide) (Nat.le_of_ble_eq_true rfl) (fun v7 h7 n7 q7 => ?_)
                    obtain ⟨rfl, N7, s7, k7, r7⟩ := q7
                    rw [N7]
                    refine zp_nrm (cells' := 0 + 5) (slots' := 0 + 239) (st' := [.ref (24), .ref (n)]) rfl rfl rfl ?_
                    have g7 : zgen h7 n 0 (kd, zleast sp, r, iv, 0, nI 0, 0, [], []) := hG.off (fun i h1 h2 => s7 i (by unfold zss; omega))
                    have y8_0 := u1.keep (s7 _ (by unfold zss; omega)) (s7 _ (by unfold zss; omega))
                    have y8_1 := u2.keep (s7 _ (by unfold zss; omega)) (s7 _ (by unfold zss; omega))
                    have y8_2 : zdk h7 := u4.off s7 (fun i hi => by unfold zss at hi; omega)
                    have y8_3 : h7 (16) = some zwc := (s7 _ (by unfold zss; omega)).trans u0
                    have y8_4 : h7 (63) = some (.inr (4, .inr (.inr (false, A)))) := (s7 _ (by unfold zss; omega)).trans u6
                    refine zp_aload_n dX9_open_103 rfl ?_
                    refine zp_get dX9_open_104 gX9_14_8 y8_3 rfl ?_
                    refine zp_pc (pc' := 107) rfl ?_
                    refine zp_gcall (As := [.ref (24), .ref (17)]) (a := n) (st := []) dX9_open_107 cX9_99_4 cX9_99_5 cX9_99_1 rfl g7 (e_gplant4 g7 hu y8_2 r7 y8_0) (e_gplant5 g7 hu y8_2 r7 y8_0) (e_gplant1 g7 hu y8_2 r7 y8_0) (by decide) (by decide) (by decide) (by decide) (Nat.le_of_ble_eq_true rfl) (fun v9 h9 n9 q9 => ?_)
                    obtain ⟨rfl, N9, s9, k9, g9⟩ := q9
                    rw [N9]
                    refine zp_nrm (cells' := 0 + 5) (slots' := 0 + 239) (st' := []) rfl rfl rfl ?_
                    have y10_0 := y8_0.keep (s9 _ (by unfold zgs; omega)) (s9 _ (by unfold zgs; omega))
                    have y10_1 := y8_1.keep (s9 _ (by unfold zgs; omega)) (s9 _ (by unfold zgs; omega))
                    have y10_2 : zsup h9 21 (zgivS (zdem kd (zleast sp) (zsd kd) 0) (w, rp, wi, pa, un, la, ru, sa, me, se, ta, fa)) := k7.off (fun i h1 h2 => s9 i (by unfold zgs; omega))
                    have y10_3 : h9 (16) = some zwc := (s9 _ (by unfold zgs; omega)).trans y8_3
                    have y10_4 : h9 (63) = some (.inr (4, .inr (.inr (false, A)))) := (s9 _ (by unfold zgs; omega)).trans y8_4
                    refine zp_aload_n dX9_open_110 rfl ?_
                    refine zp_get dX9_open_111 gX9_14_8 y10_3 rfl ?_
                    refine zp_pc (pc' := 114) rfl ?_
                    refine zp_callV (As := []) (k := 17) (st := []) (ci := 6) dX9_open_114 cX9_63 rfl y10_0.2.1 rfl rfl (e_clear (N := 240) y10_0) (by decide) (by decide) (Nat.le_of_ble_eq_true rfl) (fun v11 h11 n11 q11 => ?_)
                    obtain ⟨rfl, N11, s11, r11⟩ := q11
                    rw [N11]
                    refine zp_nrm (cells' := 0 + 5) (slots' := 0 + 239) (st' := []) rfl rfl rfl ?_
                    have y12_0 := y10_1.keep (s11 _ (by unfold zrs; omega)) (s11 _ (by unfold zrs; omega))
                    have y12_1 : zsup h11 21 (zgivS (zdem kd (zleast sp) (zsd kd) 0) (w, rp, wi, pa, un, la, ru, sa, me, se, ta, fa)) := y10_2.off (fun i h1 h2 => s11 i (by unfold zrs; omega))
                    have y12_2 : zdk h11 := k9.off s11 (fun i hi => by unfold zrs at hi; omega)
                    have y12_3 : h11 (16) = some zwc := (s11 _ (by unfold zrs; omega)).trans y10_3
                    have y12_4 : h11 (63) = some (.inr (4, .inr (.inr (false, A)))) := (s11 _ (by unfold zrs; omega)).trans y10_4
                    have gg : zgen h11 n (0 + 1) (zgplant (w.take (zdem kd (zleast sp) (zsd kd) 0)) T (kd, zleast sp, r, iv, 0, nI 0, 0, [], [])) := g9.off (fun i h1 h2 => s11 i (by unfold zrs; omega))
                    refine zp_aload_n dX9_open_117 rfl ?_
                    refine zp_get dX9_open_118 gX9_37_8 y12_3 rfl ?_
                    refine zp_iload dX9_open_121 rfl ?_
                    refine zp_aload dX9_open_123 rfl ?_
                    refine zp_pc (pc' := 125) rfl ?_
                    refine zp_gast dX9_open_125 (by decide) y12_4 (by unfold vp_in; rw [nI_clamp (by omega)]; exact fun q => q.elim (nI_pos (by omega)) (fun q => by omega)) gg ?_
                    rw [nI_clamp (by omega)]
                    refine zp_nh (fun hz9 ez9 => ?_)
                    have k9 : hz9 63 = some (.inr (4, .inr (.inr (false, va_up A fj (some n))))) := by rw [ez9]; exact va_up_self _ _ _
                    have sz9 : zsm h11 hz9 (zon 63) := zsm.rf.up ez9 rfl
                    have y13_0 := r11.keep (sz9 _ (by unfold zon; omega)) (sz9 _ (by unfold zon; omega))
                    have y13_1 := y12_0.keep (sz9 _ (by unfold zon; omega)) (sz9 _ (by unfold zon; omega))
                    have y13_2 : zsup hz9 21 (zgivS (zdem kd (zleast sp) (zsd kd) 0) (w, rp, wi, pa, un, la, ru, sa, me, se, ta, fa)) := y12_1.off (fun i h1 h2 => sz9 i (by unfold zon; omega))
                    have y13_3 : zdk hz9 := y12_2.off sz9 (fun i hi => by unfold zon at hi; omega)
                    have y13_4 : hz9 (16) = some zwc := (sz9 _ (by unfold zon; omega)).trans y12_3
                    have gg9 := gg.off (h' := hz9) (fun i h1 h2 => sz9 i (by unfold zon; omega))
                    have sA : zsm h hz9 (fun i => zbt 17 63 i ∨ zbt n (n + 4) i) := (((((s4).mono (fun i hi => by unfold zbt at hi; unfold zbt at *; omega)).trans ((s7).mono (fun i hi => by unfold zss at hi; unfold zbt at *; omega))).trans ((s9).mono (fun i hi => by unfold zgs at hi; unfold zbt at *; omega))).trans ((s11).mono (fun i hi => by unfold zrs at hi; unfold zbt at *; omega))).trans ((sz9).mono (fun i hi => by unfold zon at hi; unfold zbt at *; omega))
                    refine zp_iload dX9_open_126 rfl ?_
                    refine zp_pc (pc' := 128) rfl ?_
                    refine zp_ret (v := (some (.int (nI (fj))))) dX9_open_128 ⟨⟨_, rfl, rfl⟩, rfl⟩ (by decide) (by decide) ?_
                    rw [hQ]
                    rw [eq]; exact ⟨rfl, ⟨by omega, Nat.le_refl _⟩, sA.mono (fun i hi => by unfold zbt at hi; unfold zxs; omega), _, H.new hf4 (Nat.le_refl _) sA y13_0 y13_1 y13_2 y13_3 k9 (gg9.more (by omega)) (Nat.succ_ne_zero _) (Nat.le_refl _) (by omega)⟩
                  · have eq := eq2.trans (if_neg c82)
                    refine zp_iload dX9_open_85 rfl ?_
                    refine zp_ineg dX9_open_87 ?_
                    refine zp_pc (pc' := 88) rfl ?_
                    refine zp_ret (v := (some (.int (-(nI (zrefuse false T (w, rp, wi, pa, un, la, ru, sa, me, se, ta, fa) (kd, zleast sp, r, iv, 0, nI 0, 0, [], []))))))) dX9_open_88 ⟨⟨_, rfl, rfl⟩, rfl⟩ (by decide) (by decide) ?_
                    rw [hQ]
                    rw [eq]; exact ⟨rfl, ⟨by omega, Nat.le_refl _⟩, s4.mono (fun i hi => by unfold zbt at hi; unfold zxs; omega), Hn.rf (by omega)⟩
                · have eq := eq1.trans (if_pos (Or.inr (Int32.not_le.mp c51)))
                  refine zp_bipush (v := (-3)) dX9_open_54 (by decide) ?_
                  refine zp_pc (pc' := 56) rfl ?_
                  refine zp_ret (v := (some (.int ((-3))))) dX9_open_56 ⟨⟨_, rfl, rfl⟩, rfl⟩ (by decide) (by decide) ?_
                  rw [hQ]
                  rw [eq]; exact ⟨rfl, ⟨Nat.le_refl _, by omega⟩, zsm.rf, H.rf (by omega)⟩
            · exact absurd (show nI fj < 0 by rw [c35]; decide) (nI_pos (by omega))
        · have eq : zqopen x s r v0 (T, O, (w, rp, wi, pa, un, la, ru, sa, me, se, ta, fa), Gs) = (-7, T, O, (w, rp, wi, pa, un, la, ru, sa, me, se, ta, fa), Gs) := if_pos (Or.inr (Or.inr (Or.inr (Int32.not_le.mp c20))))
          refine zp_bipush (v := (-7)) dX9_open_23 (by decide) ?_
          refine zp_pc (pc' := 25) rfl ?_
          refine zp_ret (v := (some (.int ((-7))))) dX9_open_25 ⟨⟨_, rfl, rfl⟩, rfl⟩ (by decide) (by decide) ?_
          rw [hQ]
          rw [eq]; exact ⟨rfl, ⟨Nat.le_refl _, by omega⟩, zsm.rf, H.rf (by omega)⟩
