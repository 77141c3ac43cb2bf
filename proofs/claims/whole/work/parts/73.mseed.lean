def zin (kd : Nat) : Nat := if kd = 2 ∨ kd = 3 then 1 else 0
def zV0 (kd sd : Nat) (V : List Nat) : List Nat := if sd = 0 then List.replicate (zvN kd) (zin kd) else V
def zC0 (kd sd : Nat) (C : List Nat) : List Nat := if sd = 0 then List.replicate (zcN kd) 0 else C
theorem zrep_lt {n v : Nat} (h : v < 256) : ∀ x ∈ List.replicate n v, x < 256 := fun x hx => by rw [(List.mem_replicate.mp hx).2]; exact h
theorem zin_lt (kd : Nat) : zin kd < 256 := by unfold zin; split <;> decide
abbrev zsS (a : Nat) : Nat → Prop := fun i => i = 64 ∨ (70 ≤ i ∧ i ≤ 76) ∨ (78 ≤ i ∧ i ≤ 85) ∨ (87 ≤ i ∧ i ≤ 92) ∨ i = a ∨ i = a + 1 ∨ i = a + 2
abbrev zs99 (a : Nat) : Nat → Prop := fun i => i = a + 1 ∨ i = a + 2
theorem zpl_D {kd sd : Nat} (V C R A : List Nat) (h : kd < 2) : zpl kd sd V C R A = (zder (zod kd) ((if sd = 0 then [] else 1 :: V) ++ R ++ A) (zsd kd), zder (zod kd) (0 :: zder (zod kd) ((if sd = 0 then [] else 1 :: V) ++ R ++ A) (zsd kd)) (zsd kd)) := if_pos h
theorem zpl_M {kd sd : Nat} (V C R A : List Nat) (h : 2 ≤ kd) (h4 : kd < 4) : zpl kd sd V C R A = ((zmix (zod kd) (R ++ A) (zC0 kd sd C, zV0 kd sd V)).2, (zmix (zod kd) (R ++ A) (zC0 kd sd C, zV0 kd sd V)).1) := by
  have e1 : zcN kd = zsd kd := if_pos h4
  have e2 : zvN kd = zsd kd := if_pos h4
  have e3 : zin kd = 1 := if_pos (by omega)
  unfold zpl zC0 zV0
  rw [if_neg (by omega), if_pos h4, e1, e2, e3]
theorem zpl_C {kd sd : Nat} (V C R A : List Nat) (h4 : 4 ≤ kd) : zpl kd sd V C R A = (zcmV (zod kd) (zC0 kd sd C) (zV0 kd sd V) (if kd < 6 then zdce (zod kd) (R ++ A) (zsd kd) else zxor (zpart R 0 (zsd kd)) A 0), zcmK (zod kd) (zC0 kd sd C) (zV0 kd sd V) (if kd < 6 then zdce (zod kd) (R ++ A) (zsd kd) else zxor (zpart R 0 (zsd kd)) A 0)) := by
  have e2 : zvN kd = 16 := if_neg (by omega)
  have e3 : zin kd = 0 := if_neg (by omega)
  unfold zpl zC0 zV0
  rw [if_neg (by omega), if_neg (by omega), e2, e3]
set_option maxRecDepth 10000 in
set_option maxHeartbeats 2000000 in
theorem e_zseedA {g : ZG} {h : ZH} {n : Nat} {a kd st iv ct sd : Nat} {tr rs : Bool} {dr : Int32} {V C A xs : List Nat} {ft : Bool} {th : Int32} {un : Bool} {rp wi pa be ru sa me se ta fa : Int32} {mn tp ou : Nat} (hw : zmw h) (ho : h 64 = some (.inl (10, [.int (th), .ref (65), .ref (66), .ref (67), .ref (68), .ref (69), .ref (70), .ref (71), .ref (72), .ref (73), .ref (74), .ref (75), .ref (76), .ref (77), .ref (78), .ref (79), .ref (80), .ref (81), .ref (82), .ref (83), .ref (84), .int (nI (xs.length)), .int (nI (zbi un)), .int (rp), .int (wi), .int (pa), .int (be), .int (ru), .int (sa), .int (me), .int (se), .int (ta), .int (fa), .ref (85), .ref (86), .ref (87), .int (nI (mn)), .ref (88), .ref (89), .ref (90), .ref (91), .ref (92), .ref (93), .int (nI (tp)), .ref (94), .int (nI (ou))]))) (hg : h a = some (.inl (9, [.int (nI (zbi tr)), .int (nI (kd)), .int (nI (st)), .int (nI (iv)), .int (nI (zbi rs)), .int (nI (ct)), .int (dr), .int (nI (sd)), .ref (a + 1), .ref (a + 2)]))) (ha : a = 95 ∨ a = 98 ∨ a = 101 ∨ a = 104) (hkd : kd < 8) (hst : st ≤ 256) (hx : zar h 84 1000 xs) (h85 : zia h 85 100) (hA : zar h 93 240 A) (hft : ft = true ↔ sd = 0) (hV : zar h (a + 1) 111 V) (hC : zar h (a + 2) 111 C) (lVC : ft = false → V.length = zvN kd ∧ C.length = zcN kd) (hd : (zdem kd st (zsd kd) sd) ≤ xs.length) : zMt g mX11_seed (zR 7 0 0) [.ref (64), .ref (a), .int (nI (zbi ft)), .int (nI (A.length))] h n (fun v h' n' => v = none ∧ n' = n ∧ zsm h h' (zsS a) ∧ zsh h h' ∧ (∃ mn', h' 64 = some (.inl (10, [.int (th), .ref (65), .ref (66), .ref (67), .ref (68), .ref (69), .ref (70), .ref (71), .ref (72), .ref (73), .ref (74), .ref (75), .ref (76), .ref (77), .ref (78), .ref (79), .ref (80), .ref (81), .ref (82), .ref (83), .ref (84), .int (nI ((xs.drop (zdem kd st (zsd kd) sd)).length)), .int (nI (zbi un)), .int (rp), .int (wi), .int (pa), .int (be), .int (ru), .int (sa), .int (me), .int (se), .int (ta + nI (zdem kd st (zsd kd) sd)), .int (fa), .ref (85), .ref (86), .ref (87), .int (nI (mn')), .ref (88), .ref (89), .ref (90), .ref (91), .ref (92), .ref (93), .int (nI (tp)), .ref (94), .int (nI (ou))]))) ∧ zar h' 84 1000 (xs.drop (zdem kd st (zsd kd) sd)) ∧ h' a = some (.inl (9, [.int (nI (zbi tr)), .int (nI (kd)), .int (nI (st)), .int (nI (iv)), .int (nI (zbi rs)), .int (nI (1)), .int (dr), .int (nI (sd + 1)), .ref (a + 1), .ref (a + 2)])) ∧ zar h' (a + 1) 111 (zpl kd sd V C (xs.take (zdem kd st (zsd kd) sd)) A).1 ∧ zar h' (a + 2) 111 (zpl kd sd V C (xs.take (zdem kd st (zsd kd) sd)) A).2) := by
  refine zMt.of [some (.ref (64)), some (.ref (a)), some (.int (nI (zbi ft))), some (.int (nI (A.length))), none, none] (by decide) rfl (Nat.le_of_ble_eq_true rfl) ?_
  obtain ⟨Qf, hQ⟩ : ∃ Qf : ZQ, Qf = (fun v h' n' => v = none ∧ n' = n ∧ zsm h h' (zsS a) ∧ zsh h h' ∧ (∃ mn', h' 64 = some (.inl (10, [.int (th), .ref (65), .ref (66), .ref (67), .ref (68), .ref (69), .ref (70), .ref (71), .ref (72), .ref (73), .ref (74), .ref (75), .ref (76), .ref (77), .ref (78), .ref (79), .ref (80), .ref (81), .ref (82), .ref (83), .ref (84), .int (nI ((xs.drop (zdem kd st (zsd kd) sd)).length)), .int (nI (zbi un)), .int (rp), .int (wi), .int (pa), .int (be), .int (ru), .int (sa), .int (me), .int (se), .int (ta + nI (zdem kd st (zsd kd) sd)), .int (fa), .ref (85), .ref (86), .ref (87), .int (nI (mn')), .ref (88), .ref (89), .ref (90), .ref (91), .ref (92), .ref (93), .int (nI (tp)), .ref (94), .int (nI (ou))]))) ∧ zar h' 84 1000 (xs.drop (zdem kd st (zsd kd) sd)) ∧ h' a = some (.inl (9, [.int (nI (zbi tr)), .int (nI (kd)), .int (nI (st)), .int (nI (iv)), .int (nI (zbi rs)), .int (nI (1)), .int (dr), .int (nI (sd + 1)), .ref (a + 1), .ref (a + 2)])) ∧ zar h' (a + 1) 111 (zpl kd sd V C (xs.take (zdem kd st (zsd kd) sd)) A).1 ∧ zar h' (a + 2) 111 (zpl kd sd V C (xs.take (zdem kd st (zsd kd) sd)) A).2) := ⟨_, rfl⟩
  rw [← hQ]
  have hs := zsd_le hkd
  have hdm := zdem_le (sd := sd) hkd hst
  have lA := hA.1
  have vN := zvN_le hkd
  have cN := zcN_le hkd
  have lR : (xs.take (zdem kd st (zsd kd) sd)).length = (zdem kd st (zsd kd) sd) := by rw [List.length_take]; omega
  have lV0 : (zV0 kd sd V).length = zvN kd := by unfold zV0; split; exact List.length_replicate; exact (lVC (by cases ft; rfl; exact absurd (hft.mp rfl) ‹_›)).1
  have lC0 : (zC0 kd sd C).length = zcN kd := by unfold zC0; split; exact List.length_replicate; exact (lVC (by cases ft; rfl; exact absurd (hft.mp rfl) ‹_›)).2
  refine zp_aload_n dX11_seed_0 rfl ?_
  refine zp_callV (As := []) (k := a) (st := []) (ci := 9) dX11_seed_1 cX11_281 rfl hg rfl rfl (e_zfresh hg hkd (by omega)) (by decide) (by decide) (Nat.le_of_ble_eq_true rfl) (fun v1 h1 n1 q1 => ?_)
  obtain ⟨rfl, H1, N1⟩ := q1
  rw [N1, H1]
  refine zp_nrm (cells' := 0) (slots' := 0) (st' := [.int (nI (zfr kd st))]) rfl rfl rfl ?_
  refine zp_iload_n dX11_seed_4 rfl ?_
  refine zp_pc (pc' := 5) rfl ?_
  have zfl9 : zfr kd st ≤ 111 := by unfold zfr; split <;> omega
  have jn2 : zP g mX11_seed (zR 7 0 0) Qf 0 0 28 [some (.ref (64)), some (.ref (a)), some (.int (nI (zbi ft))), some (.int (nI (A.length))), none, none] [.int (nI ((zdem kd st (zsd kd) sd)))] h n → zP g mX11_seed (zR 7 0 0) Qf 0 0 5 [some (.ref (64)), some (.ref (a)), some (.int (nI (zbi ft))), some (.int (nI (A.length))), none, none] [.int (nI (zbi ft)), .int (nI (zfr kd st))] h n := by
    intro jk2
    refine zn_if_eq (tgt := 26) dX11_seed_5 (by decide) (by have := zbi_lt ft; omega) (fun c5 => ?_) (fun c5 => ?_)
    · refine zp_iconst (v := nI (0)) dX11_seed_26 (by decide) ?_
      refine zp_pc (pc' := 27) rfl ?_
      refine zn_iadd dX11_seed_27 ?_
      refine zp_i (y := nI ((zdem kd st (zsd kd) sd))) (by unfold zdem zfr; have : sd ≠ 0 := fun q => by have := hft.mpr q; subst this; exact absurd c5 (by decide)
              rw [if_neg this]) ?_
      exact jk2
    · have s0 : sd = 0 := hft.mp (by cases ft; exact absurd rfl c5; rfl)
      refine zp_aload_n dX11_seed_8 rfl ?_
      refine zp_get dX11_seed_9 gX11_271_9 hg rfl ?_
      refine zp_bipush (v := nI (6)) dX11_seed_12 (by decide) ?_
      refine zp_pc (pc' := 14) rfl ?_
      refine zn_icmp_ge (tgt := 26) dX11_seed_14 (by decide) (by omega) (by omega) (fun c14 => ?_) (fun c14 => ?_)
      · refine zp_iconst (v := nI (0)) dX11_seed_26 (by decide) ?_
        refine zp_pc (pc' := 27) rfl ?_
        refine zn_iadd dX11_seed_27 ?_
        refine zp_i (y := nI ((zdem kd st (zsd kd) sd))) (by unfold zdem zfr; rw [if_pos (by omega), if_pos (by omega)]) ?_
        exact jk2
      · have zf : zfr kd st = st / 8 := if_neg (by omega)
        refine zp_aload_n dX11_seed_17 rfl ?_
        refine zp_callV (As := []) (k := a) (st := [.int (nI (zfr kd st))]) (ci := 9) dX11_seed_18 cX11_281 rfl hg rfl rfl (e_zfresh hg hkd (by omega)) (by decide) (by decide) (Nat.le_of_ble_eq_true rfl) (fun v3 h3 n3 q3 => ?_)
        obtain ⟨rfl, H3, N3⟩ := q3
        rw [N3, H3]
        refine zp_nrm (cells' := 0) (slots' := 0) (st' := [.int (nI (zfr kd st)), .int (nI (zfr kd st))]) rfl rfl rfl ?_
        refine zp_iconst (v := nI (2)) dX11_seed_21 (by decide) ?_
        refine zn_idiv dX11_seed_22 (by omega) (by omega) (by omega) ?_
        refine zp_goto (tgt := 27) dX11_seed_23 (by decide) ?_
        refine zp_pc (pc' := 27) rfl ?_
        refine zn_iadd dX11_seed_27 ?_
        refine zp_i (y := nI ((zdem kd st (zsd kd) sd))) (by unfold zdem; rw [if_neg (by omega), if_pos s0, zf]) ?_
        exact jk2
  refine jn2 ?_
  refine zp_istore (ls' := [some (.ref (64)), some (.ref (a)), some (.int (nI (zbi ft))), some (.int (nI (A.length))), some (.int (nI ((zdem kd st (zsd kd) sd)))), none]) dX11_seed_28 (by decide) rfl ?_
  refine zp_aload_n dX11_seed_30 rfl ?_
  refine zp_iload dX11_seed_31 rfl ?_
  refine zp_pc (pc' := 33) rfl ?_
  refine zp_callV (As := [.int (nI ((zdem kd st (zsd kd) sd)))]) (k := 64) (st := []) (ci := 10) dX11_seed_33 cX11_283 rfl ho rfl rfl (e_mtake (k := (zdem kd st (zsd kd) sd)) ho hx h85 hd (by omega)) (by decide) (by decide) (Nat.le_of_ble_eq_true rfl) (fun v4 h4 n4 q4 => ?_)
  obtain ⟨rfl, N4, s4, z4, o4, r4, w4⟩ := q4
  rw [N4]
  refine zp_nrm (cells' := 0) (slots' := 0) (st' := []) rfl rfl rfl ?_
  have m5 : h4 (a) = some (.inl (9, [.int (nI (zbi tr)), .int (nI (kd)), .int (nI (st)), .int (nI (iv)), .int (nI (zbi rs)), .int (nI (ct)), .int (dr), .int (nI (sd)), .ref (a + 1), .ref (a + 2)])) := (s4 _ (by unfold zst3; omega)).trans hg
  have sT := s4
  have zT := z4
  have rT := r4
  have wT := w4
  have oT := o4
  refine zp_iload_n dX11_seed_36 rfl ?_
  refine zp_pc (pc' := 37) rfl ?_
  have gT := m5
  have vT := (hV).keep (s4 _ (by unfold zst3; omega))
  have cT := (hC).keep (s4 _ (by unfold zst3; omega))
  have kt6 : ∀ (h1 : ZH), zsm h h1 (zsS a) → zsh h h1 → (∃ mn1, h1 64 = some (.inl (10, [.int (th), .ref (65), .ref (66), .ref (67), .ref (68), .ref (69), .ref (70), .ref (71), .ref (72), .ref (73), .ref (74), .ref (75), .ref (76), .ref (77), .ref (78), .ref (79), .ref (80), .ref (81), .ref (82), .ref (83), .ref (84), .int (nI ((xs.drop (zdem kd st (zsd kd) sd)).length)), .int (nI (zbi un)), .int (rp), .int (wi), .int (pa), .int (be), .int (ru), .int (sa), .int (me), .int (se), .int (ta + nI (zdem kd st (zsd kd) sd)), .int (fa), .ref (85), .ref (86), .ref (87), .int (nI (mn1)), .ref (88), .ref (89), .ref (90), .ref (91), .ref (92), .ref (93), .int (nI (tp)), .ref (94), .int (nI (ou))]))) → zar h1 84 1000 (xs.drop (zdem kd st (zsd kd) sd)) → h1 a = some (.inl (9, [.int (nI (zbi tr)), .int (nI (kd)), .int (nI (st)), .int (nI (iv)), .int (nI (zbi rs)), .int (nI (ct)), .int (dr), .int (nI (sd)), .ref (a + 1), .ref (a + 2)])) → zar h1 (a + 1) 111 (zpl kd sd V C (xs.take (zdem kd st (zsd kd) sd)) A).1 → zar h1 (a + 2) 111 (zpl kd sd V C (xs.take (zdem kd st (zsd kd) sd)) A).2 → zP g mX11_seed (zR 7 0 0) Qf 0 0 192 [some (.ref (64)), some (.ref (a)), some (.int (nI (zbi ft))), some (.int (nI (A.length))), some (.int (nI ((zdem kd st (zsd kd) sd)))), none] [] h1 n := by
    intro h1 s1 z1 o1 w1 g1 v1 c1
    obtain ⟨mn1, o1⟩ := o1
    refine zp_aload_n dX11_seed_192 rfl ?_
    refine zp_iconst (v := nI (1)) dX11_seed_193 (by decide) ?_
    refine zp_put (fs' := [.int (nI (zbi tr)), .int (nI (kd)), .int (nI (st)), .int (nI (iv)), .int (nI (zbi rs)), .int (nI (1)), .int (dr), .int (nI (sd)), .ref (a + 1), .ref (a + 2)]) dX11_seed_194 pX11_250_9 (by omega) g1 (Nat.le_of_ble_eq_true rfl) (zfit_i _) rfl ?_
    refine zp_nh (fun h7x eh7x => ?_)
    have k7_0 := (congrFun eh7x (64)).trans ((va_up_ne _ _ (by omega)).trans o1)
    have k7_1 : h7x (a) = some (.inl (9, [.int (nI (zbi tr)), .int (nI (kd)), .int (nI (st)), .int (nI (iv)), .int (nI (zbi rs)), .int (nI (1)), .int (dr), .int (nI (sd)), .ref (a + 1), .ref (a + 2)])) := by rw [eh7x]; exact va_up_self _ _ _
    have sw8 : zsm h1 h7x (zon (a)) := zsm.rf.up eh7x rfl
    have zw8 : zsh h1 h7x := zsh.obj eh7x g1
    refine zp_aload_n dX11_seed_197 rfl ?_
    refine zp_dup dX11_seed_198 rfl ?_
    refine zp_get dX11_seed_199 gX11_294_9 k7_1 rfl ?_
    refine zp_iconst (v := nI (1)) dX11_seed_202 (by decide) ?_
    refine zn_iadd dX11_seed_203 ?_
    refine zp_put (fs' := [.int (nI (zbi tr)), .int (nI (kd)), .int (nI (st)), .int (nI (iv)), .int (nI (zbi rs)), .int (nI (1)), .int (dr), .int (nI ((sd) + (1))), .ref (a + 1), .ref (a + 2)]) dX11_seed_204 pX11_294_9 (by omega) k7_1 (Nat.le_of_ble_eq_true rfl) (zfit_i _) rfl ?_
    refine zp_nh (fun h9x eh9x => ?_)
    have k9_0 := (congrFun eh9x (64)).trans ((va_up_ne _ _ (by omega)).trans k7_0)
    have k9_1 : h9x (a) = some (.inl (9, [.int (nI (zbi tr)), .int (nI (kd)), .int (nI (st)), .int (nI (iv)), .int (nI (zbi rs)), .int (nI (1)), .int (dr), .int (nI ((sd) + (1))), .ref (a + 1), .ref (a + 2)])) := by rw [eh9x]; exact va_up_self _ _ _
    have sw10 : zsm h7x h9x (zon (a)) := zsm.rf.up eh9x rfl
    have zw10 : zsh h7x h9x := zsh.obj eh9x k7_1
    refine zp_pc (pc' := 207) rfl ?_
    refine zp_ret (v := none) dX11_seed_207 ⟨rfl, rfl⟩ (by decide) (by decide) ?_
    rw [hQ]
    exact ⟨rfl, rfl, s1.trans (((sw8).mono (fun i hi => by unfold zsS; unfold zon at hi; omega)).trans ((sw10).mono (fun i hi => by unfold zsS; unfold zon at hi; omega))), z1.trans ((zw8).trans zw10), ⟨_, k9_0⟩, ((w1).keep (sw8 _ (by unfold zon; omega))).keep (sw10 _ (by unfold zon; omega)), k9_1, ((v1).keep (sw8 _ (by unfold zon; omega))).keep (sw10 _ (by unfold zon; omega)), ((c1).keep (sw8 _ (by unfold zon; omega))).keep (sw10 _ (by unfold zon; omega))⟩
  have kt11 : ∀ (h1 : ZH), zsm h4 h1 (zs99 a) → zsh h4 h1 → zar h1 (a + 1) 111 (zV0 kd sd V) → zar h1 (a + 2) 111 (zC0 kd sd C) → zP g mX11_seed (zR 7 0 0) Qf 0 0 92 [some (.ref (64)), some (.ref (a)), some (.int (nI (zbi ft))), some (.int (nI (A.length))), some (.int (nI ((zdem kd st (zsd kd) sd)))), none] [] h1 n := by
    intro h1 s1 z1 V1 C1
    have o1 : h1 64 = some (.inl (10, [.int (th), .ref (65), .ref (66), .ref (67), .ref (68), .ref (69), .ref (70), .ref (71), .ref (72), .ref (73), .ref (74), .ref (75), .ref (76), .ref (77), .ref (78), .ref (79), .ref (80), .ref (81), .ref (82), .ref (83), .ref (84), .int (nI ((xs.drop (zdem kd st (zsd kd) sd)).length)), .int (nI (zbi un)), .int (rp), .int (wi), .int (pa), .int (be), .int (ru), .int (sa), .int (me), .int (se), .int (ta + nI (zdem kd st (zsd kd) sd)), .int (fa), .ref (85), .ref (86), .ref (87), .int (nI (mn)), .ref (88), .ref (89), .ref (90), .ref (91), .ref (92), .ref (93), .int (nI (tp)), .ref (94), .int (nI (ou))])) := (s1 _ (by unfold zs99; omega)).trans oT
    have g1 : h1 a = some (.inl (9, [.int (nI (zbi tr)), .int (nI (kd)), .int (nI (st)), .int (nI (iv)), .int (nI (zbi rs)), .int (nI (ct)), .int (dr), .int (nI (sd)), .ref (a + 1), .ref (a + 2)])) := (s1 _ (by unfold zs99; omega)).trans gT
    have r1 := rT.keep (s1 85 (by unfold zs99; omega))
    have w1 := wT.keep (s1 84 (by unfold zs99; omega))
    have A1 := (hA.keep (sT 93 (by unfold zst3; omega))).keep (s1 93 (by unfold zs99; omega))
    have sH : zsm h h1 (zsS a) := (sT.mono (fun i hi => by unfold zsS; unfold zst3 at hi; omega)).trans (s1.mono (fun i hi => by unfold zsS; unfold zs99 at hi; omega))
    have zH : zsh h h1 := zT.trans z1
    have W1 := hw.sh sH zH (fun i q => by unfold zsS at q; unfold zwf; omega)
    refine zp_aload_n dX11_seed_92 rfl ?_
    refine zp_get dX11_seed_93 gX11_271_9 g1 rfl ?_
    refine zp_iconst (v := nI (2)) dX11_seed_96 (by decide) ?_
    refine zp_pc (pc' := 97) rfl ?_
    refine zn_icmp_ge (tgt := 112) dX11_seed_97 (by decide) (by omega) (by omega) (fun c97 => ?_) (fun c97 => ?_)
    · refine zp_aload_n dX11_seed_112 rfl ?_
      refine zp_get dX11_seed_113 gX11_271_9 g1 rfl ?_
      refine zp_iconst (v := nI (4)) dX11_seed_116 (by decide) ?_
      refine zp_pc (pc' := 117) rfl ?_
      refine zn_icmp_ge (tgt := 184) dX11_seed_117 (by decide) (by omega) (by omega) (fun c117 => ?_) (fun c117 => ?_)
      · refine zp_aload_n dX11_seed_184 rfl ?_
        refine zp_aload_n dX11_seed_185 rfl ?_
        refine zp_iload dX11_seed_186 rfl ?_
        refine zp_iload_n dX11_seed_188 rfl ?_
        refine zp_pc (pc' := 189) rfl ?_
        have eC : (zC0 kd sd C).length = zkl (zod kd) := by rw [lC0, zcN_hi hkd (by omega)]
        have eV : (zV0 kd sd V).length = 16 := by rw [lV0]; exact if_neg (by omega)
        have rl : (nI (zdem kd st (zsd kd) sd)) = nI (xs.take (zdem kd st (zsd kd) sd)).length := by rw [lR]
        refine zp_callV (As := [.ref (a), .int (nI ((zdem kd st (zsd kd) sd))), .int (nI (A.length))]) (k := 64) (st := []) (ci := 10) dX11_seed_189 cX11_290 rfl o1 rfl rfl (by rw [rl]; exact e_zseedC W1 o1 g1 ha hkd (by omega) V1 C1 eV eC r1 A1 (fun q => by rw [lR]; unfold zdem; rw [if_pos q])) (by decide) (by decide) (Nat.le_of_ble_eq_true rfl) (fun v12 h12 n12 q12 => ?_)
        obtain ⟨rfl, N12, s12, z12, ⟨mn3, o12⟩, v12, c12⟩ := q12
        rw [N12]
        refine zp_nrm (cells' := 0) (slots' := 0) (st' := []) rfl rfl rfl ?_
        have m13 : h12 (a) = some (.inl (9, [.int (nI (zbi tr)), .int (nI (kd)), .int (nI (st)), .int (nI (iv)), .int (nI (zbi rs)), .int (nI (ct)), .int (dr), .int (nI (sd)), .ref (a + 1), .ref (a + 2)])) := (s12 _ (by unfold zsg; omega)).trans g1
        refine zp_pc (pc' := 192) rfl ?_
        exact kt6 h12 (sH.trans ((s12).mono (fun i hi => by unfold zsS; unfold zsg at hi; omega))) (zH.trans (z12)) ⟨_, o12⟩ ((w1).keep (s12 _ (by unfold zsg; omega))) m13 (by rw [zpl_C _ _ _ _ (by omega)]; exact v12) (by rw [zpl_C _ _ _ _ (by omega)]; exact c12)
      · have hk2 : 2 ≤ kd := by omega
        have hsd := zmacN hkd hk2 c117
        have eC : (zC0 kd sd C).length = 8 * zwb (zod kd) := by rw [lC0, ← hsd]; exact if_pos c117
        have eV : (zV0 kd sd V).length = 8 * zwb (zod kd) := by rw [lV0, ← hsd]; exact if_pos c117
        obtain ⟨if14, ih14⟩ := id (W1.m90)
        obtain ⟨la15, lb15, lc15, lf15, ld15, le15⟩ := id r1
        obtain ⟨la16, lb16, lc16, lf16, ld16, le16⟩ := id A1
        have lM : ((xs.take (zdem kd st (zsd kd) sd)) ++ A).length = (zdem kd st (zsd kd) sd) + A.length := by rw [List.length_append, lR]
        refine zp_iconst (v := nI (0)) dX11_seed_120 (by decide) ?_
        refine zp_istore (ls' := [some (.ref (64)), some (.ref (a)), some (.int (nI (zbi ft))), some (.int (nI (A.length))), some (.int (nI ((zdem kd st (zsd kd) sd)))), some (.int (nI (0)))]) dX11_seed_121 (by decide) rfl ?_
        refine zp_pc (pc' := 123) rfl ?_
        have lp17 : zP g mX11_seed (zR 7 0 0) Qf 0 0 172 [some (.ref (64)), some (.ref (a)), some (.int (nI (zbi ft))), some (.int (nI (A.length))), some (.int (nI ((zdem kd st (zsd kd) sd)))), some (.int (nI (((zdem kd st (zsd kd) sd)) + (A.length))))] [] (va_up h1 (90) (some (.inr (400, .inl (zfl if14 (0) (((zdem kd st (zsd kd) sd)) + (A.length)) (fun i => nI (((xs.take (zdem kd st (zsd kd) sd)) ++ A).getD i 0))))))) n → ∀ (m k17 : Nat), m = (((zdem kd st (zsd kd) sd)) + (A.length)) - k17 → k17 ≤ (((zdem kd st (zsd kd) sd)) + (A.length)) → zP g mX11_seed (zR 7 0 0) Qf 0 0 123 [some (.ref (64)), some (.ref (a)), some (.int (nI (zbi ft))), some (.int (nI (A.length))), some (.int (nI ((zdem kd st (zsd kd) sd)))), some (.int (nI (k17)))] [] (va_up h1 (90) (some (.inr (400, .inl (zfl if14 (0) (k17) (fun i => nI (((xs.take (zdem kd st (zsd kd) sd)) ++ A).getD i 0))))))) n := by
          intro kk m
          induction m using Nat.strongRecOn with
          | _ m ih =>
            intro k17 hm17 hk17
            refine zp_nh (fun hX17 eX17 => ?_)
            have k18_0 := (congrFun eX17 (64)).trans ((va_up_ne _ _ (by omega)).trans o1)
            have k18_1 := (congrFun eX17 (a)).trans ((va_up_ne _ _ (by omega)).trans g1)
            have k18_2 : hX17 (90) = some (.inr (400, .inl (zfl if14 (0) (k17) (fun i => nI (((xs.take (zdem kd st (zsd kd) sd)) ++ A).getD i 0))))) := by rw [eX17]; exact va_up_self _ _ _
            have k18_3 := (congrFun eX17 (85)).trans ((va_up_ne _ _ (by omega)).trans ld15)
            have k18_4 := (congrFun eX17 (93)).trans ((va_up_ne _ _ (by omega)).trans ld16)
            refine zp_iload dX11_seed_123 rfl ?_
            refine zp_iload dX11_seed_125 rfl ?_
            refine zp_iload_n dX11_seed_127 rfl ?_
            refine zn_iadd dX11_seed_128 ?_
            refine zp_pc (pc' := 129) rfl ?_
            refine zn_icmp_ge (tgt := 172) dX11_seed_129 (by decide) (by omega) (by omega) (fun c129 => ?_) (fun c129 => ?_)
            · have e17 : k17 = (((zdem kd st (zsd kd) sd)) + (A.length)) := by omega
              subst e17
              rw [eX17]
              exact kk
            · refine zp_aload_n dX11_seed_132 rfl ?_
              refine zp_get dX11_seed_133 gX11_105_10 k18_0 rfl ?_
              refine zp_iload dX11_seed_136 rfl ?_
              refine zp_iload dX11_seed_138 rfl ?_
              refine zp_iload dX11_seed_140 rfl ?_
              refine zp_pc (pc' := 142) rfl ?_
              have jn19 : zP g mX11_seed (zR 7 0 0) Qf 0 0 165 [some (.ref (64)), some (.ref (a)), some (.int (nI (zbi ft))), some (.int (nI (A.length))), some (.int (nI ((zdem kd st (zsd kd) sd)))), some (.int (nI (k17)))] [.int (nI (((xs.take (zdem kd st (zsd kd) sd)) ++ A).getD k17 0)), .int (nI (k17)), .ref (90)] hX17 n → zP g mX11_seed (zR 7 0 0) Qf 0 0 142 [some (.ref (64)), some (.ref (a)), some (.int (nI (zbi ft))), some (.int (nI (A.length))), some (.int (nI ((zdem kd st (zsd kd) sd)))), some (.int (nI (k17)))] [.int (nI ((zdem kd st (zsd kd) sd))), .int (nI (k17)), .int (nI (k17)), .ref (90)] hX17 n := by
                intro jk19
                refine zn_icmp_ge (tgt := 155) dX11_seed_142 (by decide) (by omega) (by omega) (fun c142 => ?_) (fun c142 => ?_)
                · refine zp_aload_n dX11_seed_155 rfl ?_
                  refine zp_get dX11_seed_156 gX11_114_10 k18_0 rfl ?_
                  refine zp_iload dX11_seed_159 rfl ?_
                  refine zp_iload dX11_seed_161 rfl ?_
                  refine zn_isub dX11_seed_163 (by omega) ?_
                  refine zp_pc (pc' := 164) rfl ?_
                  refine zn_iald (j := (k17) - ((zdem kd st (zsd kd) sd))) dX11_seed_164 k18_4 (by omega) (by omega) ?_
                  refine zp_i (y := nI (((xs.take (zdem kd st (zsd kd) sd)) ++ A).getD k17 0)) (by rw [le16 _ (by omega), zapp_get, lR, if_neg (by omega)]) ?_
                  exact jk19
                · refine zp_aload_n dX11_seed_145 rfl ?_
                  refine zp_get dX11_seed_146 gX11_87_10 k18_0 rfl ?_
                  refine zp_iload dX11_seed_149 rfl ?_
                  refine zp_pc (pc' := 151) rfl ?_
                  refine zn_iald (j := k17) dX11_seed_151 k18_3 (by omega) (by omega) ?_
                  refine zp_i (y := nI (((xs.take (zdem kd st (zsd kd) sd)) ++ A).getD k17 0)) (by rw [le15 _ (by omega), zapp_get, lR, if_pos c142]) ?_
                  refine zp_goto (tgt := 165) dX11_seed_152 (by decide) ?_
                  refine zp_pc (pc' := 165) rfl ?_
                  exact jk19
              refine jn19 ?_
              refine zn_iast dX11_seed_165 (by omega) k18_2 (by omega) (by omega) ?_
              refine zp_nh (fun h20x eh20x => ?_)
              have k20_0 := (congrFun eh20x (64)).trans ((va_up_ne _ _ (by omega)).trans k18_0)
              have k20_1 := (congrFun eh20x (a)).trans ((va_up_ne _ _ (by omega)).trans k18_1)
              have k20_2 : h20x (90) = some (.inr (400, .inl (va_up (zfl if14 (0) (k17) (fun i => nI (((xs.take (zdem kd st (zsd kd) sd)) ++ A).getD i 0))) (k17) (nI (((xs.take (zdem kd st (zsd kd) sd)) ++ A).getD k17 0))))) := by rw [eh20x]; exact va_up_self _ _ _
              have k20_3 := (congrFun eh20x (85)).trans ((va_up_ne _ _ (by omega)).trans k18_3)
              have k20_4 := (congrFun eh20x (93)).trans ((va_up_ne _ _ (by omega)).trans k18_4)
              have sw21 : zsm hX17 h20x (zon (90)) := zsm.rf.up eh20x rfl
              have zw21 : zsh hX17 h20x := zsh.fill eh20x k18_2
              refine zp_pc (pc' := 166) rfl ?_
              refine zn_iinc 1 (ls' := [some (.ref (64)), some (.ref (a)), some (.int (nI (zbi ft))), some (.int (nI (A.length))), some (.int (nI ((zdem kd st (zsd kd) sd)))), some (.int (nI (k17 + 1)))]) dX11_seed_166 (by decide) (by decide) rfl rfl ?_
              refine zp_goto (tgt := 123) dX11_seed_169 (by decide) ?_
              refine zp_pc (pc' := 123) rfl ?_
              rw [zfl_step eX17 eh20x (by omega) rfl]
              exact ih ((((zdem kd st (zsd kd) sd)) + (A.length)) - (k17 + 1)) (by omega) (k17 + 1) rfl (by omega)
        suffices K17 : zP g mX11_seed (zR 7 0 0) Qf 0 0 172 [some (.ref (64)), some (.ref (a)), some (.int (nI (zbi ft))), some (.int (nI (A.length))), some (.int (nI ((zdem kd st (zsd kd) sd)))), some (.int (nI (((zdem kd st (zsd kd) sd)) + (A.length))))] [] (va_up h1 (90) (some (.inr (400, .inl (zfl if14 (0) (((zdem kd st (zsd kd) sd)) + (A.length)) (fun i => nI (((xs.take (zdem kd st (zsd kd) sd)) ++ A).getD i 0))))))) n by
          have q := lp17 K17 ((((zdem kd st (zsd kd) sd)) + (A.length)) - 0) 0 rfl (Nat.zero_le _)
          rw [zfl_0, zup_same ih14] at q
          exact q
        refine zp_nh (fun hY17 eY17 => ?_)
        have k22_0 := (congrFun eY17 (64)).trans ((va_up_ne _ _ (by omega)).trans o1)
        have k22_1 := (congrFun eY17 (a)).trans ((va_up_ne _ _ (by omega)).trans g1)
        have k22_2 : hY17 (90) = some (.inr (400, .inl (zfl if14 (0) (((zdem kd st (zsd kd) sd)) + (A.length)) (fun i => nI (((xs.take (zdem kd st (zsd kd) sd)) ++ A).getD i 0))))) := by rw [eY17]; exact va_up_self _ _ _
        have k22_3 := (congrFun eY17 (85)).trans ((va_up_ne _ _ (by omega)).trans ld15)
        have k22_4 := (congrFun eY17 (93)).trans ((va_up_ne _ _ (by omega)).trans ld16)
        have sf23 := (zsm.fill eY17)
        have zf23 := zsh.fill eY17 ih14
        refine zp_aload_n dX11_seed_172 rfl ?_
        refine zp_aload_n dX11_seed_173 rfl ?_
        refine zp_iload dX11_seed_174 rfl ?_
        refine zp_iload_n dX11_seed_176 rfl ?_
        refine zp_pc (pc' := 177) rfl ?_
        refine zn_iadd dX11_seed_177 ?_
        refine zp_i (y := nI (((xs.take (zdem kd st (zsd kd) sd)) ++ A).length)) (by rw [lM]) ?_
        have aM : zar hY17 90 400 ((xs.take (zdem kd st (zsd kd) sd)) ++ A) := zar.mk (L := (zdem kd st (zsd kd) sd) + A.length) k22_2 lM (by omega) (by decide) (zapp_lt lc15 lc16) (fun j hj => zfl_in0 hj)
        have W24 := zmw.sh W1 ((sf23).mono (fun i hi => by unfold zwf; unfold zon at hi; omega)) (zf23) (fun i hi => hi)
        refine zp_callV (As := [.ref (a), .int (nI (((xs.take (zdem kd st (zsd kd) sd)) ++ A).length))]) (k := 64) (st := []) (ci := 10) dX11_seed_178 cX11_261 rfl k22_0 rfl rfl (e_zmixM W24 k22_0 k22_1 ha hkd hk2 c117 ((V1).keep (sf23 _ (by unfold zon; omega))) ((C1).keep (sf23 _ (by unfold zon; omega))) eV eC aM (by omega)) (by decide) (by decide) (Nat.le_of_ble_eq_true rfl) (fun v25 h25 n25 q25 => ?_)
        obtain ⟨rfl, N25, s25, z25, ⟨mn3, o25⟩, v25, c25⟩ := q25
        rw [N25]
        refine zp_nrm (cells' := 0) (slots' := 0) (st' := []) rfl rfl rfl ?_
        have m26 : h25 (a) = some (.inl (9, [.int (nI (zbi tr)), .int (nI (kd)), .int (nI (st)), .int (nI (iv)), .int (nI (zbi rs)), .int (nI (ct)), .int (dr), .int (nI (sd)), .ref (a + 1), .ref (a + 2)])) := (s25 _ (by unfold zsm9; omega)).trans k22_1
        have m27 : h25 (90) = some (.inr (400, .inl (zfl if14 (0) (((zdem kd st (zsd kd) sd)) + (A.length)) (fun i => nI (((xs.take (zdem kd st (zsd kd) sd)) ++ A).getD i 0))))) := (s25 _ (by unfold zsm9; omega)).trans k22_2
        have m28 : h25 (85) = some (.inr (100, .inl lf15)) := (s25 _ (by unfold zsm9; omega)).trans k22_3
        have m29 : h25 (93) = some (.inr (240, .inl lf16)) := (s25 _ (by unfold zsm9; omega)).trans k22_4
        refine zp_goto (tgt := 192) dX11_seed_181 (by decide) ?_
        refine zp_pc (pc' := 192) rfl ?_
        refine zp_drop (ls' := [some (.ref (64)), some (.ref (a)), some (.int (nI (zbi ft))), some (.int (nI (A.length))), some (.int (nI ((zdem kd st (zsd kd) sd)))), none]) (fun i v hv => ?_) ?_
        · rcases i with _ | _ | _ | _ | _ | _ | i <;> simp at hv ⊢ <;> exact hv
        exact kt6 h25 (sH.trans (((sf23).mono (fun i hi => by unfold zsS; unfold zon at hi; omega)).trans ((s25).mono (fun i hi => by unfold zsS; unfold zsm9 at hi; omega)))) (zH.trans ((zf23).trans z25)) ⟨_, o25⟩ (((w1).keep (sf23 _ (by unfold zon; omega))).keep (s25 _ (by unfold zsm9; omega))) m26 (by rw [zpl_M _ _ _ _ hk2 c117]; exact v25) (by rw [zpl_M _ _ _ _ hk2 c117]; exact c25)
    · refine zp_aload_n dX11_seed_100 rfl ?_
      refine zp_aload_n dX11_seed_101 rfl ?_
      refine zp_iload_n dX11_seed_102 rfl ?_
      refine zp_iload dX11_seed_103 rfl ?_
      refine zp_iload_n dX11_seed_105 rfl ?_
      refine zp_pc (pc' := 106) rfl ?_
      have rl : (nI (zdem kd st (zsd kd) sd)) = nI (xs.take (zdem kd st (zsd kd) sd)).length := by rw [lR]
      have eX : (if ft = true then [] else 1 :: (zV0 kd sd V)) = (if sd = 0 then [] else 1 :: V : List Nat) := by unfold zV0; by_cases q : sd = 0
              · rw [if_pos (hft.mpr q), if_pos q]
              · rw [if_neg (fun u => q (hft.mp u)), if_neg q, if_neg q]
      refine zp_callV (As := [.ref (a), .int (nI (zbi ft)), .int (nI ((zdem kd st (zsd kd) sd))), .int (nI (A.length))]) (k := 64) (st := []) (ci := 10) dX11_seed_106 cX11_286 rfl o1 rfl rfl (by rw [rl]; exact e_zseedD W1 o1 g1 ha hkd c97 V1 C1.ia r1 A1 (fun q => by rw [lV0]; exact if_pos (by omega))) (by decide) (by decide) (Nat.le_of_ble_eq_true rfl) (fun v30 h30 n30 q30 => ?_)
      obtain ⟨rfl, N30, s30, z30, ⟨mn3, o30⟩, v30, c30⟩ := q30
      rw [N30]
      refine zp_nrm (cells' := 0) (slots' := 0) (st' := []) rfl rfl rfl ?_
      have m31 : h30 (a) = some (.inl (9, [.int (nI (zbi tr)), .int (nI (kd)), .int (nI (st)), .int (nI (iv)), .int (nI (zbi rs)), .int (nI (ct)), .int (dr), .int (nI (sd)), .ref (a + 1), .ref (a + 2)])) := (s30 _ (by unfold zsg; omega)).trans g1
      rw [eX] at v30 c30
      refine zp_goto (tgt := 192) dX11_seed_109 (by decide) ?_
      refine zp_pc (pc' := 192) rfl ?_
      exact kt6 h30 (sH.trans ((s30).mono (fun i hi => by unfold zsS; unfold zsg at hi; omega))) (zH.trans (z30)) ⟨_, o30⟩ ((w1).keep (s30 _ (by unfold zsg; omega))) m31 (by rw [zpl_D _ _ _ _ c97]; exact v30) (by rw [zpl_D _ _ _ _ c97]; exact c30)
  refine zn_if_eq (tgt := 92) dX11_seed_37 (by decide) (by have := zbi_lt ft; omega) (fun c37 => ?_) (fun c37 => ?_)
  · have sn : sd ≠ 0 := fun q => by have := hft.mpr q; subst this; exact absurd c37 (by decide)
    exact kt11 h4 zsm.rf zsh.rf (by unfold zV0; rw [if_neg sn]; exact vT) (by unfold zC0; rw [if_neg sn]; exact cT)
  · have s0 : sd = 0 := hft.mp (by cases ft; exact absurd rfl c37; rfl)
    obtain ⟨fv, ev⟩ := vT.ia
    obtain ⟨fc, ec⟩ := cT.ia
    refine zp_iconst (v := nI (0)) dX11_seed_40 (by decide) ?_
    refine zp_istore (ls' := [some (.ref (64)), some (.ref (a)), some (.int (nI (zbi ft))), some (.int (nI (A.length))), some (.int (nI ((zdem kd st (zsd kd) sd)))), some (.int (nI (0)))]) dX11_seed_41 (by decide) rfl ?_
    refine zp_pc (pc' := 43) rfl ?_
    have lp : ∀ (m : Nat) (k : Nat) (h1 : ZH) (gv gc : Nat → Int32), m = 111 - k → k ≤ 111 → zsm h4 h1 (zs99 a) → zsh h4 h1 → h1 (a + 1) = some (.inr (111, .inl gv)) → h1 (a + 2) = some (.inr (111, .inl gc)) → (∀ j, j < k → gv j = nI (zin kd)) → (∀ j, j < k → gc j = nI 0) → zP g mX11_seed (zR 7 0 0) Qf 0 0 43 [some (.ref (64)), some (.ref (a)), some (.int (nI (zbi ft))), some (.int (nI (A.length))), some (.int (nI ((zdem kd st (zsd kd) sd)))), some (.int (nI (k)))] [] h1 n := by
      intro m
      induction m using Nat.strongRecOn with
      | _ m ih =>
        intro k h1 gv gc hm1 hk1 s1 z1 v1 c1 qv qc
        have g1 : h1 a = some (.inl (9, [.int (nI (zbi tr)), .int (nI (kd)), .int (nI (st)), .int (nI (iv)), .int (nI (zbi rs)), .int (nI (ct)), .int (dr), .int (nI (sd)), .ref (a + 1), .ref (a + 2)])) := (s1 _ (by unfold zs99; omega)).trans gT
        refine zp_iload dX11_seed_43 rfl ?_
        refine zp_bipush (v := nI (111)) dX11_seed_45 (by decide) ?_
        refine zp_pc (pc' := 47) rfl ?_
        refine zn_icmp_ge (tgt := 92) dX11_seed_47 (by decide) (by omega) (by omega) (fun c47 => ?_) (fun c47 => ?_)
        · have ek : k = 111 := by omega
          refine zp_pc (pc' := 92) rfl ?_
          refine zp_drop (ls' := [some (.ref (64)), some (.ref (a)), some (.int (nI (zbi ft))), some (.int (nI (A.length))), some (.int (nI ((zdem kd st (zsd kd) sd)))), none]) (fun i v hv => ?_) ?_
          · rcases i with _ | _ | _ | _ | _ | _ | i <;> simp at hv ⊢ <;> exact hv
          exact kt11 h1 s1 z1 (by unfold zV0; rw [if_pos s0]; exact zar.mk (L := zvN kd) v1 List.length_replicate vN (by decide) (zrep_lt (zin_lt kd)) (fun j hj => by rw [qv j (by omega), zrep_get, if_pos hj])) (by unfold zC0; rw [if_pos s0]; exact zar.mk (L := zcN kd) c1 List.length_replicate cN (by decide) (zrep_lt (by decide)) (fun j hj => by rw [qc j (by omega), zrep_get, if_pos hj]))
        · refine zp_aload_n dX11_seed_50 rfl ?_
          refine zp_get dX11_seed_51 gX11_226_9 g1 rfl ?_
          refine zp_iload dX11_seed_54 rfl ?_
          refine zp_aload_n dX11_seed_56 rfl ?_
          refine zp_get dX11_seed_57 gX11_271_9 g1 rfl ?_
          refine zp_iconst (v := nI (2)) dX11_seed_60 (by decide) ?_
          refine zp_pc (pc' := 61) rfl ?_
          have jn32 : zP g mX11_seed (zR 7 0 0) Qf 0 0 77 [some (.ref (64)), some (.ref (a)), some (.int (nI (zbi ft))), some (.int (nI (A.length))), some (.int (nI ((zdem kd st (zsd kd) sd)))), some (.int (nI (k)))] [.int (nI (zin kd)), .int (nI (k)), .ref (a + 1)] h1 n → zP g mX11_seed (zR 7 0 0) Qf 0 0 61 [some (.ref (64)), some (.ref (a)), some (.int (nI (zbi ft))), some (.int (nI (A.length))), some (.int (nI ((zdem kd st (zsd kd) sd)))), some (.int (nI (k)))] [.int (nI (2)), .int (nI (kd)), .int (nI (k)), .ref (a + 1)] h1 n := by
            intro jk32
            refine zn_icmp_eq (tgt := 72) dX11_seed_61 (by decide) (by omega) (by omega) (fun c61 => ?_) (fun c61 => ?_)
            · refine zp_iconst (v := nI (1)) dX11_seed_72 (by decide) ?_
              refine zp_goto (tgt := 77) dX11_seed_73 (by decide) ?_
              refine zp_pc (pc' := 77) rfl ?_
              refine zp_i (y := nI (zin kd)) (by unfold zin; rw [if_pos (Or.inl c61)]) ?_
              exact jk32
            · refine zp_aload_n dX11_seed_64 rfl ?_
              refine zp_get dX11_seed_65 gX11_271_9 g1 rfl ?_
              refine zp_iconst (v := nI (3)) dX11_seed_68 (by decide) ?_
              refine zp_pc (pc' := 69) rfl ?_
              refine zn_icmp_ne (tgt := 76) dX11_seed_69 (by decide) (by omega) (by omega) (fun c69 => ?_) (fun c69 => ?_)
              · refine zp_iconst (v := nI (0)) dX11_seed_76 (by decide) ?_
                refine zp_pc (pc' := 77) rfl ?_
                refine zp_i (y := nI (zin kd)) (by unfold zin; rw [if_neg (fun q => q.elim c61 c69)]) ?_
                exact jk32
              · refine zp_iconst (v := nI (1)) dX11_seed_72 (by decide) ?_
                refine zp_goto (tgt := 77) dX11_seed_73 (by decide) ?_
                refine zp_pc (pc' := 77) rfl ?_
                refine zp_i (y := nI (zin kd)) (by unfold zin; rw [if_pos (Or.inr c69)]) ?_
                exact jk32
          refine jn32 ?_
          refine zn_iast dX11_seed_77 (by omega) v1 (by omega) (by omega) ?_
          refine zp_nh (fun h33x eh33x => ?_)
          have k33_0 := (congrFun eh33x (a)).trans ((va_up_ne _ _ (by omega)).trans g1)
          have k33_1 : h33x (a + 1) = some (.inr (111, .inl (va_up gv (k) (nI (zin kd))))) := by rw [eh33x]; exact va_up_self _ _ _
          have k33_2 := (congrFun eh33x (a + 2)).trans ((va_up_ne _ _ (by omega)).trans c1)
          have sw34 : zsm h1 h33x (zon (a + 1)) := zsm.rf.up eh33x rfl
          have zw34 : zsh h1 h33x := zsh.fill eh33x v1
          refine zp_aload_n dX11_seed_78 rfl ?_
          refine zp_get dX11_seed_79 gX11_243_9 k33_0 rfl ?_
          refine zp_iload dX11_seed_82 rfl ?_
          refine zp_iconst (v := nI (0)) dX11_seed_84 (by decide) ?_
          refine zn_iast dX11_seed_85 (by omega) k33_2 (by omega) (by omega) ?_
          refine zp_nh (fun h35x eh35x => ?_)
          have k35_0 := (congrFun eh35x (a)).trans ((va_up_ne _ _ (by omega)).trans k33_0)
          have k35_1 := (congrFun eh35x (a + 1)).trans ((va_up_ne _ _ (by omega)).trans k33_1)
          have k35_2 : h35x (a + 2) = some (.inr (111, .inl (va_up gc (k) (nI (0))))) := by rw [eh35x]; exact va_up_self _ _ _
          have sw36 : zsm h33x h35x (zon (a + 2)) := zsm.rf.up eh35x rfl
          have zw36 : zsh h33x h35x := zsh.fill eh35x k33_2
          refine zn_iinc 1 (ls' := [some (.ref (64)), some (.ref (a)), some (.int (nI (zbi ft))), some (.int (nI (A.length))), some (.int (nI ((zdem kd st (zsd kd) sd)))), some (.int (nI (k + 1)))]) dX11_seed_86 (by decide) (by decide) rfl rfl ?_
          refine zp_goto (tgt := 43) dX11_seed_89 (by decide) ?_
          refine zp_pc (pc' := 43) rfl ?_
          refine ih (111 - (k + 1)) (by omega) (k + 1) h35x _ _ rfl (by omega) (s1.trans (((sw34).mono (fun i hi => by unfold zs99; unfold zon at hi; omega)).trans ((sw36).mono (fun i hi => by unfold zs99; unfold zon at hi; omega)))) (z1.trans ((zw34).trans zw36)) k35_1 k35_2 (fun j hj => ?_) (fun j hj => ?_)
          · by_cases e : j = k
            · subst e; exact va_up_self _ _ _
            · rw [va_up_ne _ _ e]; exact qv j (by omega)
          · by_cases e : j = k
            · subst e; exact va_up_self _ _ _
            · rw [va_up_ne _ _ e]; exact qc j (by omega)
    exact lp _ 0 h4 fv fc rfl (Nat.zero_le _) zsm.rf zsh.rf ev ec (fun j hj => absurd hj (by omega)) (fun j hj => absurd hj (by omega))
