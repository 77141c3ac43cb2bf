def zin (kd : Nat) : Nat := if kd = 2 ∨ kd = 3 then 1 else 0
def zV0 (kd sd : Nat) (V : List Nat) : List Nat := if sd = 0 then List.replicate (zvN kd) (zin kd) else V
def zC0 (kd sd : Nat) (C : List Nat) : List Nat := if sd = 0 then List.replicate (zcN kd) 0 else C
theorem zrep_lt {n v : Nat} (h : v < 256) : ∀ x ∈ List.replicate n v, x < 256 := fun x hx => by rw [(List.mem_replicate.mp hx).2]; exact h
theorem zin_lt (kd : Nat) : zin kd < 256 := by unfold zin; split <;> decide
abbrev zsS (a : Nat) : Nat → Prop := fun i => i = 64 ∨ (70 ≤ i ∧ i ≤ 76) ∨ (78 ≤ i ∧ i ≤ 85) ∨ (87 ≤ i ∧ i ≤ 92) ∨ i = a ∨ i = a + 1 ∨ i = a + 2
abbrev zs99 (a : Nat) : Nat → Prop := fun i => i = a + 1 ∨ i = a + 2
theorem zpl_D {kd sd : Nat} (V C R A : List Nat) (h : kd < 2) : zpl kd sd V C R A = (zder (zod kd) ((if sd = 0 then [] else 1 :: V) ++ R ++ A) (zsd kd), zder (zod kd) (0 :: zder (zod kd) ((if sd = 0 then [] else 1 :: V) ++ R ++ A) (zsd kd)) (zsd kd)) := if_pos h
theorem zpl_M {kd sd : Nat} (V C R A : List Nat) (h : 2 ≤ kd) (h4 : kd < 4) : zpl kd sd V C R A = ((zmix (zod kd) (R ++ A) (zC0 kd sd C, zV0 kd sd V)).2, (zmix (zod kd) (R ++ A) (zC0 kd sd C, zV0 kd sd V)).1) := by
  have e1 : zcN kd = zsd kd := if_pos h4
  have e2 : zvN kd = zsd kd := if_pos h4
  have e3 : zin kd = 1 := if_pos (by omega)
  unfold zpl zC0 zV0
  rw [if_neg (by omega), if_pos h4, e1, e2, e3]
theorem zpl_C {kd sd : Nat} (V C R A : List Nat) (h4 : 4 ≤ kd) : zpl kd sd V C R A = (zcmV (zod kd) (zC0 kd sd C) (zV0 kd sd V) (if kd < 6 then zdce (zod kd) (R ++ A) (zsd kd) else zxor (zpart R 0 (zsd kd)) A 0), zcmK (zod kd) (zC0 kd sd C) (zV0 kd sd V) (if kd < 6 then zdce (zod kd) (R ++ A) (zsd kd) else zxor (zpart R 0 (zsd kd)) A 0)) := by
  have e2 : zvN kd = 16 := if_neg (by omega)
  have e3 : zin kd = 0 := if_neg (by omega)
  unfold zpl zC0 zV0
  rw [if_neg (by omega), if_neg (by omega), e2, e3]
set_option maxRecDepth 10000 in
set_option maxHeartbeats 2000000 in
theorem e_zseedA {g : ZG} {h : ZH} {n : Nat} {a kd st iv ct sd : Nat} {tr rs : Bool} {dr : Int32} {V C A xs : List Nat} {ft : Bool} {th : Int32} {un : Bool} {rp wi pa be ru sa me se ta fa : Int32} {mn tp ou : Nat} (hw : zmw h) (ho : h 64 = some (.inl (10, [.int (th), .ref (65), .ref (66), .ref (67), .ref (68), .ref (69), .ref (70), .ref (71), .ref (72), .ref (73), .ref (74), .ref (75), .ref (76), .ref (77), .ref (78), .ref (79), .ref (80), .ref (81), .ref (82), .ref (83), .ref (84), .int (nI (xs.length)), .int (nI (zbi un)), .int (rp), .int (wi), .int (pa), .int (be), .int (ru), .int (sa), .int (me), .int (se), .int (ta), .int (fa), .ref (85), .ref (86), .ref (87), .int (nI (mn)), .ref (88), .ref (89), .ref (90), .ref (91), .ref (92), .ref (93), .int (nI (tp)), .ref (94), .int (nI (ou))]))) (hg : h a = some (.inl (9, [.int (nI (zbi tr)), .int (nI (kd)), .int (nI (st)), .int (nI (iv)), .int (nI (zbi rs)), .int (nI (ct)), .int (dr), .int (nI (sd)), .ref (a + 1), .ref (a + 2)]))) (ha : a = 95 ∨ a = 98 ∨ a = 101 ∨ a = 104) (hkd : kd < 8) (hst : st ≤ 256) (hx : zar h 84 1000 xs) (h85 : zia h 85 100) (hA : zar h 93 240 A) (hft : ft = true ↔ sd = 0) (hV : zar h (a + 1) 111 V) (hC : zar h (a + 2) 111 C) (lVC : ft = false → V.length = zvN kd ∧ C.length = zcN kd) (hd : (zdem kd st (zsd kd) sd) ≤ xs.length) : zMt g mX11_seed (zR 7 0 0) [.ref (64), .ref (a), .int (nI (zbi ft)), .int (nI (A.length))] h n (fun v h' n' => v = none ∧ n' = n ∧ zsm h h' (zsS a) ∧ zsh h h' ∧ (∃ mn', h' 64 = some (.inl (10, [.int (th), .ref (65), .ref (66), .ref (67), .ref (68), .ref (69), .ref (70), .ref (71), .ref (72), .ref (73), .ref (74), .ref (75), .ref (76), .ref (77), .ref (78), .ref (79), .ref (80), .ref (81), .ref (82), .ref (83), .ref (84), .int (nI ((xs.drop (zdem kd st (zsd kd) sd)).length)), .int (nI (zbi un)), .int (rp), .int (wi), .int (pa), .int (be), .int (ru), .int (sa), .int (me), .int (se), .int (ta + nI (zdem kd st (zsd kd) sd)), .int (fa), .ref (85), .ref (86), .ref (87), .int (nI (mn')), .ref (88), .ref (89), .ref (90), .ref (91), .ref (92), .ref (93), .int (nI (tp)), .ref (94), .int (nI (ou))]))) ∧ zar h' 84 1000 (xs.drop (zdem kd st (zsd kd) sd)) ∧ h' a = some (.inl (9, [.int (nI (zbi tr)), .int (nI (kd)), .int (nI (st)), .int (nI (iv)), .int (nI (zbi rs)), .int (nI (1)), .int (dr), .int (nI (sd + 1)), .ref (a + 1), .ref (a + 2)])) ∧ zar h' (a + 1) 111 (zpl kd sd V C (xs.take (zdem kd st (zsd kd) sd)) A).1 ∧ zar h' (a + 2) 111 (zpl kd sd V C (xs.take (zdem kd st (zsd kd) sd)) A).2) := by
  refine zMt.of [some (.ref (64)), some (.ref (a)), some (.int (nI (zbi ft))), some (.int (nI (A.length))), none, none] (by decide) rfl (Nat.le_of_ble_eq_true rfl) ?_
  obtain ⟨Qf, hQ⟩ : ∃ Qf : ZQ, Qf = (fun v h' n' => v = none ∧ n' = n ∧ zsm h h' (zsS a) ∧ zsh h h' ∧ (∃ mn', h' 64 = some (.inl (10, [.int (th), .ref (65), .ref (66), .ref (67), .ref (68), .ref (69), .ref (70), .ref (71), .ref (72), .ref (73), .ref (74), .ref (75), .ref (76), .ref (77), .ref (78), .ref (79), .ref (80), .ref (81), .ref (82), .ref (83), .ref (84), .int (nI ((xs.drop (zdem kd st (zsd kd) sd)).length)), .int (nI (zbi un)), .int (rp), .int (wi), .int (pa), .int (be), .int (ru), .int (sa), .int (me), .int (se), .int (ta + nI (zdem kd st (zsd kd) sd)), .int (fa), .ref (85), .ref (86), .ref (87), .int (nI (mn')), .ref (88), .ref (89), .ref (90), .ref (91), .ref (92), .ref (93), .int (nI (tp)), .ref (94), .int (nI (ou))]))) ∧ zar h' 84 1000 (xs.drop (zdem kd st (zsd kd) sd)) ∧ h' a = some (.inl (9, [.int (nI (zbi tr)), .int (nI (kd)), .int (nI (st)), .int (nI (iv)), .int (nI (zbi rs)), .int (nI (1)), .int (dr), .int (nI (sd + 1)), .ref (a + 1), .ref (a + 2)])) ∧ zar h' (a + 1) 111 (zpl kd sd V C (xs.take (zdem kd st (zsd kd) sd)) A).1 ∧ zar h' (a + 2) 111 (zpl kd sd V C (xs.take (zdem kd st (zsd kd) sd)) A).2) := ⟨_, rfl⟩
  rw [← hQ]
  have hs := zsd_le hkd
  have hdm := zdem_le (sd := sd) hkd hst
  have lA := hA.1
  have vN := zvN_le hkd
  have cN := zcN_le hkd
  have lR : (xs.take (zdem kd st (zsd kd) sd)).length = (zdem kd st (zsd kd) sd) := by rw [List.length_take]; omega
  have lV0 : (zV0 kd sd V).length = zvN kd := by unfold zV0; split; exact List.length_replicate; exact (lVC (by cases ft; rfl; exact absurd (hft.mp rfl) ‹_›)).1
  have lC0 : (zC0 kd sd C).length = zcN kd := by unfold zC0; split; exact List.length_replicate; exact (lVC (by cases ft; rfl; exact absurd (hft.mp rfl) ‹_›)).2
  refine zp_aload_n dX11_seed_0 rfl ?_
  refine zp_callV (As := []) (k := a) (st := []) (ci := 9) dX11_seed_1 cX11_281 rfl hg rfl rfl (e_zfresh hg hkd (by omega)) (by decide) (by decide) (Nat.le_of_ble_eq_true rfl) (fun v101 h101 n101 q101 => ?_)
  obtain ⟨rfl, H101, N101⟩ := q101
  rw [N101, H101]
  refine zp_nrm (cells' := 0) (slots' := 0) (st' := [.int (nI (zfr kd st))]) rfl rfl rfl ?_
  refine zp_iload_n dX11_seed_4 rfl ?_
  refine zp_pc (pc' := 5) rfl ?_
  have zfl9 : zfr kd st ≤ 111 := by unfold zfr; split <;> omega
  have jn102 : zP g mX11_seed (zR 7 0 0) Qf 0 0 28 [some (.ref (64)), some (.ref (a)), some (.int (nI (zbi ft))), some (.int (nI (A.length))), none, none] [.int (nI ((zdem kd st (zsd kd) sd)))] h n → zP g mX11_seed (zR 7 0 0) Qf 0 0 5 [some (.ref (64)), some (.ref (a)), some (.int (nI (zbi ft))), some (.int (nI (A.length))), none, none] [.int (nI (zbi ft)), .int (nI (zfr kd st))] h n := by
    intro jk102
    refine zn_if_eq (tgt := 26) dX11_seed_5 (by decide) (by have := zbi_lt ft; omega) (fun c5 => ?_) (fun c5 => ?_)
    · have sn : sd ≠ 0 := fun q => by have := hft.mpr q; subst this; exact absurd c5 (by decide)
      refine zp_iconst (v := nI (0)) dX11_seed_26 (by decide) ?_
      refine zp_pc (pc' := 27) rfl ?_
      refine zn_iadd dX11_seed_27 ?_
      refine zp_i (y := nI ((zdem kd st (zsd kd) sd))) (by unfold zdem zfr; rw [if_neg sn, Nat.add_zero]) ?_
      exact jk102
    · have s0 : sd = 0 := hft.mp (by cases ft; exact absurd rfl c5; rfl)
      refine zp_aload_n dX11_seed_8 rfl ?_
      refine zp_get dX11_seed_9 gX11_271_9 hg rfl ?_
      refine zp_bipush (v := nI (6)) dX11_seed_12 (by decide) ?_
      refine zp_pc (pc' := 14) rfl ?_
      refine zn_icmp_ge (tgt := 26) dX11_seed_14 (by decide) (by omega) (by omega) (fun c14 => ?_) (fun c14 => ?_)
      · refine zp_iconst (v := nI (0)) dX11_seed_26 (by decide) ?_
        refine zp_pc (pc' := 27) rfl ?_
        refine zn_iadd dX11_seed_27 ?_
        refine zp_i (y := nI ((zdem kd st (zsd kd) sd))) (by unfold zdem zfr; rw [if_pos (by omega), if_pos (by omega), Nat.add_zero]) ?_
        exact jk102
      · have zf : zfr kd st = st / 8 := if_neg (by omega)
        refine zp_aload_n dX11_seed_17 rfl ?_
        refine zp_callV (As := []) (k := a) (st := [.int (nI (zfr kd st))]) (ci := 9) dX11_seed_18 cX11_281 rfl hg rfl rfl (e_zfresh hg hkd (by omega)) (by decide) (by decide) (Nat.le_of_ble_eq_true rfl) (fun v103 h103 n103 q103 => ?_)
        obtain ⟨rfl, H103, N103⟩ := q103
        rw [N103, H103]
        refine zp_nrm (cells' := 0) (slots' := 0) (st' := [.int (nI (zfr kd st)), .int (nI (zfr kd st))]) rfl rfl rfl ?_
        refine zp_iconst (v := nI (2)) dX11_seed_21 (by decide) ?_
        refine zn_idiv dX11_seed_22 (by omega) (by omega) (by omega) ?_
        refine zp_goto (tgt := 27) dX11_seed_23 (by decide) ?_
        refine zp_pc (pc' := 27) rfl ?_
        refine zn_iadd dX11_seed_27 ?_
        refine zp_i (y := nI ((zdem kd st (zsd kd) sd))) (by unfold zdem; rw [if_neg (by omega), if_pos s0, zf]) ?_
        exact jk102
  refine jn102 ?_
  refine zp_istore (ls' := [some (.ref (64)), some (.ref (a)), some (.int (nI (zbi ft))), some (.int (nI (A.length))), some (.int (nI ((zdem kd st (zsd kd) sd)))), none]) dX11_seed_28 (by decide) rfl ?_
  refine zp_aload_n dX11_seed_30 rfl ?_
  refine zp_iload dX11_seed_31 rfl ?_
  refine zp_pc (pc' := 33) rfl ?_
  refine zp_callV (As := [.int (nI ((zdem kd st (zsd kd) sd)))]) (k := 64) (st := []) (ci := 10) dX11_seed_33 cX11_283 rfl ho rfl rfl (e_mtake (k := (zdem kd st (zsd kd) sd)) ho hx h85 hd (by omega)) (by decide) (by decide) (Nat.le_of_ble_eq_true rfl) (fun v104 h104 n104 q104 => ?_)
  obtain ⟨rfl, N104, s104, z104, o104, r104, w104⟩ := q104
  rw [N104]
  refine zp_nrm (cells' := 0) (slots' := 0) (st' := []) rfl rfl rfl ?_
  have m105 : h104 (a) = some (.inl (9, [.int (nI (zbi tr)), .int (nI (kd)), .int (nI (st)), .int (nI (iv)), .int (nI (zbi rs)), .int (nI (ct)), .int (dr), .int (nI (sd)), .ref (a + 1), .ref (a + 2)])) := (s104 _ (by unfold zst3; omega)).trans hg
  have sT := s104
  have zT := z104
  have rT := r104
  have wT := w104
  have oT := o104
  refine zp_iload_n dX11_seed_36 rfl ?_
  refine zp_pc (pc' := 37) rfl ?_
  have gT := m105
  have vT := ((hV).keep (s104 _ (by unfold zst3; omega)))
  have cT := ((hC).keep (s104 _ (by unfold zst3; omega)))
  have kt106 : ∀ (h1 : ZH), zsm h h1 (zsS a) → zsh h h1 → (∃ mn1, h1 64 = some (.inl (10, [.int (th), .ref (65), .ref (66), .ref (67), .ref (68), .ref (69), .ref (70), .ref (71), .ref (72), .ref (73), .ref (74), .ref (75), .ref (76), .ref (77), .ref (78), .ref (79), .ref (80), .ref (81), .ref (82), .ref (83), .ref (84), .int (nI ((xs.drop (zdem kd st (zsd kd) sd)).length)), .int (nI (zbi un)), .int (rp), .int (wi), .int (pa), .int (be), .int (ru), .int (sa), .int (me), .int (se), .int (ta + nI (zdem kd st (zsd kd) sd)), .int (fa), .ref (85), .ref (86), .ref (87), .int (nI (mn1)), .ref (88), .ref (89), .ref (90), .ref (91), .ref (92), .ref (93), .int (nI (tp)), .ref (94), .int (nI (ou))]))) → zar h1 84 1000 (xs.drop (zdem kd st (zsd kd) sd)) → h1 a = some (.inl (9, [.int (nI (zbi tr)), .int (nI (kd)), .int (nI (st)), .int (nI (iv)), .int (nI (zbi rs)), .int (nI (ct)), .int (dr), .int (nI (sd)), .ref (a + 1), .ref (a + 2)])) → zar h1 (a + 1) 111 (zpl kd sd V C (xs.take (zdem kd st (zsd kd) sd)) A).1 → zar h1 (a + 2) 111 (zpl kd sd V C (xs.take (zdem kd st (zsd kd) sd)) A).2 → zP g mX11_seed (zR 7 0 0) Qf 0 0 192 [some (.ref (64)), some (.ref (a)), some (.int (nI (zbi ft))), some (.int (nI (A.length))), some (.int (nI ((zdem kd st (zsd kd) sd)))), none] [] h1 n := by
    intro h1 s1 z1 o1 w1 g1 v1 c1
    obtain ⟨mn1, o1⟩ := o1
    refine zp_aload_n dX11_seed_192 rfl ?_
    refine zp_iconst (v := nI (1)) dX11_seed_193 (by decide) ?_
    refine zp_put (fs' := [.int (nI (zbi tr)), .int (nI (kd)), .int (nI (st)), .int (nI (iv)), .int (nI (zbi rs)), .int (nI (1)), .int (dr), .int (nI (sd)), .ref (a + 1), .ref (a + 2)]) dX11_seed_194 pX11_250_9 (by omega) g1 (Nat.le_of_ble_eq_true rfl) (zfit_i _) rfl ?_
    refine zp_nh (fun h107x eh107x => ?_)
    have k107_0 := (congrFun eh107x (64)).trans ((va_up_ne _ _ (by omega)).trans o1)
    have k107_1 : h107x (a) = some (.inl (9, [.int (nI (zbi tr)), .int (nI (kd)), .int (nI (st)), .int (nI (iv)), .int (nI (zbi rs)), .int (nI (1)), .int (dr), .int (nI (sd)), .ref (a + 1), .ref (a + 2)])) := by rw [eh107x]; exact va_up_self _ _ _
    have sw108 : zsm h1 h107x (zon (a)) := zsm.rf.up eh107x rfl
    have zw108 : zsh h1 h107x := zsh.obj eh107x g1
    refine zp_aload_n dX11_seed_197 rfl ?_
    refine zp_dup dX11_seed_198 rfl ?_
    refine zp_get dX11_seed_199 gX11_294_9 k107_1 rfl ?_
    refine zp_iconst (v := nI (1)) dX11_seed_202 (by decide) ?_
    refine zn_iadd dX11_seed_203 ?_
    refine zp_put (fs' := [.int (nI (zbi tr)), .int (nI (kd)), .int (nI (st)), .int (nI (iv)), .int (nI (zbi rs)), .int (nI (1)), .int (dr), .int (nI ((sd) + (1))), .ref (a + 1), .ref (a + 2)]) dX11_seed_204 pX11_294_9 (by omega) k107_1 (Nat.le_of_ble_eq_true rfl) (zfit_i _) rfl ?_
    refine zp_nh (fun h109x eh109x => ?_)
    have k109_0 := (congrFun eh109x (64)).trans ((va_up_ne _ _ (by omega)).trans k107_0)
    have k109_1 : h109x (a) = some (.inl (9, [.int (nI (zbi tr)), .int (nI (kd)), .int (nI (st)), .int (nI (iv)), .int (nI (zbi rs)), .int (nI (1)), .int (dr), .int (nI ((sd) + (1))), .ref (a + 1), .ref (a + 2)])) := by rw [eh109x]; exact va_up_self _ _ _
    have sw110 : zsm h107x h109x (zon (a)) := zsm.rf.up eh109x rfl
    have zw110 : zsh h107x h109x := zsh.obj eh109x k107_1
    refine zp_pc (pc' := 207) rfl ?_
    refine zp_ret (v := none) dX11_seed_207 ⟨rfl, rfl⟩ (by decide) (by decide) ?_
    rw [hQ]
    exact ⟨rfl, rfl, s1.trans (((sw108).mono (fun i hi => by unfold zsS; unfold zon at hi; omega)).trans ((sw110).mono (fun i hi => by unfold zsS; unfold zon at hi; omega))), z1.trans ((zw108).trans zw110), ⟨_, k109_0⟩, (((w1).keep (sw108 _ (by unfold zon; omega))).keep (sw110 _ (by unfold zon; omega))), k109_1, (((v1).keep (sw108 _ (by unfold zon; omega))).keep (sw110 _ (by unfold zon; omega))), (((c1).keep (sw108 _ (by unfold zon; omega))).keep (sw110 _ (by unfold zon; omega)))⟩
  have kt111 : ∀ (h1 : ZH), zsm h104 h1 (zs99 a) → zsh h104 h1 → zar h1 (a + 1) 111 (zV0 kd sd V) → zar h1 (a + 2) 111 (zC0 kd sd C) → zP g mX11_seed (zR 7 0 0) Qf 0 0 92 [some (.ref (64)), some (.ref (a)), some (.int (nI (zbi ft))), some (.int (nI (A.length))), some (.int (nI ((zdem kd st (zsd kd) sd)))), none] [] h1 n := by
    intro h1 s1 z1 V1 C1
    have o1 : h1 64 = some (.inl (10, [.int (th), .ref (65), .ref (66), .ref (67), .ref (68), .ref (69), .ref (70), .ref (71), .ref (72), .ref (73), .ref (74), .ref (75), .ref (76), .ref (77), .ref (78), .ref (79), .ref (80), .ref (81), .ref (82), .ref (83), .ref (84), .int (nI ((xs.drop (zdem kd st (zsd kd) sd)).length)), .int (nI (zbi un)), .int (rp), .int (wi), .int (pa), .int (be), .int (ru), .int (sa), .int (me), .int (se), .int (ta + nI (zdem kd st (zsd kd) sd)), .int (fa), .ref (85), .ref (86), .ref (87), .int (nI (mn)), .ref (88), .ref (89), .ref (90), .ref (91), .ref (92), .ref (93), .int (nI (tp)), .ref (94), .int (nI (ou))])) := (s1 _ (by unfold zs99; omega)).trans oT
    have g1 : h1 a = some (.inl (9, [.int (nI (zbi tr)), .int (nI (kd)), .int (nI (st)), .int (nI (iv)), .int (nI (zbi rs)), .int (nI (ct)), .int (dr), .int (nI (sd)), .ref (a + 1), .ref (a + 2)])) := (s1 _ (by unfold zs99; omega)).trans gT
    have r1 := rT.keep (s1 85 (by unfold zs99; omega))
    have w1 := wT.keep (s1 84 (by unfold zs99; omega))
    have A1 := (hA.keep (sT 93 (by unfold zst3; omega))).keep (s1 93 (by unfold zs99; omega))
    have sH : zsm h h1 (zsS a) := (sT.mono (fun i hi => by unfold zsS; unfold zst3 at hi; omega)).trans (s1.mono (fun i hi => by unfold zsS; unfold zs99 at hi; omega))
    have zH : zsh h h1 := zT.trans z1
    have W1 := hw.sh sH zH (fun i q => by unfold zsS at q; unfold zwf; omega)
    refine zp_aload_n dX11_seed_92 rfl ?_
    refine zp_get dX11_seed_93 gX11_271_9 g1 rfl ?_
    refine zp_iconst (v := nI (2)) dX11_seed_96 (by decide) ?_
    refine zp_pc (pc' := 97) rfl ?_
    refine zn_icmp_ge (tgt := 112) dX11_seed_97 (by decide) (by omega) (by omega) (fun c97 => ?_) (fun c97 => ?_)
    · refine zp_aload_n dX11_seed_112 rfl ?_
      refine zp_get dX11_seed_113 gX11_271_9 g1 rfl ?_
      refine zp_iconst (v := nI (4)) dX11_seed_116 (by decide) ?_
      refine zp_pc (pc' := 117) rfl ?_
      refine zn_icmp_ge (tgt := 184) dX11_seed_117 (by decide) (by omega) (by omega) (fun c117 => ?_) (fun c117 => ?_)
      · refine zp_aload_n dX11_seed_184 rfl ?_
        refine zp_aload_n dX11_seed_185 rfl ?_
        refine zp_iload dX11_seed_186 rfl ?_
        refine zp_iload_n dX11_seed_188 rfl ?_
        refine zp_pc (pc' := 189) rfl ?_
        have eC : (zC0 kd sd C).length = zkl (zod kd) := by rw [lC0, zcN_hi hkd (by omega)]
        have eV : (zV0 kd sd V).length = 16 := by rw [lV0]; exact if_neg (by omega)
        have rl : (nI (zdem kd st (zsd kd) sd)) = nI (xs.take (zdem kd st (zsd kd) sd)).length := by rw [lR]
        refine zp_callV (As := [.ref (a), .int (nI ((zdem kd st (zsd kd) sd))), .int (nI (A.length))]) (k := 64) (st := []) (ci := 10) dX11_seed_189 cX11_290 rfl o1 rfl rfl (by rw [rl]; exact e_zseedC W1 o1 g1 ha hkd (by omega) V1 C1 eV eC r1 A1 (fun q => by rw [lR]; unfold zdem; rw [if_pos q])) (by decide) (by decide) (Nat.le_of_ble_eq_true rfl) (fun v112 h112 n112 q112 => ?_)
        obtain ⟨rfl, N112, s112, z112, ⟨mn3, o112⟩, v112, c112⟩ := q112
        rw [N112]
        refine zp_nrm (cells' := 0) (slots' := 0) (st' := []) rfl rfl rfl ?_
        have m113 : h112 (a) = some (.inl (9, [.int (nI (zbi tr)), .int (nI (kd)), .int (nI (st)), .int (nI (iv)), .int (nI (zbi rs)), .int (nI (ct)), .int (dr), .int (nI (sd)), .ref (a + 1), .ref (a + 2)])) := (s112 _ (by unfold zsg; omega)).trans g1
        refine zp_pc (pc' := 192) rfl ?_
        exact kt106 h112 (sH.trans ((s112).mono (fun i hi => by unfold zsS; unfold zsg at hi; omega))) (zH.trans (z112)) ⟨_, o112⟩ (((w1).keep (s112 _ (by unfold zsg; omega)))) m113 (by rw [zpl_C _ _ _ _ (by omega)]; exact v112) (by rw [zpl_C _ _ _ _ (by omega)]; exact c112)
      · have hk2 : 2 ≤ kd := by omega
        have hsd := zmacN hkd hk2 c117
        have eC : (zC0 kd sd C).length = 8 * zwb (zod kd) := by rw [lC0, ← hsd]; exact if_pos c117
        have eV : (zV0 kd sd V).length = 8 * zwb (zod kd) := by rw [lV0, ← hsd]; exact if_pos c117
        obtain ⟨if114, ih114⟩ := id (W1.m90)
        obtain ⟨la115, lb115, lc115, lf115, ld115, le115⟩ := id r1
        obtain ⟨la116, lb116, lc116, lf116, ld116, le116⟩ := id A1
        have lM : ((xs.take (zdem kd st (zsd kd) sd)) ++ A).length = (zdem kd st (zsd kd) sd) + A.length := by rw [List.length_append, lR]
        refine zp_iconst (v := nI (0)) dX11_seed_120 (by decide) ?_
        refine zp_istore (ls' := [some (.ref (64)), some (.ref (a)), some (.int (nI (zbi ft))), some (.int (nI (A.length))), some (.int (nI ((zdem kd st (zsd kd) sd)))), some (.int (nI (0)))]) dX11_seed_121 (by decide) rfl ?_
        refine zp_pc (pc' := 123) rfl ?_
        have lp117 : zP g mX11_seed (zR 7 0 0) Qf 0 0 172 [some (.ref (64)), some (.ref (a)), some (.int (nI (zbi ft))), some (.int (nI (A.length))), some (.int (nI ((zdem kd st (zsd kd) sd)))), some (.int (nI (((zdem kd st (zsd kd) sd)) + (A.length))))] [] (va_up h1 (90) (some (.inr (400, .inl (zfl if114 (0) (((zdem kd st (zsd kd) sd)) + (A.length)) (fun i => nI (((xs.take (zdem kd st (zsd kd) sd)) ++ A).getD i 0))))))) n → ∀ (m k117 : Nat), m = (((zdem kd st (zsd kd) sd)) + (A.length)) - k117 → k117 ≤ (((zdem kd st (zsd kd) sd)) + (A.length)) → zP g mX11_seed (zR 7 0 0) Qf 0 0 123 [some (.ref (64)), some (.ref (a)), some (.int (nI (zbi ft))), some (.int (nI (A.length))), some (.int (nI ((zdem kd st (zsd kd) sd)))), some (.int (nI (k117)))] [] (va_up h1 (90) (some (.inr (400, .inl (zfl if114 (0) (k117) (fun i => nI (((xs.take (zdem kd st (zsd kd) sd)) ++ A).getD i 0))))))) n := by
          intro kk m
          induction m using Nat.strongRecOn with
          | _ m ih =>
            intro k117 hm117 hk117
            refine zp_nh (fun hX117 eX117 => ?_)
            have k118_0 := (congrFun eX117 (64)).trans ((va_up_ne _ _ (by omega)).trans o1)
            have k118_1 := (congrFun eX117 (a)).trans ((va_up_ne _ _ (by omega)).trans g1)
            have k118_2 : hX117 (90) = some (.inr (400, .inl (zfl if114 (0) (k117) (fun i => nI (((xs.take (zdem kd st (zsd kd) sd)) ++ A).getD i 0))))) := by rw [eX117]; exact va_up_self _ _ _
            have k118_3 := (congrFun eX117 (85)).trans ((va_up_ne _ _ (by omega)).trans ld115)
            have k118_4 := (congrFun eX117 (93)).trans ((va_up_ne _ _ (by omega)).trans ld116)
            refine zp_iload dX11_seed_123 rfl ?_
            refine zp_iload dX11_seed_125 rfl ?_
            refine zp_iload_n dX11_seed_127 rfl ?_
            refine zn_iadd dX11_seed_128 ?_
            refine zp_pc (pc' := 129) rfl ?_
            refine zn_icmp_ge (tgt := 172) dX11_seed_129 (by decide) (by omega) (by omega) (fun c129 => ?_) (fun c129 => ?_)
            · have e117 : k117 = (((zdem kd st (zsd kd) sd)) + (A.length)) := by omega
              subst e117
              rw [eX117]
              exact kk
            · refine zp_aload_n dX11_seed_132 rfl ?_
              refine zp_get dX11_seed_133 gX11_105_10 k118_0 rfl ?_
              refine zp_iload dX11_seed_136 rfl ?_
              refine zp_iload dX11_seed_138 rfl ?_
              refine zp_iload dX11_seed_140 rfl ?_
              refine zp_pc (pc' := 142) rfl ?_
              have jn119 : zP g mX11_seed (zR 7 0 0) Qf 0 0 165 [some (.ref (64)), some (.ref (a)), some (.int (nI (zbi ft))), some (.int (nI (A.length))), some (.int (nI ((zdem kd st (zsd kd) sd)))), some (.int (nI (k117)))] [.int (nI (((xs.take (zdem kd st (zsd kd) sd)) ++ A).getD k117 0)), .int (nI (k117)), .ref (90)] hX117 n → zP g mX11_seed (zR 7 0 0) Qf 0 0 142 [some (.ref (64)), some (.ref (a)), some (.int (nI (zbi ft))), some (.int (nI (A.length))), some (.int (nI ((zdem kd st (zsd kd) sd)))), some (.int (nI (k117)))] [.int (nI ((zdem kd st (zsd kd) sd))), .int (nI (k117)), .int (nI (k117)), .ref (90)] hX117 n := by
                intro jk119
                refine zn_icmp_ge (tgt := 155) dX11_seed_142 (by decide) (by omega) (by omega) (fun c142 => ?_) (fun c142 => ?_)
                · refine zp_aload_n dX11_seed_155 rfl ?_
                  refine zp_get dX11_seed_156 gX11_114_10 k118_0 rfl ?_
                  refine zp_iload dX11_seed_159 rfl ?_
                  refine zp_iload dX11_seed_161 rfl ?_
                  refine zn_isub dX11_seed_163 (by omega) ?_
                  refine zp_pc (pc' := 164) rfl ?_
                  refine zn_iald (j := (k117) - ((zdem kd st (zsd kd) sd))) dX11_seed_164 k118_4 (by omega) (by omega) ?_
                  refine zp_i (y := nI (((xs.take (zdem kd st (zsd kd) sd)) ++ A).getD k117 0)) (by rw [le116 _ (by omega), zapp_get, lR, if_neg (by omega)]) ?_
                  exact jk119
                · refine zp_aload_n dX11_seed_145 rfl ?_
                  refine zp_get dX11_seed_146 gX11_87_10 k118_0 rfl ?_
                  refine zp_iload dX11_seed_149 rfl ?_
                  refine zp_pc (pc' := 151) rfl ?_
                  refine zn_iald (j := k117) dX11_seed_151 k118_3 (by omega) (by omega) ?_
                  refine zp_i (y := nI (((xs.take (zdem kd st (zsd kd) sd)) ++ A).getD k117 0)) (by rw [le115 _ (by omega), zapp_get, lR, if_pos c142]) ?_
                  refine zp_goto (tgt := 165) dX11_seed_152 (by decide) ?_
                  refine zp_pc (pc' := 165) rfl ?_
                  exact jk119
              refine jn119 ?_
              refine zn_iast dX11_seed_165 (by omega) k118_2 (by omega) (by omega) ?_
              refine zp_nh (fun h120x eh120x => ?_)
              have k120_0 := (congrFun eh120x (64)).trans ((va_up_ne _ _ (by omega)).trans k118_0)
              have k120_1 := (congrFun eh120x (a)).trans ((va_up_ne _ _ (by omega)).trans k118_1)
              have k120_2 : h120x (90) = some (.inr (400, .inl (va_up (zfl if114 (0) (k117) (fun i => nI (((xs.take (zdem kd st (zsd kd) sd)) ++ A).getD i 0))) (k117) (nI (((xs.take (zdem kd st (zsd kd) sd)) ++ A).getD k117 0))))) := by rw [eh120x]; exact va_up_self _ _ _
              have k120_3 := (congrFun eh120x (85)).trans ((va_up_ne _ _ (by omega)).trans k118_3)
              have k120_4 := (congrFun eh120x (93)).trans ((va_up_ne _ _ (by omega)).trans k118_4)
              have sw121 : zsm hX117 h120x (zon (90)) := zsm.rf.up eh120x rfl
              have zw121 : zsh hX117 h120x := zsh.fill eh120x k118_2
              refine zp_pc (pc' := 166) rfl ?_
              refine zn_iinc 1 (ls' := [some (.ref (64)), some (.ref (a)), some (.int (nI (zbi ft))), some (.int (nI (A.length))), some (.int (nI ((zdem kd st (zsd kd) sd)))), some (.int (nI (k117 + 1)))]) dX11_seed_166 (by decide) (by decide) rfl rfl ?_
              refine zp_goto (tgt := 123) dX11_seed_169 (by decide) ?_
              refine zp_pc (pc' := 123) rfl ?_
              rw [zfl_step eX117 eh120x (by omega) rfl]
              exact ih ((((zdem kd st (zsd kd) sd)) + (A.length)) - (k117 + 1)) (by omega) (k117 + 1) rfl (by omega)
        suffices K117 : zP g mX11_seed (zR 7 0 0) Qf 0 0 172 [some (.ref (64)), some (.ref (a)), some (.int (nI (zbi ft))), some (.int (nI (A.length))), some (.int (nI ((zdem kd st (zsd kd) sd)))), some (.int (nI (((zdem kd st (zsd kd) sd)) + (A.length))))] [] (va_up h1 (90) (some (.inr (400, .inl (zfl if114 (0) (((zdem kd st (zsd kd) sd)) + (A.length)) (fun i => nI (((xs.take (zdem kd st (zsd kd) sd)) ++ A).getD i 0))))))) n by
          have q := lp117 K117 ((((zdem kd st (zsd kd) sd)) + (A.length)) - 0) 0 rfl (Nat.zero_le _)
          rw [zfl_0, zup_same ih114] at q
          exact q
        refine zp_nh (fun hY117 eY117 => ?_)
        have k122_0 := (congrFun eY117 (64)).trans ((va_up_ne _ _ (by omega)).trans o1)
        have k122_1 := (congrFun eY117 (a)).trans ((va_up_ne _ _ (by omega)).trans g1)
        have k122_2 : hY117 (90) = some (.inr (400, .inl (zfl if114 (0) (((zdem kd st (zsd kd) sd)) + (A.length)) (fun i => nI (((xs.take (zdem kd st (zsd kd) sd)) ++ A).getD i 0))))) := by rw [eY117]; exact va_up_self _ _ _
        have k122_3 := (congrFun eY117 (85)).trans ((va_up_ne _ _ (by omega)).trans ld115)
        have k122_4 := (congrFun eY117 (93)).trans ((va_up_ne _ _ (by omega)).trans ld116)
        have sf123 := (zsm.fill eY117)
        have zf123 := zsh.fill eY117 ih114
        refine zp_aload_n dX11_seed_172 rfl ?_
        refine zp_aload_n dX11_seed_173 rfl ?_
        refine zp_iload dX11_seed_174 rfl ?_
        refine zp_iload_n dX11_seed_176 rfl ?_
        refine zp_pc (pc' := 177) rfl ?_
        refine zn_iadd dX11_seed_177 ?_
        refine zp_i (y := nI (((xs.take (zdem kd st (zsd kd) sd)) ++ A).length)) (by rw [lM]) ?_
        have aM : zar hY117 90 400 ((xs.take (zdem kd st (zsd kd) sd)) ++ A) := zar.mk (L := (zdem kd st (zsd kd) sd) + A.length) k122_2 lM (by omega) (by decide) (zapp_lt lc115 lc116) (fun j hj => zfl_in0 hj)
        have W124 := zmw.sh W1 ((sf123).mono (fun i hi => by unfold zwf; unfold zon at hi; omega)) (zf123) (fun i hi => hi)
        refine zp_callV (As := [.ref (a), .int (nI (((xs.take (zdem kd st (zsd kd) sd)) ++ A).length))]) (k := 64) (st := []) (ci := 10) dX11_seed_178 cX11_261 rfl k122_0 rfl rfl (e_zmixM W124 k122_0 k122_1 ha hkd hk2 c117 (((V1).keep (sf123 _ (by unfold zon; omega)))) (((C1).keep (sf123 _ (by unfold zon; omega)))) eV eC aM (by omega)) (by decide) (by decide) (Nat.le_of_ble_eq_true rfl) (fun v125 h125 n125 q125 => ?_)
        obtain ⟨rfl, N125, s125, z125, ⟨mn3, o125⟩, v125, c125⟩ := q125
        rw [N125]
        refine zp_nrm (cells' := 0) (slots' := 0) (st' := []) rfl rfl rfl ?_
        have m126 : h125 (a) = some (.inl (9, [.int (nI (zbi tr)), .int (nI (kd)), .int (nI (st)), .int (nI (iv)), .int (nI (zbi rs)), .int (nI (ct)), .int (dr), .int (nI (sd)), .ref (a + 1), .ref (a + 2)])) := (s125 _ (by unfold zsm9; omega)).trans k122_1
        have m127 : h125 (90) = some (.inr (400, .inl (zfl if114 (0) (((zdem kd st (zsd kd) sd)) + (A.length)) (fun i => nI (((xs.take (zdem kd st (zsd kd) sd)) ++ A).getD i 0))))) := (s125 _ (by unfold zsm9; omega)).trans k122_2
        have m128 : h125 (85) = some (.inr (100, .inl lf115)) := (s125 _ (by unfold zsm9; omega)).trans k122_3
        have m129 : h125 (93) = some (.inr (240, .inl lf116)) := (s125 _ (by unfold zsm9; omega)).trans k122_4
        refine zp_goto (tgt := 192) dX11_seed_181 (by decide) ?_
        refine zp_pc (pc' := 192) rfl ?_
        refine zp_drop (ls' := [some (.ref (64)), some (.ref (a)), some (.int (nI (zbi ft))), some (.int (nI (A.length))), some (.int (nI ((zdem kd st (zsd kd) sd)))), none]) (fun i v hv => ?_) ?_
        · rcases i with _ | _ | _ | _ | _ | _ | i <;> simp at hv ⊢ <;> exact hv
        exact kt106 h125 (sH.trans (((sf123).mono (fun i hi => by unfold zsS; unfold zon at hi; omega)).trans ((s125).mono (fun i hi => by unfold zsS; unfold zsm9 at hi; omega)))) (zH.trans ((zf123).trans z125)) ⟨_, o125⟩ ((((w1).keep (sf123 _ (by unfold zon; omega))).keep (s125 _ (by unfold zsm9; omega)))) m126 (by rw [zpl_M _ _ _ _ hk2 c117]; exact v125) (by rw [zpl_M _ _ _ _ hk2 c117]; exact c125)
    · refine zp_aload_n dX11_seed_100 rfl ?_
      refine zp_aload_n dX11_seed_101 rfl ?_
      refine zp_iload_n dX11_seed_102 rfl ?_
      refine zp_iload dX11_seed_103 rfl ?_
      refine zp_iload_n dX11_seed_105 rfl ?_
      refine zp_pc (pc' := 106) rfl ?_
      have rl : (nI (zdem kd st (zsd kd) sd)) = nI (xs.take (zdem kd st (zsd kd) sd)).length := by rw [lR]
      have eX : (if ft = true then [] else 1 :: (zV0 kd sd V)) = (if sd = 0 then [] else 1 :: V : List Nat) := by
        unfold zV0
        by_cases q : sd = 0
        · rw [if_pos (hft.mpr q), if_pos q]
        · rw [if_neg (fun u => q (hft.mp u)), if_neg q, if_neg q]
      refine zp_callV (As := [.ref (a), .int (nI (zbi ft)), .int (nI ((zdem kd st (zsd kd) sd))), .int (nI (A.length))]) (k := 64) (st := []) (ci := 10) dX11_seed_106 cX11_286 rfl o1 rfl rfl (by rw [rl]; exact e_zseedD W1 o1 g1 ha hkd c97 V1 C1.ia r1 A1 (fun q => by rw [lV0]; exact if_pos (by omega))) (by decide) (by decide) (Nat.le_of_ble_eq_true rfl) (fun v130 h130 n130 q130 => ?_)
      obtain ⟨rfl, N130, s130, z130, ⟨mn3, o130⟩, v130, c130⟩ := q130
      rw [N130]
      refine zp_nrm (cells' := 0) (slots' := 0) (st' := []) rfl rfl rfl ?_
      have m131 : h130 (a) = some (.inl (9, [.int (nI (zbi tr)), .int (nI (kd)), .int (nI (st)), .int (nI (iv)), .int (nI (zbi rs)), .int (nI (ct)), .int (dr), .int (nI (sd)), .ref (a + 1), .ref (a + 2)])) := (s130 _ (by unfold zsg; omega)).trans g1
      rw [eX] at v130 c130
      refine zp_goto (tgt := 192) dX11_seed_109 (by decide) ?_
      refine zp_pc (pc' := 192) rfl ?_
      exact kt106 h130 (sH.trans ((s130).mono (fun i hi => by unfold zsS; unfold zsg at hi; omega))) (zH.trans (z130)) ⟨_, o130⟩ (((w1).keep (s130 _ (by unfold zsg; omega)))) m131 (by rw [zpl_D _ _ _ _ c97]; exact v130) (by rw [zpl_D _ _ _ _ c97]; exact c130)
  refine zn_if_eq (tgt := 92) dX11_seed_37 (by decide) (by have := zbi_lt ft; omega) (fun c37 => ?_) (fun c37 => ?_)
  · have sn : sd ≠ 0 := fun q => by have := hft.mpr q; subst this; exact absurd c37 (by decide)
    exact kt111 h104 zsm.rf zsh.rf (by unfold zV0; rw [if_neg sn]; exact vT) (by unfold zC0; rw [if_neg sn]; exact cT)
  · have s0 : sd = 0 := hft.mp (by cases ft; exact absurd rfl c37; rfl)
    obtain ⟨fv, ev⟩ := vT.ia
    obtain ⟨fc, ec⟩ := cT.ia
    refine zp_iconst (v := nI (0)) dX11_seed_40 (by decide) ?_
    refine zp_istore (ls' := [some (.ref (64)), some (.ref (a)), some (.int (nI (zbi ft))), some (.int (nI (A.length))), some (.int (nI ((zdem kd st (zsd kd) sd)))), some (.int (nI (0)))]) dX11_seed_41 (by decide) rfl ?_
    refine zp_pc (pc' := 43) rfl ?_
    have lp : ∀ (m : Nat) (k : Nat) (h1 : ZH) (gv gc : Nat → Int32), m = 111 - k → k ≤ 111 → zsm h104 h1 (zs99 a) → zsh h104 h1 → h1 (a + 1) = some (.inr (111, .inl gv)) → h1 (a + 2) = some (.inr (111, .inl gc)) → (∀ j, j < k → gv j = nI (zin kd)) → (∀ j, j < k → gc j = nI 0) → zP g mX11_seed (zR 7 0 0) Qf 0 0 43 [some (.ref (64)), some (.ref (a)), some (.int (nI (zbi ft))), some (.int (nI (A.length))), some (.int (nI ((zdem kd st (zsd kd) sd)))), some (.int (nI (k)))] [] h1 n := by
      intro m
      induction m using Nat.strongRecOn with
      | _ m ih =>
        intro k h1 gv gc hm1 hk1 s1 z1 v1 c1 qv qc
        have g1 : h1 a = some (.inl (9, [.int (nI (zbi tr)), .int (nI (kd)), .int (nI (st)), .int (nI (iv)), .int (nI (zbi rs)), .int (nI (ct)), .int (dr), .int (nI (sd)), .ref (a + 1), .ref (a + 2)])) := (s1 _ (by unfold zs99; omega)).trans gT
        refine zp_iload dX11_seed_43 rfl ?_
        refine zp_bipush (v := nI (111)) dX11_seed_45 (by decide) ?_
        refine zp_pc (pc' := 47) rfl ?_
        refine zn_icmp_ge (tgt := 92) dX11_seed_47 (by decide) (by omega) (by omega) (fun c47 => ?_) (fun c47 => ?_)
        · have ek : k = 111 := by omega
          refine zp_pc (pc' := 92) rfl ?_
          refine zp_drop (ls' := [some (.ref (64)), some (.ref (a)), some (.int (nI (zbi ft))), some (.int (nI (A.length))), some (.int (nI ((zdem kd st (zsd kd) sd)))), none]) (fun i v hv => ?_) ?_
          · rcases i with _ | _ | _ | _ | _ | _ | i <;> simp at hv ⊢ <;> exact hv
          exact kt111 h1 s1 z1 (by unfold zV0; rw [if_pos s0]; exact zar.mk (L := zvN kd) v1 List.length_replicate vN (by decide) (zrep_lt (zin_lt kd)) (fun j hj => by rw [qv j (by omega), zrep_get, if_pos hj])) (by unfold zC0; rw [if_pos s0]; exact zar.mk (L := zcN kd) c1 List.length_replicate cN (by decide) (zrep_lt (by decide)) (fun j hj => by rw [qc j (by omega), zrep_get, if_pos hj]))
        · refine zp_aload_n dX11_seed_50 rfl ?_
          refine zp_get dX11_seed_51 gX11_226_9 g1 rfl ?_
          refine zp_iload dX11_seed_54 rfl ?_
          refine zp_aload_n dX11_seed_56 rfl ?_
          refine zp_get dX11_seed_57 gX11_271_9 g1 rfl ?_
          refine zp_iconst (v := nI (2)) dX11_seed_60 (by decide) ?_
          refine zp_pc (pc' := 61) rfl ?_
          have jn132 : zP g mX11_seed (zR 7 0 0) Qf 0 0 77 [some (.ref (64)), some (.ref (a)), some (.int (nI (zbi ft))), some (.int (nI (A.length))), some (.int (nI ((zdem kd st (zsd kd) sd)))), some (.int (nI (k)))] [.int (nI (zin kd)), .int (nI (k)), .ref (a + 1)] h1 n → zP g mX11_seed (zR 7 0 0) Qf 0 0 61 [some (.ref (64)), some (.ref (a)), some (.int (nI (zbi ft))), some (.int (nI (A.length))), some (.int (nI ((zdem kd st (zsd kd) sd)))), some (.int (nI (k)))] [.int (nI (2)), .int (nI (kd)), .int (nI (k)), .ref (a + 1)] h1 n := by
            intro jk132
            refine zn_icmp_eq (tgt := 72) dX11_seed_61 (by decide) (by omega) (by omega) (fun c61 => ?_) (fun c61 => ?_)
            · refine zp_iconst (v := nI (1)) dX11_seed_72 (by decide) ?_
              refine zp_goto (tgt := 77) dX11_seed_73 (by decide) ?_
              refine zp_pc (pc' := 77) rfl ?_
              refine zp_i (y := nI (zin kd)) (by unfold zin; rw [if_pos (Or.inl c61)]) ?_
              exact jk132
            · refine zp_aload_n dX11_seed_64 rfl ?_
              refine zp_get dX11_seed_65 gX11_271_9 g1 rfl ?_
              refine zp_iconst (v := nI (3)) dX11_seed_68 (by decide) ?_
              refine zp_pc (pc' := 69) rfl ?_
              refine zn_icmp_ne (tgt := 76) dX11_seed_69 (by decide) (by omega) (by omega) (fun c69 => ?_) (fun c69 => ?_)
              · refine zp_iconst (v := nI (0)) dX11_seed_76 (by decide) ?_
                refine zp_pc (pc' := 77) rfl ?_
                refine zp_i (y := nI (zin kd)) (by unfold zin; rw [if_neg (fun q => q.elim c61 c69)]) ?_
                exact jk132
              · refine zp_iconst (v := nI (1)) dX11_seed_72 (by decide) ?_
                refine zp_goto (tgt := 77) dX11_seed_73 (by decide) ?_
                refine zp_pc (pc' := 77) rfl ?_
                refine zp_i (y := nI (zin kd)) (by unfold zin; rw [if_pos (Or.inr c69)]) ?_
                exact jk132
          refine jn132 ?_
          refine zn_iast dX11_seed_77 (by omega) v1 (by omega) (by omega) ?_
          refine zp_nh (fun h133x eh133x => ?_)
          have k133_0 := (congrFun eh133x (a)).trans ((va_up_ne _ _ (by omega)).trans g1)
          have k133_1 : h133x (a + 1) = some (.inr (111, .inl (va_up gv (k) (nI (zin kd))))) := by rw [eh133x]; exact va_up_self _ _ _
          have k133_2 := (congrFun eh133x (a + 2)).trans ((va_up_ne _ _ (by omega)).trans c1)
          have sw134 : zsm h1 h133x (zon (a + 1)) := zsm.rf.up eh133x rfl
          have zw134 : zsh h1 h133x := zsh.fill eh133x v1
          refine zp_aload_n dX11_seed_78 rfl ?_
          refine zp_get dX11_seed_79 gX11_243_9 k133_0 rfl ?_
          refine zp_iload dX11_seed_82 rfl ?_
          refine zp_iconst (v := nI (0)) dX11_seed_84 (by decide) ?_
          refine zn_iast dX11_seed_85 (by omega) k133_2 (by omega) (by omega) ?_
          refine zp_nh (fun h135x eh135x => ?_)
          have k135_0 := (congrFun eh135x (a)).trans ((va_up_ne _ _ (by omega)).trans k133_0)
          have k135_1 := (congrFun eh135x (a + 1)).trans ((va_up_ne _ _ (by omega)).trans k133_1)
          have k135_2 : h135x (a + 2) = some (.inr (111, .inl (va_up gc (k) (nI (0))))) := by rw [eh135x]; exact va_up_self _ _ _
          have sw136 : zsm h133x h135x (zon (a + 2)) := zsm.rf.up eh135x rfl
          have zw136 : zsh h133x h135x := zsh.fill eh135x k133_2
          refine zn_iinc 1 (ls' := [some (.ref (64)), some (.ref (a)), some (.int (nI (zbi ft))), some (.int (nI (A.length))), some (.int (nI ((zdem kd st (zsd kd) sd)))), some (.int (nI (k + 1)))]) dX11_seed_86 (by decide) (by decide) rfl rfl ?_
          refine zp_goto (tgt := 43) dX11_seed_89 (by decide) ?_
          refine zp_pc (pc' := 43) rfl ?_
          refine ih (111 - (k + 1)) (by omega) (k + 1) h135x _ _ rfl (by omega) (s1.trans (((sw134).mono (fun i hi => by unfold zs99; unfold zon at hi; omega)).trans ((sw136).mono (fun i hi => by unfold zs99; unfold zon at hi; omega)))) (z1.trans ((zw134).trans zw136)) k135_1 k135_2 (fun j hj => ?_) (fun j hj => ?_)
          · by_cases e : j = k
            · subst e; exact va_up_self _ _ _
            · rw [va_up_ne _ _ e]; exact qv j (by omega)
          · by_cases e : j = k
            · subst e; exact va_up_self _ _ _
            · rw [va_up_ne _ _ e]; exact qc j (by omega)
    exact lp _ 0 h104 fv fc rfl (Nat.zero_le _) zsm.rf zsh.rf ev ec (fun j hj => absurd hj (by omega)) (fun j hj => absurd hj (by omega))
