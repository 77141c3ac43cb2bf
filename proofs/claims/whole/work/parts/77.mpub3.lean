theorem znI_all (x : Int32) : ∃ c, x = nI c := ⟨x.toBitVec.toNat, Int32.toBitVec_inj.mp (by rw [show (nI x.toBitVec.toNat).toBitVec = BitVec.ofNat 32 x.toBitVec.toNat from rfl]; rw [BitVec.ofNat_toNat, BitVec.setWidth_eq])⟩
theorem zcn_ge {k s : Nat} (hs : 0 < s) : k ≤ zcn k s * s := by
  unfold zcn
  have h1 := Nat.div_add_mod (k + s - 1) s
  have h2 := Nat.mod_lt (k + s - 1) hs
  rw [Nat.mul_comm]
  omega
theorem zpl_len {kd sd : Nat} {V C R A : List Nat} (hk : kd < 8) (h : sd = 0 ∨ (V.length = zvN kd ∧ C.length = zcN kd)) : (zpl kd sd V C R A).1.length = zvN kd ∧ (zpl kd sd V C R A).2.length = zcN kd := by
  have l1 : (zV0 kd sd V).length = zvN kd := by
    unfold zV0
    split
    · exact List.length_replicate
    · exact (h.resolve_left ‹_›).1
  have l2 : (zC0 kd sd C).length = zcN kd := by
    unfold zC0
    split
    · exact List.length_replicate
    · exact (h.resolve_left ‹_›).2
  by_cases h2 : kd < 2
  · have e1 : zvN kd = zsd kd := if_pos (by omega)
    have e2 : zcN kd = zsd kd := if_pos (by omega)
    rw [zpl_D _ _ _ _ h2, e1, e2]
    exact ⟨zder_len _ _ _, zder_len _ _ _⟩
  · by_cases h4 : kd < 4
    · have e1 : zvN kd = zsd kd := if_pos h4
      have e2 : zcN kd = zsd kd := if_pos h4
      have e3 := zmacN hk (by omega) h4
      rw [zpl_M _ _ _ _ (by omega) h4, e1, e2, e3]
      have := zmi_len (b := zod kd) (m := R ++ A) (s := (zC0 kd sd C, zV0 kd sd V)) (by rw [← e3, ← e2]; exact l2) (by rw [← e3, ← e1]; exact l1) (if 0 < (R ++ A).length then 2 else 1)
      exact ⟨this.2, this.1⟩
    · rw [zpl_C _ _ _ _ (by omega), zcN_hi hk (by omega)]
      exact ⟨(zcmV_len _ _ _ _).trans (if_neg h4).symm, zcmK_len _ _ _ _⟩
theorem zpr_len {kd ct k : Nat} {V C A : List Nat} (hk : kd < 8) (lV : V.length = zvN kd) (lC : C.length = zcN kd) : (zpr kd ct k V C A).1.length = k ∧ (zpr kd ct k V C A).2.1.length = zvN kd ∧ (zpr kd ct k V C A).2.2.length = zcN kd := by
  have hz := zwb_or (zod kd)
  by_cases h2 : kd < 2
  · have e : zpr kd ct k V C A = zpr4 (zod kd) ct k V C (if 0 < A.length then zplus V (zval (zhash (zod kd) (2 :: (V ++ A)))) else V) := if_pos h2
    rw [e]
    refine ⟨?_, ?_, lC⟩
    · show ((zdcat _ _ k).take k).length = k
      rw [List.length_take, zdcat_len]
      have := Nat.mul_le_mul (Nat.le_refl k) (show 1 ≤ 8 * zwb (zod kd) by omega)
      omega
    · show (zplus _ _).length = _
      rw [zplus_len, zplus_len, zplus_len]
      split
      · rw [zplus_len]; exact lV
      · exact lV
  · by_cases h4 : kd < 4
    · have e3 := zmacN hk (by omega) h4
      have e1 : zvN kd = 8 * zwb (zod kd) := (if_pos h4).trans e3
      have e2 : zcN kd = 8 * zwb (zod kd) := (if_pos h4).trans e3
      rw [e1] at lV
      rw [e2] at lC
      rw [e1, e2]
      have e : zpr kd ct k V C A = zpr5 (zod kd) k A (if 0 < A.length then zmix (zod kd) A (C, V) else (C, V)) := by unfold zpr; rw [if_neg h2, if_pos h4]
      rw [e]
      have ls : (if 0 < A.length then zmix (zod kd) A (C, V) else (C, V)).1.length = 8 * zwb (zod kd) ∧ (if 0 < A.length then zmix (zod kd) A (C, V) else (C, V)).2.length = 8 * zwb (zod kd) := by
        split
        · exact zmi_len (s := (C, V)) lC lV _
        · exact ⟨lC, lV⟩
      generalize (if 0 < A.length then zmix (zod kd) A (C, V) else (C, V)) = s at ls
      have lm := zmi_len (b := zod kd) (m := A) (s := (s.1, zmv (zod kd) s.1 s.2 (zcn k (8 * zwb (zod kd))))) ls.1 (zmv_len ls.2 _) (if 0 < A.length then 2 else 1)
      refine ⟨?_, lm.2, lm.1⟩
      show ((zmcat _ _ _ _).take k).length = k
      rw [List.length_take, zmcat_len]
      have := zcn_ge (k := k) (show 0 < 8 * zwb (zod kd) by omega)
      omega
    · have e1 : zvN kd = 16 := if_neg h4
      rw [e1, zcN_hi hk (by omega)]
      unfold zpr
      rw [if_neg h2, if_neg h4]
      refine ⟨?_, zcmV_len _ _ _ _, zcmK_len _ _ _ _⟩
      show ((zccat _ _ _ _).take k).length = k
      rw [List.length_take, zccat_len]
      have := zcn_ge (k := k) (show 0 < 16 by decide)
      omega
section ZRF
variable {T O : List Nat} {S : ZSup} {Gs : Nat → Option ZGn} {x : Int32} {kd st : Nat} {rs r : Bool} {iv ct : Nat} {dr : Int32} {sd : Nat} {V C : List Nat}
theorem zrf_4 (h : 6 ≤ kd ∧ zsd kd < T.length) : zrefuse r T S (kd, st, rs, iv, ct, dr, sd, V, C) = 4 := if_pos h
theorem zrf_5 (h : ¬ (6 ≤ kd ∧ zsd kd < T.length)) (h5 : r = true ∧ rs = false) : zrefuse r T S (kd, st, rs, iv, ct, dr, sd, V, C) = 5 := (if_neg h).trans (if_pos h5)
theorem zrf_6 (h : ¬ (6 ≤ kd ∧ zsd kd < T.length)) (h5 : ¬ (r = true ∧ rs = false)) (h6 : S.1.length < zdem kd st (zsd kd) sd) : zrefuse r T S (kd, st, rs, iv, ct, dr, sd, V, C) = 6 := (if_neg h).trans ((if_neg h5).trans (if_pos h6))
theorem zrf_0 (h : ¬ (6 ≤ kd ∧ zsd kd < T.length)) (h5 : ¬ (r = true ∧ rs = false)) (h6 : ¬ S.1.length < zdem kd st (zsd kd) sd) : zrefuse r T S (kd, st, rs, iv, ct, dr, sd, V, C) = 0 := (if_neg h).trans ((if_neg h5).trans (if_neg h6))
theorem zqreseed_no (h : zat4 Gs x = none) : zqreseed x r (T, O, S, Gs) = (nI 1, T, O, S, Gs) := by simp only [zqreseed, h]
theorem zqreseed_so {G : ZGn} (h : zat4 Gs x = some G) : zqreseed x r (T, O, S, Gs) = if zrefuse r T S G = 0 then (nI 0, [], O, zgivS (zgdem G) S, va_up Gs x.toNatClampNeg (some (zgplant (S.1.take (zgdem G)) T G))) else (nI (zrefuse r T S G), T, O, S, Gs) := by simp only [zqreseed, h]
theorem zqdraw_no {k s : Int32} (h : zat4 Gs x = none) : zqdraw x k s r (T, O, S, Gs) = (nI 1, T, O, S, Gs) := by simp only [zqdraw, h]
theorem zqdraw_so {k s : Int32} {G : ZGn} (h : zat4 Gs x = some G) : zqdraw x k s r (T, O, S, Gs) = if k < 0 ∨ nI 4096 < k then (nI 2, T, O, S, Gs) else if nI (zgst G) < s then (nI 3, T, O, S, Gs)
      else if r = true ∨ zgdue G = true then
        (if zrefuse r T S G = 0 then (nI 0, [], zgout k.toNatClampNeg [] (zgplant (S.1.take (zgdem G)) T G), zgivS (zgdem G) S, va_up Gs x.toNatClampNeg (some (zgprod k.toNatClampNeg [] (zgplant (S.1.take (zgdem G)) T G)))) else (nI (zrefuse r T S G), T, O, S, Gs))
      else if zgtoo T G = true then (nI 4, T, O, S, Gs)
      else (nI 0, [], zgout k.toNatClampNeg T G, S, va_up Gs x.toNatClampNeg (some (zgprod k.toNatClampNeg T G))) := by simp only [zqdraw, h]
theorem zfree_of {f : Nat} (hf : f ≤ 4) (h1 : ∀ i, i < f → Gs i ≠ none) (h2 : f = 4 ∨ Gs f = none) : zfree Gs = f := by
  unfold zfree
  have : f = 0 ∨ f = 1 ∨ f = 2 ∨ f = 3 ∨ f = 4 := by omega
  rcases this with rfl | rfl | rfl | rfl | rfl
  · rw [if_pos (h2.resolve_left (by decide))]
  · rw [if_neg (h1 0 (by decide)), if_pos (h2.resolve_left (by decide))]
  · rw [if_neg (h1 0 (by decide)), if_neg (h1 1 (by decide)), if_pos (h2.resolve_left (by decide))]
  · rw [if_neg (h1 0 (by decide)), if_neg (h1 1 (by decide)), if_neg (h1 2 (by decide)), if_pos (h2.resolve_left (by decide))]
  · rw [if_neg (h1 0 (by decide)), if_neg (h1 1 (by decide)), if_neg (h1 2 (by decide)), if_neg (h1 3 (by decide))]
end ZRF
set_option maxRecDepth 10000 in
set_option maxHeartbeats 2000000 in
theorem E_reseed {g : ZG} {h : ZH} {n : Nat} {t : Nat} {T O w : List Nat} {un : Bool} {rp wi pa la ru sa me se ta fa : Int32} {Gs : Nat → Option ZGn} {x : Int32} {r : Bool} (H : zMD t h (T, O, (w, rp, wi, pa, un, la, ru, sa, me, se, ta, fa), Gs)) (ht : t < 80000) : zMt g mX11_reseed (zR 8 0 0) [.ref (64), .int (x), .int (nI (zbi r))] h n (fun v h' n' => v = some (.int (zqreseed x r (T, O, (w, rp, wi, pa, un, la, ru, sa, me, se, ta, fa), Gs)).1) ∧ n' = n ∧ zsm h h' zmA ∧ zMD (t + 2) h' (zqreseed x r (T, O, (w, rp, wi, pa, un, la, ru, sa, me, se, ta, fa), Gs)).2) := by
  refine zMt.of [some (.ref (64)), some (.int (x)), some (.int (nI (zbi r))), none] (by decide) rfl (Nat.le_of_ble_eq_true rfl) ?_
  obtain ⟨Qf, hQ⟩ : ∃ Qf : ZQ, Qf = (fun v h' n' => v = some (.int (zqreseed x r (T, O, (w, rp, wi, pa, un, la, ru, sa, me, se, ta, fa), Gs)).1) ∧ n' = n ∧ zsm h h' zmA ∧ zMD (t + 2) h' (zqreseed x r (T, O, (w, rp, wi, pa, un, la, ru, sa, me, se, ta, fa), Gs)).2) := ⟨_, rfl⟩
  rw [← hQ]
  obtain ⟨⟨th, mn, mq, sq, ho, hms⟩, hw, hx, h85, ⟨Aa, h86, hAa⟩, hT, hO, hG, hS⟩ := id H
  have ho : h 64 = some (.inl (10, [.int (th), .ref (65), .ref (66), .ref (67), .ref (68), .ref (69), .ref (70), .ref (71), .ref (72), .ref (73), .ref (74), .ref (75), .ref (76), .ref (77), .ref (78), .ref (79), .ref (80), .ref (81), .ref (82), .ref (83), .ref (84), .int (nI (w.length)), .int (nI (zbi un)), .int (rp), .int (wi), .int (pa), .int (la), .int (ru), .int (sa), .int (mq), .int (sq), .int (ta), .int (fa), .ref (85), .ref (86), .ref (87), .int (nI (mn)), .ref (88), .ref (89), .ref (90), .ref (91), .ref (92), .ref (93), .int (nI (T.length)), .ref (94), .int (nI (O.length))])) := ho
  have hx : zar h 84 1000 w := hx
  have lT := hT.1
  have lO := hO.1
  have lw := hx.1
  refine zp_aload_n dX11_reseed_0 rfl ?_
  refine zp_iconst (v := nI (0)) dX11_reseed_1 (by decide) ?_
  refine zp_put (fs' := [.int (nI (0)), .ref (65), .ref (66), .ref (67), .ref (68), .ref (69), .ref (70), .ref (71), .ref (72), .ref (73), .ref (74), .ref (75), .ref (76), .ref (77), .ref (78), .ref (79), .ref (80), .ref (81), .ref (82), .ref (83), .ref (84), .int (nI (w.length)), .int (nI (zbi un)), .int (rp), .int (wi), .int (pa), .int (la), .int (ru), .int (sa), .int (mq), .int (sq), .int (ta), .int (fa), .ref (85), .ref (86), .ref (87), .int (nI (mn)), .ref (88), .ref (89), .ref (90), .ref (91), .ref (92), .ref (93), .int (nI (T.length)), .ref (94), .int (nI (O.length))]) dX11_reseed_2 pX11_133_10 (by omega) ho (Nat.le_of_ble_eq_true rfl) (zfit_i _) rfl ?_
  refine zp_nh (fun h101x eh101x => ?_)
  have k101_0 : h101x (64) = some (.inl (10, [.int (nI (0)), .ref (65), .ref (66), .ref (67), .ref (68), .ref (69), .ref (70), .ref (71), .ref (72), .ref (73), .ref (74), .ref (75), .ref (76), .ref (77), .ref (78), .ref (79), .ref (80), .ref (81), .ref (82), .ref (83), .ref (84), .int (nI (w.length)), .int (nI (zbi un)), .int (rp), .int (wi), .int (pa), .int (la), .int (ru), .int (sa), .int (mq), .int (sq), .int (ta), .int (fa), .ref (85), .ref (86), .ref (87), .int (nI (mn)), .ref (88), .ref (89), .ref (90), .ref (91), .ref (92), .ref (93), .int (nI (T.length)), .ref (94), .int (nI (O.length))])) := by rw [eh101x]; exact va_up_self _ _ _
  have sw102 : zsm h h101x (zon (64)) := zsm.rf.up eh101x rfl
  have zw102 : zsh h h101x := zsh.obj eh101x ho
  refine zp_aload_n dX11_reseed_5 rfl ?_
  refine zp_iload_n dX11_reseed_6 rfl ?_
  refine zp_pc (pc' := 7) rfl ?_
  have hG1 : ∀ j, j < 4 → zmg h101x (95 + 3 * j) t (Gs j) := fun j hj => (hG j hj).off (sw102 _ (by unfold zon; omega)) (sw102 _ (by unfold zon; omega)) (sw102 _ (by unfold zon; omega)) (Nat.le_refl _)
  have h861 := (sw102 86 (by unfold zon; omega)).trans h86
  refine zp_callV (As := [.int (x)]) (k := 64) (st := []) (ci := 10) dX11_reseed_7 cX11_330 rfl k101_0 rfl rfl (e_isThere (x := x) k101_0 h861 hAa hG1) (by decide) (by decide) (Nat.le_of_ble_eq_true rfl) (fun v103 h103 n103 q103 => ?_)
  obtain ⟨rfl, H103, N103⟩ := q103
  rw [N103, H103]
  refine zp_nrm (cells' := 0) (slots' := 0) (st' := [.int (nI (zbi (zat4 Gs x).isSome))]) rfl rfl rfl ?_
  refine zn_if_ne (tgt := 15) dX11_reseed_10 (by decide) (by have := zbi_lt (zat4 Gs x).isSome; omega) (fun c10 => ?_) (fun c10 => ?_)
  · have bq104T : (zat4 Gs x).isSome = true := by rcases Bool.eq_false_or_eq_true (zat4 Gs x).isSome with q | q; exact q; rw [q] at c10; exact absurd rfl c10
    obtain ⟨⟨kd, st, rs, iv, ct, dr, sd, V, C⟩, hz⟩ := Option.isSome_iff_exists.mp bq104T
    obtain ⟨j, hj, rfl, eG⟩ := zat4_some hz
    have g9 := hG1 j hj
    rw [eG] at g9
    obtain ⟨hkd, hst, hiv, hct, hsd, hs0, gc, hV, hC, lV, lC⟩ := g9
    have hs := zsd_le hkd
    refine zp_aload_n dX11_reseed_15 rfl ?_
    refine zp_get dX11_reseed_16 gX11_92_10 k101_0 rfl ?_
    refine zp_iload_n dX11_reseed_19 rfl ?_
    refine zp_pc (pc' := 20) rfl ?_
    refine zp_aald (v := .ref (95 + 3 * j)) dX11_reseed_20 h861 (by unfold vp_in; rw [nI_clamp (by omega)]; exact fun q => q.elim (nI_pos (by omega)) (fun q => by omega)) (by rw [nI_clamp (by omega), hAa j hj]) ?_
    refine zp_astore_n (ls' := [some (.ref (64)), some (.int (nI (j))), some (.int (nI (zbi r))), some (.ref (95 + 3 * j))]) dX11_reseed_21 (by decide) rfl ?_
    refine zp_aload_n dX11_reseed_22 rfl ?_
    refine zp_aload_n dX11_reseed_23 rfl ?_
    refine zp_get dX11_reseed_24 gX11_304_10 k101_0 rfl ?_
    refine zp_pc (pc' := 27) rfl ?_
    refine zp_callS (As := [.ref (95 + 3 * j), .int (nI (T.length))]) (st := []) dX11_reseed_27 cX11_314 rfl (e_ztoo gc hkd (by omega)) (by decide) (by decide) (Nat.le_of_ble_eq_true rfl) (fun v105 h105 n105 q105 => ?_)
    obtain ⟨rfl, H105, N105⟩ := q105
    rw [N105, H105]
    refine zp_nrm (cells' := 0) (slots' := 0) (st' := [.int (nI (zbi (decide (6 ≤ kd ∧ zsd kd < T.length))))]) rfl rfl rfl ?_
    have hb := zbi_lt r
    have hb2 := zbi_lt rs
    have hdm := zdem_le (sd := sd) hkd hst
    have efr : zfr kd st = (zdem kd st (zsd kd) sd) := by unfold zfr zdem; rw [if_neg hs0]
    have zfl9 : zfr kd st ≤ 111 := by omega
    refine zn_if_eq (tgt := 35) dX11_reseed_30 (by decide) (by have := zbi_lt (decide (6 ≤ kd ∧ zsd kd < T.length)); omega) (fun c30 => ?_) (fun c30 => ?_)
    · have bq106F : (decide (6 ≤ kd ∧ zsd kd < T.length)) = false := by rcases Bool.eq_false_or_eq_true (decide (6 ≤ kd ∧ zsd kd < T.length)) with q | q; rw [q] at c30; exact absurd c30 (by decide); exact q
      refine zp_iload_n dX11_reseed_35 rfl ?_
      refine zp_pc (pc' := 36) rfl ?_
      have k48 : ¬ (r = true ∧ rs = false) → zP g mX11_reseed (zR 8 0 0) Qf 0 0 48 [some (.ref (64)), some (.int (nI (j))), some (.int (nI (zbi r))), some (.ref (95 + 3 * j))] [] h101x n := by
        intro h5
        refine zp_aload_n dX11_reseed_48 rfl ?_
        refine zp_callV (As := []) (k := 95 + 3 * j) (st := []) (ci := 9) dX11_reseed_49 cX11_281 rfl gc rfl rfl (e_zfresh gc hkd (by omega)) (by decide) (by decide) (Nat.le_of_ble_eq_true rfl) (fun v107 h107 n107 q107 => ?_)
        obtain ⟨rfl, H107, N107⟩ := q107
        rw [N107, H107]
        refine zp_nrm (cells' := 0) (slots' := 0) (st' := [.int (nI (zfr kd st))]) rfl rfl rfl ?_
        refine zp_aload_n dX11_reseed_52 rfl ?_
        refine zp_get dX11_reseed_53 gX11_206_10 k101_0 rfl ?_
        refine zp_pc (pc' := 56) rfl ?_
        refine zn_icmp_le (tgt := 62) dX11_reseed_56 (by decide) (by omega) (by omega) (fun c56 => ?_) (fun c56 => ?_)
        · refine zp_aload_n dX11_reseed_62 rfl ?_
          refine zp_aload_n dX11_reseed_63 rfl ?_
          refine zp_iconst (v := nI (0)) dX11_reseed_64 (by decide) ?_
          refine zp_pc (pc' := 65) rfl ?_
          refine zp_i (y := nI (zbi false)) rfl ?_
          refine zp_aload_n dX11_reseed_65 rfl ?_
          refine zp_get dX11_reseed_66 gX11_304_10 k101_0 rfl ?_
          refine zp_pc (pc' := 69) rfl ?_
          have W108 := zmw.sh hw ((sw102).mono (fun i hi => by unfold zwf; unfold zon at hi; omega)) (zw102) (fun i hi => hi)
          refine zp_callV (As := [.ref (95 + 3 * j), .int (nI (zbi false)), .int (nI (T.length))]) (k := 64) (st := []) (ci := 10) dX11_reseed_69 cX11_327 rfl k101_0 rfl rfl (e_zseedA (tr := true) (ft := false) (A := T) (xs := w) (V := V) (C := C) W108 k101_0 gc (by omega) hkd hst ((hx).keep (sw102 _ (by unfold zon; omega))) ((h85).keep (sw102 _ (by unfold zon; omega))) ((hT).keep (sw102 _ (by unfold zon; omega))) ⟨fun q => (by cases q), fun q => absurd q hs0⟩ (hV) (hC) (fun _ => ⟨lV, lC⟩) (by omega)) (by decide) (by decide) (Nat.le_of_ble_eq_true rfl) (fun v109 h109 n109 q109 => ?_)
          obtain ⟨rfl, N109, s109, z109, ⟨mn2, o109⟩, w109, g109, v109, c109⟩ := q109
          rw [N109]
          refine zp_nrm (cells' := 0) (slots' := 0) (st' := []) rfl rfl rfl ?_
          have m110 : h109 (86) = some (.inr (4, .inr (.inr (true, Aa)))) := (s109 _ (by unfold zsS; omega)).trans h861
          obtain ⟨lv2, lc2⟩ := zpl_len (R := w.take (zdem kd st (zsd kd) sd)) (A := T) hkd (Or.inr ⟨lV, lC⟩) (sd := sd)
          refine zp_aload_n dX11_reseed_72 rfl ?_
          refine zp_pc (pc' := 73) rfl ?_
          refine zp_iconst (v := nI (0)) dX11_reseed_73 (by decide) ?_
          refine zp_put (fs' := [.int (nI (0)), .ref (65), .ref (66), .ref (67), .ref (68), .ref (69), .ref (70), .ref (71), .ref (72), .ref (73), .ref (74), .ref (75), .ref (76), .ref (77), .ref (78), .ref (79), .ref (80), .ref (81), .ref (82), .ref (83), .ref (84), .int (nI ((w.drop (zdem kd st (zsd kd) sd)).length)), .int (nI (zbi un)), .int (rp), .int (wi), .int (pa), .int (la), .int (ru), .int (sa), .int (mq), .int (sq), .int (ta + nI (zdem kd st (zsd kd) sd)), .int (fa), .ref (85), .ref (86), .ref (87), .int (nI (mn2)), .ref (88), .ref (89), .ref (90), .ref (91), .ref (92), .ref (93), .int (nI (0)), .ref (94), .int (nI (O.length))]) dX11_reseed_74 pX11_304_10 (by omega) o109 (Nat.le_of_ble_eq_true rfl) (zfit_i _) rfl ?_
          refine zp_nh (fun h111x eh111x => ?_)
          have k111_0 := (congrFun eh111x (86)).trans ((va_up_ne _ _ (by omega)).trans m110)
          have k111_1 : h111x (64) = some (.inl (10, [.int (nI (0)), .ref (65), .ref (66), .ref (67), .ref (68), .ref (69), .ref (70), .ref (71), .ref (72), .ref (73), .ref (74), .ref (75), .ref (76), .ref (77), .ref (78), .ref (79), .ref (80), .ref (81), .ref (82), .ref (83), .ref (84), .int (nI ((w.drop (zdem kd st (zsd kd) sd)).length)), .int (nI (zbi un)), .int (rp), .int (wi), .int (pa), .int (la), .int (ru), .int (sa), .int (mq), .int (sq), .int (ta + nI (zdem kd st (zsd kd) sd)), .int (fa), .ref (85), .ref (86), .ref (87), .int (nI (mn2)), .ref (88), .ref (89), .ref (90), .ref (91), .ref (92), .ref (93), .int (nI (0)), .ref (94), .int (nI (O.length))])) := by rw [eh111x]; exact va_up_self _ _ _
          have sw112 : zsm h109 h111x (zon (64)) := zsm.rf.up eh111x rfl
          have zw112 : zsh h109 h111x := zsh.obj eh111x o109
          refine zp_iconst (v := nI (0)) dX11_reseed_77 (by decide) ?_
          refine zp_pc (pc' := 78) rfl ?_
          have eq9 : (zqreseed (nI j) r (T, O, (w, rp, wi, pa, un, la, ru, sa, me, se, ta, fa), Gs)) = (nI 0, [], O, (w.drop (zdem kd st (zsd kd) sd), rp, wi, pa, un, la, ru, sa, me, se, ta + nI (zdem kd st (zsd kd) sd), fa), va_up Gs j (some (kd, st, rs, iv, 1, dr, sd + 1, (zpl kd sd V C (w.take (zdem kd st (zsd kd) sd)) T).1, (zpl kd sd V C (w.take (zdem kd st (zsd kd) sd)) T).2))) := by rw [zqreseed_so hz, if_pos (zrf_0 (of_decide_eq_false bq106F) h5 (by show ¬ w.length < _; omega)), nI_clamp (by omega)]; rfl
          refine zp_ret (v := (some (.int (nI (0))))) dX11_reseed_78 ⟨⟨_, rfl, rfl⟩, rfl⟩ (by decide) (by decide) ?_
          rw [hQ]
          rw [eq9]; exact ⟨rfl, rfl, (((sw102).mono (fun i hi => by unfold zmA; unfold zon at hi; omega)).trans ((s109).mono (fun i hi => by unfold zmA; unfold zsS at hi; omega))).trans ((sw112).mono (fun i hi => by unfold zmA; unfold zon at hi; omega)), zMD.gen (T' := []) (O' := O) (S' := (w.drop (zdem kd st (zsd kd) sd), rp, wi, pa, un, la, ru, sa, me, se, ta + nI (zdem kd st (zsd kd) sd), fa)) H hj ((((sw102).mono (fun i hi => by unfold zcg; unfold zon at hi; omega)).trans ((s109).mono (fun i hi => by unfold zcg; unfold zsS at hi; omega))).trans ((sw112).mono (fun i hi => by unfold zcg; unfold zon at hi; omega))) (((zw102).trans z109).trans zw112) ⟨_, _, _, _, k111_1, hms⟩ (((w109).keep (sw112 _ (by unfold zon; omega)))) ((zar.nil ((((hT.ia).keep (sw102 _ (by unfold zon; omega))).keep (s109 _ (by unfold zsS; omega))).keep (sw112 _ (by unfold zon; omega))) (by decide))) (((((hO).keep (sw102 _ (by unfold zon; omega))).keep (s109 _ (by unfold zsS; omega))).keep (sw112 _ (by unfold zon; omega)))) (zsane.giv hS _) (by omega) ⟨hkd, hst, hiv, by omega, by omega, by omega, ((sw112 _ (by unfold zon; omega)).trans g109), ((v109).keep (sw112 _ (by unfold zon; omega))), ((c109).keep (sw112 _ (by unfold zon; omega))), lv2, lc2⟩⟩
        · refine zp_bipush (v := nI (6)) dX11_reseed_59 (by decide) ?_
          refine zp_pc (pc' := 61) rfl ?_
          have eq9 : (zqreseed (nI j) r (T, O, (w, rp, wi, pa, un, la, ru, sa, me, se, ta, fa), Gs)) = (nI 6, T, O, (w, rp, wi, pa, un, la, ru, sa, me, se, ta, fa), Gs) := by rw [zqreseed_so hz, zrf_6 (of_decide_eq_false bq106F) h5 (by show w.length < _; omega)]; rfl
          refine zp_ret (v := (some (.int (nI (6))))) dX11_reseed_61 ⟨⟨_, rfl, rfl⟩, rfl⟩ (by decide) (by decide) ?_
          rw [hQ]
          rw [eq9]; exact ⟨rfl, rfl, (sw102).mono (fun i hi => by unfold zmA; unfold zon at hi; omega), H.upd ((sw102).mono (fun i hi => by unfold zcz; unfold zon at hi; omega)) (zw102) ⟨_, _, _, _, k101_0, hms⟩ (((hx).keep (sw102 _ (by unfold zon; omega)))) (((hT).keep (sw102 _ (by unfold zon; omega)))) (((hO).keep (sw102 _ (by unfold zon; omega)))) hS (by omega)⟩
      refine zn_if_eq (tgt := 48) dX11_reseed_36 (by decide) (by omega) (fun c36 => ?_) (fun c36 => ?_)
      · exact k48 (fun q => by rw [q.1] at c36; exact absurd c36 (by decide))
      · refine zp_aload_n dX11_reseed_39 rfl ?_
        refine zp_get dX11_reseed_40 gX11_321_9 gc rfl ?_
        refine zp_pc (pc' := 43) rfl ?_
        refine zn_if_ne (tgt := 48) dX11_reseed_43 (by decide) (by omega) (fun c43 => ?_) (fun c43 => ?_)
        · exact k48 (fun q => by rw [q.2] at c43; exact absurd rfl c43)
        · have h5 : r = true ∧ rs = false := ⟨by cases r; exact absurd rfl c36; rfl, by cases rs; rfl; exact absurd c43 (by decide)⟩
          refine zp_iconst (v := nI (5)) dX11_reseed_46 (by decide) ?_
          refine zp_pc (pc' := 47) rfl ?_
          have eq9 : (zqreseed (nI j) r (T, O, (w, rp, wi, pa, un, la, ru, sa, me, se, ta, fa), Gs)) = (nI 5, T, O, (w, rp, wi, pa, un, la, ru, sa, me, se, ta, fa), Gs) := by rw [zqreseed_so hz, zrf_5 (of_decide_eq_false bq106F) h5]; rfl
          refine zp_ret (v := (some (.int (nI (5))))) dX11_reseed_47 ⟨⟨_, rfl, rfl⟩, rfl⟩ (by decide) (by decide) ?_
          rw [hQ]
          rw [eq9]; exact ⟨rfl, rfl, (sw102).mono (fun i hi => by unfold zmA; unfold zon at hi; omega), H.upd ((sw102).mono (fun i hi => by unfold zcz; unfold zon at hi; omega)) (zw102) ⟨_, _, _, _, k101_0, hms⟩ (((hx).keep (sw102 _ (by unfold zon; omega)))) (((hT).keep (sw102 _ (by unfold zon; omega)))) (((hO).keep (sw102 _ (by unfold zon; omega)))) hS (by omega)⟩
    · have bq106T : (decide (6 ≤ kd ∧ zsd kd < T.length)) = true := by rcases Bool.eq_false_or_eq_true (decide (6 ≤ kd ∧ zsd kd < T.length)) with q | q; exact q; rw [q] at c30; exact absurd rfl c30
      refine zp_iconst (v := nI (4)) dX11_reseed_33 (by decide) ?_
      refine zp_pc (pc' := 34) rfl ?_
      have eq9 : (zqreseed (nI j) r (T, O, (w, rp, wi, pa, un, la, ru, sa, me, se, ta, fa), Gs)) = (nI 4, T, O, (w, rp, wi, pa, un, la, ru, sa, me, se, ta, fa), Gs) := by rw [zqreseed_so hz, zrf_4 (of_decide_eq_true bq106T)]; rfl
      refine zp_ret (v := (some (.int (nI (4))))) dX11_reseed_34 ⟨⟨_, rfl, rfl⟩, rfl⟩ (by decide) (by decide) ?_
      rw [hQ]
      rw [eq9]; exact ⟨rfl, rfl, (sw102).mono (fun i hi => by unfold zmA; unfold zon at hi; omega), H.upd ((sw102).mono (fun i hi => by unfold zcz; unfold zon at hi; omega)) (zw102) ⟨_, _, _, _, k101_0, hms⟩ (((hx).keep (sw102 _ (by unfold zon; omega)))) (((hT).keep (sw102 _ (by unfold zon; omega)))) (((hO).keep (sw102 _ (by unfold zon; omega)))) hS (by omega)⟩
  · have bq104F : (zat4 Gs x).isSome = false := by rcases Bool.eq_false_or_eq_true (zat4 Gs x).isSome with q | q; rw [q] at c10; exact absurd c10 (by decide); exact q
    have hz : zat4 Gs x = none := zsome_no bq104F
    refine zp_iconst (v := nI (1)) dX11_reseed_13 (by decide) ?_
    refine zp_pc (pc' := 14) rfl ?_
    have eq9 : (zqreseed x r (T, O, (w, rp, wi, pa, un, la, ru, sa, me, se, ta, fa), Gs)) = (nI 1, T, O, (w, rp, wi, pa, un, la, ru, sa, me, se, ta, fa), Gs) := zqreseed_no hz
    refine zp_ret (v := (some (.int (nI (1))))) dX11_reseed_14 ⟨⟨_, rfl, rfl⟩, rfl⟩ (by decide) (by decide) ?_
    rw [hQ]
    rw [eq9]; exact ⟨rfl, rfl, (sw102).mono (fun i hi => by unfold zmA; unfold zon at hi; omega), H.upd ((sw102).mono (fun i hi => by unfold zcz; unfold zon at hi; omega)) (zw102) ⟨_, _, _, _, k101_0, hms⟩ (((hx).keep (sw102 _ (by unfold zon; omega)))) (((hT).keep (sw102 _ (by unfold zon; omega)))) (((hO).keep (sw102 _ (by unfold zon; omega)))) hS (by omega)⟩
set_option maxRecDepth 10000 in
set_option maxHeartbeats 2000000 in
theorem E_draw {g : ZG} {h : ZH} {n : Nat} {t : Nat} {T O w : List Nat} {un : Bool} {rp wi pa la ru sa me se ta fa : Int32} {Gs : Nat → Option ZGn} {x k s : Int32} {r : Bool} (H : zMD t h (T, O, (w, rp, wi, pa, un, la, ru, sa, me, se, ta, fa), Gs)) (ht : t < 80000) : zMt g mX11_draw (zR 8 0 0) [.ref (64), .int (x), .int (k), .int (s), .int (nI (zbi r))] h n (fun v h' n' => v = some (.int (zqdraw x k s r (T, O, (w, rp, wi, pa, un, la, ru, sa, me, se, ta, fa), Gs)).1) ∧ n' = n ∧ zsm h h' zmA ∧ zMD (t + 2) h' (zqdraw x k s r (T, O, (w, rp, wi, pa, un, la, ru, sa, me, se, ta, fa), Gs)).2) := by
  refine zMt.of [some (.ref (64)), some (.int (x)), some (.int (k)), some (.int (s)), some (.int (nI (zbi r))), none, none, none] (by decide) rfl (Nat.le_of_ble_eq_true rfl) ?_
  obtain ⟨Qf, hQ⟩ : ∃ Qf : ZQ, Qf = (fun v h' n' => v = some (.int (zqdraw x k s r (T, O, (w, rp, wi, pa, un, la, ru, sa, me, se, ta, fa), Gs)).1) ∧ n' = n ∧ zsm h h' zmA ∧ zMD (t + 2) h' (zqdraw x k s r (T, O, (w, rp, wi, pa, un, la, ru, sa, me, se, ta, fa), Gs)).2) := ⟨_, rfl⟩
  rw [← hQ]
  obtain ⟨⟨th, mn, mq, sq, ho, hms⟩, hw, hx, h85, ⟨Aa, h86, hAa⟩, hT, hO, hG, hS⟩ := id H
  have ho : h 64 = some (.inl (10, [.int (th), .ref (65), .ref (66), .ref (67), .ref (68), .ref (69), .ref (70), .ref (71), .ref (72), .ref (73), .ref (74), .ref (75), .ref (76), .ref (77), .ref (78), .ref (79), .ref (80), .ref (81), .ref (82), .ref (83), .ref (84), .int (nI (w.length)), .int (nI (zbi un)), .int (rp), .int (wi), .int (pa), .int (la), .int (ru), .int (sa), .int (mq), .int (sq), .int (ta), .int (fa), .ref (85), .ref (86), .ref (87), .int (nI (mn)), .ref (88), .ref (89), .ref (90), .ref (91), .ref (92), .ref (93), .int (nI (T.length)), .ref (94), .int (nI (O.length))])) := ho
  have hx : zar h 84 1000 w := hx
  have lT := hT.1
  have lO := hO.1
  have lw := hx.1
  refine zp_aload_n dX11_draw_0 rfl ?_
  refine zp_iconst (v := nI (0)) dX11_draw_1 (by decide) ?_
  refine zp_put (fs' := [.int (nI (0)), .ref (65), .ref (66), .ref (67), .ref (68), .ref (69), .ref (70), .ref (71), .ref (72), .ref (73), .ref (74), .ref (75), .ref (76), .ref (77), .ref (78), .ref (79), .ref (80), .ref (81), .ref (82), .ref (83), .ref (84), .int (nI (w.length)), .int (nI (zbi un)), .int (rp), .int (wi), .int (pa), .int (la), .int (ru), .int (sa), .int (mq), .int (sq), .int (ta), .int (fa), .ref (85), .ref (86), .ref (87), .int (nI (mn)), .ref (88), .ref (89), .ref (90), .ref (91), .ref (92), .ref (93), .int (nI (T.length)), .ref (94), .int (nI (O.length))]) dX11_draw_2 pX11_133_10 (by omega) ho (Nat.le_of_ble_eq_true rfl) (zfit_i _) rfl ?_
  refine zp_nh (fun h101x eh101x => ?_)
  have k101_0 : h101x (64) = some (.inl (10, [.int (nI (0)), .ref (65), .ref (66), .ref (67), .ref (68), .ref (69), .ref (70), .ref (71), .ref (72), .ref (73), .ref (74), .ref (75), .ref (76), .ref (77), .ref (78), .ref (79), .ref (80), .ref (81), .ref (82), .ref (83), .ref (84), .int (nI (w.length)), .int (nI (zbi un)), .int (rp), .int (wi), .int (pa), .int (la), .int (ru), .int (sa), .int (mq), .int (sq), .int (ta), .int (fa), .ref (85), .ref (86), .ref (87), .int (nI (mn)), .ref (88), .ref (89), .ref (90), .ref (91), .ref (92), .ref (93), .int (nI (T.length)), .ref (94), .int (nI (O.length))])) := by rw [eh101x]; exact va_up_self _ _ _
  have sw102 : zsm h h101x (zon (64)) := zsm.rf.up eh101x rfl
  have zw102 : zsh h h101x := zsh.obj eh101x ho
  refine zp_aload_n dX11_draw_5 rfl ?_
  refine zp_iload_n dX11_draw_6 rfl ?_
  refine zp_pc (pc' := 7) rfl ?_
  have hG1 : ∀ j, j < 4 → zmg h101x (95 + 3 * j) t (Gs j) := fun j hj => (hG j hj).off (sw102 _ (by unfold zon; omega)) (sw102 _ (by unfold zon; omega)) (sw102 _ (by unfold zon; omega)) (Nat.le_refl _)
  have h861 := (sw102 86 (by unfold zon; omega)).trans h86
  refine zp_callV (As := [.int (x)]) (k := 64) (st := []) (ci := 10) dX11_draw_7 cX11_330 rfl k101_0 rfl rfl (e_isThere (x := x) k101_0 h861 hAa hG1) (by decide) (by decide) (Nat.le_of_ble_eq_true rfl) (fun v103 h103 n103 q103 => ?_)
  obtain ⟨rfl, H103, N103⟩ := q103
  rw [N103, H103]
  refine zp_nrm (cells' := 0) (slots' := 0) (st' := [.int (nI (zbi (zat4 Gs x).isSome))]) rfl rfl rfl ?_
  refine zn_if_ne (tgt := 15) dX11_draw_10 (by decide) (by have := zbi_lt (zat4 Gs x).isSome; omega) (fun c10 => ?_) (fun c10 => ?_)
  · have bq104T : (zat4 Gs x).isSome = true := by rcases Bool.eq_false_or_eq_true (zat4 Gs x).isSome with q | q; exact q; rw [q] at c10; exact absurd rfl c10
    obtain ⟨⟨kd, st, rs, iv, ct, dr, sd, V, C⟩, hz⟩ := Option.isSome_iff_exists.mp bq104T
    obtain ⟨j, hj, rfl, eG⟩ := zat4_some hz
    have g9 := hG1 j hj
    rw [eG] at g9
    obtain ⟨hkd, hst, hiv, hct, hsd, hs0, gc, hV, hC, lV, lC⟩ := g9
    have hs := zsd_le hkd
    refine zp_iload_n dX11_draw_15 rfl ?_
    refine zp_iconst (v := nI (0)) dX11_draw_16 (by decide) ?_
    refine zp_sipush (v := nI (4096)) dX11_draw_17 (by decide) ?_
    refine zp_pc (pc' := 20) rfl ?_
    refine zp_callS (As := [.int (k), .int (nI (0)), .int (nI (4096))]) (st := []) dX11_draw_20 cX11_297 rfl e_in (by decide) (by decide) (Nat.le_of_ble_eq_true rfl) (fun v105 h105 n105 q105 => ?_)
    obtain ⟨rfl, H105, N105⟩ := q105
    rw [N105, H105]
    refine zp_nrm (cells' := 0) (slots' := 0) (st' := [.int (nI (zbi (decide (nI 0 ≤ k ∧ k ≤ nI 4096))))]) rfl rfl rfl ?_
    refine zn_if_ne (tgt := 28) dX11_draw_23 (by decide) (by have := zbi_lt (decide (nI 0 ≤ k ∧ k ≤ nI 4096)); omega) (fun c23 => ?_) (fun c23 => ?_)
    · have bq106T : (decide (nI 0 ≤ k ∧ k ≤ nI 4096)) = true := by rcases Bool.eq_false_or_eq_true (decide (nI 0 ≤ k ∧ k ≤ nI 4096)) with q | q; exact q; rw [q] at c23; exact absurd rfl c23
      have nk := zin_yes (of_decide_eq_true bq106T)
      have nk : ¬ (k < 0 ∨ nI 4096 < k) := nk
      obtain ⟨c, hc, rfl⟩ := zin_nat (by decide) (of_decide_eq_true bq106T)
      refine zp_aload_n dX11_draw_28 rfl ?_
      refine zp_get dX11_draw_29 gX11_92_10 k101_0 rfl ?_
      refine zp_iload_n dX11_draw_32 rfl ?_
      refine zp_pc (pc' := 33) rfl ?_
      refine zp_aald (v := .ref (95 + 3 * j)) dX11_draw_33 h861 (by unfold vp_in; rw [nI_clamp (by omega)]; exact fun q => q.elim (nI_pos (by omega)) (fun q => by omega)) (by rw [nI_clamp (by omega), hAa j hj]) ?_
      refine zp_astore (ls' := [some (.ref (64)), some (.int (nI (j))), some (.int (nI (c))), some (.int (s)), some (.int (nI (zbi r))), some (.ref (95 + 3 * j)), none, none]) dX11_draw_34 (by decide) rfl ?_
      refine zp_iload_n dX11_draw_36 rfl ?_
      refine zp_aload dX11_draw_37 rfl ?_
      refine zp_get dX11_draw_39 gX11_311_9 gc rfl ?_
      refine zp_pc (pc' := 42) rfl ?_
      refine zp_icmp_le (tgt := 47) dX11_draw_42 (by decide) (fun c42 => ?_) (fun c42 => ?_)
      · have n3 : ¬ nI st < s := fun q => by rw [Int32.lt_iff_toInt_lt] at q; have u := c42; rw [Int32.le_iff_toInt_le] at u; omega
        refine zp_aload dX11_draw_47 rfl ?_
        refine zp_aload_n dX11_draw_49 rfl ?_
        refine zp_get dX11_draw_50 gX11_304_10 k101_0 rfl ?_
        refine zp_pc (pc' := 53) rfl ?_
        refine zp_callS (As := [.ref (95 + 3 * j), .int (nI (T.length))]) (st := []) dX11_draw_53 cX11_314 rfl (e_ztoo gc hkd (by omega)) (by decide) (by decide) (Nat.le_of_ble_eq_true rfl) (fun v107 h107 n107 q107 => ?_)
        obtain ⟨rfl, H107, N107⟩ := q107
        rw [N107, H107]
        refine zp_nrm (cells' := 0) (slots' := 0) (st' := [.int (nI (zbi (decide (6 ≤ kd ∧ zsd kd < T.length))))]) rfl rfl rfl ?_
        have hb := zbi_lt r
        have hb2 := zbi_lt rs
        have hdm := zdem_le (sd := sd) hkd hst
        have efr : zfr kd st = (zdem kd st (zsd kd) sd) := by unfold zfr zdem; rw [if_neg hs0]
        have zfl9 : zfr kd st ≤ 111 := by omega
        refine zn_if_eq (tgt := 61) dX11_draw_56 (by decide) (by have := zbi_lt (decide (6 ≤ kd ∧ zsd kd < T.length)); omega) (fun c56 => ?_) (fun c56 => ?_)
        · have bq108F : (decide (6 ≤ kd ∧ zsd kd < T.length)) = false := by rcases Bool.eq_false_or_eq_true (decide (6 ≤ kd ∧ zsd kd < T.length)) with q | q; rw [q] at c56; exact absurd c56 (by decide); exact q
          have t4 := of_decide_eq_false bq108F
          refine zp_iload dX11_draw_61 rfl ?_
          refine zp_pc (pc' := 63) rfl ?_
          have k76 : ¬ (r = true ∧ rs = false) → zP g mX11_draw (zR 8 0 0) Qf 0 0 76 [some (.ref (64)), some (.int (nI (j))), some (.int (nI (c))), some (.int (s)), some (.int (nI (zbi r))), some (.ref (95 + 3 * j)), none, none] [] h101x n := by
            intro h5
            refine zp_iload dX11_draw_76 rfl ?_
            refine zp_pc (pc' := 78) rfl ?_
            have jn109 : zP g mX11_draw (zR 8 0 0) Qf 0 0 99 [some (.ref (64)), some (.int (nI (j))), some (.int (nI (c))), some (.int (s)), some (.int (nI (zbi r))), some (.ref (95 + 3 * j)), none, none] [.int (nI (zbi (decide (r = true ∨ iv < ct))))] h101x n → zP g mX11_draw (zR 8 0 0) Qf 0 0 78 [some (.ref (64)), some (.int (nI (j))), some (.int (nI (c))), some (.int (s)), some (.int (nI (zbi r))), some (.ref (95 + 3 * j)), none, none] [.int (nI (zbi r))] h101x n := by
              intro jk109
              refine zn_if_ne (tgt := 94) dX11_draw_78 (by decide) (by omega) (fun c78 => ?_) (fun c78 => ?_)
              · have rt : r = true := by cases r; exact absurd rfl c78; rfl
                refine zp_iconst (v := nI (1)) dX11_draw_94 (by decide) ?_
                refine zp_goto (tgt := 99) dX11_draw_95 (by decide) ?_
                refine zp_pc (pc' := 99) rfl ?_
                refine zp_i (y := nI (zbi (decide (r = true ∨ iv < ct)))) (by rw [show (decide (r = true ∨ iv < ct)) = true from decide_eq_true (Or.inl rt)]; rfl) ?_
                exact jk109
              · have rf : r = false := by cases r; rfl; exact absurd c78 (by decide)
                refine zp_aload dX11_draw_81 rfl ?_
                refine zp_get dX11_draw_83 gX11_250_9 gc rfl ?_
                refine zp_aload dX11_draw_86 rfl ?_
                refine zp_get dX11_draw_88 gX11_318_9 gc rfl ?_
                refine zp_pc (pc' := 91) rfl ?_
                refine zn_icmp_le (tgt := 98) dX11_draw_91 (by decide) (by omega) (by omega) (fun c91 => ?_) (fun c91 => ?_)
                · refine zp_iconst (v := nI (0)) dX11_draw_98 (by decide) ?_
                  refine zp_pc (pc' := 99) rfl ?_
                  refine zp_i (y := nI (zbi (decide (r = true ∨ iv < ct)))) (by rw [show (decide (r = true ∨ iv < ct)) = false from decide_eq_false (fun q => q.elim (fun q => by rw [rf] at q; cases q) (fun q => by omega))]; rfl) ?_
                  exact jk109
                · refine zp_iconst (v := nI (1)) dX11_draw_94 (by decide) ?_
                  refine zp_goto (tgt := 99) dX11_draw_95 (by decide) ?_
                  refine zp_pc (pc' := 99) rfl ?_
                  refine zp_i (y := nI (zbi (decide (r = true ∨ iv < ct)))) (by rw [show (decide (r = true ∨ iv < ct)) = true from decide_eq_true (Or.inr c91)]; rfl) ?_
                  exact jk109
            refine jn109 ?_
            refine zp_istore (ls' := [some (.ref (64)), some (.int (nI (j))), some (.int (nI (c))), some (.int (s)), some (.int (nI (zbi r))), some (.ref (95 + 3 * j)), some (.int (nI (zbi (decide (r = true ∨ iv < ct))))), none]) dX11_draw_99 (by decide) rfl ?_
            refine zp_iload dX11_draw_101 rfl ?_
            refine zp_pc (pc' := 103) rfl ?_
            have kt110 : ∀ (h1 : ZH) (w1 A1 V1 C1 : List Nat) (ta1 : Int32) (ct1 sd1 mn1 : Nat), zsm h h1 (zcg (95 + 3 * j)) → zsh h h1 → h1 64 = some (.inl (10, [.int (nI (0)), .ref (65), .ref (66), .ref (67), .ref (68), .ref (69), .ref (70), .ref (71), .ref (72), .ref (73), .ref (74), .ref (75), .ref (76), .ref (77), .ref (78), .ref (79), .ref (80), .ref (81), .ref (82), .ref (83), .ref (84), .int (nI (w1.length)), .int (nI (zbi un)), .int (rp), .int (wi), .int (pa), .int (la), .int (ru), .int (sa), .int (mq), .int (sq), .int (ta1), .int (fa), .ref (85), .ref (86), .ref (87), .int (nI (mn1)), .ref (88), .ref (89), .ref (90), .ref (91), .ref (92), .ref (93), .int (nI (T.length)), .ref (94), .int (nI (O.length))])) → h1 (95 + 3 * j) = some (.inl (9, [.int (nI (1)), .int (nI (kd)), .int (nI (st)), .int (nI (iv)), .int (nI (zbi rs)), .int (nI (ct1)), .int (dr), .int (nI (sd1)), .ref (95 + 3 * j + 1), .ref (95 + 3 * j + 2)])) → zar h1 84 1000 w1 → zar h1 93 240 A1 → zar h1 (95 + 3 * j + 1) 111 V1 → zar h1 (95 + 3 * j + 2) 111 C1 → V1.length = zvN kd → C1.length = zcN kd → ct1 ≤ t + 1 → sd1 ≤ t + 2 → sd1 ≠ 0 → (6 ≤ kd → A1.length ≤ zsd kd) → (zqdraw (nI j) (nI c) s r (T, O, (w, rp, wi, pa, un, la, ru, sa, me, se, ta, fa), Gs)) = (nI 0, [], (zpr kd ct1 c V1 C1 A1).1, (w1, rp, wi, pa, un, la, ru, sa, me, se, ta1, fa), va_up Gs j (some (kd, st, rs, iv, ct1 + 1, dr + nI c, sd1, (zpr kd ct1 c V1 C1 A1).2.1, (zpr kd ct1 c V1 C1 A1).2.2))) → zP g mX11_draw (zR 8 0 0) Qf 0 0 150 [some (.ref (64)), some (.int (nI (j))), some (.int (nI (c))), some (.int (s)), some (.int (nI (zbi r))), some (.ref (95 + 3 * j)), some (.int (nI (zbi (decide (r = true ∨ iv < ct))))), none] [.int (nI (A1.length))] h1 n := by
              intro h1 w1 A1 V1 C1 ta1 ct1 sd1 mn1 s1 z1 o1 g1 w1h a1h v1h c1h lV1 lC1 ct1l sd1l sd1n a6 e9
              have W1 := hw.sh s1 z1 (fun i q => by unfold zcg at q; unfold zwf; omega)
              obtain ⟨p1, p2, p3⟩ := zpr_len (ct := ct1) (k := c) (A := A1) hkd lV1 lC1
              have O1 := (hO.ia)
              have O1 := z1.1 _ _ O1
              refine zp_istore (ls' := [some (.ref (64)), some (.int (nI (j))), some (.int (nI (c))), some (.int (s)), some (.int (nI (zbi r))), some (.ref (95 + 3 * j)), some (.int (nI (zbi (decide (r = true ∨ iv < ct))))), some (.int (nI (A1.length)))]) dX11_draw_150 (by decide) rfl ?_
              refine zp_aload dX11_draw_152 rfl ?_
              refine zp_get dX11_draw_154 gX11_271_9 g1 rfl ?_
              refine zp_iconst (v := nI (2)) dX11_draw_157 (by decide) ?_
              refine zp_pc (pc' := 158) rfl ?_
              have kt111 : ∀ (h3 : ZH), zsm h1 h3 (zsgo (95 + 3 * j)) → zsh h1 h3 → (∃ mn3, h3 64 = some (.inl (10, [.int (nI (0)), .ref (65), .ref (66), .ref (67), .ref (68), .ref (69), .ref (70), .ref (71), .ref (72), .ref (73), .ref (74), .ref (75), .ref (76), .ref (77), .ref (78), .ref (79), .ref (80), .ref (81), .ref (82), .ref (83), .ref (84), .int (nI (w1.length)), .int (nI (zbi un)), .int (rp), .int (wi), .int (pa), .int (la), .int (ru), .int (sa), .int (mq), .int (sq), .int (ta1), .int (fa), .ref (85), .ref (86), .ref (87), .int (nI (mn3)), .ref (88), .ref (89), .ref (90), .ref (91), .ref (92), .ref (93), .int (nI (T.length)), .ref (94), .int (nI (O.length))]))) → h3 (95 + 3 * j) = some (.inl (9, [.int (nI (1)), .int (nI (kd)), .int (nI (st)), .int (nI (iv)), .int (nI (zbi rs)), .int (nI (ct1)), .int (dr), .int (nI (sd1)), .ref (95 + 3 * j + 1), .ref (95 + 3 * j + 2)])) → zar h3 94 4096 (zpr kd ct1 c V1 C1 A1).1 → zar h3 (95 + 3 * j + 1) 111 (zpr kd ct1 c V1 C1 A1).2.1 → zar h3 (95 + 3 * j + 2) 111 (zpr kd ct1 c V1 C1 A1).2.2 → zP g mX11_draw (zR 8 0 0) Qf 0 0 203 [some (.ref (64)), some (.int (nI (j))), some (.int (nI (c))), some (.int (s)), some (.int (nI (zbi r))), some (.ref (95 + 3 * j)), some (.int (nI (zbi (decide (r = true ∨ iv < ct))))), some (.int (nI (A1.length)))] [] h3 n := by
                intro h3 s2 z2 o3 g3 O3 v3 c3
                obtain ⟨mn3, o3⟩ := o3
                refine zp_aload dX11_draw_203 rfl ?_
                refine zp_dup dX11_draw_205 rfl ?_
                refine zp_get dX11_draw_206 gX11_250_9 g3 rfl ?_
                refine zp_iconst (v := nI (1)) dX11_draw_209 (by decide) ?_
                refine zn_iadd dX11_draw_210 ?_
                refine zp_put (fs' := [.int (nI (1)), .int (nI (kd)), .int (nI (st)), .int (nI (iv)), .int (nI (zbi rs)), .int (nI ((ct1) + (1))), .int (dr), .int (nI (sd1)), .ref (95 + 3 * j + 1), .ref (95 + 3 * j + 2)]) dX11_draw_211 pX11_250_9 (by omega) g3 (Nat.le_of_ble_eq_true rfl) (zfit_i _) rfl ?_
                refine zp_nh (fun h112x eh112x => ?_)
                have k112_0 := (congrFun eh112x (64)).trans ((va_up_ne _ _ (by omega)).trans o3)
                have k112_1 : h112x (95 + 3 * j) = some (.inl (9, [.int (nI (1)), .int (nI (kd)), .int (nI (st)), .int (nI (iv)), .int (nI (zbi rs)), .int (nI ((ct1) + (1))), .int (dr), .int (nI (sd1)), .ref (95 + 3 * j + 1), .ref (95 + 3 * j + 2)])) := by rw [eh112x]; exact va_up_self _ _ _
                have sw113 : zsm h3 h112x (zon (95 + 3 * j)) := zsm.rf.up eh112x rfl
                have zw113 : zsh h3 h112x := zsh.obj eh112x g3
                refine zp_aload dX11_draw_214 rfl ?_
                refine zp_dup dX11_draw_216 rfl ?_
                refine zp_get dX11_draw_217 gX11_324_9 k112_1 rfl ?_
                refine zp_iload_n dX11_draw_220 rfl ?_
                refine zp_iadd dX11_draw_221 ?_
                refine zp_put (fs' := [.int (nI (1)), .int (nI (kd)), .int (nI (st)), .int (nI (iv)), .int (nI (zbi rs)), .int (nI ((ct1) + (1))), .int ((dr) + (nI (c))), .int (nI (sd1)), .ref (95 + 3 * j + 1), .ref (95 + 3 * j + 2)]) dX11_draw_222 pX11_324_9 (by omega) k112_1 (Nat.le_of_ble_eq_true rfl) (zfit_i _) rfl ?_
                refine zp_nh (fun h114x eh114x => ?_)
                have k114_0 := (congrFun eh114x (64)).trans ((va_up_ne _ _ (by omega)).trans k112_0)
                have k114_1 : h114x (95 + 3 * j) = some (.inl (9, [.int (nI (1)), .int (nI (kd)), .int (nI (st)), .int (nI (iv)), .int (nI (zbi rs)), .int (nI ((ct1) + (1))), .int ((dr) + (nI (c))), .int (nI (sd1)), .ref (95 + 3 * j + 1), .ref (95 + 3 * j + 2)])) := by rw [eh114x]; exact va_up_self _ _ _
                have sw115 : zsm h112x h114x (zon (95 + 3 * j)) := zsm.rf.up eh114x rfl
                have zw115 : zsh h112x h114x := zsh.obj eh114x k112_1
                refine zp_pc (pc' := 225) rfl ?_
                refine zp_aload_n dX11_draw_225 rfl ?_
                refine zp_iload_n dX11_draw_226 rfl ?_
                refine zp_pc (pc' := 227) rfl ?_
                refine zp_i (y := nI ((zpr kd ct1 c V1 C1 A1).1.length)) (by rw [p1]) ?_
                refine zp_put (fs' := [.int (nI (0)), .ref (65), .ref (66), .ref (67), .ref (68), .ref (69), .ref (70), .ref (71), .ref (72), .ref (73), .ref (74), .ref (75), .ref (76), .ref (77), .ref (78), .ref (79), .ref (80), .ref (81), .ref (82), .ref (83), .ref (84), .int (nI (w1.length)), .int (nI (zbi un)), .int (rp), .int (wi), .int (pa), .int (la), .int (ru), .int (sa), .int (mq), .int (sq), .int (ta1), .int (fa), .ref (85), .ref (86), .ref (87), .int (nI (mn3)), .ref (88), .ref (89), .ref (90), .ref (91), .ref (92), .ref (93), .int (nI (T.length)), .ref (94), .int (nI ((zpr kd ct1 c V1 C1 A1).1.length))]) dX11_draw_227 pX11_342_10 (by omega) k114_0 (Nat.le_of_ble_eq_true rfl) (zfit_i _) rfl ?_
                refine zp_nh (fun h116x eh116x => ?_)
                have k116_0 : h116x (64) = some (.inl (10, [.int (nI (0)), .ref (65), .ref (66), .ref (67), .ref (68), .ref (69), .ref (70), .ref (71), .ref (72), .ref (73), .ref (74), .ref (75), .ref (76), .ref (77), .ref (78), .ref (79), .ref (80), .ref (81), .ref (82), .ref (83), .ref (84), .int (nI (w1.length)), .int (nI (zbi un)), .int (rp), .int (wi), .int (pa), .int (la), .int (ru), .int (sa), .int (mq), .int (sq), .int (ta1), .int (fa), .ref (85), .ref (86), .ref (87), .int (nI (mn3)), .ref (88), .ref (89), .ref (90), .ref (91), .ref (92), .ref (93), .int (nI (T.length)), .ref (94), .int (nI ((zpr kd ct1 c V1 C1 A1).1.length))])) := by rw [eh116x]; exact va_up_self _ _ _
                have k116_1 := (congrFun eh116x (95 + 3 * j)).trans ((va_up_ne _ _ (by omega)).trans k114_1)
                have sw117 : zsm h114x h116x (zon (64)) := zsm.rf.up eh116x rfl
                have zw117 : zsh h114x h116x := zsh.obj eh116x k114_0
                refine zp_aload_n dX11_draw_230 rfl ?_
                refine zp_iconst (v := nI (0)) dX11_draw_231 (by decide) ?_
                refine zp_put (fs' := [.int (nI (0)), .ref (65), .ref (66), .ref (67), .ref (68), .ref (69), .ref (70), .ref (71), .ref (72), .ref (73), .ref (74), .ref (75), .ref (76), .ref (77), .ref (78), .ref (79), .ref (80), .ref (81), .ref (82), .ref (83), .ref (84), .int (nI (w1.length)), .int (nI (zbi un)), .int (rp), .int (wi), .int (pa), .int (la), .int (ru), .int (sa), .int (mq), .int (sq), .int (ta1), .int (fa), .ref (85), .ref (86), .ref (87), .int (nI (mn3)), .ref (88), .ref (89), .ref (90), .ref (91), .ref (92), .ref (93), .int (nI (0)), .ref (94), .int (nI ((zpr kd ct1 c V1 C1 A1).1.length))]) dX11_draw_232 pX11_304_10 (by omega) k116_0 (Nat.le_of_ble_eq_true rfl) (zfit_i _) rfl ?_
                refine zp_nh (fun h118x eh118x => ?_)
                have k118_0 : h118x (64) = some (.inl (10, [.int (nI (0)), .ref (65), .ref (66), .ref (67), .ref (68), .ref (69), .ref (70), .ref (71), .ref (72), .ref (73), .ref (74), .ref (75), .ref (76), .ref (77), .ref (78), .ref (79), .ref (80), .ref (81), .ref (82), .ref (83), .ref (84), .int (nI (w1.length)), .int (nI (zbi un)), .int (rp), .int (wi), .int (pa), .int (la), .int (ru), .int (sa), .int (mq), .int (sq), .int (ta1), .int (fa), .ref (85), .ref (86), .ref (87), .int (nI (mn3)), .ref (88), .ref (89), .ref (90), .ref (91), .ref (92), .ref (93), .int (nI (0)), .ref (94), .int (nI ((zpr kd ct1 c V1 C1 A1).1.length))])) := by rw [eh118x]; exact va_up_self _ _ _
                have k118_1 := (congrFun eh118x (95 + 3 * j)).trans ((va_up_ne _ _ (by omega)).trans k116_1)
                have sw119 : zsm h116x h118x (zon (64)) := zsm.rf.up eh118x rfl
                have zw119 : zsh h116x h118x := zsh.obj eh118x k116_0
                refine zp_iconst (v := nI (0)) dX11_draw_235 (by decide) ?_
                refine zp_pc (pc' := 236) rfl ?_
                have eq9 : (zqdraw (nI j) (nI c) s r (T, O, (w, rp, wi, pa, un, la, ru, sa, me, se, ta, fa), Gs)) = (nI 0, [], (zpr kd ct1 c V1 C1 A1).1, (w1, rp, wi, pa, un, la, ru, sa, me, se, ta1, fa), va_up Gs j (some (kd, st, rs, iv, ct1 + 1, dr + nI c, sd1, (zpr kd ct1 c V1 C1 A1).2.1, (zpr kd ct1 c V1 C1 A1).2.2))) := e9
                refine zp_ret (v := (some (.int (nI (0))))) dX11_draw_236 ⟨⟨_, rfl, rfl⟩, rfl⟩ (by decide) (by decide) ?_
                rw [hQ]
                rw [eq9]; exact ⟨rfl, rfl, ((((((s1).mono (fun i hi => by unfold zmA; unfold zcg at hi; omega)).trans ((s2).mono (fun i hi => by unfold zmA; unfold zsgo at hi; omega))).trans ((sw113).mono (fun i hi => by unfold zmA; unfold zon at hi; omega))).trans ((sw115).mono (fun i hi => by unfold zmA; unfold zon at hi; omega))).trans ((sw117).mono (fun i hi => by unfold zmA; unfold zon at hi; omega))).trans ((sw119).mono (fun i hi => by unfold zmA; unfold zon at hi; omega)), zMD.gen (T' := []) (O' := (zpr kd ct1 c V1 C1 A1).1) (S' := (w1, rp, wi, pa, un, la, ru, sa, me, se, ta1, fa)) H hj (((((((s1).mono (fun i hi => by unfold zcg; unfold zcg at hi; omega)).trans ((s2).mono (fun i hi => by unfold zcg; unfold zsgo at hi; omega))).trans ((sw113).mono (fun i hi => by unfold zcg; unfold zon at hi; omega))).trans ((sw115).mono (fun i hi => by unfold zcg; unfold zon at hi; omega))).trans ((sw117).mono (fun i hi => by unfold zcg; unfold zon at hi; omega))).trans ((sw119).mono (fun i hi => by unfold zcg; unfold zon at hi; omega))) ((((((z1).trans z2).trans zw113).trans zw115).trans zw117).trans zw119) ⟨_, _, _, _, k118_0, hms⟩ (((((((w1h).keep (s2 _ (by unfold zsgo; omega))).keep (sw113 _ (by unfold zon; omega))).keep (sw115 _ (by unfold zon; omega))).keep (sw117 _ (by unfold zon; omega))).keep (sw119 _ (by unfold zon; omega)))) ((zar.nil ((((((a1h.ia).keep (s2 _ (by unfold zsgo; omega))).keep (sw113 _ (by unfold zon; omega))).keep (sw115 _ (by unfold zon; omega))).keep (sw117 _ (by unfold zon; omega))).keep (sw119 _ (by unfold zon; omega))) (by decide))) ((((((O3).keep (sw113 _ (by unfold zon; omega))).keep (sw115 _ (by unfold zon; omega))).keep (sw117 _ (by unfold zon; omega))).keep (sw119 _ (by unfold zon; omega)))) hS (by omega) ⟨hkd, hst, hiv, by omega, by omega, sd1n, k118_1, (((((v3).keep (sw113 _ (by unfold zon; omega))).keep (sw115 _ (by unfold zon; omega))).keep (sw117 _ (by unfold zon; omega))).keep (sw119 _ (by unfold zon; omega))), (((((c3).keep (sw113 _ (by unfold zon; omega))).keep (sw115 _ (by unfold zon; omega))).keep (sw117 _ (by unfold zon; omega))).keep (sw119 _ (by unfold zon; omega))), p2, p3⟩⟩
              refine zn_icmp_ge (tgt := 173) dX11_draw_158 (by decide) (by omega) (by omega) (fun c158 => ?_) (fun c158 => ?_)
              · refine zp_aload dX11_draw_173 rfl ?_
                refine zp_get dX11_draw_175 gX11_271_9 g1 rfl ?_
                refine zp_iconst (v := nI (4)) dX11_draw_178 (by decide) ?_
                refine zp_pc (pc' := 179) rfl ?_
                refine zn_icmp_ge (tgt := 194) dX11_draw_179 (by decide) (by omega) (by omega) (fun c179 => ?_) (fun c179 => ?_)
                · have lv4 : V1.length = 16 := lV1.trans (if_neg (by omega))
                  have lc4 : C1.length = zkl (zod kd) := lC1.trans (zcN_hi hkd (by omega))
                  refine zp_aload_n dX11_draw_194 rfl ?_
                  refine zp_aload dX11_draw_195 rfl ?_
                  refine zp_iload_n dX11_draw_197 rfl ?_
                  refine zp_iload dX11_draw_198 rfl ?_
                  refine zp_pc (pc' := 200) rfl ?_
                  refine zp_callV (As := [.ref (95 + 3 * j), .int (nI (c)), .int (nI (A1.length))]) (k := 64) (st := []) (ci := 10) dX11_draw_200 cX11_339 rfl o1 rfl rfl (e_zdrawC (tr := true) (A := A1) W1 o1 g1 (by omega) hkd (by omega) v1h c1h lv4 lc4 a1h O1 hc a6) (by decide) (by decide) (Nat.le_of_ble_eq_true rfl) (fun v120 h120 n120 q120 => ?_)
                  obtain ⟨rfl, N120, s120, z120, ⟨mn4, o120⟩, a120, v120, c120⟩ := q120
                  rw [N120]
                  refine zp_nrm (cells' := 0) (slots' := 0) (st' := []) rfl rfl rfl ?_
                  have m121 : h120 (95 + 3 * j) = some (.inl (9, [.int (nI (1)), .int (nI (kd)), .int (nI (st)), .int (nI (iv)), .int (nI (zbi rs)), .int (nI (ct1)), .int (dr), .int (nI (sd1)), .ref (95 + 3 * j + 1), .ref (95 + 3 * j + 2)])) := (s120 _ (by unfold zsgo; omega)).trans g1
                  refine zp_pc (pc' := 203) rfl ?_
                  exact kt111 h120 s120 z120 ⟨_, o120⟩ m121 a120 v120 c120
                · have e3 := zmacN hkd (by omega) c179
                  have lv4 : V1.length = 8 * zwb (zod kd) := lV1.trans ((if_pos c179).trans e3)
                  have lc4 : C1.length = 8 * zwb (zod kd) := lC1.trans ((if_pos c179).trans e3)
                  refine zp_aload_n dX11_draw_182 rfl ?_
                  refine zp_aload dX11_draw_183 rfl ?_
                  refine zp_iload_n dX11_draw_185 rfl ?_
                  refine zp_iload dX11_draw_186 rfl ?_
                  refine zp_pc (pc' := 188) rfl ?_
                  refine zp_callV (As := [.ref (95 + 3 * j), .int (nI (c)), .int (nI (A1.length))]) (k := 64) (st := []) (ci := 10) dX11_draw_188 cX11_336 rfl o1 rfl rfl (e_zdrawM (tr := true) (A := A1) W1 o1 g1 (by omega) hkd (by omega) c179 v1h c1h lv4 lc4 a1h O1 hc) (by decide) (by decide) (Nat.le_of_ble_eq_true rfl) (fun v122 h122 n122 q122 => ?_)
                  obtain ⟨rfl, N122, s122, z122, ⟨mn4, o122⟩, a122, v122, c122⟩ := q122
                  rw [N122]
                  refine zp_nrm (cells' := 0) (slots' := 0) (st' := []) rfl rfl rfl ?_
                  have m123 : h122 (95 + 3 * j) = some (.inl (9, [.int (nI (1)), .int (nI (kd)), .int (nI (st)), .int (nI (iv)), .int (nI (zbi rs)), .int (nI (ct1)), .int (dr), .int (nI (sd1)), .ref (95 + 3 * j + 1), .ref (95 + 3 * j + 2)])) := (s122 _ (by unfold zsgo; omega)).trans g1
                  refine zp_goto (tgt := 203) dX11_draw_191 (by decide) ?_
                  refine zp_pc (pc' := 203) rfl ?_
                  exact kt111 h122 s122 z122 ⟨_, o122⟩ m123 a122 v122 c122
              · have lv4 : V1.length = zsd kd := lV1.trans (if_pos (by omega))
                have lc4 : C1.length = zsd kd := lC1.trans (if_pos (by omega))
                refine zp_aload_n dX11_draw_161 rfl ?_
                refine zp_aload dX11_draw_162 rfl ?_
                refine zp_iload_n dX11_draw_164 rfl ?_
                refine zp_iload dX11_draw_165 rfl ?_
                refine zp_pc (pc' := 167) rfl ?_
                refine zp_callV (As := [.ref (95 + 3 * j), .int (nI (c)), .int (nI (A1.length))]) (k := 64) (st := []) (ci := 10) dX11_draw_167 cX11_333 rfl o1 rfl rfl (e_zdrawD (tr := true) (A := A1) W1 o1 g1 (by omega) hkd c158 v1h c1h a1h O1 lv4 lc4 hc (by omega)) (by decide) (by decide) (Nat.le_of_ble_eq_true rfl) (fun v124 h124 n124 q124 => ?_)
                obtain ⟨rfl, N124, s124, z124, ⟨mn4, o124⟩, a124, v124, c124⟩ := q124
                rw [N124]
                refine zp_nrm (cells' := 0) (slots' := 0) (st' := []) rfl rfl rfl ?_
                have m125 : h124 (95 + 3 * j) = some (.inl (9, [.int (nI (1)), .int (nI (kd)), .int (nI (st)), .int (nI (iv)), .int (nI (zbi rs)), .int (nI (ct1)), .int (dr), .int (nI (sd1)), .ref (95 + 3 * j + 1), .ref (95 + 3 * j + 2)])) := (s124 _ (by unfold zsgo; omega)).trans g1
                refine zp_goto (tgt := 203) dX11_draw_170 (by decide) ?_
                refine zp_pc (pc' := 203) rfl ?_
                exact kt111 h124 s124 z124 ⟨_, o124⟩ m125 a124 v124 c124
            refine zn_if_eq (tgt := 121) dX11_draw_103 (by decide) (by have := zbi_lt (decide (r = true ∨ iv < ct)); omega) (fun c103 => ?_) (fun c103 => ?_)
            · have bq126F : (decide (r = true ∨ iv < ct)) = false := by rcases Bool.eq_false_or_eq_true (decide (r = true ∨ iv < ct)) with q | q; rw [q] at c103; exact absurd c103 (by decide); exact q
              have an := of_decide_eq_false bq126F
              have an2 : ¬ (r = true ∨ zgdue (kd, st, rs, iv, ct, dr, sd, V, C) = true) := fun q => an (q.imp id (fun q => of_decide_eq_true q))
              refine zp_iload dX11_draw_121 rfl ?_
              refine zp_pc (pc' := 123) rfl ?_
              refine zn_if_eq (tgt := 137) dX11_draw_123 (by decide) (by have := zbi_lt (decide (r = true ∨ iv < ct)); omega) (fun c123 => ?_) (fun c123 => ?_)
              · refine zp_iload dX11_draw_137 rfl ?_
                refine zp_pc (pc' := 139) rfl ?_
                refine zn_if_eq (tgt := 146) dX11_draw_139 (by decide) (by have := zbi_lt (decide (r = true ∨ iv < ct)); omega) (fun c139 => ?_) (fun c139 => ?_)
                · refine zp_aload_n dX11_draw_146 rfl ?_
                  refine zp_get dX11_draw_147 gX11_304_10 k101_0 rfl ?_
                  refine zp_pc (pc' := 150) rfl ?_
                  exact kt110 h101x w T V C ta ct sd mn ((sw102).mono (fun i hi => by unfold zcg; unfold zon at hi; omega)) (zw102) k101_0 gc ((hx).keep (sw102 _ (by unfold zon; omega))) ((hT).keep (sw102 _ (by unfold zon; omega))) hV hC lV lC (by omega) (by omega) hs0 (fun q => Nat.not_lt.mp (fun u => t4 ⟨q, u⟩)) (by rw [zqdraw_so hz, if_neg nk, if_neg (show ¬ nI (zgst (kd, st, rs, iv, ct, dr, sd, V, C)) < s from n3), if_neg an2, if_neg (show ¬ zgtoo T (kd, st, rs, iv, ct, dr, sd, V, C) = true from fun q => t4 (of_decide_eq_true q)), nI_clamp (by omega), nI_clamp (by omega)]; rfl)
                · exact absurd c123 c139
              · rw [bq126F] at c123; exact absurd rfl c123
            · have bq126T : (decide (r = true ∨ iv < ct)) = true := by rcases Bool.eq_false_or_eq_true (decide (r = true ∨ iv < ct)) with q | q; exact q; rw [q] at c103; exact absurd rfl c103
              have an := of_decide_eq_true bq126T
              have an2 : r = true ∨ zgdue (kd, st, rs, iv, ct, dr, sd, V, C) = true := an.imp id (fun q => decide_eq_true q)
              refine zp_aload dX11_draw_106 rfl ?_
              refine zp_callV (As := []) (k := 95 + 3 * j) (st := []) (ci := 9) dX11_draw_108 cX11_281 rfl gc rfl rfl (e_zfresh gc hkd (by omega)) (by decide) (by decide) (Nat.le_of_ble_eq_true rfl) (fun v127 h127 n127 q127 => ?_)
              obtain ⟨rfl, H127, N127⟩ := q127
              rw [N127, H127]
              refine zp_nrm (cells' := 0) (slots' := 0) (st' := [.int (nI (zfr kd st))]) rfl rfl rfl ?_
              refine zp_aload_n dX11_draw_111 rfl ?_
              refine zp_get dX11_draw_112 gX11_206_10 k101_0 rfl ?_
              refine zp_pc (pc' := 115) rfl ?_
              refine zn_icmp_le (tgt := 121) dX11_draw_115 (by decide) (by omega) (by omega) (fun c115 => ?_) (fun c115 => ?_)
              · refine zp_iload dX11_draw_121 rfl ?_
                refine zp_pc (pc' := 123) rfl ?_
                refine zn_if_eq (tgt := 137) dX11_draw_123 (by decide) (by have := zbi_lt (decide (r = true ∨ iv < ct)); omega) (fun c123 => ?_) (fun c123 => ?_)
                · rw [bq126T] at c123; exact absurd c123 (by decide)
                · refine zp_aload_n dX11_draw_126 rfl ?_
                  refine zp_aload dX11_draw_127 rfl ?_
                  refine zp_iconst (v := nI (0)) dX11_draw_129 (by decide) ?_
                  refine zp_pc (pc' := 130) rfl ?_
                  refine zp_i (y := nI (zbi false)) rfl ?_
                  refine zp_aload_n dX11_draw_130 rfl ?_
                  refine zp_get dX11_draw_131 gX11_304_10 k101_0 rfl ?_
                  refine zp_pc (pc' := 134) rfl ?_
                  have W128 := zmw.sh hw ((sw102).mono (fun i hi => by unfold zwf; unfold zon at hi; omega)) (zw102) (fun i hi => hi)
                  refine zp_callV (As := [.ref (95 + 3 * j), .int (nI (zbi false)), .int (nI (T.length))]) (k := 64) (st := []) (ci := 10) dX11_draw_134 cX11_327 rfl k101_0 rfl rfl (e_zseedA (tr := true) (ft := false) (A := T) (xs := w) (V := V) (C := C) W128 k101_0 gc (by omega) hkd hst ((hx).keep (sw102 _ (by unfold zon; omega))) ((h85).keep (sw102 _ (by unfold zon; omega))) ((hT).keep (sw102 _ (by unfold zon; omega))) ⟨fun q => (by cases q), fun q => absurd q hs0⟩ (hV) (hC) (fun _ => ⟨lV, lC⟩) (by omega)) (by decide) (by decide) (Nat.le_of_ble_eq_true rfl) (fun v129 h129 n129 q129 => ?_)
                  obtain ⟨rfl, N129, s129, z129, ⟨mn2, o129⟩, w129, g129, v129, c129⟩ := q129
                  rw [N129]
                  refine zp_nrm (cells' := 0) (slots' := 0) (st' := []) rfl rfl rfl ?_
                  have m130 : h129 (86) = some (.inr (4, .inr (.inr (true, Aa)))) := (s129 _ (by unfold zsS; omega)).trans h861
                  obtain ⟨lv2, lc2⟩ := zpl_len (R := w.take (zdem kd st (zsd kd) sd)) (A := T) hkd (Or.inr ⟨lV, lC⟩) (sd := sd)
                  have rf0 : zrefuse r T (w, rp, wi, pa, un, la, ru, sa, me, se, ta, fa) (kd, st, rs, iv, ct, dr, sd, V, C) = 0 := zrf_0 t4 h5 (by show ¬ w.length < _; omega)
                  refine zp_iload dX11_draw_137 rfl ?_
                  refine zp_pc (pc' := 139) rfl ?_
                  refine zn_if_eq (tgt := 146) dX11_draw_139 (by decide) (by have := zbi_lt (decide (r = true ∨ iv < ct)); omega) (fun c139 => ?_) (fun c139 => ?_)
                  · exact absurd c139 c123
                  · refine zp_iconst (v := nI (0)) dX11_draw_142 (by decide) ?_
                    refine zp_goto (tgt := 150) dX11_draw_143 (by decide) ?_
                    refine zp_pc (pc' := 150) rfl ?_
                    refine zp_i (y := nI (([] : List Nat).length)) rfl ?_
                    exact kt110 h129 (w.drop (zdem kd st (zsd kd) sd)) [] (zpl kd sd V C (w.take (zdem kd st (zsd kd) sd)) T).1 (zpl kd sd V C (w.take (zdem kd st (zsd kd) sd)) T).2 (ta + nI (zdem kd st (zsd kd) sd)) 1 (sd + 1) mn2 (((sw102).mono (fun i hi => by unfold zcg; unfold zon at hi; omega)).trans ((s129).mono (fun i hi => by unfold zcg; unfold zsS at hi; omega))) ((zw102).trans z129) o129 g129 w129 (zar.nil (((hT.ia).keep (sw102 _ (by unfold zon; omega))).keep (s129 _ (by unfold zsS; omega))) (by decide)) v129 c129 lv2 lc2 (by omega) (by omega) (by omega) (fun _ => Nat.zero_le _) (by rw [zqdraw_so hz, if_neg nk, if_neg (show ¬ nI (zgst (kd, st, rs, iv, ct, dr, sd, V, C)) < s from n3), if_pos an2, if_pos rf0, nI_clamp (by omega), nI_clamp (by omega)]; rfl)
              · refine zp_bipush (v := nI (6)) dX11_draw_118 (by decide) ?_
                refine zp_pc (pc' := 120) rfl ?_
                have rf6 : zrefuse r T (w, rp, wi, pa, un, la, ru, sa, me, se, ta, fa) (kd, st, rs, iv, ct, dr, sd, V, C) = 6 := zrf_6 t4 h5 (by show w.length < _; omega)
                have eq9 : (zqdraw (nI j) (nI c) s r (T, O, (w, rp, wi, pa, un, la, ru, sa, me, se, ta, fa), Gs)) = (nI 6, T, O, (w, rp, wi, pa, un, la, ru, sa, me, se, ta, fa), Gs) := by rw [zqdraw_so hz, if_neg nk, if_neg (show ¬ nI (zgst (kd, st, rs, iv, ct, dr, sd, V, C)) < s from n3), if_pos an2, rf6]; rfl
                refine zp_ret (v := (some (.int (nI (6))))) dX11_draw_120 ⟨⟨_, rfl, rfl⟩, rfl⟩ (by decide) (by decide) ?_
                rw [hQ]
                rw [eq9]; exact ⟨rfl, rfl, (sw102).mono (fun i hi => by unfold zmA; unfold zon at hi; omega), H.upd ((sw102).mono (fun i hi => by unfold zcz; unfold zon at hi; omega)) (zw102) ⟨_, _, _, _, k101_0, hms⟩ (((hx).keep (sw102 _ (by unfold zon; omega)))) (((hT).keep (sw102 _ (by unfold zon; omega)))) (((hO).keep (sw102 _ (by unfold zon; omega)))) hS (by omega)⟩
          refine zn_if_eq (tgt := 76) dX11_draw_63 (by decide) (by omega) (fun c63 => ?_) (fun c63 => ?_)
          · exact k76 (fun q => by rw [q.1] at c63; exact absurd c63 (by decide))
          · refine zp_aload dX11_draw_66 rfl ?_
            refine zp_get dX11_draw_68 gX11_321_9 gc rfl ?_
            refine zp_pc (pc' := 71) rfl ?_
            refine zn_if_ne (tgt := 76) dX11_draw_71 (by decide) (by omega) (fun c71 => ?_) (fun c71 => ?_)
            · exact k76 (fun q => by rw [q.2] at c71; exact absurd rfl c71)
            · have h5 : r = true ∧ rs = false := ⟨by cases r; exact absurd rfl c63; rfl, by cases rs; rfl; exact absurd c71 (by decide)⟩
              have rf5 : zrefuse r T (w, rp, wi, pa, un, la, ru, sa, me, se, ta, fa) (kd, st, rs, iv, ct, dr, sd, V, C) = 5 := zrf_5 t4 h5
              refine zp_iconst (v := nI (5)) dX11_draw_74 (by decide) ?_
              refine zp_pc (pc' := 75) rfl ?_
              have eq9 : (zqdraw (nI j) (nI c) s r (T, O, (w, rp, wi, pa, un, la, ru, sa, me, se, ta, fa), Gs)) = (nI 5, T, O, (w, rp, wi, pa, un, la, ru, sa, me, se, ta, fa), Gs) := by rw [zqdraw_so hz, if_neg nk, if_neg (show ¬ nI (zgst (kd, st, rs, iv, ct, dr, sd, V, C)) < s from n3), if_pos (Or.inl h5.1), rf5]; rfl
              refine zp_ret (v := (some (.int (nI (5))))) dX11_draw_75 ⟨⟨_, rfl, rfl⟩, rfl⟩ (by decide) (by decide) ?_
              rw [hQ]
              rw [eq9]; exact ⟨rfl, rfl, (sw102).mono (fun i hi => by unfold zmA; unfold zon at hi; omega), H.upd ((sw102).mono (fun i hi => by unfold zcz; unfold zon at hi; omega)) (zw102) ⟨_, _, _, _, k101_0, hms⟩ (((hx).keep (sw102 _ (by unfold zon; omega)))) (((hT).keep (sw102 _ (by unfold zon; omega)))) (((hO).keep (sw102 _ (by unfold zon; omega)))) hS (by omega)⟩
        · have bq108T : (decide (6 ≤ kd ∧ zsd kd < T.length)) = true := by rcases Bool.eq_false_or_eq_true (decide (6 ≤ kd ∧ zsd kd < T.length)) with q | q; exact q; rw [q] at c56; exact absurd rfl c56
          refine zp_iconst (v := nI (4)) dX11_draw_59 (by decide) ?_
          refine zp_pc (pc' := 60) rfl ?_
          have t4 := of_decide_eq_true bq108T
          have rf4 : zrefuse r T (w, rp, wi, pa, un, la, ru, sa, me, se, ta, fa) (kd, st, rs, iv, ct, dr, sd, V, C) = 4 := zrf_4 t4
          have eq9 : (zqdraw (nI j) (nI c) s r (T, O, (w, rp, wi, pa, un, la, ru, sa, me, se, ta, fa), Gs)) = (nI 4, T, O, (w, rp, wi, pa, un, la, ru, sa, me, se, ta, fa), Gs) := by rw [zqdraw_so hz, if_neg nk, if_neg (show ¬ nI (zgst (kd, st, rs, iv, ct, dr, sd, V, C)) < s from n3), rf4, if_neg (show ¬ 4 = 0 by decide)]; split; rfl; exact if_pos (decide_eq_true t4)
          refine zp_ret (v := (some (.int (nI (4))))) dX11_draw_60 ⟨⟨_, rfl, rfl⟩, rfl⟩ (by decide) (by decide) ?_
          rw [hQ]
          rw [eq9]; exact ⟨rfl, rfl, (sw102).mono (fun i hi => by unfold zmA; unfold zon at hi; omega), H.upd ((sw102).mono (fun i hi => by unfold zcz; unfold zon at hi; omega)) (zw102) ⟨_, _, _, _, k101_0, hms⟩ (((hx).keep (sw102 _ (by unfold zon; omega)))) (((hT).keep (sw102 _ (by unfold zon; omega)))) (((hO).keep (sw102 _ (by unfold zon; omega)))) hS (by omega)⟩
      · refine zp_iconst (v := nI (3)) dX11_draw_45 (by decide) ?_
        refine zp_pc (pc' := 46) rfl ?_
        have c3' : nI st < s := Int32.not_le.mp c42
        have eq9 : (zqdraw (nI j) (nI c) s r (T, O, (w, rp, wi, pa, un, la, ru, sa, me, se, ta, fa), Gs)) = (nI 3, T, O, (w, rp, wi, pa, un, la, ru, sa, me, se, ta, fa), Gs) := (zqdraw_so hz).trans ((if_neg nk).trans (if_pos c3'))
        refine zp_ret (v := (some (.int (nI (3))))) dX11_draw_46 ⟨⟨_, rfl, rfl⟩, rfl⟩ (by decide) (by decide) ?_
        rw [hQ]
        rw [eq9]; exact ⟨rfl, rfl, (sw102).mono (fun i hi => by unfold zmA; unfold zon at hi; omega), H.upd ((sw102).mono (fun i hi => by unfold zcz; unfold zon at hi; omega)) (zw102) ⟨_, _, _, _, k101_0, hms⟩ (((hx).keep (sw102 _ (by unfold zon; omega)))) (((hT).keep (sw102 _ (by unfold zon; omega)))) (((hO).keep (sw102 _ (by unfold zon; omega)))) hS (by omega)⟩
    · have bq106F : (decide (nI 0 ≤ k ∧ k ≤ nI 4096)) = false := by rcases Bool.eq_false_or_eq_true (decide (nI 0 ≤ k ∧ k ≤ nI 4096)) with q | q; rw [q] at c23; exact absurd c23 (by decide); exact q
      refine zp_iconst (v := nI (2)) dX11_draw_26 (by decide) ?_
      refine zp_pc (pc' := 27) rfl ?_
      have eq9 : (zqdraw (nI j) k s r (T, O, (w, rp, wi, pa, un, la, ru, sa, me, se, ta, fa), Gs)) = (nI 2, T, O, (w, rp, wi, pa, un, la, ru, sa, me, se, ta, fa), Gs) := by rw [zqdraw_so hz, if_pos (show k < 0 ∨ nI 4096 < k from zin_not (of_decide_eq_false bq106F))]
      refine zp_ret (v := (some (.int (nI (2))))) dX11_draw_27 ⟨⟨_, rfl, rfl⟩, rfl⟩ (by decide) (by decide) ?_
      rw [hQ]
      rw [eq9]; exact ⟨rfl, rfl, (sw102).mono (fun i hi => by unfold zmA; unfold zon at hi; omega), H.upd ((sw102).mono (fun i hi => by unfold zcz; unfold zon at hi; omega)) (zw102) ⟨_, _, _, _, k101_0, hms⟩ (((hx).keep (sw102 _ (by unfold zon; omega)))) (((hT).keep (sw102 _ (by unfold zon; omega)))) (((hO).keep (sw102 _ (by unfold zon; omega)))) hS (by omega)⟩
  · have bq104F : (zat4 Gs x).isSome = false := by rcases Bool.eq_false_or_eq_true (zat4 Gs x).isSome with q | q; rw [q] at c10; exact absurd c10 (by decide); exact q
    have hz : zat4 Gs x = none := zsome_no bq104F
    refine zp_iconst (v := nI (1)) dX11_draw_13 (by decide) ?_
    refine zp_pc (pc' := 14) rfl ?_
    have eq9 : (zqdraw x k s r (T, O, (w, rp, wi, pa, un, la, ru, sa, me, se, ta, fa), Gs)) = (nI 1, T, O, (w, rp, wi, pa, un, la, ru, sa, me, se, ta, fa), Gs) := zqdraw_no hz
    refine zp_ret (v := (some (.int (nI (1))))) dX11_draw_14 ⟨⟨_, rfl, rfl⟩, rfl⟩ (by decide) (by decide) ?_
    rw [hQ]
    rw [eq9]; exact ⟨rfl, rfl, (sw102).mono (fun i hi => by unfold zmA; unfold zon at hi; omega), H.upd ((sw102).mono (fun i hi => by unfold zcz; unfold zon at hi; omega)) (zw102) ⟨_, _, _, _, k101_0, hms⟩ (((hx).keep (sw102 _ (by unfold zon; omega)))) (((hT).keep (sw102 _ (by unfold zon; omega)))) (((hO).keep (sw102 _ (by unfold zon; omega)))) hS (by omega)⟩
