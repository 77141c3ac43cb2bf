set_option maxRecDepth 10000 in
set_option maxHeartbeats 2000000 in
theorem e_plant4 {g : ZG} {h : ZH} {n : Nat} {a st : Nat} {rs : Bool} {iv ct : Nat} {dr : Int32} {sd : Nat} {b : Bool} {V C R A : List Nat} (hk : zdk h) (ha : 64 ≤ a) (o : h a = some (.inl (4, [.int (nI (st)), .int (nI (zbi rs)), .int (nI (zsl b)), .ref (a + 1), .ref (a + 3), .ref (26), .int (nI (zbi b)), .int (nI (iv)), .int (nI (ct)), .int (dr), .int (nI (sd)), .ref (zdid b)]))) (hv : zrow h (a + 1) (zsl b) V) (hc : zrow h (a + 3) (zsl b) C) (hR : zrow h 24 48 R) (hA : zrow h 17 240 A) (b2 : st ≤ 256) (b4 : iv ≤ 100000) (b5 : ct < 90000) (b6 : sd < 90000) : zMt g mX4_plant (zR 4 0 0) [.ref (a), .ref (24), .ref (17)] h n (fun v h' n' => v = none ∧ n' = n ∧ zsm h h' (zgs a) ∧ zdk h' ∧ h' a = some (.inl (4, [.int (nI (st)), .int (nI (zbi rs)), .int (nI (zsl b)), .ref (a + 1), .ref (a + 3), .ref (26), .int (nI (zbi b)), .int (nI (iv)), .int (nI (1)), .int (dr), .int (nI (sd + 1)), .ref (zdid b)])) ∧ zrow h' (a + 1) (zsl b) (zder b ((if sd = 0 then [] else 1 :: V) ++ R ++ A) (zsl b)) ∧ zrow h' (a + 3) (zsl b) (zder b (0 :: zder b ((if sd = 0 then [] else 1 :: V) ++ R ++ A) (zsl b)) (zsl b))) := by
  refine zMt.of [some (.ref (a)), some (.ref (24)), some (.ref (17))] (by decide) rfl (Nat.le_of_ble_eq_true rfl) ?_
  have hz := zdid2 b
  have hs := zsl_or b
  have lV := hv.len
  have lR := hR.len
  have lA := hA.len
  obtain ⟨e1, e2, e3, ⟨x4, e4⟩, ⟨x5, e5⟩, ⟨x6, e6⟩, ⟨x7, e7⟩, e8, e9⟩ := hk.parts b
  refine zp_aload_n dX4_plant_0 rfl ?_
  refine zp_get dX4_plant_1 gX4_23_4 o rfl ?_
  refine zp_get dX4_plant_4 gX4_27_2 e2 rfl ?_
  refine zp_pc (pc' := 7) rfl ?_
  refine zp_callV (As := []) (k := 41) (st := []) (ci := 6) dX4_plant_7 cX4_31 rfl e5.2.1 rfl rfl (e_clear (N := 512) e5) (by decide) (by decide) (Nat.le_of_ble_eq_true rfl) (fun v1 h1 n1 q1 => ?_)
  obtain ⟨rfl, N1, s1, r1⟩ := q1
  rw [N1]
  refine zp_nrm (cells' := 0) (slots' := 0) (st' := []) rfl rfl rfl ?_
  have y2_0 := e1.sm s1 (fun i hi => by unfold zrs at hi; omega)
  have y2_1 : h1 (26) = some zdkc := (s1 _ (by unfold zrs; omega)).trans e2
  have y2_2 : zcy h1 27 := e3.off (fun i h1 h2 => s1 i (by unfold zrs; omega))
  have y2_3 := e4.keep (s1 _ (by unfold zrs; omega)) (s1 _ (by unfold zrs; omega))
  have y2_4 := e6.keep (s1 _ (by unfold zrs; omega)) (s1 _ (by unfold zrs; omega))
  have y2_5 := e7.keep (s1 _ (by unfold zrs; omega)) (s1 _ (by unfold zrs; omega))
  have y2_6 : zdg h1 b (zdid b) := e8.off (fun i h1 h2 => s1 i (by unfold zrs; omega))
  have y2_7 : zdg h1 (!b) (zdid (!b)) := e9.off (fun i h1 h2 => s1 i (by unfold zrs; omega))
  have y2_8 := hv.keep (s1 _ (by unfold zrs; omega)) (s1 _ (by unfold zrs; omega))
  have y2_9 := hc.keep (s1 _ (by unfold zrs; omega)) (s1 _ (by unfold zrs; omega))
  have y2_10 := hA.keep (s1 _ (by unfold zrs; omega)) (s1 _ (by unfold zrs; omega))
  have y2_11 := hR.keep (s1 _ (by unfold zrs; omega)) (s1 _ (by unfold zrs; omega))
  have y2_12 : h1 (a) = some (.inl (4, [.int (nI (st)), .int (nI (zbi rs)), .int (nI (zsl b)), .ref (a + 1), .ref (a + 3), .ref (26), .int (nI (zbi b)), .int (nI (iv)), .int (nI (ct)), .int (dr), .int (nI (sd)), .ref (zdid b)])) := (s1 _ (by unfold zrs; omega)).trans o
  refine zp_aload_n dX4_plant_10 rfl ?_
  refine zp_pc (pc' := 11) rfl ?_
  refine zp_callU (As := []) (k := a) (st := []) (ci := 4) (q := (RX4, TX4, 12)) dX4_plant_11 cX4_37_4 rfl y2_12 rfl (e_isNew4 y2_12 (by have := zbi_lt b; omega) b2 (by omega) b4 (by omega) (by omega)) (by decide) (by decide) (Nat.le_of_ble_eq_true rfl) (fun v3 h3 n3 q3 => ?_)
  obtain ⟨rfl, H3, N3⟩ := q3
  rw [N3, H3]
  refine zp_nrm (cells' := 0) (slots' := 0) (st' := [.int (nI (zbi (decide (sd = 0))))]) rfl rfl rfl ?_
  have hn := zbi_lt (decide (sd = 0))
  refine zp_pc (pc' := 14) rfl ?_
  refine zn_if_ne (tgt := 22) dX4_plant_14 (by decide) (by omega) (fun c14 => ?_) (fun c14 => ?_)
  · have h0 : sd = 0 := by
      by_cases q : sd = 0
      · exact q
      · rw [decide_eq_false q] at c14; exact absurd rfl c14
    refine zp_aload_n dX4_plant_22 rfl ?_
    refine zp_get dX4_plant_23 gX4_23_4 y2_12 rfl ?_
    refine zp_get dX4_plant_26 gX4_27_2 y2_1 rfl ?_
    refine zp_aload_n dX4_plant_29 rfl ?_
    refine zp_pc (pc' := 30) rfl ?_
    refine zp_callV (As := [.ref (24)]) (k := 41) (st := []) (ci := 6) dX4_plant_30 cX4_45 rfl r1.2.1 rfl rfl (e_appendRow (N := 512) (K := 48) (xs := ([] : List Nat)) r1 y2_11 (by omega) (by simp; omega)) (by decide) (by decide) (Nat.le_of_ble_eq_true rfl) (fun v4 h4 n4 q4 => ?_)
    obtain ⟨rfl, N4, s4, r4⟩ := q4
    rw [N4]
    refine zp_nrm (cells' := 0) (slots' := 0) (st' := []) rfl rfl rfl ?_
    have y5_0 := y2_0.sm s4 (fun i hi => by unfold zrs at hi; omega)
    have y5_1 : h4 (26) = some zdkc := (s4 _ (by unfold zrs; omega)).trans y2_1
    have y5_2 : zcy h4 27 := y2_2.off (fun i h1 h2 => s4 i (by unfold zrs; omega))
    have y5_3 := y2_3.keep (s4 _ (by unfold zrs; omega)) (s4 _ (by unfold zrs; omega))
    have y5_4 := y2_4.keep (s4 _ (by unfold zrs; omega)) (s4 _ (by unfold zrs; omega))
    have y5_5 := y2_5.keep (s4 _ (by unfold zrs; omega)) (s4 _ (by unfold zrs; omega))
    have y5_6 : zdg h4 b (zdid b) := y2_6.off (fun i h1 h2 => s4 i (by unfold zrs; omega))
    have y5_7 : zdg h4 (!b) (zdid (!b)) := y2_7.off (fun i h1 h2 => s4 i (by unfold zrs; omega))
    have y5_8 := y2_8.keep (s4 _ (by unfold zrs; omega)) (s4 _ (by unfold zrs; omega))
    have y5_9 := y2_9.keep (s4 _ (by unfold zrs; omega)) (s4 _ (by unfold zrs; omega))
    have y5_10 := y2_10.keep (s4 _ (by unfold zrs; omega)) (s4 _ (by unfold zrs; omega))
    have y5_11 := y2_11.keep (s4 _ (by unfold zrs; omega)) (s4 _ (by unfold zrs; omega))
    have y5_12 : h4 (a) = some (.inl (4, [.int (nI (st)), .int (nI (zbi rs)), .int (nI (zsl b)), .ref (a + 1), .ref (a + 3), .ref (26), .int (nI (zbi b)), .int (nI (iv)), .int (nI (ct)), .int (dr), .int (nI (sd)), .ref (zdid b)])) := (s4 _ (by unfold zrs; omega)).trans y2_12
    refine zp_aload_n dX4_plant_33 rfl ?_
    refine zp_get dX4_plant_34 gX4_23_4 y5_12 rfl ?_
    refine zp_get dX4_plant_37 gX4_27_2 y5_1 rfl ?_
    refine zp_aload_n dX4_plant_40 rfl ?_
    refine zp_pc (pc' := 41) rfl ?_
    refine zp_callV (As := [.ref (17)]) (k := 41) (st := []) (ci := 6) dX4_plant_41 cX4_45 rfl r4.2.1 rfl rfl (e_appendRow (N := 512) (K := 240) (xs := ([] : List Nat) ++ R) r4 y5_10 (by omega) (by simp; omega)) (by decide) (by decide) (Nat.le_of_ble_eq_true rfl) (fun v6 h6 n6 q6 => ?_)
    obtain ⟨rfl, N6, s6, r6⟩ := q6
    rw [N6]
    refine zp_nrm (cells' := 0) (slots' := 0) (st' := []) rfl rfl rfl ?_
    have y7_0 := y5_0.sm s6 (fun i hi => by unfold zrs at hi; omega)
    have y7_1 : h6 (26) = some zdkc := (s6 _ (by unfold zrs; omega)).trans y5_1
    have y7_2 : zcy h6 27 := y5_2.off (fun i h1 h2 => s6 i (by unfold zrs; omega))
    have y7_3 := y5_3.keep (s6 _ (by unfold zrs; omega)) (s6 _ (by unfold zrs; omega))
    have y7_4 := y5_4.keep (s6 _ (by unfold zrs; omega)) (s6 _ (by unfold zrs; omega))
    have y7_5 := y5_5.keep (s6 _ (by unfold zrs; omega)) (s6 _ (by unfold zrs; omega))
    have y7_6 : zdg h6 b (zdid b) := y5_6.off (fun i h1 h2 => s6 i (by unfold zrs; omega))
    have y7_7 : zdg h6 (!b) (zdid (!b)) := y5_7.off (fun i h1 h2 => s6 i (by unfold zrs; omega))
    have y7_8 := y5_8.keep (s6 _ (by unfold zrs; omega)) (s6 _ (by unfold zrs; omega))
    have y7_9 := y5_9.keep (s6 _ (by unfold zrs; omega)) (s6 _ (by unfold zrs; omega))
    have y7_10 := y5_10.keep (s6 _ (by unfold zrs; omega)) (s6 _ (by unfold zrs; omega))
    have y7_11 := y5_11.keep (s6 _ (by unfold zrs; omega)) (s6 _ (by unfold zrs; omega))
    have y7_12 : h6 (a) = some (.inl (4, [.int (nI (st)), .int (nI (zbi rs)), .int (nI (zsl b)), .ref (a + 1), .ref (a + 3), .ref (26), .int (nI (zbi b)), .int (nI (iv)), .int (nI (ct)), .int (dr), .int (nI (sd)), .ref (zdid b)])) := (s6 _ (by unfold zrs; omega)).trans y5_12
    refine zp_aload_n dX4_plant_44 rfl ?_
    refine zp_get dX4_plant_45 gX4_19_4 y7_12 rfl ?_
    refine zp_aload_n dX4_plant_48 rfl ?_
    refine zp_get dX4_plant_49 gX4_23_4 y7_12 rfl ?_
    refine zp_get dX4_plant_52 gX4_27_2 y7_1 rfl ?_
    refine zp_aload_n dX4_plant_55 rfl ?_
    refine zp_get dX4_plant_56 gX4_49_4 y7_12 rfl ?_
    refine zp_aload_n dX4_plant_59 rfl ?_
    refine zp_get dX4_plant_60 gX4_53_4 y7_12 rfl ?_
    refine zp_pc (pc' := 63) rfl ?_
    refine zp_callV (As := [.ref (41), .int (nI (zsl b)), .ref (a + 1)]) (k := zdid b) (st := []) (ci := 3) dX4_plant_63 cX4_56 rfl y7_6.2.1 rfl rfl (e_stretch (b := b) (d := zdid b) (N := 512) (K := zsl b) (k := zsl b) (xs := (([] : List Nat) ++ R ++ A)) y7_6 y7_0 r6 y7_8 (by omega) (by omega) (by simp; omega) (by omega) (Nat.le_refl _)) (by decide) (by decide) (Nat.le_of_ble_eq_true rfl) (fun v8 h8 n8 q8 => ?_)
    obtain ⟨rfl, N8, s8, r8, g8⟩ := q8
    rw [N8]
    refine zp_nrm (cells' := 0) (slots' := 0) (st' := []) rfl rfl rfl ?_
    have y9_0 := y7_0.sm s8 (fun i hi => by unfold zks at hi; omega)
    have y9_1 : h8 (26) = some zdkc := (s8 _ (by unfold zks; omega)).trans y7_1
    have y9_2 : zcy h8 27 := y7_2.off (fun i h1 h2 => s8 i (by unfold zks; omega))
    have y9_3 := y7_3.keep (s8 _ (by unfold zks; omega)) (s8 _ (by unfold zks; omega))
    have y9_4 := r6.keep (s8 _ (by unfold zks; omega)) (s8 _ (by unfold zks; omega))
    have y9_5 := y7_4.keep (s8 _ (by unfold zks; omega)) (s8 _ (by unfold zks; omega))
    have y9_6 := y7_5.keep (s8 _ (by unfold zks; omega)) (s8 _ (by unfold zks; omega))
    have y9_7 : zdg h8 (!b) (zdid (!b)) := y7_7.off (fun i h1 h2 => s8 i (by unfold zks; omega))
    have y9_8 := y7_9.keep (s8 _ (by unfold zks; omega)) (s8 _ (by unfold zks; omega))
    have y9_9 := y7_10.keep (s8 _ (by unfold zks; omega)) (s8 _ (by unfold zks; omega))
    have y9_10 := y7_11.keep (s8 _ (by unfold zks; omega)) (s8 _ (by unfold zks; omega))
    have y9_11 : h8 (a) = some (.inl (4, [.int (nI (st)), .int (nI (zbi rs)), .int (nI (zsl b)), .ref (a + 1), .ref (a + 3), .ref (26), .int (nI (zbi b)), .int (nI (iv)), .int (nI (ct)), .int (dr), .int (nI (sd)), .ref (zdid b)])) := (s8 _ (by unfold zks; omega)).trans y7_12
    have lV1 := zder_len b (([] : List Nat) ++ R ++ A) (zsl b)
    refine zp_aload_n dX4_plant_66 rfl ?_
    refine zp_iconst (v := nI (0)) dX4_plant_67 (by decide) ?_
    refine zp_pc (pc' := 68) rfl ?_
    refine zp_callV (As := [.int (nI (0))]) (k := a) (st := []) (ci := 4) dX4_plant_68 cX4_41 rfl y9_11 rfl rfl (e_beginMessage (b := b) (N := zsl b) (k := 0) y9_11 ha y9_1 r8 y9_4 (by omega) (by decide)) (by decide) (by decide) (Nat.le_of_ble_eq_true rfl) (fun v10 h10 n10 q10 => ?_)
    obtain ⟨rfl, N10, s10, r10⟩ := q10
    rw [N10]
    refine zp_nrm (cells' := 0) (slots' := 0) (st' := []) rfl rfl rfl ?_
    have y11_0 := y9_0.sm s10 (fun i hi => by unfold zrs at hi; omega)
    have y11_1 : h10 (26) = some zdkc := (s10 _ (by unfold zrs; omega)).trans y9_1
    have y11_2 : zcy h10 27 := y9_2.off (fun i h1 h2 => s10 i (by unfold zrs; omega))
    have y11_3 := y9_3.keep (s10 _ (by unfold zrs; omega)) (s10 _ (by unfold zrs; omega))
    have y11_4 := y9_5.keep (s10 _ (by unfold zrs; omega)) (s10 _ (by unfold zrs; omega))
    have y11_5 := y9_6.keep (s10 _ (by unfold zrs; omega)) (s10 _ (by unfold zrs; omega))
    have y11_6 : zdg h10 b (zdid b) := g8.off (fun i h1 h2 => s10 i (by unfold zrs; omega))
    have y11_7 : zdg h10 (!b) (zdid (!b)) := y9_7.off (fun i h1 h2 => s10 i (by unfold zrs; omega))
    have y11_8 := r8.keep (s10 _ (by unfold zrs; omega)) (s10 _ (by unfold zrs; omega))
    have y11_9 := y9_8.keep (s10 _ (by unfold zrs; omega)) (s10 _ (by unfold zrs; omega))
    have y11_10 := y9_9.keep (s10 _ (by unfold zrs; omega)) (s10 _ (by unfold zrs; omega))
    have y11_11 := y9_10.keep (s10 _ (by unfold zrs; omega)) (s10 _ (by unfold zrs; omega))
    have y11_12 : h10 (a) = some (.inl (4, [.int (nI (st)), .int (nI (zbi rs)), .int (nI (zsl b)), .ref (a + 1), .ref (a + 3), .ref (26), .int (nI (zbi b)), .int (nI (iv)), .int (nI (ct)), .int (dr), .int (nI (sd)), .ref (zdid b)])) := (s10 _ (by unfold zrs; omega)).trans y9_11
    refine zp_aload_n dX4_plant_71 rfl ?_
    refine zp_get dX4_plant_72 gX4_19_4 y11_12 rfl ?_
    refine zp_aload_n dX4_plant_75 rfl ?_
    refine zp_get dX4_plant_76 gX4_23_4 y11_12 rfl ?_
    refine zp_get dX4_plant_79 gX4_27_2 y11_1 rfl ?_
    refine zp_aload_n dX4_plant_82 rfl ?_
    refine zp_get dX4_plant_83 gX4_49_4 y11_12 rfl ?_
    refine zp_aload_n dX4_plant_86 rfl ?_
    refine zp_get dX4_plant_87 gX4_62_4 y11_12 rfl ?_
    refine zp_pc (pc' := 90) rfl ?_
    refine zp_callV (As := [.ref (41), .int (nI (zsl b)), .ref (a + 3)]) (k := zdid b) (st := []) (ci := 3) dX4_plant_90 cX4_56 rfl y11_6.2.1 rfl rfl (e_stretch (b := b) (d := zdid b) (N := 512) (K := zsl b) (k := zsl b) (xs := 0 :: (zder b (([] : List Nat) ++ R ++ A) (zsl b))) y11_6 y11_0 r10 y11_9 (by omega) (by omega) (by rw [List.length_cons]; omega) (by omega) (Nat.le_refl _)) (by decide) (by decide) (Nat.le_of_ble_eq_true rfl) (fun v12 h12 n12 q12 => ?_)
    obtain ⟨rfl, N12, s12, r12, g12⟩ := q12
    rw [N12]
    refine zp_nrm (cells' := 0) (slots' := 0) (st' := []) rfl rfl rfl ?_
    have y13_0 := y11_0.sm s12 (fun i hi => by unfold zks at hi; omega)
    have y13_1 : h12 (26) = some zdkc := (s12 _ (by unfold zks; omega)).trans y11_1
    have y13_2 : zcy h12 27 := y11_2.off (fun i h1 h2 => s12 i (by unfold zks; omega))
    have y13_3 := y11_3.keep (s12 _ (by unfold zks; omega)) (s12 _ (by unfold zks; omega))
    have y13_4 := r10.keep (s12 _ (by unfold zks; omega)) (s12 _ (by unfold zks; omega))
    have y13_5 := y11_4.keep (s12 _ (by unfold zks; omega)) (s12 _ (by unfold zks; omega))
    have y13_6 := y11_5.keep (s12 _ (by unfold zks; omega)) (s12 _ (by unfold zks; omega))
    have y13_7 : zdg h12 (!b) (zdid (!b)) := y11_7.off (fun i h1 h2 => s12 i (by unfold zks; omega))
    have y13_8 := y11_8.keep (s12 _ (by unfold zks; omega)) (s12 _ (by unfold zks; omega))
    have y13_9 := y11_10.keep (s12 _ (by unfold zks; omega)) (s12 _ (by unfold zks; omega))
    have y13_10 := y11_11.keep (s12 _ (by unfold zks; omega)) (s12 _ (by unfold zks; omega))
    have y13_11 : h12 (a) = some (.inl (4, [.int (nI (st)), .int (nI (zbi rs)), .int (nI (zsl b)), .ref (a + 1), .ref (a + 3), .ref (26), .int (nI (zbi b)), .int (nI (iv)), .int (nI (ct)), .int (dr), .int (nI (sd)), .ref (zdid b)])) := (s12 _ (by unfold zks; omega)).trans y11_12
    refine zp_aload_n dX4_plant_93 rfl ?_
    refine zp_pc (pc' := 94) rfl ?_
    refine zp_callU (As := []) (k := a) (st := []) (ci := 4) (q := (RX4, TX4, 12)) dX4_plant_94 cX4_65_4 rfl y13_11 rfl (e_noteSeeding4 y13_11 (by omega)) (by decide) (by decide) (Nat.le_of_ble_eq_true rfl) (fun v14 h14 n14 q14 => ?_)
    obtain ⟨rfl, N14, s14, o14⟩ := q14
    rw [N14]
    refine zp_nrm (cells' := 0) (slots' := 0) (st' := []) rfl rfl rfl ?_
    have y15_0 := y13_0.sm s14 (fun i hi => by omega)
    have y15_1 : h14 (26) = some zdkc := (s14 _ (by omega)).trans y13_1
    have y15_2 : zcy h14 27 := y13_2.off (fun i h1 h2 => s14 i (by omega))
    have y15_3 := y13_3.keep (s14 _ (by omega)) (s14 _ (by omega))
    have y15_4 := y13_4.keep (s14 _ (by omega)) (s14 _ (by omega))
    have y15_5 := y13_5.keep (s14 _ (by omega)) (s14 _ (by omega))
    have y15_6 := y13_6.keep (s14 _ (by omega)) (s14 _ (by omega))
    have y15_7 : zdg h14 b (zdid b) := g12.off (fun i h1 h2 => s14 i (by omega))
    have y15_8 : zdg h14 (!b) (zdid (!b)) := y13_7.off (fun i h1 h2 => s14 i (by omega))
    have y15_9 := y13_8.keep (s14 _ (by omega)) (s14 _ (by omega))
    have y15_10 := r12.keep (s14 _ (by omega)) (s14 _ (by omega))
    have y15_11 := y13_9.keep (s14 _ (by omega)) (s14 _ (by omega))
    have y15_12 := y13_10.keep (s14 _ (by omega)) (s14 _ (by omega))
    have em : (if sd = 0 then ([] : List Nat) else 1 :: V) = ([] : List Nat) := if_pos h0
    refine zp_ret (v := none) dX4_plant_97 ⟨rfl, rfl⟩ (by decide) (by decide) ?_
    exact ⟨rfl, rfl, ((((((s1.mono (fun i hi => by unfold zgs; unfold zrs at hi; omega)).trans (s4.mono (fun i hi => by unfold zgs; unfold zrs at hi; omega))).trans (s6.mono (fun i hi => by unfold zgs; unfold zrs at hi; omega))).trans (s8.mono (fun i hi => by unfold zgs; unfold zks at hi; omega))).trans (s10.mono (fun i hi => by unfold zgs; unfold zrs at hi; omega))).trans (s12.mono (fun i hi => by unfold zgs; unfold zks at hi; omega))).trans (s14.mono (fun i hi => by unfold zgs; omega)), zdk.of b ⟨y15_0, y15_1, y15_2, ⟨_, y15_3⟩, ⟨_, y15_4⟩, ⟨_, y15_5⟩, ⟨_, y15_6⟩, y15_7, y15_8⟩, o14, by rw [em]; exact y15_9, by rw [em]; exact y15_10⟩
  · have h0 : ¬ sd = 0 := fun q => by rw [decide_eq_true q] at c14; exact absurd c14 (by decide)
    refine zp_aload_n dX4_plant_17 rfl ?_
    refine zp_iconst (v := nI (1)) dX4_plant_18 (by decide) ?_
    refine zp_pc (pc' := 19) rfl ?_
    refine zp_callV (As := [.int (nI (1))]) (k := a) (st := []) (ci := 4) dX4_plant_19 cX4_41 rfl y2_12 rfl rfl (e_beginMessage (b := b) (N := zsl b) (k := 1) y2_12 ha y2_1 y2_8 r1 (by omega) (by decide)) (by decide) (by decide) (Nat.le_of_ble_eq_true rfl) (fun v16 h16 n16 q16 => ?_)
    obtain ⟨rfl, N16, s16, r16⟩ := q16
    rw [N16]
    refine zp_nrm (cells' := 0) (slots' := 0) (st' := []) rfl rfl rfl ?_
    have y17_0 := y2_0.sm s16 (fun i hi => by unfold zrs at hi; omega)
    have y17_1 : h16 (26) = some zdkc := (s16 _ (by unfold zrs; omega)).trans y2_1
    have y17_2 : zcy h16 27 := y2_2.off (fun i h1 h2 => s16 i (by unfold zrs; omega))
    have y17_3 := y2_3.keep (s16 _ (by unfold zrs; omega)) (s16 _ (by unfold zrs; omega))
    have y17_4 := y2_4.keep (s16 _ (by unfold zrs; omega)) (s16 _ (by unfold zrs; omega))
    have y17_5 := y2_5.keep (s16 _ (by unfold zrs; omega)) (s16 _ (by unfold zrs; omega))
    have y17_6 : zdg h16 b (zdid b) := y2_6.off (fun i h1 h2 => s16 i (by unfold zrs; omega))
    have y17_7 : zdg h16 (!b) (zdid (!b)) := y2_7.off (fun i h1 h2 => s16 i (by unfold zrs; omega))
    have y17_8 := y2_8.keep (s16 _ (by unfold zrs; omega)) (s16 _ (by unfold zrs; omega))
    have y17_9 := y2_9.keep (s16 _ (by unfold zrs; omega)) (s16 _ (by unfold zrs; omega))
    have y17_10 := y2_10.keep (s16 _ (by unfold zrs; omega)) (s16 _ (by unfold zrs; omega))
    have y17_11 := y2_11.keep (s16 _ (by unfold zrs; omega)) (s16 _ (by unfold zrs; omega))
    have y17_12 : h16 (a) = some (.inl (4, [.int (nI (st)), .int (nI (zbi rs)), .int (nI (zsl b)), .ref (a + 1), .ref (a + 3), .ref (26), .int (nI (zbi b)), .int (nI (iv)), .int (nI (ct)), .int (dr), .int (nI (sd)), .ref (zdid b)])) := (s16 _ (by unfold zrs; omega)).trans y2_12
    refine zp_aload_n dX4_plant_22 rfl ?_
    refine zp_get dX4_plant_23 gX4_23_4 y17_12 rfl ?_
    refine zp_get dX4_plant_26 gX4_27_2 y17_1 rfl ?_
    refine zp_aload_n dX4_plant_29 rfl ?_
    refine zp_pc (pc' := 30) rfl ?_
    refine zp_callV (As := [.ref (24)]) (k := 41) (st := []) (ci := 6) dX4_plant_30 cX4_45 rfl r16.2.1 rfl rfl (e_appendRow (N := 512) (K := 48) (xs := (1 :: V)) r16 y17_11 (by omega) (by simp; omega)) (by decide) (by decide) (Nat.le_of_ble_eq_true rfl) (fun v18 h18 n18 q18 => ?_)
    obtain ⟨rfl, N18, s18, r18⟩ := q18
    rw [N18]
    refine zp_nrm (cells' := 0) (slots' := 0) (st' := []) rfl rfl rfl ?_
    have y19_0 := y17_0.sm s18 (fun i hi => by unfold zrs at hi; omega)
    have y19_1 : h18 (26) = some zdkc := (s18 _ (by unfold zrs; omega)).trans y17_1
    have y19_2 : zcy h18 27 := y17_2.off (fun i h1 h2 => s18 i (by unfold zrs; omega))
    have y19_3 := y17_3.keep (s18 _ (by unfold zrs; omega)) (s18 _ (by unfold zrs; omega))
    have y19_4 := y17_4.keep (s18 _ (by unfold zrs; omega)) (s18 _ (by unfold zrs; omega))
    have y19_5 := y17_5.keep (s18 _ (by unfold zrs; omega)) (s18 _ (by unfold zrs; omega))
    have y19_6 : zdg h18 b (zdid b) := y17_6.off (fun i h1 h2 => s18 i (by unfold zrs; omega))
    have y19_7 : zdg h18 (!b) (zdid (!b)) := y17_7.off (fun i h1 h2 => s18 i (by unfold zrs; omega))
    have y19_8 := y17_8.keep (s18 _ (by unfold zrs; omega)) (s18 _ (by unfold zrs; omega))
    have y19_9 := y17_9.keep (s18 _ (by unfold zrs; omega)) (s18 _ (by unfold zrs; omega))
    have y19_10 := y17_10.keep (s18 _ (by unfold zrs; omega)) (s18 _ (by unfold zrs; omega))
    have y19_11 := y17_11.keep (s18 _ (by unfold zrs; omega)) (s18 _ (by unfold zrs; omega))
    have y19_12 : h18 (a) = some (.inl (4, [.int (nI (st)), .int (nI (zbi rs)), .int (nI (zsl b)), .ref (a + 1), .ref (a + 3), .ref (26), .int (nI (zbi b)), .int (nI (iv)), .int (nI (ct)), .int (dr), .int (nI (sd)), .ref (zdid b)])) := (s18 _ (by unfold zrs; omega)).trans y17_12
    refine zp_aload_n dX4_plant_33 rfl ?_
    refine zp_get dX4_plant_34 gX4_23_4 y19_12 rfl ?_
    refine zp_get dX4_plant_37 gX4_27_2 y19_1 rfl ?_
    refine zp_aload_n dX4_plant_40 rfl ?_
    refine zp_pc (pc' := 41) rfl ?_
    refine zp_callV (As := [.ref (17)]) (k := 41) (st := []) (ci := 6) dX4_plant_41 cX4_45 rfl r18.2.1 rfl rfl (e_appendRow (N := 512) (K := 240) (xs := (1 :: V) ++ R) r18 y19_10 (by omega) (by simp; omega)) (by decide) (by decide) (Nat.le_of_ble_eq_true rfl) (fun v20 h20 n20 q20 => ?_)
    obtain ⟨rfl, N20, s20, r20⟩ := q20
    rw [N20]
    refine zp_nrm (cells' := 0) (slots' := 0) (st' := []) rfl rfl rfl ?_
    have y21_0 := y19_0.sm s20 (fun i hi => by unfold zrs at hi; omega)
    have y21_1 : h20 (26) = some zdkc := (s20 _ (by unfold zrs; omega)).trans y19_1
    have y21_2 : zcy h20 27 := y19_2.off (fun i h1 h2 => s20 i (by unfold zrs; omega))
    have y21_3 := y19_3.keep (s20 _ (by unfold zrs; omega)) (s20 _ (by unfold zrs; omega))
    have y21_4 := y19_4.keep (s20 _ (by unfold zrs; omega)) (s20 _ (by unfold zrs; omega))
    have y21_5 := y19_5.keep (s20 _ (by unfold zrs; omega)) (s20 _ (by unfold zrs; omega))
    have y21_6 : zdg h20 b (zdid b) := y19_6.off (fun i h1 h2 => s20 i (by unfold zrs; omega))
    have y21_7 : zdg h20 (!b) (zdid (!b)) := y19_7.off (fun i h1 h2 => s20 i (by unfold zrs; omega))
    have y21_8 := y19_8.keep (s20 _ (by unfold zrs; omega)) (s20 _ (by unfold zrs; omega))
    have y21_9 := y19_9.keep (s20 _ (by unfold zrs; omega)) (s20 _ (by unfold zrs; omega))
    have y21_10 := y19_10.keep (s20 _ (by unfold zrs; omega)) (s20 _ (by unfold zrs; omega))
    have y21_11 := y19_11.keep (s20 _ (by unfold zrs; omega)) (s20 _ (by unfold zrs; omega))
    have y21_12 : h20 (a) = some (.inl (4, [.int (nI (st)), .int (nI (zbi rs)), .int (nI (zsl b)), .ref (a + 1), .ref (a + 3), .ref (26), .int (nI (zbi b)), .int (nI (iv)), .int (nI (ct)), .int (dr), .int (nI (sd)), .ref (zdid b)])) := (s20 _ (by unfold zrs; omega)).trans y19_12
    refine zp_aload_n dX4_plant_44 rfl ?_
    refine zp_get dX4_plant_45 gX4_19_4 y21_12 rfl ?_
    refine zp_aload_n dX4_plant_48 rfl ?_
    refine zp_get dX4_plant_49 gX4_23_4 y21_12 rfl ?_
    refine zp_get dX4_plant_52 gX4_27_2 y21_1 rfl ?_
    refine zp_aload_n dX4_plant_55 rfl ?_
    refine zp_get dX4_plant_56 gX4_49_4 y21_12 rfl ?_
    refine zp_aload_n dX4_plant_59 rfl ?_
    refine zp_get dX4_plant_60 gX4_53_4 y21_12 rfl ?_
    refine zp_pc (pc' := 63) rfl ?_
    refine zp_callV (As := [.ref (41), .int (nI (zsl b)), .ref (a + 1)]) (k := zdid b) (st := []) (ci := 3) dX4_plant_63 cX4_56 rfl y21_6.2.1 rfl rfl (e_stretch (b := b) (d := zdid b) (N := 512) (K := zsl b) (k := zsl b) (xs := ((1 :: V) ++ R ++ A)) y21_6 y21_0 r20 y21_8 (by omega) (by omega) (by simp; omega) (by omega) (Nat.le_refl _)) (by decide) (by decide) (Nat.le_of_ble_eq_true rfl) (fun v22 h22 n22 q22 => ?_)
    obtain ⟨rfl, N22, s22, r22, g22⟩ := q22
    rw [N22]
    refine zp_nrm (cells' := 0) (slots' := 0) (st' := []) rfl rfl rfl ?_
    have y23_0 := y21_0.sm s22 (fun i hi => by unfold zks at hi; omega)
    have y23_1 : h22 (26) = some zdkc := (s22 _ (by unfold zks; omega)).trans y21_1
    have y23_2 : zcy h22 27 := y21_2.off (fun i h1 h2 => s22 i (by unfold zks; omega))
    have y23_3 := y21_3.keep (s22 _ (by unfold zks; omega)) (s22 _ (by unfold zks; omega))
    have y23_4 := r20.keep (s22 _ (by unfold zks; omega)) (s22 _ (by unfold zks; omega))
    have y23_5 := y21_4.keep (s22 _ (by unfold zks; omega)) (s22 _ (by unfold zks; omega))
    have y23_6 := y21_5.keep (s22 _ (by unfold zks; omega)) (s22 _ (by unfold zks; omega))
    have y23_7 : zdg h22 (!b) (zdid (!b)) := y21_7.off (fun i h1 h2 => s22 i (by unfold zks; omega))
    have y23_8 := y21_9.keep (s22 _ (by unfold zks; omega)) (s22 _ (by unfold zks; omega))
    have y23_9 := y21_10.keep (s22 _ (by unfold zks; omega)) (s22 _ (by unfold zks; omega))
    have y23_10 := y21_11.keep (s22 _ (by unfold zks; omega)) (s22 _ (by unfold zks; omega))
    have y23_11 : h22 (a) = some (.inl (4, [.int (nI (st)), .int (nI (zbi rs)), .int (nI (zsl b)), .ref (a + 1), .ref (a + 3), .ref (26), .int (nI (zbi b)), .int (nI (iv)), .int (nI (ct)), .int (dr), .int (nI (sd)), .ref (zdid b)])) := (s22 _ (by unfold zks; omega)).trans y21_12
    have lV1 := zder_len b ((1 :: V) ++ R ++ A) (zsl b)
    refine zp_aload_n dX4_plant_66 rfl ?_
    refine zp_iconst (v := nI (0)) dX4_plant_67 (by decide) ?_
    refine zp_pc (pc' := 68) rfl ?_
    refine zp_callV (As := [.int (nI (0))]) (k := a) (st := []) (ci := 4) dX4_plant_68 cX4_41 rfl y23_11 rfl rfl (e_beginMessage (b := b) (N := zsl b) (k := 0) y23_11 ha y23_1 r22 y23_4 (by omega) (by decide)) (by decide) (by decide) (Nat.le_of_ble_eq_true rfl) (fun v24 h24 n24 q24 => ?_)
    obtain ⟨rfl, N24, s24, r24⟩ := q24
    rw [N24]
    refine zp_nrm (cells' := 0) (slots' := 0) (st' := []) rfl rfl rfl ?_
    have y25_0 := y23_0.sm s24 (fun i hi => by unfold zrs at hi; omega)
    have y25_1 : h24 (26) = some zdkc := (s24 _ (by unfold zrs; omega)).trans y23_1
    have y25_2 : zcy h24 27 := y23_2.off (fun i h1 h2 => s24 i (by unfold zrs; omega))
    have y25_3 := y23_3.keep (s24 _ (by unfold zrs; omega)) (s24 _ (by unfold zrs; omega))
    have y25_4 := y23_5.keep (s24 _ (by unfold zrs; omega)) (s24 _ (by unfold zrs; omega))
    have y25_5 := y23_6.keep (s24 _ (by unfold zrs; omega)) (s24 _ (by unfold zrs; omega))
    have y25_6 : zdg h24 b (zdid b) := g22.off (fun i h1 h2 => s24 i (by unfold zrs; omega))
    have y25_7 : zdg h24 (!b) (zdid (!b)) := y23_7.off (fun i h1 h2 => s24 i (by unfold zrs; omega))
    have y25_8 := r22.keep (s24 _ (by unfold zrs; omega)) (s24 _ (by unfold zrs; omega))
    have y25_9 := y23_8.keep (s24 _ (by unfold zrs; omega)) (s24 _ (by unfold zrs; omega))
    have y25_10 := y23_9.keep (s24 _ (by unfold zrs; omega)) (s24 _ (by unfold zrs; omega))
    have y25_11 := y23_10.keep (s24 _ (by unfold zrs; omega)) (s24 _ (by unfold zrs; omega))
    have y25_12 : h24 (a) = some (.inl (4, [.int (nI (st)), .int (nI (zbi rs)), .int (nI (zsl b)), .ref (a + 1), .ref (a + 3), .ref (26), .int (nI (zbi b)), .int (nI (iv)), .int (nI (ct)), .int (dr), .int (nI (sd)), .ref (zdid b)])) := (s24 _ (by unfold zrs; omega)).trans y23_11
    refine zp_aload_n dX4_plant_71 rfl ?_
    refine zp_get dX4_plant_72 gX4_19_4 y25_12 rfl ?_
    refine zp_aload_n dX4_plant_75 rfl ?_
    refine zp_get dX4_plant_76 gX4_23_4 y25_12 rfl ?_
    refine zp_get dX4_plant_79 gX4_27_2 y25_1 rfl ?_
    refine zp_aload_n dX4_plant_82 rfl ?_
    refine zp_get dX4_plant_83 gX4_49_4 y25_12 rfl ?_
    refine zp_aload_n dX4_plant_86 rfl ?_
    refine zp_get dX4_plant_87 gX4_62_4 y25_12 rfl ?_
    refine zp_pc (pc' := 90) rfl ?_
    refine zp_callV (As := [.ref (41), .int (nI (zsl b)), .ref (a + 3)]) (k := zdid b) (st := []) (ci := 3) dX4_plant_90 cX4_56 rfl y25_6.2.1 rfl rfl (e_stretch (b := b) (d := zdid b) (N := 512) (K := zsl b) (k := zsl b) (xs := 0 :: (zder b ((1 :: V) ++ R ++ A) (zsl b))) y25_6 y25_0 r24 y25_9 (by omega) (by omega) (by rw [List.length_cons]; omega) (by omega) (Nat.le_refl _)) (by decide) (by decide) (Nat.le_of_ble_eq_true rfl) (fun v26 h26 n26 q26 => ?_)
    obtain ⟨rfl, N26, s26, r26, g26⟩ := q26
    rw [N26]
    refine zp_nrm (cells' := 0) (slots' := 0) (st' := []) rfl rfl rfl ?_
    have y27_0 := y25_0.sm s26 (fun i hi => by unfold zks at hi; omega)
    have y27_1 : h26 (26) = some zdkc := (s26 _ (by unfold zks; omega)).trans y25_1
    have y27_2 : zcy h26 27 := y25_2.off (fun i h1 h2 => s26 i (by unfold zks; omega))
    have y27_3 := y25_3.keep (s26 _ (by unfold zks; omega)) (s26 _ (by unfold zks; omega))
    have y27_4 := r24.keep (s26 _ (by unfold zks; omega)) (s26 _ (by unfold zks; omega))
    have y27_5 := y25_4.keep (s26 _ (by unfold zks; omega)) (s26 _ (by unfold zks; omega))
    have y27_6 := y25_5.keep (s26 _ (by unfold zks; omega)) (s26 _ (by unfold zks; omega))
    have y27_7 : zdg h26 (!b) (zdid (!b)) := y25_7.off (fun i h1 h2 => s26 i (by unfold zks; omega))
    have y27_8 := y25_8.keep (s26 _ (by unfold zks; omega)) (s26 _ (by unfold zks; omega))
    have y27_9 := y25_10.keep (s26 _ (by unfold zks; omega)) (s26 _ (by unfold zks; omega))
    have y27_10 := y25_11.keep (s26 _ (by unfold zks; omega)) (s26 _ (by unfold zks; omega))
    have y27_11 : h26 (a) = some (.inl (4, [.int (nI (st)), .int (nI (zbi rs)), .int (nI (zsl b)), .ref (a + 1), .ref (a + 3), .ref (26), .int (nI (zbi b)), .int (nI (iv)), .int (nI (ct)), .int (dr), .int (nI (sd)), .ref (zdid b)])) := (s26 _ (by unfold zks; omega)).trans y25_12
    refine zp_aload_n dX4_plant_93 rfl ?_
    refine zp_pc (pc' := 94) rfl ?_
    refine zp_callU (As := []) (k := a) (st := []) (ci := 4) (q := (RX4, TX4, 12)) dX4_plant_94 cX4_65_4 rfl y27_11 rfl (e_noteSeeding4 y27_11 (by omega)) (by decide) (by decide) (Nat.le_of_ble_eq_true rfl) (fun v28 h28 n28 q28 => ?_)
    obtain ⟨rfl, N28, s28, o28⟩ := q28
    rw [N28]
    refine zp_nrm (cells' := 0) (slots' := 0) (st' := []) rfl rfl rfl ?_
    have y29_0 := y27_0.sm s28 (fun i hi => by omega)
    have y29_1 : h28 (26) = some zdkc := (s28 _ (by omega)).trans y27_1
    have y29_2 : zcy h28 27 := y27_2.off (fun i h1 h2 => s28 i (by omega))
    have y29_3 := y27_3.keep (s28 _ (by omega)) (s28 _ (by omega))
    have y29_4 := y27_4.keep (s28 _ (by omega)) (s28 _ (by omega))
    have y29_5 := y27_5.keep (s28 _ (by omega)) (s28 _ (by omega))
    have y29_6 := y27_6.keep (s28 _ (by omega)) (s28 _ (by omega))
    have y29_7 : zdg h28 b (zdid b) := g26.off (fun i h1 h2 => s28 i (by omega))
    have y29_8 : zdg h28 (!b) (zdid (!b)) := y27_7.off (fun i h1 h2 => s28 i (by omega))
    have y29_9 := y27_8.keep (s28 _ (by omega)) (s28 _ (by omega))
    have y29_10 := r26.keep (s28 _ (by omega)) (s28 _ (by omega))
    have y29_11 := y27_9.keep (s28 _ (by omega)) (s28 _ (by omega))
    have y29_12 := y27_10.keep (s28 _ (by omega)) (s28 _ (by omega))
    have em : (if sd = 0 then ([] : List Nat) else 1 :: V) = (1 :: V) := if_neg h0
    refine zp_ret (v := none) dX4_plant_97 ⟨rfl, rfl⟩ (by decide) (by decide) ?_
    exact ⟨rfl, rfl, (((((((s1.mono (fun i hi => by unfold zgs; unfold zrs at hi; omega)).trans (s16.mono (fun i hi => by unfold zgs; unfold zrs at hi; omega))).trans (s18.mono (fun i hi => by unfold zgs; unfold zrs at hi; omega))).trans (s20.mono (fun i hi => by unfold zgs; unfold zrs at hi; omega))).trans (s22.mono (fun i hi => by unfold zgs; unfold zks at hi; omega))).trans (s24.mono (fun i hi => by unfold zgs; unfold zrs at hi; omega))).trans (s26.mono (fun i hi => by unfold zgs; unfold zks at hi; omega))).trans (s28.mono (fun i hi => by unfold zgs; omega)), zdk.of b ⟨y29_0, y29_1, y29_2, ⟨_, y29_3⟩, ⟨_, y29_4⟩, ⟨_, y29_5⟩, ⟨_, y29_6⟩, y29_7, y29_8⟩, o28, by rw [em]; exact y29_9, by rw [em]; exact y29_10⟩
set_option maxRecDepth 10000 in
set_option maxHeartbeats 2000000 in
theorem e_produce4 {g : ZG} {h : ZH} {n : Nat} {a st : Nat} {rs : Bool} {iv ct : Nat} {dr : Int32} {sd : Nat} {b : Bool} {k : Nat} {V C A : List Nat} (hk : zdk h) (ha : 64 ≤ a) (o : h a = some (.inl (4, [.int (nI (st)), .int (nI (zbi rs)), .int (nI (zsl b)), .ref (a + 1), .ref (a + 3), .ref (26), .int (nI (zbi b)), .int (nI (iv)), .int (nI (ct)), .int (dr), .int (nI (sd)), .ref (zdid b)]))) (hv : zrow h (a + 1) (zsl b) V) (hc : zrow h (a + 3) (zsl b) C) (hA : zrow h 17 240 A) (hO : zrow h 19 4096 []) (lV : V.length = zsl b) (hk4 : k ≤ 4096) (b2 : st ≤ 256) (b4 : iv ≤ 100000) (b5 : ct < 90000) (b6 : sd < 90000) : zMt g mX4_produce (zR 4 0 0) [.ref (a), .int (nI (k)), .ref (17), .ref (19)] h n (fun v h' n' => v = none ∧ n' = n ∧ zsm h h' (zgo a) ∧ zdk h' ∧ h' a = some (.inl (4, [.int (nI (st)), .int (nI (zbi rs)), .int (nI (zsl b)), .ref (a + 1), .ref (a + 3), .ref (26), .int (nI (zbi b)), .int (nI (iv)), .int (nI (ct + 1)), .int (dr + nI k), .int (nI (sd)), .ref (zdid b)])) ∧ (∀ V1, V1 = (if 0 < A.length then zplus V (zval (zhash b (2 :: (V ++ A)))) else V) → zrow h' 19 4096 ((zdcat b V1 k).take k) ∧ zrow h' (a + 1) (zsl b) (zplus (zplus (zplus V1 (zval (zhash b (3 :: V1)))) (zval C)) ct)) ∧ zrow h' (a + 3) (zsl b) C) := by
  refine zMt.of [some (.ref (a)), some (.int (nI (k))), some (.ref (17)), some (.ref (19)), none, none] (by decide) rfl (Nat.le_of_ble_eq_true rfl) ?_
  obtain ⟨Qf, hQ⟩ : ∃ Qf : ZQ, Qf = (fun v h' n' => v = none ∧ n' = n ∧ zsm h h' (zgo a) ∧ zdk h' ∧ h' a = some (.inl (4, [.int (nI (st)), .int (nI (zbi rs)), .int (nI (zsl b)), .ref (a + 1), .ref (a + 3), .ref (26), .int (nI (zbi b)), .int (nI (iv)), .int (nI (ct + 1)), .int (dr + nI k), .int (nI (sd)), .ref (zdid b)])) ∧ (∀ V1, V1 = (if 0 < A.length then zplus V (zval (zhash b (2 :: (V ++ A)))) else V) → zrow h' 19 4096 ((zdcat b V1 k).take k) ∧ zrow h' (a + 1) (zsl b) (zplus (zplus (zplus V1 (zval (zhash b (3 :: V1)))) (zval C)) ct)) ∧ zrow h' (a + 3) (zsl b) C) := ⟨_, rfl⟩
  rw [← hQ]
  have hz := zdid2 b
  have hs := zsl_or b
  have hwb := zwb_or b
  have lA := hA.len
  obtain ⟨e1, e2, e3, ⟨x4, e4⟩, ⟨x5, e5⟩, ⟨x6, e6⟩, ⟨x7, e7⟩, e8, e9⟩ := hk.parts b
  have cont : ∀ (g1 : ZH) (V1 : List Nat), V1 = (if 0 < A.length then zplus V (zval (zhash b (2 :: (V ++ A)))) else V) → V1.length = zsl b → zsm h g1 (zgo a) → ztab g1 → g1 26 = some zdkc → zcy g1 27 → (∃ xs, zrow g1 39 64 xs) → (∃ xs, zrow g1 41 512 xs) → (∃ xs, zrow g1 43 512 xs) → (∃ xs, zrow g1 45 64 xs) → zdg g1 b (zdid b) → zdg g1 (!b) (zdid (!b)) → zrow g1 (a + 1) (zsl b) V1 → zrow g1 (a + 3) (zsl b) C → zrow g1 17 240 A → zrow g1 19 4096 [] → g1 a = some (.inl (4, [.int (nI (st)), .int (nI (zbi rs)), .int (nI (zsl b)), .ref (a + 1), .ref (a + 3), .ref (26), .int (nI (zbi b)), .int (nI (iv)), .int (nI (ct)), .int (dr), .int (nI (sd)), .ref (zdid b)])) → zP g mX4_produce (zR 4 0 0) Qf 0 0 27 [some (.ref (a)), some (.int (nI (k))), some (.ref (17)), some (.ref (19)), none, none] [] g1 n := by
    intro g1 V1 eV1 lV1 hs0 e1 e2 e3 ⟨x4, e4⟩ ⟨x5, e5⟩ ⟨x6, e6⟩ ⟨x7, e7⟩ e8 e9 hv hc hA hO o
    refine zp_aload_n dX4_produce_27 rfl ?_
    refine zp_get dX4_produce_28 gX4_23_4 o rfl ?_
    refine zp_get dX4_produce_31 gX4_75_2 e2 rfl ?_
    refine zp_astore (ls' := [some (.ref (a)), some (.int (nI (k))), some (.ref (17)), some (.ref (19)), some (.ref (43)), none]) dX4_produce_34 (by decide) rfl ?_
    refine zp_aload dX4_produce_36 rfl ?_
    refine zp_aload_n dX4_produce_38 rfl ?_
    refine zp_get dX4_produce_39 gX4_53_4 o rfl ?_
    refine zp_iconst (v := nI (0)) dX4_produce_42 (by decide) ?_
    refine zp_aload_n dX4_produce_43 rfl ?_
    refine zp_get dX4_produce_44 gX4_53_4 o rfl ?_
    refine zp_pc (pc' := 47) rfl ?_
    refine zp_callV (As := []) (k := a + 1) (st := [.int (nI (0)), .ref (a + 1), .ref (43)]) (ci := 6) dX4_produce_47 cX4_68 rfl hv.2.1 rfl rfl (e_length (N := zsl b) hv) (by decide) (by decide) (Nat.le_of_ble_eq_true rfl) (fun v1 h1 n1 q1 => ?_)
    obtain ⟨rfl, H1, N1⟩ := q1
    rw [N1, H1]
    refine zp_nrm (cells' := 0) (slots' := 0) (st' := [.int (nI (V1.length)), .int (nI (0)), .ref (a + 1), .ref (43)]) rfl rfl rfl ?_
    refine zp_pc (pc' := 50) rfl ?_
    refine zp_callV (As := [.ref (a + 1), .int (nI (0)), .int (nI (V1.length))]) (k := 43) (st := []) (ci := 6) dX4_produce_50 cX4_78 rfl e6.2.1 rfl rfl (e_becomePart (N := 512) (K := zsl b) (a := 0) (c := V1.length) e6 hv (by omega) (by omega) (by rw [zpart_len]; omega)) (by decide) (by decide) (Nat.le_of_ble_eq_true rfl) (fun v2 h2 n2 q2 => ?_)
    obtain ⟨rfl, N2, s2, r2⟩ := q2
    rw [N2]
    refine zp_nrm (cells' := 0) (slots' := 0) (st' := []) rfl rfl rfl ?_
    have y3_0 := e1.sm s2 (fun i hi => by unfold zrs at hi; omega)
    have y3_1 : h2 (26) = some zdkc := (s2 _ (by unfold zrs; omega)).trans e2
    have y3_2 : zcy h2 27 := e3.off (fun i h1 h2 => s2 i (by unfold zrs; omega))
    have y3_3 := e4.keep (s2 _ (by unfold zrs; omega)) (s2 _ (by unfold zrs; omega))
    have y3_4 := e5.keep (s2 _ (by unfold zrs; omega)) (s2 _ (by unfold zrs; omega))
    have y3_5 := e7.keep (s2 _ (by unfold zrs; omega)) (s2 _ (by unfold zrs; omega))
    have y3_6 : zdg h2 b (zdid b) := e8.off (fun i h1 h2 => s2 i (by unfold zrs; omega))
    have y3_7 : zdg h2 (!b) (zdid (!b)) := e9.off (fun i h1 h2 => s2 i (by unfold zrs; omega))
    have y3_8 := hv.keep (s2 _ (by unfold zrs; omega)) (s2 _ (by unfold zrs; omega))
    have y3_9 := hc.keep (s2 _ (by unfold zrs; omega)) (s2 _ (by unfold zrs; omega))
    have y3_10 := hA.keep (s2 _ (by unfold zrs; omega)) (s2 _ (by unfold zrs; omega))
    have y3_11 := hO.keep (s2 _ (by unfold zrs; omega)) (s2 _ (by unfold zrs; omega))
    have y3_12 : h2 (a) = some (.inl (4, [.int (nI (st)), .int (nI (zbi rs)), .int (nI (zsl b)), .ref (a + 1), .ref (a + 3), .ref (26), .int (nI (zbi b)), .int (nI (iv)), .int (nI (ct)), .int (dr), .int (nI (sd)), .ref (zdid b)])) := (s2 _ (by unfold zrs; omega)).trans o
    have ez : zpart V1 0 V1.length = zplus V1 0 := by rw [zpart_all, zplus_0 hv.bytes]
    rw [ez] at r2
    refine zp_iconst (v := nI (0)) dX4_produce_53 (by decide) ?_
    refine zp_istore (ls' := [some (.ref (a)), some (.int (nI (k))), some (.ref (17)), some (.ref (19)), some (.ref (43)), some (.int (nI (0)))]) dX4_produce_54 (by decide) rfl ?_
    refine zp_pc (pc' := 56) rfl ?_
    have lp : ∀ (m : Nat) (c : Nat) (g2 : ZH), m = k - c → c ≤ k → zsm h g2 (zgo a) → ztab g2 → g2 26 = some zdkc → zcy g2 27 → (∃ xs, zrow g2 39 64 xs) → (∃ xs, zrow g2 41 512 xs) → zrow g2 43 512 (zplus V1 c) → (∃ xs, zrow g2 45 64 xs) → zdg g2 b (zdid b) → zdg g2 (!b) (zdid (!b)) → zrow g2 (a + 1) (zsl b) V1 → zrow g2 (a + 3) (zsl b) C → zrow g2 17 240 A → zrow g2 19 4096 ((zdcat b V1 c).take k) → g2 a = some (.inl (4, [.int (nI (st)), .int (nI (zbi rs)), .int (nI (zsl b)), .ref (a + 1), .ref (a + 3), .ref (26), .int (nI (zbi b)), .int (nI (iv)), .int (nI (ct)), .int (dr), .int (nI (sd)), .ref (zdid b)])) → zP g mX4_produce (zR 4 0 0) Qf 0 0 56 [some (.ref (a)), some (.int (nI (k))), some (.ref (17)), some (.ref (19)), some (.ref (43)), some (.int (nI (c)))] [] g2 n := by
      intro m
      induction m using Nat.strongRecOn with
      | _ m ih =>
        intro c g2 hm hc0 hs1 f1 f2 f3 ⟨y4, f4⟩ ⟨y5, f5⟩ f6 ⟨y7, f7⟩ f8 f9 hv2 hc2 hA2 hO2 o2
        have cl := zdcat_len b V1 c
        refine zp_iload dX4_produce_56 rfl ?_
        refine zp_iload_n dX4_produce_58 rfl ?_
        refine zp_pc (pc' := 59) rfl ?_
        refine zn_icmp_ge (tgt := 116) dX4_produce_59 (by decide) (by omega) (by omega) (fun c59 => ?_) (fun c59 => ?_)
        · have fe : ((zdcat b V1 c).take k) = (zdcat b V1 k).take k := zdcat_take (by omega) (Or.inr (by omega))
          rw [fe] at hO2
          refine zp_aload_n dX4_produce_116 rfl ?_
          refine zp_iconst (v := nI (3)) dX4_produce_117 (by decide) ?_
          refine zp_pc (pc' := 118) rfl ?_
          refine zp_callV (As := [.int (nI (3))]) (k := a) (st := []) (ci := 4) dX4_produce_118 cX4_41 rfl o2 rfl rfl (e_beginMessage (b := b) (N := zsl b) (k := 3) o2 ha f2 hv2 f5 (by omega) (by decide)) (by decide) (by decide) (Nat.le_of_ble_eq_true rfl) (fun v4 h4 n4 q4 => ?_)
          obtain ⟨rfl, N4, s4, r4⟩ := q4
          rw [N4]
          refine zp_nrm (cells' := 0) (slots' := 0) (st' := []) rfl rfl rfl ?_
          have y5_0 := f1.sm s4 (fun i hi => by unfold zrs at hi; omega)
          have y5_1 : h4 (26) = some zdkc := (s4 _ (by unfold zrs; omega)).trans f2
          have y5_2 : zcy h4 27 := f3.off (fun i h1 h2 => s4 i (by unfold zrs; omega))
          have y5_3 := f4.keep (s4 _ (by unfold zrs; omega)) (s4 _ (by unfold zrs; omega))
          have y5_4 := f6.keep (s4 _ (by unfold zrs; omega)) (s4 _ (by unfold zrs; omega))
          have y5_5 := f7.keep (s4 _ (by unfold zrs; omega)) (s4 _ (by unfold zrs; omega))
          have y5_6 : zdg h4 b (zdid b) := f8.off (fun i h1 h2 => s4 i (by unfold zrs; omega))
          have y5_7 : zdg h4 (!b) (zdid (!b)) := f9.off (fun i h1 h2 => s4 i (by unfold zrs; omega))
          have y5_8 := hv2.keep (s4 _ (by unfold zrs; omega)) (s4 _ (by unfold zrs; omega))
          have y5_9 := hc2.keep (s4 _ (by unfold zrs; omega)) (s4 _ (by unfold zrs; omega))
          have y5_10 := hA2.keep (s4 _ (by unfold zrs; omega)) (s4 _ (by unfold zrs; omega))
          have y5_11 := hO2.keep (s4 _ (by unfold zrs; omega)) (s4 _ (by unfold zrs; omega))
          have y5_12 : h4 (a) = some (.inl (4, [.int (nI (st)), .int (nI (zbi rs)), .int (nI (zsl b)), .ref (a + 1), .ref (a + 3), .ref (26), .int (nI (zbi b)), .int (nI (iv)), .int (nI (ct)), .int (dr), .int (nI (sd)), .ref (zdid b)])) := (s4 _ (by unfold zrs; omega)).trans o2
          refine zp_aload_n dX4_produce_121 rfl ?_
          refine zp_pc (pc' := 122) rfl ?_
          refine zp_callV (As := []) (k := a) (st := []) (ci := 4) dX4_produce_122 cX4_72 rfl y5_12 rfl rfl (e_addDigest (b := b) y5_12 ha y5_0 y5_1 y5_6 y5_8 r4 y5_5) (by decide) (by decide) (Nat.le_of_ble_eq_true rfl) (fun v6 h6 n6 q6 => ?_)
          obtain ⟨rfl, N6, s6, r6, g6, bs6, k6⟩ := q6
          rw [N6]
          refine zp_nrm (cells' := 0) (slots' := 0) (st' := []) rfl rfl rfl ?_
          have y7_0 := y5_0.sm s6 (fun i hi => by omega)
          have y7_1 : h6 (26) = some zdkc := (s6 _ (by omega)).trans y5_1
          have y7_2 : zcy h6 27 := y5_2.off (fun i h1 h2 => s6 i (by omega))
          have y7_3 := y5_3.keep (s6 _ (by omega)) (s6 _ (by omega))
          have y7_4 := r4.keep (s6 _ (by omega)) (s6 _ (by omega))
          have y7_5 := y5_4.keep (s6 _ (by omega)) (s6 _ (by omega))
          have y7_6 : zdg h6 (!b) (zdid (!b)) := y5_7.off (fun i h1 h2 => s6 i (by omega))
          have y7_7 := y5_9.keep (s6 _ (by omega)) (s6 _ (by omega))
          have y7_8 := y5_10.keep (s6 _ (by omega)) (s6 _ (by omega))
          have y7_9 := y5_11.keep (s6 _ (by omega)) (s6 _ (by omega))
          have y7_10 : h6 (a) = some (.inl (4, [.int (nI (st)), .int (nI (zbi rs)), .int (nI (zsl b)), .ref (a + 1), .ref (a + 3), .ref (26), .int (nI (zbi b)), .int (nI (iv)), .int (nI (ct)), .int (dr), .int (nI (sd)), .ref (zdid b)])) := (s6 _ (by omega)).trans y5_12
          refine zp_aload_n dX4_produce_125 rfl ?_
          refine zp_get dX4_produce_126 gX4_53_4 y7_10 rfl ?_
          refine zp_aload_n dX4_produce_129 rfl ?_
          refine zp_get dX4_produce_130 gX4_62_4 y7_10 rfl ?_
          refine zp_pc (pc' := 133) rfl ?_
          refine zp_callV (As := [.ref (a + 3)]) (k := a + 1) (st := []) (ci := 6) dX4_produce_133 cX4_95 rfl r6.2.1 rfl rfl (e_plusRow (N := zsl b) (K := zsl b) r6 y7_7 (by omega)) (by decide) (by decide) (Nat.le_of_ble_eq_true rfl) (fun v8 h8 n8 q8 => ?_)
          obtain ⟨rfl, N8, s8, r8⟩ := q8
          rw [N8]
          refine zp_nrm (cells' := 0) (slots' := 0) (st' := []) rfl rfl rfl ?_
          have y9_0 := y7_0.sm s8 (fun i hi => by unfold zrs at hi; omega)
          have y9_1 : h8 (26) = some zdkc := (s8 _ (by unfold zrs; omega)).trans y7_1
          have y9_2 : zcy h8 27 := y7_2.off (fun i h1 h2 => s8 i (by unfold zrs; omega))
          have y9_3 := y7_3.keep (s8 _ (by unfold zrs; omega)) (s8 _ (by unfold zrs; omega))
          have y9_4 := y7_4.keep (s8 _ (by unfold zrs; omega)) (s8 _ (by unfold zrs; omega))
          have y9_5 := y7_5.keep (s8 _ (by unfold zrs; omega)) (s8 _ (by unfold zrs; omega))
          have y9_6 := k6.keep (s8 _ (by unfold zrs; omega)) (s8 _ (by unfold zrs; omega))
          have y9_7 : zdg h8 b (zdid b) := g6.off (fun i h1 h2 => s8 i (by unfold zrs; omega))
          have y9_8 : zdg h8 (!b) (zdid (!b)) := y7_6.off (fun i h1 h2 => s8 i (by unfold zrs; omega))
          have y9_9 := y7_7.keep (s8 _ (by unfold zrs; omega)) (s8 _ (by unfold zrs; omega))
          have y9_10 := y7_8.keep (s8 _ (by unfold zrs; omega)) (s8 _ (by unfold zrs; omega))
          have y9_11 := y7_9.keep (s8 _ (by unfold zrs; omega)) (s8 _ (by unfold zrs; omega))
          have y9_12 : h8 (a) = some (.inl (4, [.int (nI (st)), .int (nI (zbi rs)), .int (nI (zsl b)), .ref (a + 1), .ref (a + 3), .ref (26), .int (nI (zbi b)), .int (nI (iv)), .int (nI (ct)), .int (dr), .int (nI (sd)), .ref (zdid b)])) := (s8 _ (by unfold zrs; omega)).trans y7_10
          refine zp_aload_n dX4_produce_136 rfl ?_
          refine zp_get dX4_produce_137 gX4_53_4 y9_12 rfl ?_
          refine zp_aload_n dX4_produce_140 rfl ?_
          refine zp_pc (pc' := 141) rfl ?_
          refine zp_callU (As := []) (k := a) (st := [.ref (a + 1)]) (ci := 4) (q := (RX4, TX4, 12)) dX4_produce_141 cX4_98_4 rfl y9_12 rfl (e_count4 y9_12) (by decide) (by decide) (Nat.le_of_ble_eq_true rfl) (fun v10 h10 n10 q10 => ?_)
          obtain ⟨rfl, H10, N10⟩ := q10
          rw [N10, H10]
          refine zp_nrm (cells' := 0) (slots' := 0) (st' := [.int (nI (ct)), .ref (a + 1)]) rfl rfl rfl ?_
          refine zp_pc (pc' := 144) rfl ?_
          refine zp_callV (As := [.int (nI (ct))]) (k := a + 1) (st := []) (ci := 6) dX4_produce_144 cX4_92 rfl r8.2.1 rfl rfl (e_plusNumber (N := zsl b) (k := ct) r8 (by omega)) (by decide) (by decide) (Nat.le_of_ble_eq_true rfl) (fun v11 h11 n11 q11 => ?_)
          obtain ⟨rfl, N11, s11, r11⟩ := q11
          rw [N11]
          refine zp_nrm (cells' := 0) (slots' := 0) (st' := []) rfl rfl rfl ?_
          have y12_0 := y9_0.sm s11 (fun i hi => by unfold zrs at hi; omega)
          have y12_1 : h11 (26) = some zdkc := (s11 _ (by unfold zrs; omega)).trans y9_1
          have y12_2 : zcy h11 27 := y9_2.off (fun i h1 h2 => s11 i (by unfold zrs; omega))
          have y12_3 := y9_3.keep (s11 _ (by unfold zrs; omega)) (s11 _ (by unfold zrs; omega))
          have y12_4 := y9_4.keep (s11 _ (by unfold zrs; omega)) (s11 _ (by unfold zrs; omega))
          have y12_5 := y9_5.keep (s11 _ (by unfold zrs; omega)) (s11 _ (by unfold zrs; omega))
          have y12_6 := y9_6.keep (s11 _ (by unfold zrs; omega)) (s11 _ (by unfold zrs; omega))
          have y12_7 : zdg h11 b (zdid b) := y9_7.off (fun i h1 h2 => s11 i (by unfold zrs; omega))
          have y12_8 : zdg h11 (!b) (zdid (!b)) := y9_8.off (fun i h1 h2 => s11 i (by unfold zrs; omega))
          have y12_9 := y9_9.keep (s11 _ (by unfold zrs; omega)) (s11 _ (by unfold zrs; omega))
          have y12_10 := y9_10.keep (s11 _ (by unfold zrs; omega)) (s11 _ (by unfold zrs; omega))
          have y12_11 := y9_11.keep (s11 _ (by unfold zrs; omega)) (s11 _ (by unfold zrs; omega))
          have y12_12 : h11 (a) = some (.inl (4, [.int (nI (st)), .int (nI (zbi rs)), .int (nI (zsl b)), .ref (a + 1), .ref (a + 3), .ref (26), .int (nI (zbi b)), .int (nI (iv)), .int (nI (ct)), .int (dr), .int (nI (sd)), .ref (zdid b)])) := (s11 _ (by unfold zrs; omega)).trans y9_12
          refine zp_aload_n dX4_produce_147 rfl ?_
          refine zp_iload_n dX4_produce_148 rfl ?_
          refine zp_pc (pc' := 149) rfl ?_
          refine zp_callU (As := [.int (nI (k))]) (k := a) (st := []) (ci := 4) (q := (RX4, TX4, 12)) dX4_produce_149 cX4_101_4 rfl y12_12 rfl (e_noteDrawing4 (k := k) y12_12 (by omega)) (by decide) (by decide) (Nat.le_of_ble_eq_true rfl) (fun v13 h13 n13 q13 => ?_)
          obtain ⟨rfl, N13, s13, o13⟩ := q13
          rw [N13]
          refine zp_nrm (cells' := 0) (slots' := 0) (st' := []) rfl rfl rfl ?_
          have y14_0 := y12_0.sm s13 (fun i hi => by omega)
          have y14_1 : h13 (26) = some zdkc := (s13 _ (by omega)).trans y12_1
          have y14_2 : zcy h13 27 := y12_2.off (fun i h1 h2 => s13 i (by omega))
          have y14_3 := y12_3.keep (s13 _ (by omega)) (s13 _ (by omega))
          have y14_4 := y12_4.keep (s13 _ (by omega)) (s13 _ (by omega))
          have y14_5 := y12_5.keep (s13 _ (by omega)) (s13 _ (by omega))
          have y14_6 := y12_6.keep (s13 _ (by omega)) (s13 _ (by omega))
          have y14_7 : zdg h13 b (zdid b) := y12_7.off (fun i h1 h2 => s13 i (by omega))
          have y14_8 : zdg h13 (!b) (zdid (!b)) := y12_8.off (fun i h1 h2 => s13 i (by omega))
          have y14_9 := r11.keep (s13 _ (by omega)) (s13 _ (by omega))
          have y14_10 := y12_9.keep (s13 _ (by omega)) (s13 _ (by omega))
          have y14_11 := y12_10.keep (s13 _ (by omega)) (s13 _ (by omega))
          have y14_12 := y12_11.keep (s13 _ (by omega)) (s13 _ (by omega))
          refine zp_ret (v := none) dX4_produce_152 ⟨rfl, rfl⟩ (by decide) (by decide) ?_
          rw [hQ]
          exact ⟨rfl, rfl, (((((hs1).trans (s4.mono (fun i hi => by unfold zgo; unfold zrs at hi; omega))).trans (s6.mono (fun i hi => by unfold zgo; omega))).trans (s8.mono (fun i hi => by unfold zgo; unfold zrs at hi; omega))).trans (s11.mono (fun i hi => by unfold zgo; unfold zrs at hi; omega))).trans (s13.mono (fun i hi => by unfold zgo; omega)), zdk.of b ⟨y14_0, y14_1, y14_2, ⟨_, y14_3⟩, ⟨_, y14_4⟩, ⟨_, y14_5⟩, ⟨_, y14_6⟩, y14_7, y14_8⟩, o13, fun V2 e2 => by subst e2; subst eV1; exact ⟨y14_12, y14_9⟩, y14_10⟩
        · refine zp_aload_n dX4_produce_62 rfl ?_
          refine zp_pc (pc' := 63) rfl ?_
          refine zp_callV (As := []) (k := 19) (st := []) (ci := 6) dX4_produce_63 cX4_68 rfl hO2.2.1 rfl rfl (e_length (N := 4096) hO2) (by decide) (by decide) (Nat.le_of_ble_eq_true rfl) (fun v15 h15 n15 q15 => ?_)
          obtain ⟨rfl, H15, N15⟩ := q15
          rw [N15, H15]
          refine zp_nrm (cells' := 0) (slots' := 0) (st' := [.int (nI (((zdcat b V1 c).take k).length))]) rfl rfl rfl ?_
          have tl : ((zdcat b V1 c).take k).length = min k (c * (8 * zwb b)) := by rw [List.length_take, cl]
          refine zp_iload_n dX4_produce_66 rfl ?_
          refine zp_pc (pc' := 67) rfl ?_
          refine zn_icmp_ge (tgt := 116) dX4_produce_67 (by decide) (by omega) (by omega) (fun c67 => ?_) (fun c67 => ?_)
          · have fe : ((zdcat b V1 c).take k) = (zdcat b V1 k).take k := zdcat_take (by omega) (Or.inl (by omega))
            rw [fe] at hO2
            refine zp_aload_n dX4_produce_116 rfl ?_
            refine zp_iconst (v := nI (3)) dX4_produce_117 (by decide) ?_
            refine zp_pc (pc' := 118) rfl ?_
            refine zp_callV (As := [.int (nI (3))]) (k := a) (st := []) (ci := 4) dX4_produce_118 cX4_41 rfl o2 rfl rfl (e_beginMessage (b := b) (N := zsl b) (k := 3) o2 ha f2 hv2 f5 (by omega) (by decide)) (by decide) (by decide) (Nat.le_of_ble_eq_true rfl) (fun v16 h16 n16 q16 => ?_)
            obtain ⟨rfl, N16, s16, r16⟩ := q16
            rw [N16]
            refine zp_nrm (cells' := 0) (slots' := 0) (st' := []) rfl rfl rfl ?_
            have y17_0 := f1.sm s16 (fun i hi => by unfold zrs at hi; omega)
            have y17_1 : h16 (26) = some zdkc := (s16 _ (by unfold zrs; omega)).trans f2
            have y17_2 : zcy h16 27 := f3.off (fun i h1 h2 => s16 i (by unfold zrs; omega))
            have y17_3 := f4.keep (s16 _ (by unfold zrs; omega)) (s16 _ (by unfold zrs; omega))
            have y17_4 := f6.keep (s16 _ (by unfold zrs; omega)) (s16 _ (by unfold zrs; omega))
            have y17_5 := f7.keep (s16 _ (by unfold zrs; omega)) (s16 _ (by unfold zrs; omega))
            have y17_6 : zdg h16 b (zdid b) := f8.off (fun i h1 h2 => s16 i (by unfold zrs; omega))
            have y17_7 : zdg h16 (!b) (zdid (!b)) := f9.off (fun i h1 h2 => s16 i (by unfold zrs; omega))
            have y17_8 := hv2.keep (s16 _ (by unfold zrs; omega)) (s16 _ (by unfold zrs; omega))
            have y17_9 := hc2.keep (s16 _ (by unfold zrs; omega)) (s16 _ (by unfold zrs; omega))
            have y17_10 := hA2.keep (s16 _ (by unfold zrs; omega)) (s16 _ (by unfold zrs; omega))
            have y17_11 := hO2.keep (s16 _ (by unfold zrs; omega)) (s16 _ (by unfold zrs; omega))
            have y17_12 : h16 (a) = some (.inl (4, [.int (nI (st)), .int (nI (zbi rs)), .int (nI (zsl b)), .ref (a + 1), .ref (a + 3), .ref (26), .int (nI (zbi b)), .int (nI (iv)), .int (nI (ct)), .int (dr), .int (nI (sd)), .ref (zdid b)])) := (s16 _ (by unfold zrs; omega)).trans o2
            refine zp_aload_n dX4_produce_121 rfl ?_
            refine zp_pc (pc' := 122) rfl ?_
            refine zp_callV (As := []) (k := a) (st := []) (ci := 4) dX4_produce_122 cX4_72 rfl y17_12 rfl rfl (e_addDigest (b := b) y17_12 ha y17_0 y17_1 y17_6 y17_8 r16 y17_5) (by decide) (by decide) (Nat.le_of_ble_eq_true rfl) (fun v18 h18 n18 q18 => ?_)
            obtain ⟨rfl, N18, s18, r18, g18, bs18, k18⟩ := q18
            rw [N18]
            refine zp_nrm (cells' := 0) (slots' := 0) (st' := []) rfl rfl rfl ?_
            have y19_0 := y17_0.sm s18 (fun i hi => by omega)
            have y19_1 : h18 (26) = some zdkc := (s18 _ (by omega)).trans y17_1
            have y19_2 : zcy h18 27 := y17_2.off (fun i h1 h2 => s18 i (by omega))
            have y19_3 := y17_3.keep (s18 _ (by omega)) (s18 _ (by omega))
            have y19_4 := r16.keep (s18 _ (by omega)) (s18 _ (by omega))
            have y19_5 := y17_4.keep (s18 _ (by omega)) (s18 _ (by omega))
            have y19_6 : zdg h18 (!b) (zdid (!b)) := y17_7.off (fun i h1 h2 => s18 i (by omega))
            have y19_7 := y17_9.keep (s18 _ (by omega)) (s18 _ (by omega))
            have y19_8 := y17_10.keep (s18 _ (by omega)) (s18 _ (by omega))
            have y19_9 := y17_11.keep (s18 _ (by omega)) (s18 _ (by omega))
            have y19_10 : h18 (a) = some (.inl (4, [.int (nI (st)), .int (nI (zbi rs)), .int (nI (zsl b)), .ref (a + 1), .ref (a + 3), .ref (26), .int (nI (zbi b)), .int (nI (iv)), .int (nI (ct)), .int (dr), .int (nI (sd)), .ref (zdid b)])) := (s18 _ (by omega)).trans y17_12
            refine zp_aload_n dX4_produce_125 rfl ?_
            refine zp_get dX4_produce_126 gX4_53_4 y19_10 rfl ?_
            refine zp_aload_n dX4_produce_129 rfl ?_
            refine zp_get dX4_produce_130 gX4_62_4 y19_10 rfl ?_
            refine zp_pc (pc' := 133) rfl ?_
            refine zp_callV (As := [.ref (a + 3)]) (k := a + 1) (st := []) (ci := 6) dX4_produce_133 cX4_95 rfl r18.2.1 rfl rfl (e_plusRow (N := zsl b) (K := zsl b) r18 y19_7 (by omega)) (by decide) (by decide) (Nat.le_of_ble_eq_true rfl) (fun v20 h20 n20 q20 => ?_)
            obtain ⟨rfl, N20, s20, r20⟩ := q20
            rw [N20]
            refine zp_nrm (cells' := 0) (slots' := 0) (st' := []) rfl rfl rfl ?_
            have y21_0 := y19_0.sm s20 (fun i hi => by unfold zrs at hi; omega)
            have y21_1 : h20 (26) = some zdkc := (s20 _ (by unfold zrs; omega)).trans y19_1
            have y21_2 : zcy h20 27 := y19_2.off (fun i h1 h2 => s20 i (by unfold zrs; omega))
            have y21_3 := y19_3.keep (s20 _ (by unfold zrs; omega)) (s20 _ (by unfold zrs; omega))
            have y21_4 := y19_4.keep (s20 _ (by unfold zrs; omega)) (s20 _ (by unfold zrs; omega))
            have y21_5 := y19_5.keep (s20 _ (by unfold zrs; omega)) (s20 _ (by unfold zrs; omega))
            have y21_6 := k18.keep (s20 _ (by unfold zrs; omega)) (s20 _ (by unfold zrs; omega))
            have y21_7 : zdg h20 b (zdid b) := g18.off (fun i h1 h2 => s20 i (by unfold zrs; omega))
            have y21_8 : zdg h20 (!b) (zdid (!b)) := y19_6.off (fun i h1 h2 => s20 i (by unfold zrs; omega))
            have y21_9 := y19_7.keep (s20 _ (by unfold zrs; omega)) (s20 _ (by unfold zrs; omega))
            have y21_10 := y19_8.keep (s20 _ (by unfold zrs; omega)) (s20 _ (by unfold zrs; omega))
            have y21_11 := y19_9.keep (s20 _ (by unfold zrs; omega)) (s20 _ (by unfold zrs; omega))
            have y21_12 : h20 (a) = some (.inl (4, [.int (nI (st)), .int (nI (zbi rs)), .int (nI (zsl b)), .ref (a + 1), .ref (a + 3), .ref (26), .int (nI (zbi b)), .int (nI (iv)), .int (nI (ct)), .int (dr), .int (nI (sd)), .ref (zdid b)])) := (s20 _ (by unfold zrs; omega)).trans y19_10
            refine zp_aload_n dX4_produce_136 rfl ?_
            refine zp_get dX4_produce_137 gX4_53_4 y21_12 rfl ?_
            refine zp_aload_n dX4_produce_140 rfl ?_
            refine zp_pc (pc' := 141) rfl ?_
            refine zp_callU (As := []) (k := a) (st := [.ref (a + 1)]) (ci := 4) (q := (RX4, TX4, 12)) dX4_produce_141 cX4_98_4 rfl y21_12 rfl (e_count4 y21_12) (by decide) (by decide) (Nat.le_of_ble_eq_true rfl) (fun v22 h22 n22 q22 => ?_)
            obtain ⟨rfl, H22, N22⟩ := q22
            rw [N22, H22]
            refine zp_nrm (cells' := 0) (slots' := 0) (st' := [.int (nI (ct)), .ref (a + 1)]) rfl rfl rfl ?_
            refine zp_pc (pc' := 144) rfl ?_
            refine zp_callV (As := [.int (nI (ct))]) (k := a + 1) (st := []) (ci := 6) dX4_produce_144 cX4_92 rfl r20.2.1 rfl rfl (e_plusNumber (N := zsl b) (k := ct) r20 (by omega)) (by decide) (by decide) (Nat.le_of_ble_eq_true rfl) (fun v23 h23 n23 q23 => ?_)
            obtain ⟨rfl, N23, s23, r23⟩ := q23
            rw [N23]
            refine zp_nrm (cells' := 0) (slots' := 0) (st' := []) rfl rfl rfl ?_
            have y24_0 := y21_0.sm s23 (fun i hi => by unfold zrs at hi; omega)
            have y24_1 : h23 (26) = some zdkc := (s23 _ (by unfold zrs; omega)).trans y21_1
            have y24_2 : zcy h23 27 := y21_2.off (fun i h1 h2 => s23 i (by unfold zrs; omega))
            have y24_3 := y21_3.keep (s23 _ (by unfold zrs; omega)) (s23 _ (by unfold zrs; omega))
            have y24_4 := y21_4.keep (s23 _ (by unfold zrs; omega)) (s23 _ (by unfold zrs; omega))
            have y24_5 := y21_5.keep (s23 _ (by unfold zrs; omega)) (s23 _ (by unfold zrs; omega))
            have y24_6 := y21_6.keep (s23 _ (by unfold zrs; omega)) (s23 _ (by unfold zrs; omega))
            have y24_7 : zdg h23 b (zdid b) := y21_7.off (fun i h1 h2 => s23 i (by unfold zrs; omega))
            have y24_8 : zdg h23 (!b) (zdid (!b)) := y21_8.off (fun i h1 h2 => s23 i (by unfold zrs; omega))
            have y24_9 := y21_9.keep (s23 _ (by unfold zrs; omega)) (s23 _ (by unfold zrs; omega))
            have y24_10 := y21_10.keep (s23 _ (by unfold zrs; omega)) (s23 _ (by unfold zrs; omega))
            have y24_11 := y21_11.keep (s23 _ (by unfold zrs; omega)) (s23 _ (by unfold zrs; omega))
            have y24_12 : h23 (a) = some (.inl (4, [.int (nI (st)), .int (nI (zbi rs)), .int (nI (zsl b)), .ref (a + 1), .ref (a + 3), .ref (26), .int (nI (zbi b)), .int (nI (iv)), .int (nI (ct)), .int (dr), .int (nI (sd)), .ref (zdid b)])) := (s23 _ (by unfold zrs; omega)).trans y21_12
            refine zp_aload_n dX4_produce_147 rfl ?_
            refine zp_iload_n dX4_produce_148 rfl ?_
            refine zp_pc (pc' := 149) rfl ?_
            refine zp_callU (As := [.int (nI (k))]) (k := a) (st := []) (ci := 4) (q := (RX4, TX4, 12)) dX4_produce_149 cX4_101_4 rfl y24_12 rfl (e_noteDrawing4 (k := k) y24_12 (by omega)) (by decide) (by decide) (Nat.le_of_ble_eq_true rfl) (fun v25 h25 n25 q25 => ?_)
            obtain ⟨rfl, N25, s25, o25⟩ := q25
            rw [N25]
            refine zp_nrm (cells' := 0) (slots' := 0) (st' := []) rfl rfl rfl ?_
            have y26_0 := y24_0.sm s25 (fun i hi => by omega)
            have y26_1 : h25 (26) = some zdkc := (s25 _ (by omega)).trans y24_1
            have y26_2 : zcy h25 27 := y24_2.off (fun i h1 h2 => s25 i (by omega))
            have y26_3 := y24_3.keep (s25 _ (by omega)) (s25 _ (by omega))
            have y26_4 := y24_4.keep (s25 _ (by omega)) (s25 _ (by omega))
            have y26_5 := y24_5.keep (s25 _ (by omega)) (s25 _ (by omega))
            have y26_6 := y24_6.keep (s25 _ (by omega)) (s25 _ (by omega))
            have y26_7 : zdg h25 b (zdid b) := y24_7.off (fun i h1 h2 => s25 i (by omega))
            have y26_8 : zdg h25 (!b) (zdid (!b)) := y24_8.off (fun i h1 h2 => s25 i (by omega))
            have y26_9 := r23.keep (s25 _ (by omega)) (s25 _ (by omega))
            have y26_10 := y24_9.keep (s25 _ (by omega)) (s25 _ (by omega))
            have y26_11 := y24_10.keep (s25 _ (by omega)) (s25 _ (by omega))
            have y26_12 := y24_11.keep (s25 _ (by omega)) (s25 _ (by omega))
            refine zp_ret (v := none) dX4_produce_152 ⟨rfl, rfl⟩ (by decide) (by decide) ?_
            rw [hQ]
            exact ⟨rfl, rfl, (((((hs1).trans (s16.mono (fun i hi => by unfold zgo; unfold zrs at hi; omega))).trans (s18.mono (fun i hi => by unfold zgo; omega))).trans (s20.mono (fun i hi => by unfold zgo; unfold zrs at hi; omega))).trans (s23.mono (fun i hi => by unfold zgo; unfold zrs at hi; omega))).trans (s25.mono (fun i hi => by unfold zgo; omega)), zdk.of b ⟨y26_0, y26_1, y26_2, ⟨_, y26_3⟩, ⟨_, y26_4⟩, ⟨_, y26_5⟩, ⟨_, y26_6⟩, y26_7, y26_8⟩, o25, fun V2 e2 => by subst e2; subst eV1; exact ⟨y26_12, y26_9⟩, y26_10⟩
          · have tk : ((zdcat b V1 c).take k) = zdcat b V1 c := List.take_of_length_le (by omega)
            rw [tk] at hO2
            refine zp_aload_n dX4_produce_70 rfl ?_
            refine zp_get dX4_produce_71 gX4_19_4 o2 rfl ?_
            refine zp_aload dX4_produce_74 rfl ?_
            refine zp_aload_n dX4_produce_76 rfl ?_
            refine zp_get dX4_produce_77 gX4_23_4 o2 rfl ?_
            refine zp_get dX4_produce_80 gX4_82_2 f2 rfl ?_
            refine zp_pc (pc' := 83) rfl ?_
            have lp1 := zplus_len V1 c
            refine zp_callV (As := [.ref (43), .ref (45)]) (k := zdid b) (st := []) (ci := 3) dX4_produce_83 cX4_85 rfl f8.2.1 rfl rfl (e_hash (b := b) (d := zdid b) (N := 512) (K := 64) f8 f1 f6 f7 (by omega) (by omega)) (by decide) (by decide) (Nat.le_of_ble_eq_true rfl) (fun v27 h27 n27 q27 => ?_)
            obtain ⟨rfl, N27, s27, r27, g27⟩ := q27
            rw [N27]
            refine zp_nrm (cells' := 0) (slots' := 0) (st' := []) rfl rfl rfl ?_
            have y28_0 := f1.sm s27 (fun i hi => by unfold zhs at hi; omega)
            have y28_1 : h27 (26) = some zdkc := (s27 _ (by unfold zhs; omega)).trans f2
            have y28_2 : zcy h27 27 := f3.off (fun i h1 h2 => s27 i (by unfold zhs; omega))
            have y28_3 := f4.keep (s27 _ (by unfold zhs; omega)) (s27 _ (by unfold zhs; omega))
            have y28_4 := f5.keep (s27 _ (by unfold zhs; omega)) (s27 _ (by unfold zhs; omega))
            have y28_5 := f6.keep (s27 _ (by unfold zhs; omega)) (s27 _ (by unfold zhs; omega))
            have y28_6 : zdg h27 (!b) (zdid (!b)) := f9.off (fun i h1 h2 => s27 i (by unfold zhs; omega))
            have y28_7 := hv2.keep (s27 _ (by unfold zhs; omega)) (s27 _ (by unfold zhs; omega))
            have y28_8 := hc2.keep (s27 _ (by unfold zhs; omega)) (s27 _ (by unfold zhs; omega))
            have y28_9 := hA2.keep (s27 _ (by unfold zhs; omega)) (s27 _ (by unfold zhs; omega))
            have y28_10 := hO2.keep (s27 _ (by unfold zhs; omega)) (s27 _ (by unfold zhs; omega))
            have y28_11 : h27 (a) = some (.inl (4, [.int (nI (st)), .int (nI (zbi rs)), .int (nI (zsl b)), .ref (a + 1), .ref (a + 3), .ref (26), .int (nI (zbi b)), .int (nI (iv)), .int (nI (ct)), .int (dr), .int (nI (sd)), .ref (zdid b)])) := (s27 _ (by unfold zhs; omega)).trans o2
            refine zp_aload_n dX4_produce_86 rfl ?_
            refine zp_aload_n dX4_produce_87 rfl ?_
            refine zp_get dX4_produce_88 gX4_23_4 y28_11 rfl ?_
            refine zp_get dX4_produce_91 gX4_82_2 y28_1 rfl ?_
            refine zp_iconst (v := nI (0)) dX4_produce_94 (by decide) ?_
            refine zp_iload_n dX4_produce_95 rfl ?_
            refine zp_aload_n dX4_produce_96 rfl ?_
            refine zp_pc (pc' := 97) rfl ?_
            refine zp_callV (As := []) (k := 19) (st := [.int (nI (k)), .int (nI (0)), .ref (45), .ref (19)]) (ci := 6) dX4_produce_97 cX4_68 rfl y28_10.2.1 rfl rfl (e_length (N := 4096) y28_10) (by decide) (by decide) (Nat.le_of_ble_eq_true rfl) (fun v29 h29 n29 q29 => ?_)
            obtain ⟨rfl, H29, N29⟩ := q29
            rw [N29, H29]
            refine zp_nrm (cells' := 0) (slots' := 0) (st' := [.int (nI ((zdcat b V1 c).length)), .int (nI (k)), .int (nI (0)), .ref (45), .ref (19)]) rfl rfl rfl ?_
            refine zn_isub dX4_produce_100 (by omega) ?_
            refine zp_pc (pc' := 101) rfl ?_
            refine zp_callV (As := [.ref (45), .int (nI (0)), .int (nI ((k) - ((zdcat b V1 c).length)))]) (k := 19) (st := []) (ci := 6) dX4_produce_101 cX4_89 rfl y28_10.2.1 rfl rfl (e_appendPart (N := 4096) (K := 64) (a := 0) (c := k - (zdcat b V1 c).length) y28_10 r27 (by omega) (by omega) (by rw [zpart_len, zhash_len]; omega)) (by decide) (by decide) (Nat.le_of_ble_eq_true rfl) (fun v30 h30 n30 q30 => ?_)
            obtain ⟨rfl, N30, s30, r30⟩ := q30
            rw [N30]
            refine zp_nrm (cells' := 0) (slots' := 0) (st' := []) rfl rfl rfl ?_
            have y31_0 := y28_0.sm s30 (fun i hi => by unfold zrs at hi; omega)
            have y31_1 : h30 (26) = some zdkc := (s30 _ (by unfold zrs; omega)).trans y28_1
            have y31_2 : zcy h30 27 := y28_2.off (fun i h1 h2 => s30 i (by unfold zrs; omega))
            have y31_3 := y28_3.keep (s30 _ (by unfold zrs; omega)) (s30 _ (by unfold zrs; omega))
            have y31_4 := y28_4.keep (s30 _ (by unfold zrs; omega)) (s30 _ (by unfold zrs; omega))
            have y31_5 := y28_5.keep (s30 _ (by unfold zrs; omega)) (s30 _ (by unfold zrs; omega))
            have y31_6 := r27.keep (s30 _ (by unfold zrs; omega)) (s30 _ (by unfold zrs; omega))
            have y31_7 : zdg h30 b (zdid b) := g27.off (fun i h1 h2 => s30 i (by unfold zrs; omega))
            have y31_8 : zdg h30 (!b) (zdid (!b)) := y28_6.off (fun i h1 h2 => s30 i (by unfold zrs; omega))
            have y31_9 := y28_7.keep (s30 _ (by unfold zrs; omega)) (s30 _ (by unfold zrs; omega))
            have y31_10 := y28_8.keep (s30 _ (by unfold zrs; omega)) (s30 _ (by unfold zrs; omega))
            have y31_11 := y28_9.keep (s30 _ (by unfold zrs; omega)) (s30 _ (by unfold zrs; omega))
            have y31_12 : h30 (a) = some (.inl (4, [.int (nI (st)), .int (nI (zbi rs)), .int (nI (zsl b)), .ref (a + 1), .ref (a + 3), .ref (26), .int (nI (zbi b)), .int (nI (iv)), .int (nI (ct)), .int (dr), .int (nI (sd)), .ref (zdid b)])) := (s30 _ (by unfold zrs; omega)).trans y28_11
            refine zp_aload dX4_produce_104 rfl ?_
            refine zp_iconst (v := nI (1)) dX4_produce_106 (by decide) ?_
            refine zp_pc (pc' := 107) rfl ?_
            refine zp_callV (As := [.int (nI (1))]) (k := 43) (st := []) (ci := 6) dX4_produce_107 cX4_92 rfl y31_5.2.1 rfl rfl (e_plusNumber (N := 512) (k := 1) y31_5 (by decide)) (by decide) (by decide) (Nat.le_of_ble_eq_true rfl) (fun v32 h32 n32 q32 => ?_)
            obtain ⟨rfl, N32, s32, r32⟩ := q32
            rw [N32]
            refine zp_nrm (cells' := 0) (slots' := 0) (st' := []) rfl rfl rfl ?_
            have y33_0 := y31_0.sm s32 (fun i hi => by unfold zrs at hi; omega)
            have y33_1 : h32 (26) = some zdkc := (s32 _ (by unfold zrs; omega)).trans y31_1
            have y33_2 : zcy h32 27 := y31_2.off (fun i h1 h2 => s32 i (by unfold zrs; omega))
            have y33_3 := y31_3.keep (s32 _ (by unfold zrs; omega)) (s32 _ (by unfold zrs; omega))
            have y33_4 := y31_4.keep (s32 _ (by unfold zrs; omega)) (s32 _ (by unfold zrs; omega))
            have y33_5 := y31_6.keep (s32 _ (by unfold zrs; omega)) (s32 _ (by unfold zrs; omega))
            have y33_6 : zdg h32 b (zdid b) := y31_7.off (fun i h1 h2 => s32 i (by unfold zrs; omega))
            have y33_7 : zdg h32 (!b) (zdid (!b)) := y31_8.off (fun i h1 h2 => s32 i (by unfold zrs; omega))
            have y33_8 := y31_9.keep (s32 _ (by unfold zrs; omega)) (s32 _ (by unfold zrs; omega))
            have y33_9 := y31_10.keep (s32 _ (by unfold zrs; omega)) (s32 _ (by unfold zrs; omega))
            have y33_10 := y31_11.keep (s32 _ (by unfold zrs; omega)) (s32 _ (by unfold zrs; omega))
            have y33_11 := r30.keep (s32 _ (by unfold zrs; omega)) (s32 _ (by unfold zrs; omega))
            have y33_12 : h32 (a) = some (.inl (4, [.int (nI (st)), .int (nI (zbi rs)), .int (nI (zsl b)), .ref (a + 1), .ref (a + 3), .ref (26), .int (nI (zbi b)), .int (nI (iv)), .int (nI (ct)), .int (dr), .int (nI (sd)), .ref (zdid b)])) := (s32 _ (by unfold zrs; omega)).trans y31_12
            have ep : znum (zval (zplus V1 c) + 1) (zplus V1 c).length = zplus V1 (c + 1) := zplus_plus V1 c 1
            rw [ep] at r32
            refine zn_iinc 1 (ls' := [some (.ref (a)), some (.int (nI (k))), some (.ref (17)), some (.ref (19)), some (.ref (43)), some (.int (nI (c + 1)))]) dX4_produce_110 (by decide) (by decide) rfl rfl ?_
            refine zp_pc (pc' := 113) rfl ?_
            refine zp_goto (tgt := 56) dX4_produce_113 (by decide) ?_
            refine zp_pc (pc' := 56) rfl ?_
            refine ih (k - (c + 1)) (by omega) (c + 1) h32 rfl (by omega) ((((hs1).trans (s27.mono (fun i hi => by unfold zgo; unfold zhs at hi; omega))).trans (s30.mono (fun i hi => by unfold zgo; unfold zrs at hi; omega))).trans (s32.mono (fun i hi => by unfold zgo; unfold zrs at hi; omega))) y33_0 y33_1 y33_2 ⟨_, y33_3⟩ ⟨_, y33_4⟩ r32 ⟨_, y33_5⟩ y33_6 y33_7 y33_8 y33_9 y33_10 ?_ y33_12
            have e9 : zdcat b V1 (c + 1) = zdcat b V1 c ++ zhash b (zplus V1 c) := (zflat_succ _ _).symm
            rw [e9, List.take_append, tk]
            exact y33_11
    exact lp _ 0 h2 rfl (Nat.zero_le _) ((hs0).trans (s2.mono (fun i hi => by unfold zgo; unfold zrs at hi; omega))) y3_0 y3_1 y3_2 ⟨_, y3_3⟩ ⟨_, y3_4⟩ r2 ⟨_, y3_5⟩ y3_6 y3_7 y3_8 y3_9 y3_10 (by show zrow _ _ _ (List.take k []); rw [List.take_nil]; exact y3_11) y3_12
  refine zp_aload_n dX4_produce_0 rfl ?_
  refine zp_pc (pc' := 1) rfl ?_
  refine zp_callV (As := []) (k := 17) (st := []) (ci := 6) dX4_produce_1 cX4_68 rfl hA.2.1 rfl rfl (e_length (N := 240) hA) (by decide) (by decide) (Nat.le_of_ble_eq_true rfl) (fun v34 h34 n34 q34 => ?_)
  obtain ⟨rfl, H34, N34⟩ := q34
  rw [N34, H34]
  refine zp_nrm (cells' := 0) (slots' := 0) (st' := [.int (nI (A.length))]) rfl rfl rfl ?_
  refine zp_pc (pc' := 4) rfl ?_
  refine zn_if_le (tgt := 27) dX4_produce_4 (by decide) (by omega) (fun c4 => ?_) (fun c4 => ?_)
  · exact cont h V (by rw [if_neg (by omega)]) lV (zsm.rf) e1 e2 e3 ⟨_, e4⟩ ⟨_, e5⟩ ⟨_, e6⟩ ⟨_, e7⟩ e8 e9 hv hc hA hO o
  · refine zp_aload_n dX4_produce_7 rfl ?_
    refine zp_iconst (v := nI (2)) dX4_produce_8 (by decide) ?_
    refine zp_pc (pc' := 9) rfl ?_
    refine zp_callV (As := [.int (nI (2))]) (k := a) (st := []) (ci := 4) dX4_produce_9 cX4_41 rfl o rfl rfl (e_beginMessage (b := b) (N := zsl b) (k := 2) o ha e2 hv e5 (by omega) (by decide)) (by decide) (by decide) (Nat.le_of_ble_eq_true rfl) (fun v35 h35 n35 q35 => ?_)
    obtain ⟨rfl, N35, s35, r35⟩ := q35
    rw [N35]
    refine zp_nrm (cells' := 0) (slots' := 0) (st' := []) rfl rfl rfl ?_
    have y36_0 := e1.sm s35 (fun i hi => by unfold zrs at hi; omega)
    have y36_1 : h35 (26) = some zdkc := (s35 _ (by unfold zrs; omega)).trans e2
    have y36_2 : zcy h35 27 := e3.off (fun i h1 h2 => s35 i (by unfold zrs; omega))
    have y36_3 := e4.keep (s35 _ (by unfold zrs; omega)) (s35 _ (by unfold zrs; omega))
    have y36_4 := e6.keep (s35 _ (by unfold zrs; omega)) (s35 _ (by unfold zrs; omega))
    have y36_5 := e7.keep (s35 _ (by unfold zrs; omega)) (s35 _ (by unfold zrs; omega))
    have y36_6 : zdg h35 b (zdid b) := e8.off (fun i h1 h2 => s35 i (by unfold zrs; omega))
    have y36_7 : zdg h35 (!b) (zdid (!b)) := e9.off (fun i h1 h2 => s35 i (by unfold zrs; omega))
    have y36_8 := hv.keep (s35 _ (by unfold zrs; omega)) (s35 _ (by unfold zrs; omega))
    have y36_9 := hc.keep (s35 _ (by unfold zrs; omega)) (s35 _ (by unfold zrs; omega))
    have y36_10 := hA.keep (s35 _ (by unfold zrs; omega)) (s35 _ (by unfold zrs; omega))
    have y36_11 := hO.keep (s35 _ (by unfold zrs; omega)) (s35 _ (by unfold zrs; omega))
    have y36_12 : h35 (a) = some (.inl (4, [.int (nI (st)), .int (nI (zbi rs)), .int (nI (zsl b)), .ref (a + 1), .ref (a + 3), .ref (26), .int (nI (zbi b)), .int (nI (iv)), .int (nI (ct)), .int (dr), .int (nI (sd)), .ref (zdid b)])) := (s35 _ (by unfold zrs; omega)).trans o
    refine zp_aload_n dX4_produce_12 rfl ?_
    refine zp_get dX4_produce_13 gX4_23_4 y36_12 rfl ?_
    refine zp_get dX4_produce_16 gX4_27_2 y36_1 rfl ?_
    refine zp_aload_n dX4_produce_19 rfl ?_
    refine zp_pc (pc' := 20) rfl ?_
    refine zp_callV (As := [.ref (17)]) (k := 41) (st := []) (ci := 6) dX4_produce_20 cX4_45 rfl r35.2.1 rfl rfl (e_appendRow (N := 512) (K := 240) r35 y36_10 (by omega) (by rw [List.length_cons]; omega)) (by decide) (by decide) (Nat.le_of_ble_eq_true rfl) (fun v37 h37 n37 q37 => ?_)
    obtain ⟨rfl, N37, s37, r37⟩ := q37
    rw [N37]
    refine zp_nrm (cells' := 0) (slots' := 0) (st' := []) rfl rfl rfl ?_
    have y38_0 := y36_0.sm s37 (fun i hi => by unfold zrs at hi; omega)
    have y38_1 : h37 (26) = some zdkc := (s37 _ (by unfold zrs; omega)).trans y36_1
    have y38_2 : zcy h37 27 := y36_2.off (fun i h1 h2 => s37 i (by unfold zrs; omega))
    have y38_3 := y36_3.keep (s37 _ (by unfold zrs; omega)) (s37 _ (by unfold zrs; omega))
    have y38_4 := y36_4.keep (s37 _ (by unfold zrs; omega)) (s37 _ (by unfold zrs; omega))
    have y38_5 := y36_5.keep (s37 _ (by unfold zrs; omega)) (s37 _ (by unfold zrs; omega))
    have y38_6 : zdg h37 b (zdid b) := y36_6.off (fun i h1 h2 => s37 i (by unfold zrs; omega))
    have y38_7 : zdg h37 (!b) (zdid (!b)) := y36_7.off (fun i h1 h2 => s37 i (by unfold zrs; omega))
    have y38_8 := y36_8.keep (s37 _ (by unfold zrs; omega)) (s37 _ (by unfold zrs; omega))
    have y38_9 := y36_9.keep (s37 _ (by unfold zrs; omega)) (s37 _ (by unfold zrs; omega))
    have y38_10 := y36_10.keep (s37 _ (by unfold zrs; omega)) (s37 _ (by unfold zrs; omega))
    have y38_11 := y36_11.keep (s37 _ (by unfold zrs; omega)) (s37 _ (by unfold zrs; omega))
    have y38_12 : h37 (a) = some (.inl (4, [.int (nI (st)), .int (nI (zbi rs)), .int (nI (zsl b)), .ref (a + 1), .ref (a + 3), .ref (26), .int (nI (zbi b)), .int (nI (iv)), .int (nI (ct)), .int (dr), .int (nI (sd)), .ref (zdid b)])) := (s37 _ (by unfold zrs; omega)).trans y36_12
    refine zp_aload_n dX4_produce_23 rfl ?_
    refine zp_pc (pc' := 24) rfl ?_
    refine zp_callV (As := []) (k := a) (st := []) (ci := 4) dX4_produce_24 cX4_72 rfl y38_12 rfl rfl (e_addDigest (b := b) y38_12 ha y38_0 y38_1 y38_6 y38_8 r37 y38_5) (by decide) (by decide) (Nat.le_of_ble_eq_true rfl) (fun v39 h39 n39 q39 => ?_)
    obtain ⟨rfl, N39, s39, r39, g39, bs39, k39⟩ := q39
    rw [N39]
    refine zp_nrm (cells' := 0) (slots' := 0) (st' := []) rfl rfl rfl ?_
    have y40_0 := y38_0.sm s39 (fun i hi => by omega)
    have y40_1 : h39 (26) = some zdkc := (s39 _ (by omega)).trans y38_1
    have y40_2 : zcy h39 27 := y38_2.off (fun i h1 h2 => s39 i (by omega))
    have y40_3 := y38_3.keep (s39 _ (by omega)) (s39 _ (by omega))
    have y40_4 := r37.keep (s39 _ (by omega)) (s39 _ (by omega))
    have y40_5 := y38_4.keep (s39 _ (by omega)) (s39 _ (by omega))
    have y40_6 : zdg h39 (!b) (zdid (!b)) := y38_7.off (fun i h1 h2 => s39 i (by omega))
    have y40_7 := y38_9.keep (s39 _ (by omega)) (s39 _ (by omega))
    have y40_8 := y38_10.keep (s39 _ (by omega)) (s39 _ (by omega))
    have y40_9 := y38_11.keep (s39 _ (by omega)) (s39 _ (by omega))
    have y40_10 : h39 (a) = some (.inl (4, [.int (nI (st)), .int (nI (zbi rs)), .int (nI (zsl b)), .ref (a + 1), .ref (a + 3), .ref (26), .int (nI (zbi b)), .int (nI (iv)), .int (nI (ct)), .int (dr), .int (nI (sd)), .ref (zdid b)])) := (s39 _ (by omega)).trans y38_12
    refine zp_pc (pc' := 27) rfl ?_
    exact cont h39 _ (by rw [if_pos (by omega)]; rfl) (by rw [zplus_len]; exact lV) (((s35.mono (fun i hi => by unfold zgo; unfold zrs at hi; omega)).trans (s37.mono (fun i hi => by unfold zgo; unfold zrs at hi; omega))).trans (s39.mono (fun i hi => by unfold zgo; omega))) y40_0 y40_1 y40_2 ⟨_, y40_3⟩ ⟨_, y40_4⟩ ⟨_, y40_5⟩ ⟨_, k39⟩ g39 y40_6 r39 y40_7 y40_8 y40_9 y40_10
