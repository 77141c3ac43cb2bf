set_option maxRecDepth 10000 in
set_option maxHeartbeats 2000000 in
theorem e_mix5 {g : ZG} {h : ZH} {n : Nat} {a st : Nat} {rs : Bool} {iv ct : Nat} {dr : Int32} {sd : Nat} {b : Bool} {r N : Nat} {K V M : List Nat} (hk : zdk h) (ha : 64 ≤ a) (o : h a = some (.inl (5, [.int (nI (st)), .int (nI (zbi rs)), .int (nI (8 * zwb b)), .ref (a + 1), .ref (a + 3), .ref (26), .int (nI (2 + zbi b)), .int (nI (iv)), .int (nI (ct)), .int (dr), .int (nI (sd)), .ref (zdid b)]))) (hv : zrow h (a + 1) (8 * zwb b) V) (hc : zrow h (a + 3) (8 * zwb b) K) (hM : zrow h r N M) (hr : r = 43 ∨ r = 17) (lK : K.length = 8 * zwb b) (lV : V.length = 8 * zwb b) (lM : M.length ≤ 300) : zMt g mX6_mix (zR 4 0 0) [.ref (a), .ref (r)] h n (fun v h' n' => v = none ∧ n' = n ∧ zsm h h' (zgs a) ∧ zdk h' ∧ h' a = some (.inl (5, [.int (nI (st)), .int (nI (zbi rs)), .int (nI (8 * zwb b)), .ref (a + 1), .ref (a + 3), .ref (26), .int (nI (2 + zbi b)), .int (nI (iv)), .int (nI (ct)), .int (dr), .int (nI (sd)), .ref (zdid b)])) ∧ zrow h' (a + 3) (8 * zwb b) (zmix b M (K, V)).1 ∧ zrow h' (a + 1) (8 * zwb b) (zmix b M (K, V)).2) := by
  refine zMt.of [some (.ref (a)), some (.ref (r)), none, none] (by decide) rfl (Nat.le_of_ble_eq_true rfl) ?_
  obtain ⟨Qf, hQ⟩ : ∃ Qf : ZQ, Qf = (fun v h' n' => v = none ∧ n' = n ∧ zsm h h' (zgs a) ∧ zdk h' ∧ h' a = some (.inl (5, [.int (nI (st)), .int (nI (zbi rs)), .int (nI (8 * zwb b)), .ref (a + 1), .ref (a + 3), .ref (26), .int (nI (2 + zbi b)), .int (nI (iv)), .int (nI (ct)), .int (dr), .int (nI (sd)), .ref (zdid b)])) ∧ zrow h' (a + 3) (8 * zwb b) (zmix b M (K, V)).1 ∧ zrow h' (a + 1) (8 * zwb b) (zmix b M (K, V)).2) := ⟨_, rfl⟩
  rw [← hQ]
  have hz := zdid2 b
  have hwb := zwb_or b
  have hML := hM.len
  obtain ⟨e1, e2, e3, ⟨x4, e4⟩, ⟨x5, e5⟩, ⟨x6, e6⟩, ⟨x7, e7⟩, e8, e9⟩ := hk.parts b
  have lp : ∀ (m : Nat) (c : Nat) (g1 : ZH), m = (if 0 < M.length then 2 else 1) - c → c ≤ (if 0 < M.length then 2 else 1) → zsm h g1 (zgs a) → ztab g1 → g1 26 = some zdkc → zcy g1 27 → (∃ xs, zrow g1 39 64 xs) → (∃ xs, zrow g1 41 512 xs) → (∃ xs, zrow g1 43 512 xs) → (∃ xs, zrow g1 45 64 xs) → zdg g1 b (zdid b) → zdg g1 (!b) (zdid (!b)) → zrow g1 (a + 1) (8 * zwb b) (zmi b M (K, V) c).2 → zrow g1 (a + 3) (8 * zwb b) (zmi b M (K, V) c).1 → zrow g1 r N M → g1 a = some (.inl (5, [.int (nI (st)), .int (nI (zbi rs)), .int (nI (8 * zwb b)), .ref (a + 1), .ref (a + 3), .ref (26), .int (nI (2 + zbi b)), .int (nI (iv)), .int (nI (ct)), .int (dr), .int (nI (sd)), .ref (zdid b)])) → zP g mX6_mix (zR 4 0 0) Qf 0 0 15 [some (.ref (a)), some (.ref (r)), some (.int (nI ((if 0 < M.length then 2 else 1)))), some (.int (nI (c)))] [] g1 n := by
    intro m
    induction m using Nat.strongRecOn with
    | _ m ih =>
      intro c g1 hm hc0 hs1 f1 f2 f3 ⟨y4, f4⟩ ⟨y5, f5⟩ ⟨y6, f6⟩ ⟨y7, f7⟩ f8 f9 hv2 hc2 hM2 o2
      obtain ⟨lK2, lV2⟩ := zmi_len (b := b) (m := M) (s := (K, V)) lK lV c
      have hrd : (if 0 < M.length then 2 else 1) ≤ 2 := by split <;> omega
      refine zp_iload_n dX6_mix_15 rfl ?_
      refine zp_iload_n dX6_mix_16 rfl ?_
      refine zp_pc (pc' := 17) rfl ?_
      refine zn_icmp_ge (tgt := 113) dX6_mix_17 (by decide) (by omega) (by omega) (fun c17 => ?_) (fun c17 => ?_)
      · have ec : c = (if 0 < M.length then 2 else 1) := by omega
        subst ec
        refine zp_ret (v := none) dX6_mix_113 ⟨rfl, rfl⟩ (by decide) (by decide) ?_
        rw [hQ]
        exact ⟨rfl, rfl, hs1, zdk.of b ⟨f1, f2, f3, ⟨_, f4⟩, ⟨_, f5⟩, ⟨_, f6⟩, ⟨_, f7⟩, f8, f9⟩, o2, hc2, hv2⟩
      · refine zp_aload_n dX6_mix_20 rfl ?_
        refine zp_get dX6_mix_21 gX6_44_5 o2 rfl ?_
        refine zp_get dX6_mix_24 gX6_81_2 f2 rfl ?_
        refine zp_pc (pc' := 27) rfl ?_
        refine zp_callV (As := []) (k := 41) (st := []) (ci := 6) dX6_mix_27 cX6_84 rfl f5.2.1 rfl rfl (e_clear (N := 512) f5) (by decide) (by decide) (Nat.le_of_ble_eq_true rfl) (fun v2 h2 n2 q2 => ?_)
        obtain ⟨rfl, N2, s2, r2⟩ := q2
        rw [N2]
        refine zp_nrm (cells' := 0) (slots' := 0) (st' := []) rfl rfl rfl ?_
        have y3_0 := f1.sm s2 (fun i hi => by unfold zrs at hi; omega)
        have y3_1 : h2 (26) = some zdkc := (s2 _ (by unfold zrs; omega)).trans f2
        have y3_2 : zcy h2 27 := f3.off (fun i h1 h2 => s2 i (by unfold zrs; omega))
        have y3_3 := f4.keep (s2 _ (by unfold zrs; omega)) (s2 _ (by unfold zrs; omega))
        have y3_4 := f7.keep (s2 _ (by unfold zrs; omega)) (s2 _ (by unfold zrs; omega))
        have y3_5 := f6.keep (s2 _ (by unfold zrs; omega)) (s2 _ (by unfold zrs; omega))
        have y3_6 : zdg h2 b (zdid b) := f8.off (fun i h1 h2 => s2 i (by unfold zrs; omega))
        have y3_7 : zdg h2 (!b) (zdid (!b)) := f9.off (fun i h1 h2 => s2 i (by unfold zrs; omega))
        have y3_8 := hv2.keep (s2 _ (by unfold zrs; omega)) (s2 _ (by unfold zrs; omega))
        have y3_9 := hc2.keep (s2 _ (by unfold zrs; omega)) (s2 _ (by unfold zrs; omega))
        have y3_10 := hM2.keep (s2 _ (by unfold zrs; omega)) (s2 _ (by unfold zrs; omega))
        have y3_11 : h2 (a) = some (.inl (5, [.int (nI (st)), .int (nI (zbi rs)), .int (nI (8 * zwb b)), .ref (a + 1), .ref (a + 3), .ref (26), .int (nI (2 + zbi b)), .int (nI (iv)), .int (nI (ct)), .int (dr), .int (nI (sd)), .ref (zdid b)])) := (s2 _ (by unfold zrs; omega)).trans o2
        refine zp_aload_n dX6_mix_30 rfl ?_
        refine zp_get dX6_mix_31 gX6_44_5 y3_11 rfl ?_
        refine zp_get dX6_mix_34 gX6_81_2 y3_1 rfl ?_
        refine zp_aload_n dX6_mix_37 rfl ?_
        refine zp_get dX6_mix_38 gX6_41_5 y3_11 rfl ?_
        refine zp_pc (pc' := 41) rfl ?_
        refine zp_callV (As := [.ref (a + 1)]) (k := 41) (st := []) (ci := 6) dX6_mix_41 cX6_87 rfl r2.2.1 rfl rfl (e_appendRow (N := 512) (K := 8 * zwb b) (xs := []) r2 y3_8 (by omega) (by simp; omega)) (by decide) (by decide) (Nat.le_of_ble_eq_true rfl) (fun v4 h4 n4 q4 => ?_)
        obtain ⟨rfl, N4, s4, r4⟩ := q4
        rw [N4]
        refine zp_nrm (cells' := 0) (slots' := 0) (st' := []) rfl rfl rfl ?_
        have y5_0 := y3_0.sm s4 (fun i hi => by unfold zrs at hi; omega)
        have y5_1 : h4 (26) = some zdkc := (s4 _ (by unfold zrs; omega)).trans y3_1
        have y5_2 : zcy h4 27 := y3_2.off (fun i h1 h2 => s4 i (by unfold zrs; omega))
        have y5_3 := y3_3.keep (s4 _ (by unfold zrs; omega)) (s4 _ (by unfold zrs; omega))
        have y5_4 := y3_4.keep (s4 _ (by unfold zrs; omega)) (s4 _ (by unfold zrs; omega))
        have y5_5 := y3_5.keep (s4 _ (by unfold zrs; omega)) (s4 _ (by unfold zrs; omega))
        have y5_6 : zdg h4 b (zdid b) := y3_6.off (fun i h1 h2 => s4 i (by unfold zrs; omega))
        have y5_7 : zdg h4 (!b) (zdid (!b)) := y3_7.off (fun i h1 h2 => s4 i (by unfold zrs; omega))
        have y5_8 := y3_8.keep (s4 _ (by unfold zrs; omega)) (s4 _ (by unfold zrs; omega))
        have y5_9 := y3_9.keep (s4 _ (by unfold zrs; omega)) (s4 _ (by unfold zrs; omega))
        have y5_10 := y3_10.keep (s4 _ (by unfold zrs; omega)) (s4 _ (by unfold zrs; omega))
        have y5_11 : h4 (a) = some (.inl (5, [.int (nI (st)), .int (nI (zbi rs)), .int (nI (8 * zwb b)), .ref (a + 1), .ref (a + 3), .ref (26), .int (nI (2 + zbi b)), .int (nI (iv)), .int (nI (ct)), .int (dr), .int (nI (sd)), .ref (zdid b)])) := (s4 _ (by unfold zrs; omega)).trans y3_11
        rw [List.nil_append] at r4
        refine zp_aload_n dX6_mix_44 rfl ?_
        refine zp_get dX6_mix_45 gX6_44_5 y5_11 rfl ?_
        refine zp_get dX6_mix_48 gX6_81_2 y5_1 rfl ?_
        refine zp_iload_n dX6_mix_51 rfl ?_
        refine zp_pc (pc' := 52) rfl ?_
        refine zp_callV (As := [.int (nI (c))]) (k := 41) (st := []) (ci := 6) dX6_mix_52 cX6_90 rfl r4.2.1 rfl rfl (e_append (N := 512) (b := nI c) r4 (by omega)) (by decide) (by decide) (Nat.le_of_ble_eq_true rfl) (fun v6 h6 n6 q6 => ?_)
        obtain ⟨rfl, N6, s6, r6⟩ := q6
        rw [N6]
        refine zp_nrm (cells' := 0) (slots' := 0) (st' := []) rfl rfl rfl ?_
        have y7_0 := y5_0.sm s6 (fun i hi => by unfold zrs at hi; omega)
        have y7_1 : h6 (26) = some zdkc := (s6 _ (by unfold zrs; omega)).trans y5_1
        have y7_2 : zcy h6 27 := y5_2.off (fun i h1 h2 => s6 i (by unfold zrs; omega))
        have y7_3 := y5_3.keep (s6 _ (by unfold zrs; omega)) (s6 _ (by unfold zrs; omega))
        have y7_4 := y5_4.keep (s6 _ (by unfold zrs; omega)) (s6 _ (by unfold zrs; omega))
        have y7_5 := y5_5.keep (s6 _ (by unfold zrs; omega)) (s6 _ (by unfold zrs; omega))
        have y7_6 : zdg h6 b (zdid b) := y5_6.off (fun i h1 h2 => s6 i (by unfold zrs; omega))
        have y7_7 : zdg h6 (!b) (zdid (!b)) := y5_7.off (fun i h1 h2 => s6 i (by unfold zrs; omega))
        have y7_8 := y5_8.keep (s6 _ (by unfold zrs; omega)) (s6 _ (by unfold zrs; omega))
        have y7_9 := y5_9.keep (s6 _ (by unfold zrs; omega)) (s6 _ (by unfold zrs; omega))
        have y7_10 := y5_10.keep (s6 _ (by unfold zrs; omega)) (s6 _ (by unfold zrs; omega))
        have y7_11 : h6 (a) = some (.inl (5, [.int (nI (st)), .int (nI (zbi rs)), .int (nI (8 * zwb b)), .ref (a + 1), .ref (a + 3), .ref (26), .int (nI (2 + zbi b)), .int (nI (iv)), .int (nI (ct)), .int (dr), .int (nI (sd)), .ref (zdid b)])) := (s6 _ (by unfold zrs; omega)).trans y5_11
        rw [znI_nat (by omega), Nat.mod_eq_of_lt (by omega)] at r6
        refine zp_aload_n dX6_mix_55 rfl ?_
        refine zp_get dX6_mix_56 gX6_44_5 y7_11 rfl ?_
        refine zp_get dX6_mix_59 gX6_81_2 y7_1 rfl ?_
        refine zp_aload_n dX6_mix_62 rfl ?_
        refine zp_pc (pc' := 63) rfl ?_
        have lm : ((zmi b M (K, V) c).2 ++ [c]).length = 8 * zwb b + 1 := by rw [List.length_append, lV2]; rfl
        refine zp_callV (As := [.ref (r)]) (k := 41) (st := []) (ci := 6) dX6_mix_63 cX6_87 rfl r6.2.1 rfl rfl (e_appendRow (N := 512) (K := N) r6 y7_10 (by omega) (by omega)) (by decide) (by decide) (Nat.le_of_ble_eq_true rfl) (fun v8 h8 n8 q8 => ?_)
        obtain ⟨rfl, N8, s8, r8⟩ := q8
        rw [N8]
        refine zp_nrm (cells' := 0) (slots' := 0) (st' := []) rfl rfl rfl ?_
        have y9_0 := y7_0.sm s8 (fun i hi => by unfold zrs at hi; omega)
        have y9_1 : h8 (26) = some zdkc := (s8 _ (by unfold zrs; omega)).trans y7_1
        have y9_2 : zcy h8 27 := y7_2.off (fun i h1 h2 => s8 i (by unfold zrs; omega))
        have y9_3 := y7_3.keep (s8 _ (by unfold zrs; omega)) (s8 _ (by unfold zrs; omega))
        have y9_4 := y7_4.keep (s8 _ (by unfold zrs; omega)) (s8 _ (by unfold zrs; omega))
        have y9_5 := y7_5.keep (s8 _ (by unfold zrs; omega)) (s8 _ (by unfold zrs; omega))
        have y9_6 : zdg h8 b (zdid b) := y7_6.off (fun i h1 h2 => s8 i (by unfold zrs; omega))
        have y9_7 : zdg h8 (!b) (zdid (!b)) := y7_7.off (fun i h1 h2 => s8 i (by unfold zrs; omega))
        have y9_8 := y7_8.keep (s8 _ (by unfold zrs; omega)) (s8 _ (by unfold zrs; omega))
        have y9_9 := y7_9.keep (s8 _ (by unfold zrs; omega)) (s8 _ (by unfold zrs; omega))
        have y9_10 := y7_10.keep (s8 _ (by unfold zrs; omega)) (s8 _ (by unfold zrs; omega))
        have y9_11 : h8 (a) = some (.inl (5, [.int (nI (st)), .int (nI (zbi rs)), .int (nI (8 * zwb b)), .ref (a + 1), .ref (a + 3), .ref (26), .int (nI (2 + zbi b)), .int (nI (iv)), .int (nI (ct)), .int (dr), .int (nI (sd)), .ref (zdid b)])) := (s8 _ (by unfold zrs; omega)).trans y7_11
        refine zp_aload_n dX6_mix_66 rfl ?_
        refine zp_get dX6_mix_67 gX6_19_5 y9_11 rfl ?_
        refine zp_aload_n dX6_mix_70 rfl ?_
        refine zp_get dX6_mix_71 gX6_27_5 y9_11 rfl ?_
        refine zp_aload_n dX6_mix_74 rfl ?_
        refine zp_get dX6_mix_75 gX6_44_5 y9_11 rfl ?_
        refine zp_get dX6_mix_78 gX6_81_2 y9_1 rfl ?_
        refine zp_aload_n dX6_mix_81 rfl ?_
        refine zp_get dX6_mix_82 gX6_27_5 y9_11 rfl ?_
        refine zp_pc (pc' := 85) rfl ?_
        have lm2 : ((zmi b M (K, V) c).2 ++ [c] ++ M).length = 8 * zwb b + 1 + M.length := by rw [List.length_append, lm]
        refine zp_callV (As := [.ref (a + 3), .ref (41), .ref (a + 3)]) (k := zdid b) (st := []) (ci := 3) dX6_mix_85 cX6_67 rfl y9_6.2.1 rfl rfl (e_keyed (b := b) (d := zdid b) (N := 8 * zwb b) (L := 512) (K := 8 * zwb b) y9_6 y9_0 y9_9 r8 y9_9 (by omega) (by omega) (by omega) (by omega) (Nat.le_refl _)) (by decide) (by decide) (Nat.le_of_ble_eq_true rfl) (fun v10 h10 n10 q10 => ?_)
        obtain ⟨rfl, N10, s10, r10, g10⟩ := q10
        rw [N10]
        refine zp_nrm (cells' := 0) (slots' := 0) (st' := []) rfl rfl rfl ?_
        have y11_0 := y9_0.sm s10 (fun i hi => by unfold zks at hi; omega)
        have y11_1 : h10 (26) = some zdkc := (s10 _ (by unfold zks; omega)).trans y9_1
        have y11_2 : zcy h10 27 := y9_2.off (fun i h1 h2 => s10 i (by unfold zks; omega))
        have y11_3 := y9_3.keep (s10 _ (by unfold zks; omega)) (s10 _ (by unfold zks; omega))
        have y11_4 := r8.keep (s10 _ (by unfold zks; omega)) (s10 _ (by unfold zks; omega))
        have y11_5 := y9_4.keep (s10 _ (by unfold zks; omega)) (s10 _ (by unfold zks; omega))
        have y11_6 := y9_5.keep (s10 _ (by unfold zks; omega)) (s10 _ (by unfold zks; omega))
        have y11_7 : zdg h10 (!b) (zdid (!b)) := y9_7.off (fun i h1 h2 => s10 i (by unfold zks; omega))
        have y11_8 := y9_8.keep (s10 _ (by unfold zks; omega)) (s10 _ (by unfold zks; omega))
        have y11_9 := y9_10.keep (s10 _ (by unfold zks; omega)) (s10 _ (by unfold zks; omega))
        have y11_10 : h10 (a) = some (.inl (5, [.int (nI (st)), .int (nI (zbi rs)), .int (nI (8 * zwb b)), .ref (a + 1), .ref (a + 3), .ref (26), .int (nI (2 + zbi b)), .int (nI (iv)), .int (nI (ct)), .int (dr), .int (nI (sd)), .ref (zdid b)])) := (s10 _ (by unfold zks; omega)).trans y9_11
        refine zp_aload_n dX6_mix_88 rfl ?_
        refine zp_get dX6_mix_89 gX6_19_5 y11_10 rfl ?_
        refine zp_aload_n dX6_mix_92 rfl ?_
        refine zp_get dX6_mix_93 gX6_27_5 y11_10 rfl ?_
        refine zp_aload_n dX6_mix_96 rfl ?_
        refine zp_get dX6_mix_97 gX6_41_5 y11_10 rfl ?_
        refine zp_aload_n dX6_mix_100 rfl ?_
        refine zp_get dX6_mix_101 gX6_41_5 y11_10 rfl ?_
        refine zp_pc (pc' := 104) rfl ?_
        refine zp_callV (As := [.ref (a + 3), .ref (a + 1), .ref (a + 1)]) (k := zdid b) (st := []) (ci := 3) dX6_mix_104 cX6_67 rfl g10.2.1 rfl rfl (e_keyed (b := b) (d := zdid b) (N := 8 * zwb b) (L := 8 * zwb b) (K := 8 * zwb b) g10 y11_0 r10 y11_8 y11_8 (by omega) (by omega) (by omega) (by omega) (Nat.le_refl _)) (by decide) (by decide) (Nat.le_of_ble_eq_true rfl) (fun v12 h12 n12 q12 => ?_)
        obtain ⟨rfl, N12, s12, r12, g12⟩ := q12
        rw [N12]
        refine zp_nrm (cells' := 0) (slots' := 0) (st' := []) rfl rfl rfl ?_
        have y13_0 := y11_0.sm s12 (fun i hi => by unfold zks at hi; omega)
        have y13_1 : h12 (26) = some zdkc := (s12 _ (by unfold zks; omega)).trans y11_1
        have y13_2 : zcy h12 27 := y11_2.off (fun i h1 h2 => s12 i (by unfold zks; omega))
        have y13_3 := y11_3.keep (s12 _ (by unfold zks; omega)) (s12 _ (by unfold zks; omega))
        have y13_4 := y11_4.keep (s12 _ (by unfold zks; omega)) (s12 _ (by unfold zks; omega))
        have y13_5 := y11_5.keep (s12 _ (by unfold zks; omega)) (s12 _ (by unfold zks; omega))
        have y13_6 := y11_6.keep (s12 _ (by unfold zks; omega)) (s12 _ (by unfold zks; omega))
        have y13_7 : zdg h12 (!b) (zdid (!b)) := y11_7.off (fun i h1 h2 => s12 i (by unfold zks; omega))
        have y13_8 := r10.keep (s12 _ (by unfold zks; omega)) (s12 _ (by unfold zks; omega))
        have y13_9 := y11_9.keep (s12 _ (by unfold zks; omega)) (s12 _ (by unfold zks; omega))
        have y13_10 : h12 (a) = some (.inl (5, [.int (nI (st)), .int (nI (zbi rs)), .int (nI (8 * zwb b)), .ref (a + 1), .ref (a + 3), .ref (26), .int (nI (2 + zbi b)), .int (nI (iv)), .int (nI (ct)), .int (dr), .int (nI (sd)), .ref (zdid b)])) := (s12 _ (by unfold zks; omega)).trans y11_10
        refine zn_iinc 1 (ls' := [some (.ref (a)), some (.ref (r)), some (.int (nI ((if 0 < M.length then 2 else 1)))), some (.int (nI (c + 1)))]) dX6_mix_107 (by decide) (by decide) rfl rfl ?_
        refine zp_pc (pc' := 110) rfl ?_
        refine zp_goto (tgt := 15) dX6_mix_110 (by decide) ?_
        refine zp_pc (pc' := 15) rfl ?_
        exact ih ((if 0 < M.length then 2 else 1) - (c + 1)) (by omega) (c + 1) h12 rfl (by omega) (((((((hs1).trans (s2.mono (fun i hi => by unfold zgs; unfold zrs at hi; omega))).trans (s4.mono (fun i hi => by unfold zgs; unfold zrs at hi; omega))).trans (s6.mono (fun i hi => by unfold zgs; unfold zrs at hi; omega))).trans (s8.mono (fun i hi => by unfold zgs; unfold zrs at hi; omega))).trans (s10.mono (fun i hi => by unfold zgs; unfold zks at hi; omega))).trans (s12.mono (fun i hi => by unfold zgs; unfold zks at hi; omega))) y13_0 y13_1 y13_2 ⟨_, y13_3⟩ ⟨_, y13_4⟩ ⟨_, y13_6⟩ ⟨_, y13_5⟩ g12 y13_7 r12 y13_8 y13_9 y13_10
  refine zp_aload_n dX6_mix_0 rfl ?_
  refine zp_pc (pc' := 1) rfl ?_
  refine zp_callV (As := []) (k := r) (st := []) (ci := 6) dX6_mix_1 cX6_63 rfl hM.2.1 rfl rfl (e_length (N := N) hM) (by decide) (by decide) (Nat.le_of_ble_eq_true rfl) (fun v1 h1 n1 q1 => ?_)
  obtain ⟨rfl, H1, N1⟩ := q1
  rw [N1, H1]
  refine zp_nrm (cells' := 0) (slots' := 0) (st' := [.int (nI (M.length))]) rfl rfl rfl ?_
  refine zp_pc (pc' := 4) rfl ?_
  refine zn_if_le (tgt := 11) dX6_mix_4 (by decide) (by omega) (fun c4 => ?_) (fun c4 => ?_)
  · refine zp_iconst (v := nI (1)) dX6_mix_11 (by decide) ?_
    refine zp_istore_n (ls' := [some (.ref (a)), some (.ref (r)), some (.int (nI (1))), none]) dX6_mix_12 (by decide) rfl ?_
    refine zp_iconst (v := nI (0)) dX6_mix_13 (by decide) ?_
    refine zp_istore_n (ls' := [some (.ref (a)), some (.ref (r)), some (.int (nI (1))), some (.int (nI (0)))]) dX6_mix_14 (by decide) rfl ?_
    refine zp_pc (pc' := 15) rfl ?_
    refine zp_ls (ls' := [some (.ref (a)), some (.ref (r)), some (.int (nI ((if 0 < M.length then 2 else 1)))), some (.int (nI (0)))]) (by rw [if_neg (by omega)]) ?_
    exact lp _ 0 h rfl (Nat.zero_le _) zsm.rf e1 e2 e3 ⟨_, e4⟩ ⟨_, e5⟩ ⟨_, e6⟩ ⟨_, e7⟩ e8 e9 hv hc hM o
  · refine zp_iconst (v := nI (2)) dX6_mix_7 (by decide) ?_
    refine zp_goto (tgt := 12) dX6_mix_8 (by decide) ?_
    refine zp_istore_n (ls' := [some (.ref (a)), some (.ref (r)), some (.int (nI (2))), none]) dX6_mix_12 (by decide) rfl ?_
    refine zp_iconst (v := nI (0)) dX6_mix_13 (by decide) ?_
    refine zp_istore_n (ls' := [some (.ref (a)), some (.ref (r)), some (.int (nI (2))), some (.int (nI (0)))]) dX6_mix_14 (by decide) rfl ?_
    refine zp_pc (pc' := 15) rfl ?_
    refine zp_ls (ls' := [some (.ref (a)), some (.ref (r)), some (.int (nI ((if 0 < M.length then 2 else 1)))), some (.int (nI (0)))]) (by rw [if_pos (by omega)]) ?_
    exact lp _ 0 h rfl (Nat.zero_le _) zsm.rf e1 e2 e3 ⟨_, e4⟩ ⟨_, e5⟩ ⟨_, e6⟩ ⟨_, e7⟩ e8 e9 hv hc hM o
set_option maxRecDepth 10000 in
set_option maxHeartbeats 2000000 in
theorem e_plant5 {g : ZG} {h : ZH} {n : Nat} {a st : Nat} {rs : Bool} {iv ct : Nat} {dr : Int32} {sd : Nat} {b : Bool} {K V R A : List Nat} (hk : zdk h) (ha : 64 ≤ a) (o : h a = some (.inl (5, [.int (nI (st)), .int (nI (zbi rs)), .int (nI (8 * zwb b)), .ref (a + 1), .ref (a + 3), .ref (26), .int (nI (2 + zbi b)), .int (nI (iv)), .int (nI (ct)), .int (dr), .int (nI (sd)), .ref (zdid b)]))) (hv : zrow h (a + 1) (8 * zwb b) V) (hc : zrow h (a + 3) (8 * zwb b) K) (hR : zrow h 24 48 R) (hA : zrow h 17 240 A) (hl : sd = 0 ∨ (K.length = 8 * zwb b ∧ V.length = 8 * zwb b)) (b2 : st ≤ 256) (b4 : iv ≤ 100000) (b5 : ct < 90000) (b6 : sd < 90000) : zMt g mX6_plant (zR 5 0 0) [.ref (a), .ref (24), .ref (17)] h n (fun v h' n' => v = none ∧ n' = n ∧ zsm h h' (zgs a) ∧ zdk h' ∧ h' a = some (.inl (5, [.int (nI (st)), .int (nI (zbi rs)), .int (nI (8 * zwb b)), .ref (a + 1), .ref (a + 3), .ref (26), .int (nI (2 + zbi b)), .int (nI (iv)), .int (nI (1)), .int (dr), .int (nI (sd + 1)), .ref (zdid b)])) ∧ zrow h' (a + 3) (8 * zwb b) (zmix b (R ++ A) ((if sd = 0 then List.replicate (8 * zwb b) 0 else K), (if sd = 0 then List.replicate (8 * zwb b) 1 else V))).1 ∧ zrow h' (a + 1) (8 * zwb b) (zmix b (R ++ A) ((if sd = 0 then List.replicate (8 * zwb b) 0 else K), (if sd = 0 then List.replicate (8 * zwb b) 1 else V))).2) := by
  refine zMt.of [some (.ref (a)), some (.ref (24)), some (.ref (17))] (by decide) rfl (Nat.le_of_ble_eq_true rfl) ?_
  obtain ⟨Qf, hQ⟩ : ∃ Qf : ZQ, Qf = (fun v h' n' => v = none ∧ n' = n ∧ zsm h h' (zgs a) ∧ zdk h' ∧ h' a = some (.inl (5, [.int (nI (st)), .int (nI (zbi rs)), .int (nI (8 * zwb b)), .ref (a + 1), .ref (a + 3), .ref (26), .int (nI (2 + zbi b)), .int (nI (iv)), .int (nI (1)), .int (dr), .int (nI (sd + 1)), .ref (zdid b)])) ∧ zrow h' (a + 3) (8 * zwb b) (zmix b (R ++ A) ((if sd = 0 then List.replicate (8 * zwb b) 0 else K), (if sd = 0 then List.replicate (8 * zwb b) 1 else V))).1 ∧ zrow h' (a + 1) (8 * zwb b) (zmix b (R ++ A) ((if sd = 0 then List.replicate (8 * zwb b) 0 else K), (if sd = 0 then List.replicate (8 * zwb b) 1 else V))).2) := ⟨_, rfl⟩
  rw [← hQ]
  have hz := zdid2 b
  have hwb := zwb_or b
  have lR := hR.len
  have lA := hA.len
  obtain ⟨e1, e2, e3, ⟨x4, e4⟩, ⟨x5, e5⟩, ⟨x6, e6⟩, ⟨x7, e7⟩, e8, e9⟩ := hk.parts b
  have cont : ∀ (g1 : ZH) (K0 V0 : List Nat), K0 = (if sd = 0 then List.replicate (8 * zwb b) 0 else K) → V0 = (if sd = 0 then List.replicate (8 * zwb b) 1 else V) → K0.length = 8 * zwb b → V0.length = 8 * zwb b → zsm h g1 (zgs a) → ztab g1 → g1 26 = some zdkc → zcy g1 27 → (∃ xs, zrow g1 39 64 xs) → (∃ xs, zrow g1 41 512 xs) → (∃ xs, zrow g1 43 512 xs) → (∃ xs, zrow g1 45 64 xs) → zdg g1 b (zdid b) → zdg g1 (!b) (zdid (!b)) → zrow g1 (a + 1) (8 * zwb b) V0 → zrow g1 (a + 3) (8 * zwb b) K0 → zrow g1 24 48 R → zrow g1 17 240 A → g1 a = some (.inl (5, [.int (nI (st)), .int (nI (zbi rs)), .int (nI (8 * zwb b)), .ref (a + 1), .ref (a + 3), .ref (26), .int (nI (2 + zbi b)), .int (nI (iv)), .int (nI (ct)), .int (dr), .int (nI (sd)), .ref (zdid b)])) → zP g mX6_plant (zR 5 0 0) Qf 0 0 31 [some (.ref (a)), some (.ref (24)), some (.ref (17))] [] g1 n := by
    intro g1 K0 V0 eK eV lK lV hs0 e1 e2 e3 ⟨x4, e4⟩ ⟨x5, e5⟩ ⟨x6, e6⟩ ⟨x7, e7⟩ e8 e9 hv hc hR hA o
    refine zp_aload_n dX6_plant_31 rfl ?_
    refine zp_get dX6_plant_32 gX6_44_5 o rfl ?_
    refine zp_aload_n dX6_plant_35 rfl ?_
    refine zp_aload_n dX6_plant_36 rfl ?_
    refine zp_pc (pc' := 37) rfl ?_
    refine zp_callV (As := [.ref (24), .ref (17)]) (k := 26) (st := []) (ci := 2) dX6_plant_37 cX6_48 rfl e2 rfl rfl (e_join (N := 48) (K := 240) e2 hR hA e6 (by decide) (by decide) (by omega)) (by decide) (by decide) (Nat.le_of_ble_eq_true rfl) (fun v1 h1 n1 q1 => ?_)
    obtain ⟨rfl, N1, s1, r1⟩ := q1
    rw [N1]
    refine zp_nrm (cells' := 0) (slots' := 0) (st' := []) rfl rfl rfl ?_
    have y2_0 := e1.sm s1 (fun i hi => by unfold zrs at hi; omega)
    have y2_1 : h1 (26) = some zdkc := (s1 _ (by unfold zrs; omega)).trans e2
    have y2_2 : zcy h1 27 := e3.off (fun i h1 h2 => s1 i (by unfold zrs; omega))
    have y2_3 := e4.keep (s1 _ (by unfold zrs; omega)) (s1 _ (by unfold zrs; omega))
    have y2_4 := e5.keep (s1 _ (by unfold zrs; omega)) (s1 _ (by unfold zrs; omega))
    have y2_5 := e7.keep (s1 _ (by unfold zrs; omega)) (s1 _ (by unfold zrs; omega))
    have y2_6 : zdg h1 b (zdid b) := e8.off (fun i h1 h2 => s1 i (by unfold zrs; omega))
    have y2_7 : zdg h1 (!b) (zdid (!b)) := e9.off (fun i h1 h2 => s1 i (by unfold zrs; omega))
    have y2_8 := hv.keep (s1 _ (by unfold zrs; omega)) (s1 _ (by unfold zrs; omega))
    have y2_9 := hc.keep (s1 _ (by unfold zrs; omega)) (s1 _ (by unfold zrs; omega))
    have y2_10 := hR.keep (s1 _ (by unfold zrs; omega)) (s1 _ (by unfold zrs; omega))
    have y2_11 := hA.keep (s1 _ (by unfold zrs; omega)) (s1 _ (by unfold zrs; omega))
    have y2_12 : h1 (a) = some (.inl (5, [.int (nI (st)), .int (nI (zbi rs)), .int (nI (8 * zwb b)), .ref (a + 1), .ref (a + 3), .ref (26), .int (nI (2 + zbi b)), .int (nI (iv)), .int (nI (ct)), .int (dr), .int (nI (sd)), .ref (zdid b)])) := (s1 _ (by unfold zrs; omega)).trans o
    refine zp_aload_n dX6_plant_40 rfl ?_
    refine zp_aload_n dX6_plant_41 rfl ?_
    refine zp_get dX6_plant_42 gX6_44_5 y2_12 rfl ?_
    refine zp_get dX6_plant_45 gX6_52_2 y2_1 rfl ?_
    refine zp_pc (pc' := 48) rfl ?_
    refine zp_callV (As := [.ref (43)]) (k := a) (st := []) (ci := 5) dX6_plant_48 cX6_55 rfl y2_12 rfl rfl (e_mix5 (b := b) (N := 512) (zdk.of b ⟨y2_0, y2_1, y2_2, ⟨_, y2_3⟩, ⟨_, y2_4⟩, ⟨_, r1⟩, ⟨_, y2_5⟩, y2_6, y2_7⟩) ha y2_12 y2_8 y2_9 r1 (by decide) lK lV (by rw [List.length_append]; omega)) (by decide) (by decide) (Nat.le_of_ble_eq_true rfl) (fun v3 h3 n3 q3 => ?_)
    obtain ⟨rfl, N3, s3, k3, o3, c3, r3⟩ := q3
    rw [N3]
    refine zp_nrm (cells' := 0) (slots' := 0) (st' := []) rfl rfl rfl ?_
    refine zp_aload_n dX6_plant_51 rfl ?_
    refine zp_pc (pc' := 52) rfl ?_
    refine zp_callU (As := []) (k := a) (st := []) (ci := 5) (q := (RX6, TX6, 12)) dX6_plant_52 cX6_59_5 rfl o3 rfl (e_noteSeeding5 o3 (by omega)) (by decide) (by decide) (Nat.le_of_ble_eq_true rfl) (fun v4 h4 n4 q4 => ?_)
    obtain ⟨rfl, N4, s4, o4⟩ := q4
    rw [N4]
    refine zp_nrm (cells' := 0) (slots' := 0) (st' := []) rfl rfl rfl ?_
    subst eK
    subst eV
    refine zp_ret (v := none) dX6_plant_55 ⟨rfl, rfl⟩ (by decide) (by decide) ?_
    rw [hQ]
    exact ⟨rfl, rfl, (((hs0).trans (s1.mono (fun i hi => by unfold zgs; unfold zrs at hi; omega))).trans (s3.mono (fun i hi => by unfold zgs; omega))).trans (s4.mono (fun i hi => by unfold zgs; omega)), k3.off s4 (fun i hi => by omega), o4, c3.keep (s4 _ (by omega)) (s4 _ (by omega)), r3.keep (s4 _ (by omega)) (s4 _ (by omega))⟩
  refine zp_aload_n dX6_plant_0 rfl ?_
  refine zp_pc (pc' := 1) rfl ?_
  refine zp_callU (As := []) (k := a) (st := []) (ci := 5) (q := (RX6, TX6, 12)) dX6_plant_1 cX6_23_5 rfl o rfl (e_isNew5 o (by have := zbi_lt b; omega) b2 (by omega) b4 (by omega) (by omega)) (by decide) (by decide) (Nat.le_of_ble_eq_true rfl) (fun v5 h5 n5 q5 => ?_)
  obtain ⟨rfl, H5, N5⟩ := q5
  rw [N5, H5]
  refine zp_nrm (cells' := 0) (slots' := 0) (st' := [.int (nI (zbi (decide (sd = 0))))]) rfl rfl rfl ?_
  have hn := zbi_lt (decide (sd = 0))
  refine zp_pc (pc' := 4) rfl ?_
  refine zn_if_eq (tgt := 31) dX6_plant_4 (by decide) (by omega) (fun c4 => ?_) (fun c4 => ?_)
  · have h0 : ¬ sd = 0 := fun q => by rw [decide_eq_true q] at c4; exact absurd c4 (by decide)
    exact cont h K V (if_neg h0).symm (if_neg h0).symm (by omega) (by omega) (zsm.rf) e1 e2 e3 ⟨_, e4⟩ ⟨_, e5⟩ ⟨_, e6⟩ ⟨_, e7⟩ e8 e9 hv hc hR hA o
  · have h0 : sd = 0 := by
      by_cases q : sd = 0
      · exact q
      · rw [decide_eq_false q] at c4; exact absurd rfl c4
    refine zp_aload_n dX6_plant_7 rfl ?_
    refine zp_get dX6_plant_8 gX6_27_5 o rfl ?_
    refine zp_iconst (v := nI (0)) dX6_plant_11 (by decide) ?_
    refine zp_aload_n dX6_plant_12 rfl ?_
    refine zp_get dX6_plant_13 gX6_31_5 o rfl ?_
    refine zp_pc (pc' := 16) rfl ?_
    refine zp_callV (As := [.int (nI (0)), .int (nI (8 * zwb b))]) (k := a + 3) (st := []) (ci := 6) dX6_plant_16 cX6_35 rfl hc.2.1 rfl rfl (e_becomeSame (N := 8 * zwb b) (b := nI 0) (k := 8 * zwb b) hc (Nat.le_refl _)) (by decide) (by decide) (Nat.le_of_ble_eq_true rfl) (fun v6 h6 n6 q6 => ?_)
    obtain ⟨rfl, N6, s6, r6⟩ := q6
    rw [N6]
    refine zp_nrm (cells' := 0) (slots' := 0) (st' := []) rfl rfl rfl ?_
    have y7_0 := e1.sm s6 (fun i hi => by unfold zrs at hi; omega)
    have y7_1 : h6 (26) = some zdkc := (s6 _ (by unfold zrs; omega)).trans e2
    have y7_2 : zcy h6 27 := e3.off (fun i h1 h2 => s6 i (by unfold zrs; omega))
    have y7_3 := e4.keep (s6 _ (by unfold zrs; omega)) (s6 _ (by unfold zrs; omega))
    have y7_4 := e5.keep (s6 _ (by unfold zrs; omega)) (s6 _ (by unfold zrs; omega))
    have y7_5 := e7.keep (s6 _ (by unfold zrs; omega)) (s6 _ (by unfold zrs; omega))
    have y7_6 := e6.keep (s6 _ (by unfold zrs; omega)) (s6 _ (by unfold zrs; omega))
    have y7_7 : zdg h6 b (zdid b) := e8.off (fun i h1 h2 => s6 i (by unfold zrs; omega))
    have y7_8 : zdg h6 (!b) (zdid (!b)) := e9.off (fun i h1 h2 => s6 i (by unfold zrs; omega))
    have y7_9 := hv.keep (s6 _ (by unfold zrs; omega)) (s6 _ (by unfold zrs; omega))
    have y7_10 := hR.keep (s6 _ (by unfold zrs; omega)) (s6 _ (by unfold zrs; omega))
    have y7_11 := hA.keep (s6 _ (by unfold zrs; omega)) (s6 _ (by unfold zrs; omega))
    have y7_12 : h6 (a) = some (.inl (5, [.int (nI (st)), .int (nI (zbi rs)), .int (nI (8 * zwb b)), .ref (a + 1), .ref (a + 3), .ref (26), .int (nI (2 + zbi b)), .int (nI (iv)), .int (nI (ct)), .int (dr), .int (nI (sd)), .ref (zdid b)])) := (s6 _ (by unfold zrs; omega)).trans o
    refine zp_aload_n dX6_plant_19 rfl ?_
    refine zp_get dX6_plant_20 gX6_41_5 y7_12 rfl ?_
    refine zp_iconst (v := nI (1)) dX6_plant_23 (by decide) ?_
    refine zp_aload_n dX6_plant_24 rfl ?_
    refine zp_get dX6_plant_25 gX6_31_5 y7_12 rfl ?_
    refine zp_pc (pc' := 28) rfl ?_
    refine zp_callV (As := [.int (nI (1)), .int (nI (8 * zwb b))]) (k := a + 1) (st := []) (ci := 6) dX6_plant_28 cX6_35 rfl y7_9.2.1 rfl rfl (e_becomeSame (N := 8 * zwb b) (b := nI 1) (k := 8 * zwb b) y7_9 (Nat.le_refl _)) (by decide) (by decide) (Nat.le_of_ble_eq_true rfl) (fun v8 h8 n8 q8 => ?_)
    obtain ⟨rfl, N8, s8, r8⟩ := q8
    rw [N8]
    refine zp_nrm (cells' := 0) (slots' := 0) (st' := []) rfl rfl rfl ?_
    have y9_0 := y7_0.sm s8 (fun i hi => by unfold zrs at hi; omega)
    have y9_1 : h8 (26) = some zdkc := (s8 _ (by unfold zrs; omega)).trans y7_1
    have y9_2 : zcy h8 27 := y7_2.off (fun i h1 h2 => s8 i (by unfold zrs; omega))
    have y9_3 := y7_3.keep (s8 _ (by unfold zrs; omega)) (s8 _ (by unfold zrs; omega))
    have y9_4 := y7_4.keep (s8 _ (by unfold zrs; omega)) (s8 _ (by unfold zrs; omega))
    have y9_5 := y7_5.keep (s8 _ (by unfold zrs; omega)) (s8 _ (by unfold zrs; omega))
    have y9_6 := y7_6.keep (s8 _ (by unfold zrs; omega)) (s8 _ (by unfold zrs; omega))
    have y9_7 : zdg h8 b (zdid b) := y7_7.off (fun i h1 h2 => s8 i (by unfold zrs; omega))
    have y9_8 : zdg h8 (!b) (zdid (!b)) := y7_8.off (fun i h1 h2 => s8 i (by unfold zrs; omega))
    have y9_9 := r6.keep (s8 _ (by unfold zrs; omega)) (s8 _ (by unfold zrs; omega))
    have y9_10 := y7_10.keep (s8 _ (by unfold zrs; omega)) (s8 _ (by unfold zrs; omega))
    have y9_11 := y7_11.keep (s8 _ (by unfold zrs; omega)) (s8 _ (by unfold zrs; omega))
    have y9_12 : h8 (a) = some (.inl (5, [.int (nI (st)), .int (nI (zbi rs)), .int (nI (8 * zwb b)), .ref (a + 1), .ref (a + 3), .ref (26), .int (nI (2 + zbi b)), .int (nI (iv)), .int (nI (ct)), .int (dr), .int (nI (sd)), .ref (zdid b)])) := (s8 _ (by unfold zrs; omega)).trans y7_12
    refine zp_pc (pc' := 31) rfl ?_
    exact cont h8 _ _ (if_pos h0).symm (if_pos h0).symm (List.length_replicate ..) (List.length_replicate ..) ((s6.mono (fun i hi => by unfold zgs; unfold zrs at hi; omega)).trans (s8.mono (fun i hi => by unfold zgs; unfold zrs at hi; omega))) y9_0 y9_1 y9_2 ⟨_, y9_3⟩ ⟨_, y9_4⟩ ⟨_, y9_6⟩ ⟨_, y9_5⟩ y9_7 y9_8 r8 y9_9 y9_10 y9_11 y9_12
set_option maxRecDepth 10000 in
set_option maxHeartbeats 2000000 in
theorem e_produce5 {g : ZG} {h : ZH} {n : Nat} {a st : Nat} {rs : Bool} {iv ct : Nat} {dr : Int32} {sd : Nat} {b : Bool} {k : Nat} {K V A : List Nat} (hk : zdk h) (ha : 64 ≤ a) (o : h a = some (.inl (5, [.int (nI (st)), .int (nI (zbi rs)), .int (nI (8 * zwb b)), .ref (a + 1), .ref (a + 3), .ref (26), .int (nI (2 + zbi b)), .int (nI (iv)), .int (nI (ct)), .int (dr), .int (nI (sd)), .ref (zdid b)]))) (hv : zrow h (a + 1) (8 * zwb b) V) (hc : zrow h (a + 3) (8 * zwb b) K) (hA : zrow h 17 240 A) (hO : zrow h 19 4096 []) (lK : K.length = 8 * zwb b) (lV : V.length = 8 * zwb b) (hk4 : k ≤ 4096) (b2 : st ≤ 256) (b4 : iv ≤ 100000) (b5 : ct < 90000) (b6 : sd < 90000) : zMt g mX6_produce (zR 5 0 0) [.ref (a), .int (nI (k)), .ref (17), .ref (19)] h n (fun v h' n' => v = none ∧ n' = n ∧ zsm h h' (zgo a) ∧ zdk h' ∧ h' a = some (.inl (5, [.int (nI (st)), .int (nI (zbi rs)), .int (nI (8 * zwb b)), .ref (a + 1), .ref (a + 3), .ref (26), .int (nI (2 + zbi b)), .int (nI (iv)), .int (nI (ct + 1)), .int (dr + nI k), .int (nI (sd)), .ref (zdid b)])) ∧ ∀ s1, s1 = (if 0 < A.length then zmix b A (K, V) else (K, V)) → zrow h' 19 4096 ((zmcat b s1.1 s1.2 (zcn k (8 * zwb b))).take k) ∧ zrow h' (a + 3) (8 * zwb b) (zmix b A (s1.1, zmv b s1.1 s1.2 (zcn k (8 * zwb b)))).1 ∧ zrow h' (a + 1) (8 * zwb b) (zmix b A (s1.1, zmv b s1.1 s1.2 (zcn k (8 * zwb b)))).2) := by
  refine zMt.of [some (.ref (a)), some (.int (nI (k))), some (.ref (17)), some (.ref (19)), none] (by decide) rfl (Nat.le_of_ble_eq_true rfl) ?_
  obtain ⟨Qf, hQ⟩ : ∃ Qf : ZQ, Qf = (fun v h' n' => v = none ∧ n' = n ∧ zsm h h' (zgo a) ∧ zdk h' ∧ h' a = some (.inl (5, [.int (nI (st)), .int (nI (zbi rs)), .int (nI (8 * zwb b)), .ref (a + 1), .ref (a + 3), .ref (26), .int (nI (2 + zbi b)), .int (nI (iv)), .int (nI (ct + 1)), .int (dr + nI k), .int (nI (sd)), .ref (zdid b)])) ∧ ∀ s1, s1 = (if 0 < A.length then zmix b A (K, V) else (K, V)) → zrow h' 19 4096 ((zmcat b s1.1 s1.2 (zcn k (8 * zwb b))).take k) ∧ zrow h' (a + 3) (8 * zwb b) (zmix b A (s1.1, zmv b s1.1 s1.2 (zcn k (8 * zwb b)))).1 ∧ zrow h' (a + 1) (8 * zwb b) (zmix b A (s1.1, zmv b s1.1 s1.2 (zcn k (8 * zwb b)))).2) := ⟨_, rfl⟩
  rw [← hQ]
  have hz := zdid2 b
  have hwb := zwb_or b
  have lA := hA.len
  have cont : ∀ (g1 : ZH) (s1 : List Nat × List Nat), s1 = (if 0 < A.length then zmix b A (K, V) else (K, V)) → s1.1.length = 8 * zwb b → s1.2.length = 8 * zwb b → zsm h g1 (zgo a) → zdk g1 → zrow g1 (a + 1) (8 * zwb b) s1.2 → zrow g1 (a + 3) (8 * zwb b) s1.1 → zrow g1 17 240 A → zrow g1 19 4096 [] → g1 a = some (.inl (5, [.int (nI (st)), .int (nI (zbi rs)), .int (nI (8 * zwb b)), .ref (a + 1), .ref (a + 3), .ref (26), .int (nI (2 + zbi b)), .int (nI (iv)), .int (nI (ct)), .int (dr), .int (nI (sd)), .ref (zdid b)])) → zP g mX6_produce (zR 5 0 0) Qf 0 0 12 [some (.ref (a)), some (.int (nI (k))), some (.ref (17)), some (.ref (19)), none] [] g1 n := by
    intro g1 s1 eS lK1 lV1 hs0 hk hv hc hA hO o
    obtain ⟨e1, e2, e3, ⟨x4, e4⟩, ⟨x5, e5⟩, ⟨x6, e6⟩, ⟨x7, e7⟩, e8, e9⟩ := hk.parts b
    refine zp_iconst (v := nI (0)) dX6_produce_12 (by decide) ?_
    refine zp_istore (ls' := [some (.ref (a)), some (.int (nI (k))), some (.ref (17)), some (.ref (19)), some (.int (nI (0)))]) dX6_produce_13 (by decide) rfl ?_
    refine zp_pc (pc' := 15) rfl ?_
    have lp : ∀ (m : Nat) (c : Nat) (g2 : ZH), m = k - c → c ≤ k → (c = 0 ∨ (c - 1) * (8 * zwb b) < k) → zsm h g2 (zgo a) → ztab g2 → g2 26 = some zdkc → zcy g2 27 → (∃ xs, zrow g2 39 64 xs) → (∃ xs, zrow g2 41 512 xs) → (∃ xs, zrow g2 43 512 xs) → (∃ xs, zrow g2 45 64 xs) → zdg g2 b (zdid b) → zdg g2 (!b) (zdid (!b)) → zrow g2 (a + 1) (8 * zwb b) (zmv b s1.1 s1.2 c) → zrow g2 (a + 3) (8 * zwb b) s1.1 → zrow g2 17 240 A → zrow g2 19 4096 ((zmcat b s1.1 s1.2 c).take k) → g2 a = some (.inl (5, [.int (nI (st)), .int (nI (zbi rs)), .int (nI (8 * zwb b)), .ref (a + 1), .ref (a + 3), .ref (26), .int (nI (2 + zbi b)), .int (nI (iv)), .int (nI (ct)), .int (dr), .int (nI (sd)), .ref (zdid b)])) → zP g mX6_produce (zR 5 0 0) Qf 0 0 15 [some (.ref (a)), some (.int (nI (k))), some (.ref (17)), some (.ref (19)), some (.int (nI (c)))] [] g2 n := by
      intro m
      induction m using Nat.strongRecOn with
      | _ m ih =>
        intro c g2 hm hc0 hlt hs1 f1 f2 f3 ⟨y4, f4⟩ ⟨y5, f5⟩ ⟨y6, f6⟩ ⟨y7, f7⟩ f8 f9 hv2 hc2 hA2 hO2 o2
        have cl := zmcat_len b s1.1 s1.2 c
        have vl := zmv_len (b := b) (K := s1.1) lV1 c
        refine zp_iload dX6_produce_15 rfl ?_
        refine zp_iload_n dX6_produce_17 rfl ?_
        refine zp_pc (pc' := 18) rfl ?_
        refine zn_icmp_ge (tgt := 69) dX6_produce_18 (by decide) (by omega) (by omega) (fun c18 => ?_) (fun c18 => ?_)
        · have e1 : k * 1 ≤ c * (8 * zwb b) := Nat.mul_le_mul (by omega) (by omega)
          have ec : c = zcn k (8 * zwb b) := zcn_of (by omega) (by omega) hlt
          subst ec
          refine zp_aload_n dX6_produce_69 rfl ?_
          refine zp_aload_n dX6_produce_70 rfl ?_
          refine zp_pc (pc' := 71) rfl ?_
          refine zp_callV (As := [.ref (17)]) (k := a) (st := []) (ci := 5) dX6_produce_71 cX6_55 rfl o2 rfl rfl (e_mix5 (b := b) (N := 240) (zdk.of b ⟨f1, f2, f3, ⟨_, f4⟩, ⟨_, f5⟩, ⟨_, f6⟩, ⟨_, f7⟩, f8, f9⟩) ha o2 hv2 hc2 hA2 (by decide) lK1 vl (by omega)) (by decide) (by decide) (Nat.le_of_ble_eq_true rfl) (fun v1 h1 n1 q1 => ?_)
          obtain ⟨rfl, N1, s1, k1, o1, c1, r1⟩ := q1
          rw [N1]
          refine zp_nrm (cells' := 0) (slots' := 0) (st' := []) rfl rfl rfl ?_
          have O2 := hO2.keep (s1 _ (by unfold zgs; omega)) (s1 _ (by unfold zgs; omega))
          refine zp_aload_n dX6_produce_74 rfl ?_
          refine zp_iload_n dX6_produce_75 rfl ?_
          refine zp_pc (pc' := 76) rfl ?_
          refine zp_callU (As := [.int (nI (k))]) (k := a) (st := []) (ci := 5) (q := (RX6, TX6, 12)) dX6_produce_76 cX6_77_5 rfl o1 rfl (e_noteDrawing5 (k := k) o1 (by omega)) (by decide) (by decide) (Nat.le_of_ble_eq_true rfl) (fun v2 h2 n2 q2 => ?_)
          obtain ⟨rfl, N2, s2, o2⟩ := q2
          rw [N2]
          refine zp_nrm (cells' := 0) (slots' := 0) (st' := []) rfl rfl rfl ?_
          refine zp_ret (v := none) dX6_produce_79 ⟨rfl, rfl⟩ (by decide) (by decide) ?_
          rw [hQ]
          exact ⟨rfl, rfl, ((hs1).trans (s1.mono (fun i hi => by unfold zgo; omega))).trans (s2.mono (fun i hi => by unfold zgo; omega)), k1.off s2 (fun i hi => by omega), o2, fun s2 e2 => by subst e2; subst eS; exact ⟨O2.keep (s2 _ (by omega)) (s2 _ (by omega)), c1.keep (s2 _ (by omega)) (s2 _ (by omega)), r1.keep (s2 _ (by omega)) (s2 _ (by omega))⟩⟩
        · refine zp_aload_n dX6_produce_21 rfl ?_
          refine zp_pc (pc' := 22) rfl ?_
          refine zp_callV (As := []) (k := 19) (st := []) (ci := 6) dX6_produce_22 cX6_63 rfl hO2.2.1 rfl rfl (e_length (N := 4096) hO2) (by decide) (by decide) (Nat.le_of_ble_eq_true rfl) (fun v3 h3 n3 q3 => ?_)
          obtain ⟨rfl, H3, N3⟩ := q3
          rw [N3, H3]
          refine zp_nrm (cells' := 0) (slots' := 0) (st' := [.int (nI (((zmcat b s1.1 s1.2 c).take k).length))]) rfl rfl rfl ?_
          have tl : ((zmcat b s1.1 s1.2 c).take k).length = min k (c * (8 * zwb b)) := by rw [List.length_take, cl]
          refine zp_iload_n dX6_produce_25 rfl ?_
          refine zp_pc (pc' := 26) rfl ?_
          refine zn_icmp_ge (tgt := 69) dX6_produce_26 (by decide) (by omega) (by omega) (fun c26 => ?_) (fun c26 => ?_)
          · have ec : c = zcn k (8 * zwb b) := zcn_of (by omega) (by omega) hlt
            subst ec
            refine zp_aload_n dX6_produce_69 rfl ?_
            refine zp_aload_n dX6_produce_70 rfl ?_
            refine zp_pc (pc' := 71) rfl ?_
            refine zp_callV (As := [.ref (17)]) (k := a) (st := []) (ci := 5) dX6_produce_71 cX6_55 rfl o2 rfl rfl (e_mix5 (b := b) (N := 240) (zdk.of b ⟨f1, f2, f3, ⟨_, f4⟩, ⟨_, f5⟩, ⟨_, f6⟩, ⟨_, f7⟩, f8, f9⟩) ha o2 hv2 hc2 hA2 (by decide) lK1 vl (by omega)) (by decide) (by decide) (Nat.le_of_ble_eq_true rfl) (fun v4 h4 n4 q4 => ?_)
            obtain ⟨rfl, N4, s4, k4, o4, c4, r4⟩ := q4
            rw [N4]
            refine zp_nrm (cells' := 0) (slots' := 0) (st' := []) rfl rfl rfl ?_
            have O2 := hO2.keep (s4 _ (by unfold zgs; omega)) (s4 _ (by unfold zgs; omega))
            refine zp_aload_n dX6_produce_74 rfl ?_
            refine zp_iload_n dX6_produce_75 rfl ?_
            refine zp_pc (pc' := 76) rfl ?_
            refine zp_callU (As := [.int (nI (k))]) (k := a) (st := []) (ci := 5) (q := (RX6, TX6, 12)) dX6_produce_76 cX6_77_5 rfl o4 rfl (e_noteDrawing5 (k := k) o4 (by omega)) (by decide) (by decide) (Nat.le_of_ble_eq_true rfl) (fun v5 h5 n5 q5 => ?_)
            obtain ⟨rfl, N5, s5, o5⟩ := q5
            rw [N5]
            refine zp_nrm (cells' := 0) (slots' := 0) (st' := []) rfl rfl rfl ?_
            refine zp_ret (v := none) dX6_produce_79 ⟨rfl, rfl⟩ (by decide) (by decide) ?_
            rw [hQ]
            exact ⟨rfl, rfl, ((hs1).trans (s4.mono (fun i hi => by unfold zgo; omega))).trans (s5.mono (fun i hi => by unfold zgo; omega)), k4.off s5 (fun i hi => by omega), o5, fun s2 e2 => by subst e2; subst eS; exact ⟨O2.keep (s5 _ (by omega)) (s5 _ (by omega)), c4.keep (s5 _ (by omega)) (s5 _ (by omega)), r4.keep (s5 _ (by omega)) (s5 _ (by omega))⟩⟩
          · have tk : ((zmcat b s1.1 s1.2 c).take k) = zmcat b s1.1 s1.2 c := List.take_of_length_le (by omega)
            rw [tk] at hO2
            refine zp_aload_n dX6_produce_29 rfl ?_
            refine zp_get dX6_produce_30 gX6_19_5 o2 rfl ?_
            refine zp_aload_n dX6_produce_33 rfl ?_
            refine zp_get dX6_produce_34 gX6_27_5 o2 rfl ?_
            refine zp_aload_n dX6_produce_37 rfl ?_
            refine zp_get dX6_produce_38 gX6_41_5 o2 rfl ?_
            refine zp_aload_n dX6_produce_41 rfl ?_
            refine zp_get dX6_produce_42 gX6_41_5 o2 rfl ?_
            refine zp_pc (pc' := 45) rfl ?_
            refine zp_callV (As := [.ref (a + 3), .ref (a + 1), .ref (a + 1)]) (k := zdid b) (st := []) (ci := 3) dX6_produce_45 cX6_67 rfl f8.2.1 rfl rfl (e_keyed (b := b) (d := zdid b) (N := 8 * zwb b) (L := 8 * zwb b) (K := 8 * zwb b) f8 f1 hc2 hv2 hv2 (by omega) (by omega) (by omega) (by omega) (Nat.le_refl _)) (by decide) (by decide) (Nat.le_of_ble_eq_true rfl) (fun v6 h6 n6 q6 => ?_)
            obtain ⟨rfl, N6, s6, r6, g6⟩ := q6
            rw [N6]
            refine zp_nrm (cells' := 0) (slots' := 0) (st' := []) rfl rfl rfl ?_
            have y7_0 := f1.sm s6 (fun i hi => by unfold zks at hi; omega)
            have y7_1 : h6 (26) = some zdkc := (s6 _ (by unfold zks; omega)).trans f2
            have y7_2 : zcy h6 27 := f3.off (fun i h1 h2 => s6 i (by unfold zks; omega))
            have y7_3 := f4.keep (s6 _ (by unfold zks; omega)) (s6 _ (by unfold zks; omega))
            have y7_4 := f5.keep (s6 _ (by unfold zks; omega)) (s6 _ (by unfold zks; omega))
            have y7_5 := f7.keep (s6 _ (by unfold zks; omega)) (s6 _ (by unfold zks; omega))
            have y7_6 := f6.keep (s6 _ (by unfold zks; omega)) (s6 _ (by unfold zks; omega))
            have y7_7 : zdg h6 (!b) (zdid (!b)) := f9.off (fun i h1 h2 => s6 i (by unfold zks; omega))
            have y7_8 := hc2.keep (s6 _ (by unfold zks; omega)) (s6 _ (by unfold zks; omega))
            have y7_9 := hA2.keep (s6 _ (by unfold zks; omega)) (s6 _ (by unfold zks; omega))
            have y7_10 := hO2.keep (s6 _ (by unfold zks; omega)) (s6 _ (by unfold zks; omega))
            have y7_11 : h6 (a) = some (.inl (5, [.int (nI (st)), .int (nI (zbi rs)), .int (nI (8 * zwb b)), .ref (a + 1), .ref (a + 3), .ref (26), .int (nI (2 + zbi b)), .int (nI (iv)), .int (nI (ct)), .int (dr), .int (nI (sd)), .ref (zdid b)])) := (s6 _ (by unfold zks; omega)).trans o2
            refine zp_aload_n dX6_produce_48 rfl ?_
            refine zp_aload_n dX6_produce_49 rfl ?_
            refine zp_get dX6_produce_50 gX6_41_5 y7_11 rfl ?_
            refine zp_iconst (v := nI (0)) dX6_produce_53 (by decide) ?_
            refine zp_iload_n dX6_produce_54 rfl ?_
            refine zp_aload_n dX6_produce_55 rfl ?_
            refine zp_pc (pc' := 56) rfl ?_
            refine zp_callV (As := []) (k := 19) (st := [.int (nI (k)), .int (nI (0)), .ref (a + 1), .ref (19)]) (ci := 6) dX6_produce_56 cX6_63 rfl y7_10.2.1 rfl rfl (e_length (N := 4096) y7_10) (by decide) (by decide) (Nat.le_of_ble_eq_true rfl) (fun v8 h8 n8 q8 => ?_)
            obtain ⟨rfl, H8, N8⟩ := q8
            rw [N8, H8]
            refine zp_nrm (cells' := 0) (slots' := 0) (st' := [.int (nI ((zmcat b s1.1 s1.2 c).length)), .int (nI (k)), .int (nI (0)), .ref (a + 1), .ref (19)]) rfl rfl rfl ?_
            refine zn_isub dX6_produce_59 (by omega) ?_
            refine zp_pc (pc' := 60) rfl ?_
            refine zp_callV (As := [.ref (a + 1), .int (nI (0)), .int (nI ((k) - ((zmcat b s1.1 s1.2 c).length)))]) (k := 19) (st := []) (ci := 6) dX6_produce_60 cX6_73 rfl y7_10.2.1 rfl rfl (e_appendPart (N := 4096) (K := 8 * zwb b) (a := 0) (c := k - (zmcat b s1.1 s1.2 c).length) y7_10 r6 (by omega) (by omega) (by rw [zpart_len, zmac_len]; omega)) (by decide) (by decide) (Nat.le_of_ble_eq_true rfl) (fun v9 h9 n9 q9 => ?_)
            obtain ⟨rfl, N9, s9, r9⟩ := q9
            rw [N9]
            refine zp_nrm (cells' := 0) (slots' := 0) (st' := []) rfl rfl rfl ?_
            have y10_0 := y7_0.sm s9 (fun i hi => by unfold zrs at hi; omega)
            have y10_1 : h9 (26) = some zdkc := (s9 _ (by unfold zrs; omega)).trans y7_1
            have y10_2 : zcy h9 27 := y7_2.off (fun i h1 h2 => s9 i (by unfold zrs; omega))
            have y10_3 := y7_3.keep (s9 _ (by unfold zrs; omega)) (s9 _ (by unfold zrs; omega))
            have y10_4 := y7_4.keep (s9 _ (by unfold zrs; omega)) (s9 _ (by unfold zrs; omega))
            have y10_5 := y7_5.keep (s9 _ (by unfold zrs; omega)) (s9 _ (by unfold zrs; omega))
            have y10_6 := y7_6.keep (s9 _ (by unfold zrs; omega)) (s9 _ (by unfold zrs; omega))
            have y10_7 : zdg h9 b (zdid b) := g6.off (fun i h1 h2 => s9 i (by unfold zrs; omega))
            have y10_8 : zdg h9 (!b) (zdid (!b)) := y7_7.off (fun i h1 h2 => s9 i (by unfold zrs; omega))
            have y10_9 := r6.keep (s9 _ (by unfold zrs; omega)) (s9 _ (by unfold zrs; omega))
            have y10_10 := y7_8.keep (s9 _ (by unfold zrs; omega)) (s9 _ (by unfold zrs; omega))
            have y10_11 := y7_9.keep (s9 _ (by unfold zrs; omega)) (s9 _ (by unfold zrs; omega))
            have y10_12 : h9 (a) = some (.inl (5, [.int (nI (st)), .int (nI (zbi rs)), .int (nI (8 * zwb b)), .ref (a + 1), .ref (a + 3), .ref (26), .int (nI (2 + zbi b)), .int (nI (iv)), .int (nI (ct)), .int (dr), .int (nI (sd)), .ref (zdid b)])) := (s9 _ (by unfold zrs; omega)).trans y7_11
            refine zn_iinc 1 (ls' := [some (.ref (a)), some (.int (nI (k))), some (.ref (17)), some (.ref (19)), some (.int (nI (c + 1)))]) dX6_produce_63 (by decide) (by decide) rfl rfl ?_
            refine zp_pc (pc' := 66) rfl ?_
            refine zp_goto (tgt := 15) dX6_produce_66 (by decide) ?_
            refine zp_pc (pc' := 15) rfl ?_
            refine ih (k - (c + 1)) (by omega) (c + 1) h9 rfl (by omega) (Or.inr (by rw [Nat.add_sub_cancel]; omega)) (((hs1).trans (s6.mono (fun i hi => by unfold zgo; unfold zks at hi; omega))).trans (s9.mono (fun i hi => by unfold zgo; unfold zrs at hi; omega))) y10_0 y10_1 y10_2 ⟨_, y10_3⟩ ⟨_, y10_4⟩ ⟨_, y10_6⟩ ⟨_, y10_5⟩ y10_7 y10_8 y10_9 y10_10 y10_11 ?_ y10_12
            have e9 : zmcat b s1.1 s1.2 (c + 1) = zmcat b s1.1 s1.2 c ++ zmv b s1.1 s1.2 (c + 1) := (zflat_succ _ _).symm
            rw [e9, List.take_append, tk]
            exact r9
    exact lp _ 0 g1 rfl (Nat.zero_le _) (Or.inl rfl) hs0 e1 e2 e3 ⟨_, e4⟩ ⟨_, e5⟩ ⟨_, e6⟩ ⟨_, e7⟩ e8 e9 hv hc hA (by show zrow _ _ _ (List.take k []); rw [List.take_nil]; exact hO) o
  refine zp_aload_n dX6_produce_0 rfl ?_
  refine zp_pc (pc' := 1) rfl ?_
  refine zp_callV (As := []) (k := 17) (st := []) (ci := 6) dX6_produce_1 cX6_63 rfl hA.2.1 rfl rfl (e_length (N := 240) hA) (by decide) (by decide) (Nat.le_of_ble_eq_true rfl) (fun v11 h11 n11 q11 => ?_)
  obtain ⟨rfl, H11, N11⟩ := q11
  rw [N11, H11]
  refine zp_nrm (cells' := 0) (slots' := 0) (st' := [.int (nI (A.length))]) rfl rfl rfl ?_
  refine zp_pc (pc' := 4) rfl ?_
  refine zn_if_le (tgt := 12) dX6_produce_4 (by decide) (by omega) (fun c4 => ?_) (fun c4 => ?_)
  · exact cont h (K, V) (by rw [if_neg (by omega)]) lK lV zsm.rf hk hv hc hA hO o
  · refine zp_aload_n dX6_produce_7 rfl ?_
    refine zp_aload_n dX6_produce_8 rfl ?_
    refine zp_pc (pc' := 9) rfl ?_
    refine zp_callV (As := [.ref (17)]) (k := a) (st := []) (ci := 5) dX6_produce_9 cX6_55 rfl o rfl rfl (e_mix5 (b := b) (N := 240) hk ha o hv hc hA (by decide) lK lV (by omega)) (by decide) (by decide) (Nat.le_of_ble_eq_true rfl) (fun v12 h12 n12 q12 => ?_)
    obtain ⟨rfl, N12, s12, k12, o12, c12, r12⟩ := q12
    rw [N12]
    refine zp_nrm (cells' := 0) (slots' := 0) (st' := []) rfl rfl rfl ?_
    refine zp_pc (pc' := 12) rfl ?_
    have lz := zmi_len (b := b) (m := A) (s := (K, V)) lK lV (if 0 < A.length then 2 else 1)
    exact cont h12 (zmix b A (K, V)) (by rw [if_pos (by omega)]) lz.1 lz.2 (s12.mono (fun i hi => by unfold zgo; unfold zgs at hi; omega)) k12 r12 c12 (hA.keep (s12 _ (by unfold zgs; omega)) (s12 _ (by unfold zgs; omega))) (hO.keep (s12 _ (by unfold zgs; omega)) (s12 _ (by unfold zgs; omega))) o12
