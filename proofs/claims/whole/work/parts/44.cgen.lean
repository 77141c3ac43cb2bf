set_option maxRecDepth 10000 in
set_option maxHeartbeats 2000000 in
theorem e_mix1 {g : ZG} {h : ZH} {n : Nat} {a st : Nat} {rs : Bool} {iv ct : Nat} {dr : Int32} {sd : Nat} {kd : Nat} {b : Bool} {K V M : List Nat} (hk : zdk h) (ha : 64 ≤ a) (o : h a = some (.inl (1, [.int (nI (st)), .int (nI (zbi rs)), .int (nI (zkl b + 16)), .ref (a + 1), .ref (a + 3), .ref (26), .int (nI (kd)), .int (nI (iv)), .int (nI (ct)), .int (dr), .int (nI (sd)), .ref (27), .int (nI (zkl b))]))) (hv : zrow h (a + 1) 16 V) (hc : zrow h (a + 3) (zkl b) K) (hM : zrow h 43 512 M) (lK : K.length = zkl b) (lV : V.length = 16) : zMt g mX1_mix (zR 4 0 0) [.ref (a), .ref (43)] h n (fun v h' n' => v = none ∧ n' = n ∧ zsm h h' (zgs a) ∧ zdk h' ∧ h' a = some (.inl (1, [.int (nI (st)), .int (nI (zbi rs)), .int (nI (zkl b + 16)), .ref (a + 1), .ref (a + 3), .ref (26), .int (nI (kd)), .int (nI (iv)), .int (nI (ct)), .int (dr), .int (nI (sd)), .ref (27), .int (nI (zkl b))])) ∧ zrow h' (a + 3) (zkl b) (zcmK b K V M) ∧ zrow h' (a + 1) 16 (zcmV b K V M) ∧ zrow h' 43 512 M) := by
  refine zMt.of [some (.ref (a)), some (.ref (43)), none, none] (by decide) rfl (Nat.le_of_ble_eq_true rfl) ?_
  obtain ⟨Qf, hQ⟩ : ∃ Qf : ZQ, Qf = (fun v h' n' => v = none ∧ n' = n ∧ zsm h h' (zgs a) ∧ zdk h' ∧ h' a = some (.inl (1, [.int (nI (st)), .int (nI (zbi rs)), .int (nI (zkl b + 16)), .ref (a + 1), .ref (a + 3), .ref (26), .int (nI (kd)), .int (nI (iv)), .int (nI (ct)), .int (dr), .int (nI (sd)), .ref (27), .int (nI (zkl b))])) ∧ zrow h' (a + 3) (zkl b) (zcmK b K V M) ∧ zrow h' (a + 1) 16 (zcmV b K V M) ∧ zrow h' 43 512 M) := ⟨_, rfl⟩
  rw [← hQ]
  have hz := zkl_or b
  obtain ⟨e1, e2, e3, ⟨x4, e4⟩, ⟨x5, e5⟩, ⟨x6, e6⟩, ⟨x7, e7⟩, e8, e9⟩ := id hk
  refine zp_aload_n dX1_mix_0 rfl ?_
  refine zp_get dX1_mix_1 gX1_13_1 o rfl ?_
  refine zp_aload_n dX1_mix_4 rfl ?_
  refine zp_get dX1_mix_5 gX1_31_1 o rfl ?_
  refine zp_pc (pc' := 8) rfl ?_
  obtain ⟨⟨rd1, ff1, cc1⟩, rw1⟩ := id e3
  refine zp_callV (As := [.ref (a + 3)]) (k := 27) (st := []) (ci := 0) dX1_mix_8 cX1_82 rfl cc1.2.1 rfl rfl (e_useKey (b := b) (c := 27) (N := zkl b) (ks := K) e1 cc1 hc lK (by omega)) (by decide) (by decide) (Nat.le_of_ble_eq_true rfl) (fun v2 h2 n2 q2 => ?_)
  obtain ⟨rfl, N2, s2, k2⟩ := q2
  rw [N2]
  refine zp_nrm (cells' := 0) (slots' := 0) (st' := []) rfl rfl rfl ?_
  have y3_0 := e1.sm s2 (fun i hi => by omega)
  have y3_1 : h2 (26) = some zdkc := (s2 _ (by omega)).trans e2
  have y3_2 := e4.keep (s2 _ (by omega)) (s2 _ (by omega))
  have y3_3 := e5.keep (s2 _ (by omega)) (s2 _ (by omega))
  have y3_4 := hM.keep (s2 _ (by omega)) (s2 _ (by omega))
  have y3_5 := e7.keep (s2 _ (by omega)) (s2 _ (by omega))
  have y3_6 : zdg h2 false 47 := e8.off (fun i h1 h2 => s2 i (by omega))
  have y3_7 : zdg h2 true 55 := e9.off (fun i h1 h2 => s2 i (by omega))
  have y3_8 := hv.keep (s2 _ (by omega)) (s2 _ (by omega))
  have y3_9 := hc.keep (s2 _ (by omega)) (s2 _ (by omega))
  have y3_10 : h2 (a) = some (.inl (1, [.int (nI (st)), .int (nI (zbi rs)), .int (nI (zkl b + 16)), .ref (a + 1), .ref (a + 3), .ref (26), .int (nI (kd)), .int (nI (iv)), .int (nI (ct)), .int (dr), .int (nI (sd)), .ref (27), .int (nI (zkl b))])) := (s2 _ (by omega)).trans o
  have y3_11 := lK
  have rr2 : zcrows h2 27 := rw1.off (fun i h1 h2 => s2 i (by omega))
  refine zp_aload_n dX1_mix_11 rfl ?_
  refine zp_get dX1_mix_12 gX1_44_1 y3_10 rfl ?_
  refine zp_get dX1_mix_15 gX1_101_2 y3_1 rfl ?_
  refine zp_astore_n (ls' := [some (.ref (a)), some (.ref (43)), some (.ref (41)), none]) dX1_mix_18 (by decide) rfl ?_
  refine zp_aload_n dX1_mix_19 rfl ?_
  refine zp_pc (pc' := 20) rfl ?_
  refine zp_callV (As := []) (k := 41) (st := []) (ci := 6) dX1_mix_20 cX1_104 rfl y3_3.2.1 rfl rfl (e_clear (N := 512) y3_3) (by decide) (by decide) (Nat.le_of_ble_eq_true rfl) (fun v4 h4 n4 q4 => ?_)
  obtain ⟨rfl, N4, s4, r4⟩ := q4
  rw [N4]
  refine zp_nrm (cells' := 0) (slots' := 0) (st' := []) rfl rfl rfl ?_
  have y5_0 := y3_0.sm s4 (fun i hi => by unfold zrs at hi; omega)
  have y5_1 : h4 (26) = some zdkc := (s4 _ (by unfold zrs; omega)).trans y3_1
  have y5_2 := y3_2.keep (s4 _ (by unfold zrs; omega)) (s4 _ (by unfold zrs; omega))
  have y5_3 := y3_4.keep (s4 _ (by unfold zrs; omega)) (s4 _ (by unfold zrs; omega))
  have y5_4 := y3_5.keep (s4 _ (by unfold zrs; omega)) (s4 _ (by unfold zrs; omega))
  have y5_5 : zdg h4 false 47 := y3_6.off (fun i h1 h2 => s4 i (by unfold zrs; omega))
  have y5_6 : zdg h4 true 55 := y3_7.off (fun i h1 h2 => s4 i (by unfold zrs; omega))
  have y5_7 := y3_8.keep (s4 _ (by unfold zrs; omega)) (s4 _ (by unfold zrs; omega))
  have y5_8 := y3_9.keep (s4 _ (by unfold zrs; omega)) (s4 _ (by unfold zrs; omega))
  have y5_9 : h4 (a) = some (.inl (1, [.int (nI (st)), .int (nI (zbi rs)), .int (nI (zkl b + 16)), .ref (a + 1), .ref (a + 3), .ref (26), .int (nI (kd)), .int (nI (iv)), .int (nI (ct)), .int (dr), .int (nI (sd)), .ref (27), .int (nI (zkl b))])) := (s4 _ (by unfold zrs; omega)).trans y3_10
  have y5_10 := y3_11
  have y5_11 : zckd h4 27 b K := k2.off (fun i h1 h2 => s4 i (by unfold zrs; omega))
  have y5_12 : zcrows h4 27 := rr2.off (fun i h1 h2 => s4 i (by unfold zrs; omega))
  refine zp_iconst (v := nI (0)) dX1_mix_23 (by decide) ?_
  refine zp_istore_n (ls' := [some (.ref (a)), some (.ref (43)), some (.ref (41)), some (.int (nI (0)))]) dX1_mix_24 (by decide) rfl ?_
  refine zp_pc (pc' := 25) rfl ?_
  have hp0 : zplus V 0 = V := zplus_0 hv.bytes
  refine zp_ls (ls' := [some (.ref (a)), some (.ref (43)), some (.ref (41)), some (.int (nI (16 * 0)))]) rfl ?_
  have lp : ∀ (m : Nat) (c : Nat) (g1 : ZH), m = zkl b / 16 + 1 - c → c ≤ zkl b / 16 + 1 → zsm h g1 (zgs a) → ztab g1 → g1 26 = some zdkc → (∃ xs, zrow g1 39 64 xs) → zrow g1 41 512 (zccat b K V c) → zrow g1 43 512 M → (∃ xs, zrow g1 45 64 xs) → zdg g1 false 47 → zdg g1 true 55 → zrow g1 (a + 1) 16 (zplus V c) → zrow g1 (a + 3) (zkl b) K → g1 a = some (.inl (1, [.int (nI (st)), .int (nI (zbi rs)), .int (nI (zkl b + 16)), .ref (a + 1), .ref (a + 3), .ref (26), .int (nI (kd)), .int (nI (iv)), .int (nI (ct)), .int (dr), .int (nI (sd)), .ref (27), .int (nI (zkl b))])) → zckd g1 27 b K → zcrows g1 27 → zP g mX1_mix (zR 4 0 0) Qf 0 0 25 [some (.ref (a)), some (.ref (43)), some (.ref (41)), some (.int (nI (16 * c)))] [] g1 n := by
    intro m
    induction m using Nat.strongRecOn with
    | _ m ih =>
      intro c g1 hm hc0 hs1 f1 f2 f4 f5 f6 f7 f8 f9 hv2 hc2 o2 kd2 rr2
      obtain ⟨y4, f4⟩ := f4
      obtain ⟨y7, f7⟩ := f7
      have cl := zccat_len b K V c
      have pl := zplus_len V c
      have pl2 := zplus_len V (c + 1)
      refine zp_iload_n dX1_mix_25 rfl ?_
      refine zp_aload_n dX1_mix_26 rfl ?_
      refine zp_get dX1_mix_27 gX1_18_1 o2 rfl ?_
      refine zp_pc (pc' := 30) rfl ?_
      refine zn_icmp_ge (tgt := 76) dX1_mix_30 (by decide) (by omega) (by omega) (fun c30 => ?_) (fun c30 => ?_)
      · have ec : c = zkl b / 16 + 1 := by omega
        subst ec
        refine zp_aload_n dX1_mix_76 rfl ?_
        refine zp_aload_n dX1_mix_77 rfl ?_
        refine zp_iconst (v := nI (0)) dX1_mix_78 (by decide) ?_
        refine zp_pc (pc' := 79) rfl ?_
        refine zp_callV (As := [.ref (43), .int (nI (0))]) (k := 41) (st := []) (ci := 6) dX1_mix_79 cX1_66 rfl f5.2.1 rfl rfl (e_xorPart (N := 512) (K := 512) (a := 0) f5 f6 (by decide) (by decide)) (by decide) (by decide) (Nat.le_of_ble_eq_true rfl) (fun v6 h6 n6 q6 => ?_)
        obtain ⟨rfl, N6, s6, r6⟩ := q6
        rw [N6]
        refine zp_nrm (cells' := 0) (slots' := 0) (st' := []) rfl rfl rfl ?_
        have y7_0 := f1.sm s6 (fun i hi => by unfold zrs at hi; omega)
        have y7_1 : h6 (26) = some zdkc := (s6 _ (by unfold zrs; omega)).trans f2
        have y7_2 := f4.keep (s6 _ (by unfold zrs; omega)) (s6 _ (by unfold zrs; omega))
        have y7_3 := f6.keep (s6 _ (by unfold zrs; omega)) (s6 _ (by unfold zrs; omega))
        have y7_4 := f7.keep (s6 _ (by unfold zrs; omega)) (s6 _ (by unfold zrs; omega))
        have y7_5 : zdg h6 false 47 := f8.off (fun i h1 h2 => s6 i (by unfold zrs; omega))
        have y7_6 : zdg h6 true 55 := f9.off (fun i h1 h2 => s6 i (by unfold zrs; omega))
        have y7_7 := hv2.keep (s6 _ (by unfold zrs; omega)) (s6 _ (by unfold zrs; omega))
        have y7_8 := hc2.keep (s6 _ (by unfold zrs; omega)) (s6 _ (by unfold zrs; omega))
        have y7_9 : h6 (a) = some (.inl (1, [.int (nI (st)), .int (nI (zbi rs)), .int (nI (zkl b + 16)), .ref (a + 1), .ref (a + 3), .ref (26), .int (nI (kd)), .int (nI (iv)), .int (nI (ct)), .int (dr), .int (nI (sd)), .ref (27), .int (nI (zkl b))])) := (s6 _ (by unfold zrs; omega)).trans o2
        have y7_10 : zckd h6 27 b K := kd2.off (fun i h1 h2 => s6 i (by unfold zrs; omega))
        have y7_11 : zcrows h6 27 := rr2.off (fun i h1 h2 => s6 i (by unfold zrs; omega))
        refine zp_aload_n dX1_mix_82 rfl ?_
        refine zp_get dX1_mix_83 gX1_31_1 y7_9 rfl ?_
        refine zp_aload_n dX1_mix_86 rfl ?_
        refine zp_iconst (v := nI (0)) dX1_mix_87 (by decide) ?_
        refine zp_aload_n dX1_mix_88 rfl ?_
        refine zp_get dX1_mix_89 gX1_24_1 y7_9 rfl ?_
        refine zp_pc (pc' := 92) rfl ?_
        have xl := zcmx_len b K V M
        refine zp_callV (As := [.ref (41), .int (nI (0)), .int (nI (zkl b))]) (k := a + 3) (st := []) (ci := 6) dX1_mix_92 cX1_62 rfl y7_8.2.1 rfl rfl (e_becomePart (N := zkl b) (K := 512) (a := 0) (c := zkl b) (ys := zcmx b K V M) y7_8 r6 (by omega) (by omega) (by rw [zpart_len]; omega)) (by decide) (by decide) (Nat.le_of_ble_eq_true rfl) (fun v8 h8 n8 q8 => ?_)
        obtain ⟨rfl, N8, s8, r8⟩ := q8
        rw [N8]
        refine zp_nrm (cells' := 0) (slots' := 0) (st' := []) rfl rfl rfl ?_
        have y9_0 := y7_0.sm s8 (fun i hi => by unfold zrs at hi; omega)
        have y9_1 : h8 (26) = some zdkc := (s8 _ (by unfold zrs; omega)).trans y7_1
        have y9_2 := y7_2.keep (s8 _ (by unfold zrs; omega)) (s8 _ (by unfold zrs; omega))
        have y9_3 := r6.keep (s8 _ (by unfold zrs; omega)) (s8 _ (by unfold zrs; omega))
        have y9_4 := y7_3.keep (s8 _ (by unfold zrs; omega)) (s8 _ (by unfold zrs; omega))
        have y9_5 := y7_4.keep (s8 _ (by unfold zrs; omega)) (s8 _ (by unfold zrs; omega))
        have y9_6 : zdg h8 false 47 := y7_5.off (fun i h1 h2 => s8 i (by unfold zrs; omega))
        have y9_7 : zdg h8 true 55 := y7_6.off (fun i h1 h2 => s8 i (by unfold zrs; omega))
        have y9_8 := y7_7.keep (s8 _ (by unfold zrs; omega)) (s8 _ (by unfold zrs; omega))
        have y9_9 : h8 (a) = some (.inl (1, [.int (nI (st)), .int (nI (zbi rs)), .int (nI (zkl b + 16)), .ref (a + 1), .ref (a + 3), .ref (26), .int (nI (kd)), .int (nI (iv)), .int (nI (ct)), .int (dr), .int (nI (sd)), .ref (27), .int (nI (zkl b))])) := (s8 _ (by unfold zrs; omega)).trans y7_9
        have y9_10 : zckd h8 27 b K := y7_10.off (fun i h1 h2 => s8 i (by unfold zrs; omega))
        have y9_11 : zcrows h8 27 := y7_11.off (fun i h1 h2 => s8 i (by unfold zrs; omega))
        refine zp_aload_n dX1_mix_95 rfl ?_
        refine zp_get dX1_mix_96 gX1_41_1 y9_9 rfl ?_
        refine zp_aload_n dX1_mix_99 rfl ?_
        refine zp_aload_n dX1_mix_100 rfl ?_
        refine zp_get dX1_mix_101 gX1_24_1 y9_9 rfl ?_
        refine zp_bipush (v := nI (16)) dX1_mix_104 (by decide) ?_
        refine zp_pc (pc' := 106) rfl ?_
        refine zp_callV (As := [.ref (41), .int (nI (zkl b)), .int (nI (16))]) (k := a + 1) (st := []) (ci := 6) dX1_mix_106 cX1_62 rfl y9_8.2.1 rfl rfl (e_becomePart (N := 16) (K := 512) (a := zkl b) (c := 16) (ys := zcmx b K V M) y9_8 y9_3 (by omega) (by omega) (by rw [zpart_len]; omega)) (by decide) (by decide) (Nat.le_of_ble_eq_true rfl) (fun v10 h10 n10 q10 => ?_)
        obtain ⟨rfl, N10, s10, r10⟩ := q10
        rw [N10]
        refine zp_nrm (cells' := 0) (slots' := 0) (st' := []) rfl rfl rfl ?_
        have y11_0 := y9_0.sm s10 (fun i hi => by unfold zrs at hi; omega)
        have y11_1 : h10 (26) = some zdkc := (s10 _ (by unfold zrs; omega)).trans y9_1
        have y11_2 := y9_2.keep (s10 _ (by unfold zrs; omega)) (s10 _ (by unfold zrs; omega))
        have y11_3 := y9_3.keep (s10 _ (by unfold zrs; omega)) (s10 _ (by unfold zrs; omega))
        have y11_4 := y9_4.keep (s10 _ (by unfold zrs; omega)) (s10 _ (by unfold zrs; omega))
        have y11_5 := y9_5.keep (s10 _ (by unfold zrs; omega)) (s10 _ (by unfold zrs; omega))
        have y11_6 : zdg h10 false 47 := y9_6.off (fun i h1 h2 => s10 i (by unfold zrs; omega))
        have y11_7 : zdg h10 true 55 := y9_7.off (fun i h1 h2 => s10 i (by unfold zrs; omega))
        have y11_8 := r8.keep (s10 _ (by unfold zrs; omega)) (s10 _ (by unfold zrs; omega))
        have y11_9 : h10 (a) = some (.inl (1, [.int (nI (st)), .int (nI (zbi rs)), .int (nI (zkl b + 16)), .ref (a + 1), .ref (a + 3), .ref (26), .int (nI (kd)), .int (nI (iv)), .int (nI (ct)), .int (dr), .int (nI (sd)), .ref (27), .int (nI (zkl b))])) := (s10 _ (by unfold zrs; omega)).trans y9_9
        have y11_10 : zckd h10 27 b K := y9_10.off (fun i h1 h2 => s10 i (by unfold zrs; omega))
        have y11_11 : zcrows h10 27 := y9_11.off (fun i h1 h2 => s10 i (by unfold zrs; omega))
        have cy2 : zcy h10 27 := zcy.of y11_10 y11_11
        refine zp_ret (v := none) dX1_mix_109 ⟨rfl, rfl⟩ (by decide) (by decide) ?_
        rw [hQ]
        exact ⟨rfl, rfl, (((hs1).trans (s6.mono (fun i hi => by unfold zgs; unfold zrs at hi; omega))).trans (s8.mono (fun i hi => by unfold zgs; unfold zrs at hi; omega))).trans (s10.mono (fun i hi => by unfold zgs; unfold zrs at hi; omega)), ⟨y11_0, y11_1, cy2, ⟨_, y11_2⟩, ⟨_, y11_3⟩, ⟨_, y11_4⟩, ⟨_, y11_5⟩, y11_6, y11_7⟩, y11_9, y11_8, r10, y11_4⟩
      · refine zp_aload_n dX1_mix_33 rfl ?_
        refine zp_get dX1_mix_34 gX1_41_1 o2 rfl ?_
        refine zp_iconst (v := nI (1)) dX1_mix_37 (by decide) ?_
        refine zp_pc (pc' := 38) rfl ?_
        refine zp_callV (As := [.int (nI (1))]) (k := a + 1) (st := []) (ci := 6) dX1_mix_38 cX1_85 rfl hv2.2.1 rfl rfl (e_plusNumber (N := 16) (k := 1) hv2 (by decide)) (by decide) (by decide) (Nat.le_of_ble_eq_true rfl) (fun v12 h12 n12 q12 => ?_)
        obtain ⟨rfl, N12, s12, r12⟩ := q12
        rw [N12]
        refine zp_nrm (cells' := 0) (slots' := 0) (st' := []) rfl rfl rfl ?_
        have y13_0 := f1.sm s12 (fun i hi => by unfold zrs at hi; omega)
        have y13_1 : h12 (26) = some zdkc := (s12 _ (by unfold zrs; omega)).trans f2
        have y13_2 := f4.keep (s12 _ (by unfold zrs; omega)) (s12 _ (by unfold zrs; omega))
        have y13_3 := f5.keep (s12 _ (by unfold zrs; omega)) (s12 _ (by unfold zrs; omega))
        have y13_4 := f6.keep (s12 _ (by unfold zrs; omega)) (s12 _ (by unfold zrs; omega))
        have y13_5 := f7.keep (s12 _ (by unfold zrs; omega)) (s12 _ (by unfold zrs; omega))
        have y13_6 : zdg h12 false 47 := f8.off (fun i h1 h2 => s12 i (by unfold zrs; omega))
        have y13_7 : zdg h12 true 55 := f9.off (fun i h1 h2 => s12 i (by unfold zrs; omega))
        have y13_8 := hc2.keep (s12 _ (by unfold zrs; omega)) (s12 _ (by unfold zrs; omega))
        have y13_9 : h12 (a) = some (.inl (1, [.int (nI (st)), .int (nI (zbi rs)), .int (nI (zkl b + 16)), .ref (a + 1), .ref (a + 3), .ref (26), .int (nI (kd)), .int (nI (iv)), .int (nI (ct)), .int (dr), .int (nI (sd)), .ref (27), .int (nI (zkl b))])) := (s12 _ (by unfold zrs; omega)).trans o2
        have y13_10 : zckd h12 27 b K := kd2.off (fun i h1 h2 => s12 i (by unfold zrs; omega))
        have y13_11 : zcrows h12 27 := rr2.off (fun i h1 h2 => s12 i (by unfold zrs; omega))
        have ep : znum (zval (zplus V c) + 1) (zplus V c).length = zplus V (c + 1) := zplus_plus V c 1
        rw [ep] at r12
        refine zp_aload_n dX1_mix_41 rfl ?_
        refine zp_get dX1_mix_42 gX1_13_1 y13_9 rfl ?_
        refine zp_aload_n dX1_mix_45 rfl ?_
        refine zp_get dX1_mix_46 gX1_41_1 y13_9 rfl ?_
        refine zp_aload_n dX1_mix_49 rfl ?_
        refine zp_get dX1_mix_50 gX1_44_1 y13_9 rfl ?_
        refine zp_get dX1_mix_53 gX1_89_2 y13_1 rfl ?_
        refine zp_pc (pc' := 56) rfl ?_
        refine zp_callV (As := [.ref (a + 1), .ref (45)]) (k := 27) (st := []) (ci := 0) dX1_mix_56 cX1_92 rfl y13_10.obj rfl rfl (e_encrypt (b := b) (c := 27) (N := 16) (K := 64) y13_0 y13_10 r12 y13_5 (by omega) (by omega) (by omega) (by decide)) (by decide) (by decide) (Nat.le_of_ble_eq_true rfl) (fun v14 h14 n14 q14 => ?_)
        obtain ⟨rfl, N14, s14, r14, k14⟩ := q14
        rw [N14]
        refine zp_nrm (cells' := 0) (slots' := 0) (st' := []) rfl rfl rfl ?_
        have y15_0 := y13_0.sm s14 (fun i hi => by unfold zes at hi; omega)
        have y15_1 : h14 (26) = some zdkc := (s14 _ (by unfold zes; omega)).trans y13_1
        have y15_2 := y13_2.keep (s14 _ (by unfold zes; omega)) (s14 _ (by unfold zes; omega))
        have y15_3 := y13_3.keep (s14 _ (by unfold zes; omega)) (s14 _ (by unfold zes; omega))
        have y15_4 := y13_4.keep (s14 _ (by unfold zes; omega)) (s14 _ (by unfold zes; omega))
        have y15_5 : zdg h14 false 47 := y13_6.off (fun i h1 h2 => s14 i (by unfold zes; omega))
        have y15_6 : zdg h14 true 55 := y13_7.off (fun i h1 h2 => s14 i (by unfold zes; omega))
        have y15_7 := r12.keep (s14 _ (by unfold zes; omega)) (s14 _ (by unfold zes; omega))
        have y15_8 := y13_8.keep (s14 _ (by unfold zes; omega)) (s14 _ (by unfold zes; omega))
        have y15_9 : h14 (a) = some (.inl (1, [.int (nI (st)), .int (nI (zbi rs)), .int (nI (zkl b + 16)), .ref (a + 1), .ref (a + 3), .ref (26), .int (nI (kd)), .int (nI (iv)), .int (nI (ct)), .int (dr), .int (nI (sd)), .ref (27), .int (nI (zkl b))])) := (s14 _ (by unfold zes; omega)).trans y13_9
        have y15_10 : zcrows h14 27 := y13_11.off (fun i h1 h2 => s14 i (by unfold zes; omega))
        refine zp_aload_n dX1_mix_59 rfl ?_
        refine zp_aload_n dX1_mix_60 rfl ?_
        refine zp_get dX1_mix_61 gX1_44_1 y15_9 rfl ?_
        refine zp_get dX1_mix_64 gX1_89_2 y15_1 rfl ?_
        refine zp_pc (pc' := 67) rfl ?_
        have el := zenc_len b K (zplus V (c + 1))
        refine zp_callV (As := [.ref (45)]) (k := 41) (st := []) (ci := 6) dX1_mix_67 cX1_107 rfl y15_3.2.1 rfl rfl (e_appendRow (N := 512) (K := 64) y15_3 r14 (by decide) (by omega)) (by decide) (by decide) (Nat.le_of_ble_eq_true rfl) (fun v16 h16 n16 q16 => ?_)
        obtain ⟨rfl, N16, s16, r16⟩ := q16
        rw [N16]
        refine zp_nrm (cells' := 0) (slots' := 0) (st' := []) rfl rfl rfl ?_
        have y17_0 := y15_0.sm s16 (fun i hi => by unfold zrs at hi; omega)
        have y17_1 : h16 (26) = some zdkc := (s16 _ (by unfold zrs; omega)).trans y15_1
        have y17_2 := y15_2.keep (s16 _ (by unfold zrs; omega)) (s16 _ (by unfold zrs; omega))
        have y17_3 := y15_4.keep (s16 _ (by unfold zrs; omega)) (s16 _ (by unfold zrs; omega))
        have y17_4 := r14.keep (s16 _ (by unfold zrs; omega)) (s16 _ (by unfold zrs; omega))
        have y17_5 : zdg h16 false 47 := y15_5.off (fun i h1 h2 => s16 i (by unfold zrs; omega))
        have y17_6 : zdg h16 true 55 := y15_6.off (fun i h1 h2 => s16 i (by unfold zrs; omega))
        have y17_7 := y15_7.keep (s16 _ (by unfold zrs; omega)) (s16 _ (by unfold zrs; omega))
        have y17_8 := y15_8.keep (s16 _ (by unfold zrs; omega)) (s16 _ (by unfold zrs; omega))
        have y17_9 : h16 (a) = some (.inl (1, [.int (nI (st)), .int (nI (zbi rs)), .int (nI (zkl b + 16)), .ref (a + 1), .ref (a + 3), .ref (26), .int (nI (kd)), .int (nI (iv)), .int (nI (ct)), .int (dr), .int (nI (sd)), .ref (27), .int (nI (zkl b))])) := (s16 _ (by unfold zrs; omega)).trans y15_9
        have y17_10 : zckd h16 27 b K := k14.off (fun i h1 h2 => s16 i (by unfold zrs; omega))
        have y17_11 : zcrows h16 27 := y15_10.off (fun i h1 h2 => s16 i (by unfold zrs; omega))
        refine zn_iinc 16 (ls' := [some (.ref (a)), some (.ref (43)), some (.ref (41)), some (.int (nI (16 * c + 16)))]) dX1_mix_70 (by decide) (by decide) rfl rfl ?_
        refine zp_pc (pc' := 73) rfl ?_
        refine zp_ls (ls' := [some (.ref (a)), some (.ref (43)), some (.ref (41)), some (.int (nI (16 * (c + 1))))]) (by rw [Nat.mul_add]) ?_
        refine zp_goto (tgt := 25) dX1_mix_73 (by decide) ?_
        refine zp_pc (pc' := 25) rfl ?_
        refine ih (zkl b / 16 + 1 - (c + 1)) (by omega) (c + 1) h16 rfl (by omega) ((((hs1).trans (s12.mono (fun i hi => by unfold zgs; unfold zrs at hi; omega))).trans (s14.mono (fun i hi => by unfold zgs; unfold zes at hi; omega))).trans (s16.mono (fun i hi => by unfold zgs; unfold zrs at hi; omega))) y17_0 y17_1 ⟨_, y17_2⟩ ?_ y17_3 ⟨_, y17_4⟩ y17_5 y17_6 y17_7 y17_8 y17_9 y17_10 y17_11
        have e9 : zccat b K V (c + 1) = (zccat b K V c) ++ zenc b K (zplus V (c + 1)) := (zflat_succ _ _).symm
        rw [e9]; exact r16
  exact lp _ 0 h4 rfl (Nat.zero_le _) ((s2.mono (fun i hi => by unfold zgs; omega)).trans (s4.mono (fun i hi => by unfold zgs; unfold zrs at hi; omega))) y5_0 y5_1 ⟨_, y5_2⟩ r4 y5_3 ⟨_, y5_4⟩ y5_5 y5_6 (by rw [hp0]; exact y5_7) y5_8 y5_9 y5_11 y5_12
set_option maxRecDepth 10000 in
set_option maxHeartbeats 2000000 in
theorem e_plant1 {g : ZG} {h : ZH} {n : Nat} {a st : Nat} {rs : Bool} {iv ct : Nat} {dr : Int32} {sd : Nat} {kd : Nat} {b : Bool} {K V R A : List Nat} (hk : zdk h) (ha : 64 ≤ a) (o : h a = some (.inl (1, [.int (nI (st)), .int (nI (zbi rs)), .int (nI (zkl b + 16)), .ref (a + 1), .ref (a + 3), .ref (26), .int (nI (kd)), .int (nI (iv)), .int (nI (ct)), .int (dr), .int (nI (sd)), .ref (27), .int (nI (zkl b))]))) (hv : zrow h (a + 1) 16 V) (hc : zrow h (a + 3) (zkl b) K) (hR : zrow h 24 48 R) (hA : zrow h 17 240 A) (hl : sd = 0 ∨ (K.length = zkl b ∧ V.length = 16)) (b1 : 4 ≤ kd ∧ kd < 8) (b2 : st ≤ 256) (b4 : iv ≤ 100000) (b5 : ct < 90000) (b6 : sd < 90000) : zMt g mX1_plant (zR 6 0 0) [.ref (a), .ref (24), .ref (17)] h n (fun v h' n' => v = none ∧ n' = n ∧ zsm h h' (zgs a) ∧ zdk h' ∧ h' a = some (.inl (1, [.int (nI (st)), .int (nI (zbi rs)), .int (nI (zkl b + 16)), .ref (a + 1), .ref (a + 3), .ref (26), .int (nI (kd)), .int (nI (iv)), .int (nI (1)), .int (dr), .int (nI (sd + 1)), .ref (27), .int (nI (zkl b))])) ∧ zrow h' (a + 3) (zkl b) (zcmK b (if sd = 0 then List.replicate (zkl b) 0 else K) (if sd = 0 then List.replicate 16 0 else V) (if kd < 6 then zdce b (R ++ A) (zkl b + 16) else zxor (zpart R 0 (zkl b + 16)) A 0)) ∧ zrow h' (a + 1) 16 (zcmV b (if sd = 0 then List.replicate (zkl b) 0 else K) (if sd = 0 then List.replicate 16 0 else V) (if kd < 6 then zdce b (R ++ A) (zkl b + 16) else zxor (zpart R 0 (zkl b + 16)) A 0))) := by
  refine zMt.of [some (.ref (a)), some (.ref (24)), some (.ref (17)), none] (by decide) rfl (Nat.le_of_ble_eq_true rfl) ?_
  obtain ⟨Qf, hQ⟩ : ∃ Qf : ZQ, Qf = (fun v h' n' => v = none ∧ n' = n ∧ zsm h h' (zgs a) ∧ zdk h' ∧ h' a = some (.inl (1, [.int (nI (st)), .int (nI (zbi rs)), .int (nI (zkl b + 16)), .ref (a + 1), .ref (a + 3), .ref (26), .int (nI (kd)), .int (nI (iv)), .int (nI (1)), .int (dr), .int (nI (sd + 1)), .ref (27), .int (nI (zkl b))])) ∧ zrow h' (a + 3) (zkl b) (zcmK b (if sd = 0 then List.replicate (zkl b) 0 else K) (if sd = 0 then List.replicate 16 0 else V) (if kd < 6 then zdce b (R ++ A) (zkl b + 16) else zxor (zpart R 0 (zkl b + 16)) A 0)) ∧ zrow h' (a + 1) 16 (zcmV b (if sd = 0 then List.replicate (zkl b) 0 else K) (if sd = 0 then List.replicate 16 0 else V) (if kd < 6 then zdce b (R ++ A) (zkl b + 16) else zxor (zpart R 0 (zkl b + 16)) A 0))) := ⟨_, rfl⟩
  rw [← hQ]
  have hz := zkl_or b
  have lR := hR.len
  have lA := hA.len
  obtain ⟨e1, e2, e3, ⟨x4, e4⟩, ⟨x5, e5⟩, ⟨x6, e6⟩, ⟨x7, e7⟩, e8, e9⟩ := id hk
  have cont : ∀ (g1 : ZH) (K0 V0 : List Nat), K0 = (if sd = 0 then List.replicate (zkl b) 0 else K) → V0 = (if sd = 0 then List.replicate 16 0 else V) → K0.length = zkl b → V0.length = 16 → zsm h g1 (zgs a) → zdk g1 → zrow g1 (a + 1) 16 V0 → zrow g1 (a + 3) (zkl b) K0 → zrow g1 24 48 R → zrow g1 17 240 A → g1 a = some (.inl (1, [.int (nI (st)), .int (nI (zbi rs)), .int (nI (zkl b + 16)), .ref (a + 1), .ref (a + 3), .ref (26), .int (nI (kd)), .int (nI (iv)), .int (nI (ct)), .int (dr), .int (nI (sd)), .ref (27), .int (nI (zkl b))])) → zP g mX1_plant (zR 6 0 0) Qf 0 0 29 [some (.ref (a)), some (.ref (24)), some (.ref (17)), none] [] g1 n := by
    intro g1 K0 V0 eK eV lK lV hs0 hk hv hc hR hA o
    obtain ⟨e1, e2, e3, ⟨x4, e4⟩, ⟨x5, e5⟩, ⟨x6, e6⟩, ⟨x7, e7⟩, e8, e9⟩ := id hk
    have mixed : ∀ (g2 : ZH), zsm h g2 (zgs a) → zdk g2 → zrow g2 (a + 1) 16 V0 → zrow g2 (a + 3) (zkl b) K0 → zrow g2 43 512 (if kd < 6 then zdce b (R ++ A) (zkl b + 16) else zxor (zpart R 0 (zkl b + 16)) A 0) → g2 a = some (.inl (1, [.int (nI (st)), .int (nI (zbi rs)), .int (nI (zkl b + 16)), .ref (a + 1), .ref (a + 3), .ref (26), .int (nI (kd)), .int (nI (iv)), .int (nI (ct)), .int (dr), .int (nI (sd)), .ref (27), .int (nI (zkl b))])) → zP g mX1_plant (zR 6 0 0) Qf 0 0 89 [some (.ref (a)), some (.ref (24)), some (.ref (17)), some (.ref (43))] [] g2 n := by
      intro g2 hs2 hk2 hv2 hc2 hM2 o2
      refine zp_aload_n dX1_plant_89 rfl ?_
      refine zp_aload_n dX1_plant_90 rfl ?_
      refine zp_pc (pc' := 91) rfl ?_
      refine zp_callV (As := [.ref (43)]) (k := a) (st := []) (ci := 1) dX1_plant_91 cX1_70 rfl o2 rfl rfl (e_mix1 (b := b) hk2 ha o2 hv2 hc2 hM2 lK lV) (by decide) (by decide) (Nat.le_of_ble_eq_true rfl) (fun v1 h1 n1 q1 => ?_)
      obtain ⟨rfl, N1, s1, k1, o1, c1, r1, -⟩ := q1
      rw [N1]
      refine zp_nrm (cells' := 0) (slots' := 0) (st' := []) rfl rfl rfl ?_
      refine zp_aload_n dX1_plant_94 rfl ?_
      refine zp_pc (pc' := 95) rfl ?_
      refine zp_callU (As := []) (k := a) (st := []) (ci := 1) (q := (RX1, TX1, 13)) dX1_plant_95 cX1_74_1 rfl o1 rfl (e_noteSeeding1 o1 (by omega)) (by decide) (by decide) (Nat.le_of_ble_eq_true rfl) (fun v2 h2 n2 q2 => ?_)
      obtain ⟨rfl, N2, s2, o2⟩ := q2
      rw [N2]
      refine zp_nrm (cells' := 0) (slots' := 0) (st' := []) rfl rfl rfl ?_
      subst eK
      subst eV
      refine zp_ret (v := none) dX1_plant_98 ⟨rfl, rfl⟩ (by decide) (by decide) ?_
      rw [hQ]
      exact ⟨rfl, rfl, ((hs2).trans (s1)).trans (s2.mono (fun i hi => by unfold zgs; omega)), k1.off s2 (fun i hi => by omega), o2, c1.keep (s2 _ (by omega)) (s2 _ (by omega)), r1.keep (s2 _ (by omega)) (s2 _ (by omega))⟩
    refine zp_aload_n dX1_plant_29 rfl ?_
    refine zp_get dX1_plant_30 gX1_44_1 o rfl ?_
    refine zp_get dX1_plant_33 gX1_48_2 e2 rfl ?_
    refine zp_astore_n (ls' := [some (.ref (a)), some (.ref (24)), some (.ref (17)), some (.ref (43))]) dX1_plant_36 (by decide) rfl ?_
    refine zp_aload_n dX1_plant_37 rfl ?_
    refine zp_pc (pc' := 38) rfl ?_
    refine zp_callU (As := []) (k := a) (st := []) (ci := 1) (q := (RX1, TX1, 13)) dX1_plant_38 cX1_51_1 rfl o rfl (e_derives1 o (by omega) b2 (by omega) b4 (by omega) (by omega)) (by decide) (by decide) (Nat.le_of_ble_eq_true rfl) (fun v3 h3 n3 q3 => ?_)
    obtain ⟨rfl, H3, N3⟩ := q3
    rw [N3, H3]
    refine zp_nrm (cells' := 0) (slots' := 0) (st' := [.int (nI (zbi (decide (kd < 6))))]) rfl rfl rfl ?_
    have hd6 := zbi_lt (decide (kd < 6))
    refine zp_pc (pc' := 41) rfl ?_
    refine zn_if_eq (tgt := 73) dX1_plant_41 (by decide) (by omega) (fun c41 => ?_) (fun c41 => ?_)
    · have k6 : ¬ kd < 6 := fun q => by rw [decide_eq_true q] at c41; exact absurd c41 (by decide)
      refine zp_aload_n dX1_plant_73 rfl ?_
      refine zp_aload_n dX1_plant_74 rfl ?_
      refine zp_iconst (v := nI (0)) dX1_plant_75 (by decide) ?_
      refine zp_aload_n dX1_plant_76 rfl ?_
      refine zp_get dX1_plant_77 gX1_18_1 o rfl ?_
      refine zp_pc (pc' := 80) rfl ?_
      refine zp_callV (As := [.ref (24), .int (nI (0)), .int (nI (zkl b + 16))]) (k := 43) (st := []) (ci := 6) dX1_plant_80 cX1_62 rfl e6.2.1 rfl rfl (e_becomePart (N := 512) (K := 48) (a := 0) (c := zkl b + 16) e6 hR (by decide) (by omega) (by rw [zpart_len]; omega)) (by decide) (by decide) (Nat.le_of_ble_eq_true rfl) (fun v4 h4 n4 q4 => ?_)
      obtain ⟨rfl, N4, s4, r4⟩ := q4
      rw [N4]
      refine zp_nrm (cells' := 0) (slots' := 0) (st' := []) rfl rfl rfl ?_
      have y5_0 := e1.sm s4 (fun i hi => by unfold zrs at hi; omega)
      have y5_1 : h4 (26) = some zdkc := (s4 _ (by unfold zrs; omega)).trans e2
      have y5_2 : zcy h4 27 := e3.off (fun i h1 h2 => s4 i (by unfold zrs; omega))
      have y5_3 := e4.keep (s4 _ (by unfold zrs; omega)) (s4 _ (by unfold zrs; omega))
      have y5_4 := e5.keep (s4 _ (by unfold zrs; omega)) (s4 _ (by unfold zrs; omega))
      have y5_5 := e7.keep (s4 _ (by unfold zrs; omega)) (s4 _ (by unfold zrs; omega))
      have y5_6 : zdg h4 false 47 := e8.off (fun i h1 h2 => s4 i (by unfold zrs; omega))
      have y5_7 : zdg h4 true 55 := e9.off (fun i h1 h2 => s4 i (by unfold zrs; omega))
      have y5_8 := hv.keep (s4 _ (by unfold zrs; omega)) (s4 _ (by unfold zrs; omega))
      have y5_9 := hc.keep (s4 _ (by unfold zrs; omega)) (s4 _ (by unfold zrs; omega))
      have y5_10 := hR.keep (s4 _ (by unfold zrs; omega)) (s4 _ (by unfold zrs; omega))
      have y5_11 := hA.keep (s4 _ (by unfold zrs; omega)) (s4 _ (by unfold zrs; omega))
      have y5_12 : h4 (a) = some (.inl (1, [.int (nI (st)), .int (nI (zbi rs)), .int (nI (zkl b + 16)), .ref (a + 1), .ref (a + 3), .ref (26), .int (nI (kd)), .int (nI (iv)), .int (nI (ct)), .int (dr), .int (nI (sd)), .ref (27), .int (nI (zkl b))])) := (s4 _ (by unfold zrs; omega)).trans o
      refine zp_aload_n dX1_plant_83 rfl ?_
      refine zp_aload_n dX1_plant_84 rfl ?_
      refine zp_iconst (v := nI (0)) dX1_plant_85 (by decide) ?_
      refine zp_pc (pc' := 86) rfl ?_
      refine zp_callV (As := [.ref (17), .int (nI (0))]) (k := 43) (st := []) (ci := 6) dX1_plant_86 cX1_66 rfl r4.2.1 rfl rfl (e_xorPart (N := 512) (K := 240) (a := 0) r4 y5_11 (by decide) (by decide)) (by decide) (by decide) (Nat.le_of_ble_eq_true rfl) (fun v6 h6 n6 q6 => ?_)
      obtain ⟨rfl, N6, s6, r6⟩ := q6
      rw [N6]
      refine zp_nrm (cells' := 0) (slots' := 0) (st' := []) rfl rfl rfl ?_
      have y7_0 := y5_0.sm s6 (fun i hi => by unfold zrs at hi; omega)
      have y7_1 : h6 (26) = some zdkc := (s6 _ (by unfold zrs; omega)).trans y5_1
      have y7_2 : zcy h6 27 := y5_2.off (fun i h1 h2 => s6 i (by unfold zrs; omega))
      have y7_3 := y5_3.keep (s6 _ (by unfold zrs; omega)) (s6 _ (by unfold zrs; omega))
      have y7_4 := y5_4.keep (s6 _ (by unfold zrs; omega)) (s6 _ (by unfold zrs; omega))
      have y7_5 := y5_5.keep (s6 _ (by unfold zrs; omega)) (s6 _ (by unfold zrs; omega))
      have y7_6 : zdg h6 false 47 := y5_6.off (fun i h1 h2 => s6 i (by unfold zrs; omega))
      have y7_7 : zdg h6 true 55 := y5_7.off (fun i h1 h2 => s6 i (by unfold zrs; omega))
      have y7_8 := y5_8.keep (s6 _ (by unfold zrs; omega)) (s6 _ (by unfold zrs; omega))
      have y7_9 := y5_9.keep (s6 _ (by unfold zrs; omega)) (s6 _ (by unfold zrs; omega))
      have y7_10 := y5_10.keep (s6 _ (by unfold zrs; omega)) (s6 _ (by unfold zrs; omega))
      have y7_11 := y5_11.keep (s6 _ (by unfold zrs; omega)) (s6 _ (by unfold zrs; omega))
      have y7_12 : h6 (a) = some (.inl (1, [.int (nI (st)), .int (nI (zbi rs)), .int (nI (zkl b + 16)), .ref (a + 1), .ref (a + 3), .ref (26), .int (nI (kd)), .int (nI (iv)), .int (nI (ct)), .int (dr), .int (nI (sd)), .ref (27), .int (nI (zkl b))])) := (s6 _ (by unfold zrs; omega)).trans y5_12
      refine zp_pc (pc' := 89) rfl ?_
      exact mixed h6 (((hs0).trans (s4.mono (fun i hi => by unfold zgs; unfold zrs at hi; omega))).trans (s6.mono (fun i hi => by unfold zgs; unfold zrs at hi; omega))) ⟨y7_0, y7_1, y7_2, ⟨_, y7_3⟩, ⟨_, y7_4⟩, ⟨_, r6⟩, ⟨_, y7_5⟩, y7_6, y7_7⟩ y7_8 y7_9 (by rw [if_neg k6]; exact r6) y7_12
    · have k6 : kd < 6 := by
        by_cases q : kd < 6
        · exact q
        · rw [decide_eq_false q] at c41; exact absurd rfl c41
      refine zp_aload_n dX1_plant_44 rfl ?_
      refine zp_get dX1_plant_45 gX1_44_1 o rfl ?_
      refine zp_aload_n dX1_plant_48 rfl ?_
      refine zp_aload_n dX1_plant_49 rfl ?_
      refine zp_pc (pc' := 50) rfl ?_
      refine zp_callV (As := [.ref (24), .ref (17)]) (k := 26) (st := []) (ci := 2) dX1_plant_50 cX1_54 rfl e2 rfl rfl (e_join (N := 48) (K := 240) e2 hR hA e6 (by decide) (by decide) (by omega)) (by decide) (by decide) (Nat.le_of_ble_eq_true rfl) (fun v8 h8 n8 q8 => ?_)
      obtain ⟨rfl, N8, s8, r8⟩ := q8
      rw [N8]
      refine zp_nrm (cells' := 0) (slots' := 0) (st' := []) rfl rfl rfl ?_
      have y9_0 := e1.sm s8 (fun i hi => by unfold zrs at hi; omega)
      have y9_1 : h8 (26) = some zdkc := (s8 _ (by unfold zrs; omega)).trans e2
      have y9_2 : zcy h8 27 := e3.off (fun i h1 h2 => s8 i (by unfold zrs; omega))
      have y9_3 := e4.keep (s8 _ (by unfold zrs; omega)) (s8 _ (by unfold zrs; omega))
      have y9_4 := e5.keep (s8 _ (by unfold zrs; omega)) (s8 _ (by unfold zrs; omega))
      have y9_5 := e7.keep (s8 _ (by unfold zrs; omega)) (s8 _ (by unfold zrs; omega))
      have y9_6 : zdg h8 false 47 := e8.off (fun i h1 h2 => s8 i (by unfold zrs; omega))
      have y9_7 : zdg h8 true 55 := e9.off (fun i h1 h2 => s8 i (by unfold zrs; omega))
      have y9_8 := hv.keep (s8 _ (by unfold zrs; omega)) (s8 _ (by unfold zrs; omega))
      have y9_9 := hc.keep (s8 _ (by unfold zrs; omega)) (s8 _ (by unfold zrs; omega))
      have y9_10 := hR.keep (s8 _ (by unfold zrs; omega)) (s8 _ (by unfold zrs; omega))
      have y9_11 := hA.keep (s8 _ (by unfold zrs; omega)) (s8 _ (by unfold zrs; omega))
      have y9_12 : h8 (a) = some (.inl (1, [.int (nI (st)), .int (nI (zbi rs)), .int (nI (zkl b + 16)), .ref (a + 1), .ref (a + 3), .ref (26), .int (nI (kd)), .int (nI (iv)), .int (nI (ct)), .int (dr), .int (nI (sd)), .ref (27), .int (nI (zkl b))])) := (s8 _ (by unfold zrs; omega)).trans o
      refine zp_aload_n dX1_plant_53 rfl ?_
      refine zp_get dX1_plant_54 gX1_13_1 y9_12 rfl ?_
      refine zp_aload_n dX1_plant_57 rfl ?_
      refine zp_get dX1_plant_58 gX1_24_1 y9_12 rfl ?_
      refine zp_aload_n dX1_plant_61 rfl ?_
      refine zp_aload_n dX1_plant_62 rfl ?_
      refine zp_get dX1_plant_63 gX1_18_1 y9_12 rfl ?_
      refine zp_aload_n dX1_plant_66 rfl ?_
      refine zp_pc (pc' := 67) rfl ?_
      obtain ⟨rd9, f9, cc9⟩ := y9_2.1
      refine zp_callV (As := [.int (nI (zkl b)), .ref (43), .int (nI (zkl b + 16)), .ref (43)]) (k := 27) (st := []) (ci := 0) dX1_plant_67 cX1_58 rfl cc9.2.1 rfl rfl (e_stretchE (b := b) (c := 27) (N := 512) (K := 512) (k := zkl b + 16) y9_0 y9_2 r8 r8 (by decide) (by decide) (by rw [List.length_append]; omega) (by omega) (by omega)) (by decide) (by decide) (Nat.le_of_ble_eq_true rfl) (fun v10 h10 n10 q10 => ?_)
      obtain ⟨rfl, N10, s10, r10, y10⟩ := q10
      rw [N10]
      refine zp_nrm (cells' := 0) (slots' := 0) (st' := []) rfl rfl rfl ?_
      have y11_0 := y9_0.sm s10 (fun i hi => by unfold zcs at hi; omega)
      have y11_1 : h10 (26) = some zdkc := (s10 _ (by unfold zcs; omega)).trans y9_1
      have y11_2 := y9_3.keep (s10 _ (by unfold zcs; omega)) (s10 _ (by unfold zcs; omega))
      have y11_3 := y9_4.keep (s10 _ (by unfold zcs; omega)) (s10 _ (by unfold zcs; omega))
      have y11_4 := y9_5.keep (s10 _ (by unfold zcs; omega)) (s10 _ (by unfold zcs; omega))
      have y11_5 : zdg h10 false 47 := y9_6.off (fun i h1 h2 => s10 i (by unfold zcs; omega))
      have y11_6 : zdg h10 true 55 := y9_7.off (fun i h1 h2 => s10 i (by unfold zcs; omega))
      have y11_7 := y9_8.keep (s10 _ (by unfold zcs; omega)) (s10 _ (by unfold zcs; omega))
      have y11_8 := y9_9.keep (s10 _ (by unfold zcs; omega)) (s10 _ (by unfold zcs; omega))
      have y11_9 := y9_10.keep (s10 _ (by unfold zcs; omega)) (s10 _ (by unfold zcs; omega))
      have y11_10 := y9_11.keep (s10 _ (by unfold zcs; omega)) (s10 _ (by unfold zcs; omega))
      have y11_11 : h10 (a) = some (.inl (1, [.int (nI (st)), .int (nI (zbi rs)), .int (nI (zkl b + 16)), .ref (a + 1), .ref (a + 3), .ref (26), .int (nI (kd)), .int (nI (iv)), .int (nI (ct)), .int (dr), .int (nI (sd)), .ref (27), .int (nI (zkl b))])) := (s10 _ (by unfold zcs; omega)).trans y9_12
      refine zp_goto (tgt := 89) dX1_plant_70 (by decide) ?_
      refine zp_pc (pc' := 89) rfl ?_
      exact mixed h10 (((hs0).trans (s8.mono (fun i hi => by unfold zgs; unfold zrs at hi; omega))).trans (s10.mono (fun i hi => by unfold zgs; unfold zcs at hi; omega))) ⟨y11_0, y11_1, y10, ⟨_, y11_2⟩, ⟨_, y11_3⟩, ⟨_, r10⟩, ⟨_, y11_4⟩, y11_5, y11_6⟩ y11_7 y11_8 (by rw [if_pos k6]; exact r10) y11_11
  refine zp_aload_n dX1_plant_0 rfl ?_
  refine zp_pc (pc' := 1) rfl ?_
  refine zp_callU (As := []) (k := a) (st := []) (ci := 1) (q := (RX1, TX1, 13)) dX1_plant_1 cX1_27_1 rfl o rfl (e_isNew1 o (by omega) b2 (by omega) b4 (by omega) (by omega)) (by decide) (by decide) (Nat.le_of_ble_eq_true rfl) (fun v12 h12 n12 q12 => ?_)
  obtain ⟨rfl, H12, N12⟩ := q12
  rw [N12, H12]
  refine zp_nrm (cells' := 0) (slots' := 0) (st' := [.int (nI (zbi (decide (sd = 0))))]) rfl rfl rfl ?_
  have hn := zbi_lt (decide (sd = 0))
  refine zp_pc (pc' := 4) rfl ?_
  refine zn_if_eq (tgt := 29) dX1_plant_4 (by decide) (by omega) (fun c4 => ?_) (fun c4 => ?_)
  · have h0 : ¬ sd = 0 := fun q => by rw [decide_eq_true q] at c4; exact absurd c4 (by decide)
    exact cont h K V (if_neg h0).symm (if_neg h0).symm (by omega) (by omega) (zsm.rf) ⟨e1, e2, e3, ⟨_, e4⟩, ⟨_, e5⟩, ⟨_, e6⟩, ⟨_, e7⟩, e8, e9⟩ hv hc hR hA o
  · have h0 : sd = 0 := by
      by_cases q : sd = 0
      · exact q
      · rw [decide_eq_false q] at c4; exact absurd rfl c4
    refine zp_aload_n dX1_plant_7 rfl ?_
    refine zp_get dX1_plant_8 gX1_31_1 o rfl ?_
    refine zp_iconst (v := nI (0)) dX1_plant_11 (by decide) ?_
    refine zp_aload_n dX1_plant_12 rfl ?_
    refine zp_get dX1_plant_13 gX1_24_1 o rfl ?_
    refine zp_pc (pc' := 16) rfl ?_
    refine zp_callV (As := [.int (nI (0)), .int (nI (zkl b))]) (k := a + 3) (st := []) (ci := 6) dX1_plant_16 cX1_35 rfl hc.2.1 rfl rfl (e_becomeSame (N := zkl b) (b := nI 0) (k := zkl b) hc (Nat.le_refl _)) (by decide) (by decide) (Nat.le_of_ble_eq_true rfl) (fun v13 h13 n13 q13 => ?_)
    obtain ⟨rfl, N13, s13, r13⟩ := q13
    rw [N13]
    refine zp_nrm (cells' := 0) (slots' := 0) (st' := []) rfl rfl rfl ?_
    have y14_0 := e1.sm s13 (fun i hi => by unfold zrs at hi; omega)
    have y14_1 : h13 (26) = some zdkc := (s13 _ (by unfold zrs; omega)).trans e2
    have y14_2 : zcy h13 27 := e3.off (fun i h1 h2 => s13 i (by unfold zrs; omega))
    have y14_3 := e4.keep (s13 _ (by unfold zrs; omega)) (s13 _ (by unfold zrs; omega))
    have y14_4 := e5.keep (s13 _ (by unfold zrs; omega)) (s13 _ (by unfold zrs; omega))
    have y14_5 := e6.keep (s13 _ (by unfold zrs; omega)) (s13 _ (by unfold zrs; omega))
    have y14_6 := e7.keep (s13 _ (by unfold zrs; omega)) (s13 _ (by unfold zrs; omega))
    have y14_7 : zdg h13 false 47 := e8.off (fun i h1 h2 => s13 i (by unfold zrs; omega))
    have y14_8 : zdg h13 true 55 := e9.off (fun i h1 h2 => s13 i (by unfold zrs; omega))
    have y14_9 := hv.keep (s13 _ (by unfold zrs; omega)) (s13 _ (by unfold zrs; omega))
    have y14_10 := hR.keep (s13 _ (by unfold zrs; omega)) (s13 _ (by unfold zrs; omega))
    have y14_11 := hA.keep (s13 _ (by unfold zrs; omega)) (s13 _ (by unfold zrs; omega))
    have y14_12 : h13 (a) = some (.inl (1, [.int (nI (st)), .int (nI (zbi rs)), .int (nI (zkl b + 16)), .ref (a + 1), .ref (a + 3), .ref (26), .int (nI (kd)), .int (nI (iv)), .int (nI (ct)), .int (dr), .int (nI (sd)), .ref (27), .int (nI (zkl b))])) := (s13 _ (by unfold zrs; omega)).trans o
    refine zp_aload_n dX1_plant_19 rfl ?_
    refine zp_get dX1_plant_20 gX1_41_1 y14_12 rfl ?_
    refine zp_iconst (v := nI (0)) dX1_plant_23 (by decide) ?_
    refine zp_bipush (v := nI (16)) dX1_plant_24 (by decide) ?_
    refine zp_pc (pc' := 26) rfl ?_
    refine zp_callV (As := [.int (nI (0)), .int (nI (16))]) (k := a + 1) (st := []) (ci := 6) dX1_plant_26 cX1_35 rfl y14_9.2.1 rfl rfl (e_becomeSame (N := 16) (b := nI 0) (k := 16) y14_9 (Nat.le_refl _)) (by decide) (by decide) (Nat.le_of_ble_eq_true rfl) (fun v15 h15 n15 q15 => ?_)
    obtain ⟨rfl, N15, s15, r15⟩ := q15
    rw [N15]
    refine zp_nrm (cells' := 0) (slots' := 0) (st' := []) rfl rfl rfl ?_
    have y16_0 := y14_0.sm s15 (fun i hi => by unfold zrs at hi; omega)
    have y16_1 : h15 (26) = some zdkc := (s15 _ (by unfold zrs; omega)).trans y14_1
    have y16_2 : zcy h15 27 := y14_2.off (fun i h1 h2 => s15 i (by unfold zrs; omega))
    have y16_3 := y14_3.keep (s15 _ (by unfold zrs; omega)) (s15 _ (by unfold zrs; omega))
    have y16_4 := y14_4.keep (s15 _ (by unfold zrs; omega)) (s15 _ (by unfold zrs; omega))
    have y16_5 := y14_5.keep (s15 _ (by unfold zrs; omega)) (s15 _ (by unfold zrs; omega))
    have y16_6 := y14_6.keep (s15 _ (by unfold zrs; omega)) (s15 _ (by unfold zrs; omega))
    have y16_7 : zdg h15 false 47 := y14_7.off (fun i h1 h2 => s15 i (by unfold zrs; omega))
    have y16_8 : zdg h15 true 55 := y14_8.off (fun i h1 h2 => s15 i (by unfold zrs; omega))
    have y16_9 := r13.keep (s15 _ (by unfold zrs; omega)) (s15 _ (by unfold zrs; omega))
    have y16_10 := y14_10.keep (s15 _ (by unfold zrs; omega)) (s15 _ (by unfold zrs; omega))
    have y16_11 := y14_11.keep (s15 _ (by unfold zrs; omega)) (s15 _ (by unfold zrs; omega))
    have y16_12 : h15 (a) = some (.inl (1, [.int (nI (st)), .int (nI (zbi rs)), .int (nI (zkl b + 16)), .ref (a + 1), .ref (a + 3), .ref (26), .int (nI (kd)), .int (nI (iv)), .int (nI (ct)), .int (dr), .int (nI (sd)), .ref (27), .int (nI (zkl b))])) := (s15 _ (by unfold zrs; omega)).trans y14_12
    refine zp_pc (pc' := 29) rfl ?_
    exact cont h15 _ _ (if_pos h0).symm (if_pos h0).symm (List.length_replicate ..) (List.length_replicate ..) ((s13.mono (fun i hi => by unfold zgs; unfold zrs at hi; omega)).trans (s15.mono (fun i hi => by unfold zgs; unfold zrs at hi; omega))) ⟨y16_0, y16_1, y16_2, ⟨_, y16_3⟩, ⟨_, y16_4⟩, ⟨_, y16_5⟩, ⟨_, y16_6⟩, y16_7, y16_8⟩ r15 y16_9 y16_10 y16_11 y16_12
set_option maxRecDepth 10000 in
set_option maxHeartbeats 2000000 in
theorem e_produce1 {g : ZG} {h : ZH} {n : Nat} {a st : Nat} {rs : Bool} {iv ct : Nat} {dr : Int32} {sd : Nat} {kd : Nat} {b : Bool} {k : Nat} {K V A : List Nat} (hk : zdk h) (ha : 64 ≤ a) (o : h a = some (.inl (1, [.int (nI (st)), .int (nI (zbi rs)), .int (nI (zkl b + 16)), .ref (a + 1), .ref (a + 3), .ref (26), .int (nI (kd)), .int (nI (iv)), .int (nI (ct)), .int (dr), .int (nI (sd)), .ref (27), .int (nI (zkl b))]))) (hv : zrow h (a + 1) 16 V) (hc : zrow h (a + 3) (zkl b) K) (hA : zrow h 17 240 A) (hO : zrow h 19 4096 []) (lK : K.length = zkl b) (lV : V.length = 16) (hk4 : k ≤ 4096) (b1 : 4 ≤ kd ∧ kd < 8) (b2 : st ≤ 256) (b4 : iv ≤ 100000) (b5 : ct < 90000) (b6 : sd < 90000) : zMt g mX1_produce (zR 6 0 0) [.ref (a), .int (nI (k)), .ref (17), .ref (19)] h n (fun v h' n' => v = none ∧ n' = n ∧ zsm h h' (zgo a) ∧ zdk h' ∧ h' a = some (.inl (1, [.int (nI (st)), .int (nI (zbi rs)), .int (nI (zkl b + 16)), .ref (a + 1), .ref (a + 3), .ref (26), .int (nI (kd)), .int (nI (iv)), .int (nI (ct + 1)), .int (dr + nI k), .int (nI (sd)), .ref (27), .int (nI (zkl b))])) ∧ ∀ s1, s1 = (if 0 < A.length then (zcmK b K V (if 0 < A.length ∧ kd < 6 then zdce b A (zkl b + 16) else A), zcmV b K V (if 0 < A.length ∧ kd < 6 then zdce b A (zkl b + 16) else A)) else (K, V)) → zrow h' 19 4096 ((zccat b s1.1 s1.2 (zcn k 16)).take k) ∧ zrow h' (a + 3) (zkl b) (zcmK b s1.1 (zplus s1.2 (zcn k 16)) (if 0 < A.length ∧ kd < 6 then zdce b A (zkl b + 16) else A)) ∧ zrow h' (a + 1) 16 (zcmV b s1.1 (zplus s1.2 (zcn k 16)) (if 0 < A.length ∧ kd < 6 then zdce b A (zkl b + 16) else A))) := by
  refine zMt.of [some (.ref (a)), some (.int (nI (k))), some (.ref (17)), some (.ref (19)), none, none] (by decide) rfl (Nat.le_of_ble_eq_true rfl) ?_
  obtain ⟨Qf, hQ⟩ : ∃ Qf : ZQ, Qf = (fun v h' n' => v = none ∧ n' = n ∧ zsm h h' (zgo a) ∧ zdk h' ∧ h' a = some (.inl (1, [.int (nI (st)), .int (nI (zbi rs)), .int (nI (zkl b + 16)), .ref (a + 1), .ref (a + 3), .ref (26), .int (nI (kd)), .int (nI (iv)), .int (nI (ct + 1)), .int (dr + nI k), .int (nI (sd)), .ref (27), .int (nI (zkl b))])) ∧ ∀ s1, s1 = (if 0 < A.length then (zcmK b K V (if 0 < A.length ∧ kd < 6 then zdce b A (zkl b + 16) else A), zcmV b K V (if 0 < A.length ∧ kd < 6 then zdce b A (zkl b + 16) else A)) else (K, V)) → zrow h' 19 4096 ((zccat b s1.1 s1.2 (zcn k 16)).take k) ∧ zrow h' (a + 3) (zkl b) (zcmK b s1.1 (zplus s1.2 (zcn k 16)) (if 0 < A.length ∧ kd < 6 then zdce b A (zkl b + 16) else A)) ∧ zrow h' (a + 1) 16 (zcmV b s1.1 (zplus s1.2 (zcn k 16)) (if 0 < A.length ∧ kd < 6 then zdce b A (zkl b + 16) else A))) := ⟨_, rfl⟩
  rw [← hQ]
  have hz := zkl_or b
  have lA := hA.len
  obtain ⟨e1, e2, e3, ⟨x4, e4⟩, ⟨x5, e5⟩, ⟨x6, e6⟩, ⟨x7, e7⟩, e8, e9⟩ := id hk
  have cont : ∀ (g1 : ZH) (s1 : List Nat × List Nat), s1 = (if 0 < A.length then (zcmK b K V (if 0 < A.length ∧ kd < 6 then zdce b A (zkl b + 16) else A), zcmV b K V (if 0 < A.length ∧ kd < 6 then zdce b A (zkl b + 16) else A)) else (K, V)) → s1.1.length = zkl b → s1.2.length = 16 → zsm h g1 (zgo a) → zdk g1 → zrow g1 (a + 1) 16 s1.2 → zrow g1 (a + 3) (zkl b) s1.1 → zrow g1 43 512 (if 0 < A.length ∧ kd < 6 then zdce b A (zkl b + 16) else A) → zrow g1 19 4096 [] → g1 a = some (.inl (1, [.int (nI (st)), .int (nI (zbi rs)), .int (nI (zkl b + 16)), .ref (a + 1), .ref (a + 3), .ref (26), .int (nI (kd)), .int (nI (iv)), .int (nI (ct)), .int (dr), .int (nI (sd)), .ref (27), .int (nI (zkl b))])) → zP g mX1_produce (zR 6 0 0) Qf 0 0 58 [some (.ref (a)), some (.int (nI (k))), some (.ref (17)), some (.ref (19)), some (.ref (43)), none] [] g1 n := by
    intro g1 s1 eS lK lV hs0 hk hv hc hM hO o
    obtain ⟨e1, e2, e3, ⟨x4, e4⟩, ⟨x5, e5⟩, ⟨x6, e6⟩, ⟨x7, e7⟩, e8, e9⟩ := id hk
    refine zp_aload_n dX1_produce_58 rfl ?_
    refine zp_get dX1_produce_59 gX1_13_1 o rfl ?_
    refine zp_aload_n dX1_produce_62 rfl ?_
    refine zp_get dX1_produce_63 gX1_31_1 o rfl ?_
    refine zp_pc (pc' := 66) rfl ?_
    obtain ⟨⟨rd1, ff1, cc1⟩, rw1⟩ := id e3
    refine zp_callV (As := [.ref (a + 3)]) (k := 27) (st := []) (ci := 0) dX1_produce_66 cX1_82 rfl cc1.2.1 rfl rfl (e_useKey (b := b) (c := 27) (N := zkl b) (ks := s1.1) e1 cc1 hc lK (by omega)) (by decide) (by decide) (Nat.le_of_ble_eq_true rfl) (fun v2 h2 n2 q2 => ?_)
    obtain ⟨rfl, N2, s2, k2⟩ := q2
    rw [N2]
    refine zp_nrm (cells' := 0) (slots' := 0) (st' := []) rfl rfl rfl ?_
    have y3_0 := e1.sm s2 (fun i hi => by omega)
    have y3_1 : h2 (26) = some zdkc := (s2 _ (by omega)).trans e2
    have y3_2 := e4.keep (s2 _ (by omega)) (s2 _ (by omega))
    have y3_3 := e5.keep (s2 _ (by omega)) (s2 _ (by omega))
    have y3_4 := hM.keep (s2 _ (by omega)) (s2 _ (by omega))
    have y3_5 := e7.keep (s2 _ (by omega)) (s2 _ (by omega))
    have y3_6 : zdg h2 false 47 := e8.off (fun i h1 h2 => s2 i (by omega))
    have y3_7 : zdg h2 true 55 := e9.off (fun i h1 h2 => s2 i (by omega))
    have y3_8 := hv.keep (s2 _ (by omega)) (s2 _ (by omega))
    have y3_9 := hc.keep (s2 _ (by omega)) (s2 _ (by omega))
    have y3_10 := hO.keep (s2 _ (by omega)) (s2 _ (by omega))
    have y3_11 : h2 (a) = some (.inl (1, [.int (nI (st)), .int (nI (zbi rs)), .int (nI (zkl b + 16)), .ref (a + 1), .ref (a + 3), .ref (26), .int (nI (kd)), .int (nI (iv)), .int (nI (ct)), .int (dr), .int (nI (sd)), .ref (27), .int (nI (zkl b))])) := (s2 _ (by omega)).trans o
    have y3_12 := lK
    have rr2 : zcrows h2 27 := rw1.off (fun i h1 h2 => s2 i (by omega))
    refine zp_iconst (v := nI (0)) dX1_produce_69 (by decide) ?_
    refine zp_istore (ls' := [some (.ref (a)), some (.int (nI (k))), some (.ref (17)), some (.ref (19)), some (.ref (43)), some (.int (nI (0)))]) dX1_produce_70 (by decide) rfl ?_
    refine zp_pc (pc' := 72) rfl ?_
    have hp0 : zplus s1.2 0 = s1.2 := zplus_0 hv.bytes
    have lp : ∀ (m : Nat) (c : Nat) (g2 : ZH), m = k - c → c ≤ k → (c = 0 ∨ (c - 1) * 16 < k) → zsm h g2 (zgo a) → ztab g2 → g2 26 = some zdkc → (∃ xs, zrow g2 39 64 xs) → (∃ xs, zrow g2 41 512 xs) → zrow g2 43 512 (if 0 < A.length ∧ kd < 6 then zdce b A (zkl b + 16) else A) → (∃ xs, zrow g2 45 64 xs) → zdg g2 false 47 → zdg g2 true 55 → zrow g2 (a + 1) 16 (zplus s1.2 c) → zrow g2 (a + 3) (zkl b) s1.1 → zrow g2 19 4096 ((zccat b s1.1 s1.2 c).take k) → g2 a = some (.inl (1, [.int (nI (st)), .int (nI (zbi rs)), .int (nI (zkl b + 16)), .ref (a + 1), .ref (a + 3), .ref (26), .int (nI (kd)), .int (nI (iv)), .int (nI (ct)), .int (dr), .int (nI (sd)), .ref (27), .int (nI (zkl b))])) → zckd g2 27 b s1.1 → zcrows g2 27 → zP g mX1_produce (zR 6 0 0) Qf 0 0 72 [some (.ref (a)), some (.int (nI (k))), some (.ref (17)), some (.ref (19)), some (.ref (43)), some (.int (nI (c)))] [] g2 n := by
      intro m
      induction m using Nat.strongRecOn with
      | _ m ih =>
        intro c g2 hm hc0 hlt hs1 f1 f2 f4 f5 f6 f7 f8 f9 hv2 hc2 hO2 o2 kd2 rr2
        obtain ⟨y4, f4⟩ := f4
        obtain ⟨y5, f5⟩ := f5
        obtain ⟨y7, f7⟩ := f7
        have cl := zccat_len b s1.1 s1.2 c
        have pl := zplus_len s1.2 c
        have pl2 := zplus_len s1.2 (c + 1)
        refine zp_iload dX1_produce_72 rfl ?_
        refine zp_iload_n dX1_produce_74 rfl ?_
        refine zp_pc (pc' := 75) rfl ?_
        refine zn_icmp_ge (tgt := 136) dX1_produce_75 (by decide) (by omega) (by omega) (fun c75 => ?_) (fun c75 => ?_)
        · have ec : c = zcn k 16 := zcn_of (by decide) (by omega) hlt
          subst ec
          have cy2 : zcy g2 27 := zcy.of kd2 rr2
          refine zp_aload_n dX1_produce_136 rfl ?_
          refine zp_aload dX1_produce_137 rfl ?_
          refine zp_pc (pc' := 139) rfl ?_
          refine zp_callV (As := [.ref (43)]) (k := a) (st := []) (ci := 1) dX1_produce_139 cX1_70 rfl o2 rfl rfl (e_mix1 (b := b) ⟨f1, f2, cy2, ⟨_, f4⟩, ⟨_, f5⟩, ⟨_, f6⟩, ⟨_, f7⟩, f8, f9⟩ ha o2 hv2 hc2 f6 lK (by omega)) (by decide) (by decide) (Nat.le_of_ble_eq_true rfl) (fun v4 h4 n4 q4 => ?_)
          obtain ⟨rfl, N4, s4, k4, o4, c4, r4, -⟩ := q4
          rw [N4]
          refine zp_nrm (cells' := 0) (slots' := 0) (st' := []) rfl rfl rfl ?_
          have O2 := hO2.keep (s4 _ (by unfold zgs; omega)) (s4 _ (by unfold zgs; omega))
          refine zp_aload_n dX1_produce_142 rfl ?_
          refine zp_iload_n dX1_produce_143 rfl ?_
          refine zp_pc (pc' := 144) rfl ?_
          refine zp_callU (As := [.int (nI (k))]) (k := a) (st := []) (ci := 1) (q := (RX1, TX1, 13)) dX1_produce_144 cX1_98_1 rfl o4 rfl (e_noteDrawing1 (k := k) o4 (by omega)) (by decide) (by decide) (Nat.le_of_ble_eq_true rfl) (fun v5 h5 n5 q5 => ?_)
          obtain ⟨rfl, N5, s5, o5⟩ := q5
          rw [N5]
          refine zp_nrm (cells' := 0) (slots' := 0) (st' := []) rfl rfl rfl ?_
          refine zp_ret (v := none) dX1_produce_147 ⟨rfl, rfl⟩ (by decide) (by decide) ?_
          rw [hQ]
          exact ⟨rfl, rfl, ((hs1).trans (s4.mono (fun i hi => by unfold zgo; omega))).trans (s5.mono (fun i hi => by unfold zgo; omega)), k4.off s5 (fun i hi => by omega), o5, fun s2 e2 => by subst e2; subst eS; exact ⟨O2.keep (s5 _ (by omega)) (s5 _ (by omega)), c4.keep (s5 _ (by omega)) (s5 _ (by omega)), r4.keep (s5 _ (by omega)) (s5 _ (by omega))⟩⟩
        · refine zp_aload_n dX1_produce_78 rfl ?_
          refine zp_pc (pc' := 79) rfl ?_
          refine zp_callV (As := []) (k := 19) (st := []) (ci := 6) dX1_produce_79 cX1_78 rfl hO2.2.1 rfl rfl (e_length (N := 4096) hO2) (by decide) (by decide) (Nat.le_of_ble_eq_true rfl) (fun v6 h6 n6 q6 => ?_)
          obtain ⟨rfl, H6, N6⟩ := q6
          rw [N6, H6]
          refine zp_nrm (cells' := 0) (slots' := 0) (st' := [.int (nI (((zccat b s1.1 s1.2 c).take k).length))]) rfl rfl rfl ?_
          have tl : ((zccat b s1.1 s1.2 c).take k).length = min k (c * 16) := by rw [List.length_take, cl]
          refine zp_iload_n dX1_produce_82 rfl ?_
          refine zp_pc (pc' := 83) rfl ?_
          refine zn_icmp_ge (tgt := 136) dX1_produce_83 (by decide) (by omega) (by omega) (fun c83 => ?_) (fun c83 => ?_)
          · have ec : c = zcn k 16 := zcn_of (by decide) (by omega) hlt
            subst ec
            have cy2 : zcy g2 27 := zcy.of kd2 rr2
            refine zp_aload_n dX1_produce_136 rfl ?_
            refine zp_aload dX1_produce_137 rfl ?_
            refine zp_pc (pc' := 139) rfl ?_
            refine zp_callV (As := [.ref (43)]) (k := a) (st := []) (ci := 1) dX1_produce_139 cX1_70 rfl o2 rfl rfl (e_mix1 (b := b) ⟨f1, f2, cy2, ⟨_, f4⟩, ⟨_, f5⟩, ⟨_, f6⟩, ⟨_, f7⟩, f8, f9⟩ ha o2 hv2 hc2 f6 lK (by omega)) (by decide) (by decide) (Nat.le_of_ble_eq_true rfl) (fun v7 h7 n7 q7 => ?_)
            obtain ⟨rfl, N7, s7, k7, o7, c7, r7, -⟩ := q7
            rw [N7]
            refine zp_nrm (cells' := 0) (slots' := 0) (st' := []) rfl rfl rfl ?_
            have O2 := hO2.keep (s7 _ (by unfold zgs; omega)) (s7 _ (by unfold zgs; omega))
            refine zp_aload_n dX1_produce_142 rfl ?_
            refine zp_iload_n dX1_produce_143 rfl ?_
            refine zp_pc (pc' := 144) rfl ?_
            refine zp_callU (As := [.int (nI (k))]) (k := a) (st := []) (ci := 1) (q := (RX1, TX1, 13)) dX1_produce_144 cX1_98_1 rfl o7 rfl (e_noteDrawing1 (k := k) o7 (by omega)) (by decide) (by decide) (Nat.le_of_ble_eq_true rfl) (fun v8 h8 n8 q8 => ?_)
            obtain ⟨rfl, N8, s8, o8⟩ := q8
            rw [N8]
            refine zp_nrm (cells' := 0) (slots' := 0) (st' := []) rfl rfl rfl ?_
            refine zp_ret (v := none) dX1_produce_147 ⟨rfl, rfl⟩ (by decide) (by decide) ?_
            rw [hQ]
            exact ⟨rfl, rfl, ((hs1).trans (s7.mono (fun i hi => by unfold zgo; omega))).trans (s8.mono (fun i hi => by unfold zgo; omega)), k7.off s8 (fun i hi => by omega), o8, fun s2 e2 => by subst e2; subst eS; exact ⟨O2.keep (s8 _ (by omega)) (s8 _ (by omega)), c7.keep (s8 _ (by omega)) (s8 _ (by omega)), r7.keep (s8 _ (by omega)) (s8 _ (by omega))⟩⟩
          · have tk : ((zccat b s1.1 s1.2 c).take k) = zccat b s1.1 s1.2 c := List.take_of_length_le (by omega)
            rw [tk] at hO2
            refine zp_aload_n dX1_produce_86 rfl ?_
            refine zp_get dX1_produce_87 gX1_41_1 o2 rfl ?_
            refine zp_iconst (v := nI (1)) dX1_produce_90 (by decide) ?_
            refine zp_pc (pc' := 91) rfl ?_
            refine zp_callV (As := [.int (nI (1))]) (k := a + 1) (st := []) (ci := 6) dX1_produce_91 cX1_85 rfl hv2.2.1 rfl rfl (e_plusNumber (N := 16) (k := 1) hv2 (by decide)) (by decide) (by decide) (Nat.le_of_ble_eq_true rfl) (fun v9 h9 n9 q9 => ?_)
            obtain ⟨rfl, N9, s9, r9⟩ := q9
            rw [N9]
            refine zp_nrm (cells' := 0) (slots' := 0) (st' := []) rfl rfl rfl ?_
            have y10_0 := f1.sm s9 (fun i hi => by unfold zrs at hi; omega)
            have y10_1 : h9 (26) = some zdkc := (s9 _ (by unfold zrs; omega)).trans f2
            have y10_2 := f4.keep (s9 _ (by unfold zrs; omega)) (s9 _ (by unfold zrs; omega))
            have y10_3 := f5.keep (s9 _ (by unfold zrs; omega)) (s9 _ (by unfold zrs; omega))
            have y10_4 := f6.keep (s9 _ (by unfold zrs; omega)) (s9 _ (by unfold zrs; omega))
            have y10_5 := f7.keep (s9 _ (by unfold zrs; omega)) (s9 _ (by unfold zrs; omega))
            have y10_6 : zdg h9 false 47 := f8.off (fun i h1 h2 => s9 i (by unfold zrs; omega))
            have y10_7 : zdg h9 true 55 := f9.off (fun i h1 h2 => s9 i (by unfold zrs; omega))
            have y10_8 := hc2.keep (s9 _ (by unfold zrs; omega)) (s9 _ (by unfold zrs; omega))
            have y10_9 := hO2.keep (s9 _ (by unfold zrs; omega)) (s9 _ (by unfold zrs; omega))
            have y10_10 : h9 (a) = some (.inl (1, [.int (nI (st)), .int (nI (zbi rs)), .int (nI (zkl b + 16)), .ref (a + 1), .ref (a + 3), .ref (26), .int (nI (kd)), .int (nI (iv)), .int (nI (ct)), .int (dr), .int (nI (sd)), .ref (27), .int (nI (zkl b))])) := (s9 _ (by unfold zrs; omega)).trans o2
            have y10_11 : zckd h9 27 b s1.1 := kd2.off (fun i h1 h2 => s9 i (by unfold zrs; omega))
            have y10_12 : zcrows h9 27 := rr2.off (fun i h1 h2 => s9 i (by unfold zrs; omega))
            have ep : znum (zval (zplus s1.2 c) + 1) (zplus s1.2 c).length = zplus s1.2 (c + 1) := zplus_plus s1.2 c 1
            rw [ep] at r9
            refine zp_aload_n dX1_produce_94 rfl ?_
            refine zp_get dX1_produce_95 gX1_13_1 y10_10 rfl ?_
            refine zp_aload_n dX1_produce_98 rfl ?_
            refine zp_get dX1_produce_99 gX1_41_1 y10_10 rfl ?_
            refine zp_aload_n dX1_produce_102 rfl ?_
            refine zp_get dX1_produce_103 gX1_44_1 y10_10 rfl ?_
            refine zp_get dX1_produce_106 gX1_89_2 y10_1 rfl ?_
            refine zp_pc (pc' := 109) rfl ?_
            refine zp_callV (As := [.ref (a + 1), .ref (45)]) (k := 27) (st := []) (ci := 0) dX1_produce_109 cX1_92 rfl y10_11.obj rfl rfl (e_encrypt (b := b) (c := 27) (N := 16) (K := 64) y10_0 y10_11 r9 y10_5 (by omega) (by omega) (by omega) (by decide)) (by decide) (by decide) (Nat.le_of_ble_eq_true rfl) (fun v11 h11 n11 q11 => ?_)
            obtain ⟨rfl, N11, s11, r11, k11⟩ := q11
            rw [N11]
            refine zp_nrm (cells' := 0) (slots' := 0) (st' := []) rfl rfl rfl ?_
            have y12_0 := y10_0.sm s11 (fun i hi => by unfold zes at hi; omega)
            have y12_1 : h11 (26) = some zdkc := (s11 _ (by unfold zes; omega)).trans y10_1
            have y12_2 := y10_2.keep (s11 _ (by unfold zes; omega)) (s11 _ (by unfold zes; omega))
            have y12_3 := y10_3.keep (s11 _ (by unfold zes; omega)) (s11 _ (by unfold zes; omega))
            have y12_4 := y10_4.keep (s11 _ (by unfold zes; omega)) (s11 _ (by unfold zes; omega))
            have y12_5 : zdg h11 false 47 := y10_6.off (fun i h1 h2 => s11 i (by unfold zes; omega))
            have y12_6 : zdg h11 true 55 := y10_7.off (fun i h1 h2 => s11 i (by unfold zes; omega))
            have y12_7 := r9.keep (s11 _ (by unfold zes; omega)) (s11 _ (by unfold zes; omega))
            have y12_8 := y10_8.keep (s11 _ (by unfold zes; omega)) (s11 _ (by unfold zes; omega))
            have y12_9 := y10_9.keep (s11 _ (by unfold zes; omega)) (s11 _ (by unfold zes; omega))
            have y12_10 : h11 (a) = some (.inl (1, [.int (nI (st)), .int (nI (zbi rs)), .int (nI (zkl b + 16)), .ref (a + 1), .ref (a + 3), .ref (26), .int (nI (kd)), .int (nI (iv)), .int (nI (ct)), .int (dr), .int (nI (sd)), .ref (27), .int (nI (zkl b))])) := (s11 _ (by unfold zes; omega)).trans y10_10
            have y12_11 : zcrows h11 27 := y10_12.off (fun i h1 h2 => s11 i (by unfold zes; omega))
            refine zp_aload_n dX1_produce_112 rfl ?_
            refine zp_aload_n dX1_produce_113 rfl ?_
            refine zp_get dX1_produce_114 gX1_44_1 y12_10 rfl ?_
            refine zp_get dX1_produce_117 gX1_89_2 y12_1 rfl ?_
            refine zp_iconst (v := nI (0)) dX1_produce_120 (by decide) ?_
            refine zp_iload_n dX1_produce_121 rfl ?_
            refine zp_aload_n dX1_produce_122 rfl ?_
            refine zp_pc (pc' := 123) rfl ?_
            refine zp_callV (As := []) (k := 19) (st := [.int (nI (k)), .int (nI (0)), .ref (45), .ref (19)]) (ci := 6) dX1_produce_123 cX1_78 rfl y12_9.2.1 rfl rfl (e_length (N := 4096) y12_9) (by decide) (by decide) (Nat.le_of_ble_eq_true rfl) (fun v13 h13 n13 q13 => ?_)
            obtain ⟨rfl, H13, N13⟩ := q13
            rw [N13, H13]
            refine zp_nrm (cells' := 0) (slots' := 0) (st' := [.int (nI ((zccat b s1.1 s1.2 c).length)), .int (nI (k)), .int (nI (0)), .ref (45), .ref (19)]) rfl rfl rfl ?_
            refine zn_isub dX1_produce_126 (by omega) ?_
            refine zp_pc (pc' := 127) rfl ?_
            refine zp_callV (As := [.ref (45), .int (nI (0)), .int (nI ((k) - ((zccat b s1.1 s1.2 c).length)))]) (k := 19) (st := []) (ci := 6) dX1_produce_127 cX1_95 rfl y12_9.2.1 rfl rfl (e_appendPart (N := 4096) (K := 64) (a := 0) (c := k - (zccat b s1.1 s1.2 c).length) y12_9 r11 (by omega) (by omega) (by rw [zpart_len, zenc_len]; omega)) (by decide) (by decide) (Nat.le_of_ble_eq_true rfl) (fun v14 h14 n14 q14 => ?_)
            obtain ⟨rfl, N14, s14, r14⟩ := q14
            rw [N14]
            refine zp_nrm (cells' := 0) (slots' := 0) (st' := []) rfl rfl rfl ?_
            have y15_0 := y12_0.sm s14 (fun i hi => by unfold zrs at hi; omega)
            have y15_1 : h14 (26) = some zdkc := (s14 _ (by unfold zrs; omega)).trans y12_1
            have y15_2 := y12_2.keep (s14 _ (by unfold zrs; omega)) (s14 _ (by unfold zrs; omega))
            have y15_3 := y12_3.keep (s14 _ (by unfold zrs; omega)) (s14 _ (by unfold zrs; omega))
            have y15_4 := y12_4.keep (s14 _ (by unfold zrs; omega)) (s14 _ (by unfold zrs; omega))
            have y15_5 := r11.keep (s14 _ (by unfold zrs; omega)) (s14 _ (by unfold zrs; omega))
            have y15_6 : zdg h14 false 47 := y12_5.off (fun i h1 h2 => s14 i (by unfold zrs; omega))
            have y15_7 : zdg h14 true 55 := y12_6.off (fun i h1 h2 => s14 i (by unfold zrs; omega))
            have y15_8 := y12_7.keep (s14 _ (by unfold zrs; omega)) (s14 _ (by unfold zrs; omega))
            have y15_9 := y12_8.keep (s14 _ (by unfold zrs; omega)) (s14 _ (by unfold zrs; omega))
            have y15_10 : h14 (a) = some (.inl (1, [.int (nI (st)), .int (nI (zbi rs)), .int (nI (zkl b + 16)), .ref (a + 1), .ref (a + 3), .ref (26), .int (nI (kd)), .int (nI (iv)), .int (nI (ct)), .int (dr), .int (nI (sd)), .ref (27), .int (nI (zkl b))])) := (s14 _ (by unfold zrs; omega)).trans y12_10
            have y15_11 : zckd h14 27 b s1.1 := k11.off (fun i h1 h2 => s14 i (by unfold zrs; omega))
            have y15_12 : zcrows h14 27 := y12_11.off (fun i h1 h2 => s14 i (by unfold zrs; omega))
            refine zn_iinc 1 (ls' := [some (.ref (a)), some (.int (nI (k))), some (.ref (17)), some (.ref (19)), some (.ref (43)), some (.int (nI (c + 1)))]) dX1_produce_130 (by decide) (by decide) rfl rfl ?_
            refine zp_pc (pc' := 133) rfl ?_
            refine zp_goto (tgt := 72) dX1_produce_133 (by decide) ?_
            refine zp_pc (pc' := 72) rfl ?_
            refine ih (k - (c + 1)) (by omega) (c + 1) h14 rfl (by omega) (Or.inr (by rw [Nat.add_sub_cancel]; omega)) ((((hs1).trans (s9.mono (fun i hi => by unfold zgo; unfold zrs at hi; omega))).trans (s11.mono (fun i hi => by unfold zgo; unfold zes at hi; omega))).trans (s14.mono (fun i hi => by unfold zgo; unfold zrs at hi; omega))) y15_0 y15_1 ⟨_, y15_2⟩ ⟨_, y15_3⟩ y15_4 ⟨_, y15_5⟩ y15_6 y15_7 y15_8 y15_9 ?_ y15_10 y15_11 y15_12
            have e9 : zccat b s1.1 s1.2 (c + 1) = zccat b s1.1 s1.2 c ++ zenc b s1.1 (zplus s1.2 (c + 1)) := (zflat_succ _ _).symm
            rw [e9, List.take_append, tk]
            exact r14
    exact lp _ 0 h2 rfl (Nat.zero_le _) (Or.inl rfl) ((hs0).trans (s2.mono (fun i hi => by unfold zgo; omega))) y3_0 y3_1 ⟨_, y3_2⟩ ⟨_, y3_3⟩ y3_4 ⟨_, y3_5⟩ y3_6 y3_7 (by rw [hp0]; exact y3_8) y3_9 (by show zrow _ _ _ (List.take k []); rw [List.take_nil]; exact y3_10) y3_11 k2 rr2
  refine zp_aload_n dX1_produce_0 rfl ?_
  refine zp_get dX1_produce_1 gX1_44_1 o rfl ?_
  refine zp_get dX1_produce_4 gX1_48_2 e2 rfl ?_
  refine zp_astore (ls' := [some (.ref (a)), some (.int (nI (k))), some (.ref (17)), some (.ref (19)), some (.ref (43)), none]) dX1_produce_7 (by decide) rfl ?_
  refine zp_aload dX1_produce_9 rfl ?_
  refine zp_aload_n dX1_produce_11 rfl ?_
  refine zp_iconst (v := nI (0)) dX1_produce_12 (by decide) ?_
  refine zp_aload_n dX1_produce_13 rfl ?_
  refine zp_pc (pc' := 14) rfl ?_
  refine zp_callV (As := []) (k := 17) (st := [.int (nI (0)), .ref (17), .ref (43)]) (ci := 6) dX1_produce_14 cX1_78 rfl hA.2.1 rfl rfl (e_length (N := 240) hA) (by decide) (by decide) (Nat.le_of_ble_eq_true rfl) (fun v16 h16 n16 q16 => ?_)
  obtain ⟨rfl, H16, N16⟩ := q16
  rw [N16, H16]
  refine zp_nrm (cells' := 0) (slots' := 0) (st' := [.int (nI (A.length)), .int (nI (0)), .ref (17), .ref (43)]) rfl rfl rfl ?_
  refine zp_pc (pc' := 17) rfl ?_
  refine zp_callV (As := [.ref (17), .int (nI (0)), .int (nI (A.length))]) (k := 43) (st := []) (ci := 6) dX1_produce_17 cX1_62 rfl e6.2.1 rfl rfl (e_becomePart (N := 512) (K := 240) (a := 0) (c := A.length) e6 hA (by decide) (by omega) (by rw [zpart_len]; omega)) (by decide) (by decide) (Nat.le_of_ble_eq_true rfl) (fun v17 h17 n17 q17 => ?_)
  obtain ⟨rfl, N17, s17, r17⟩ := q17
  rw [N17]
  refine zp_nrm (cells' := 0) (slots' := 0) (st' := []) rfl rfl rfl ?_
  have y18_0 := e1.sm s17 (fun i hi => by unfold zrs at hi; omega)
  have y18_1 : h17 (26) = some zdkc := (s17 _ (by unfold zrs; omega)).trans e2
  have y18_2 : zcy h17 27 := e3.off (fun i h1 h2 => s17 i (by unfold zrs; omega))
  have y18_3 := e4.keep (s17 _ (by unfold zrs; omega)) (s17 _ (by unfold zrs; omega))
  have y18_4 := e5.keep (s17 _ (by unfold zrs; omega)) (s17 _ (by unfold zrs; omega))
  have y18_5 := e7.keep (s17 _ (by unfold zrs; omega)) (s17 _ (by unfold zrs; omega))
  have y18_6 : zdg h17 false 47 := e8.off (fun i h1 h2 => s17 i (by unfold zrs; omega))
  have y18_7 : zdg h17 true 55 := e9.off (fun i h1 h2 => s17 i (by unfold zrs; omega))
  have y18_8 := hv.keep (s17 _ (by unfold zrs; omega)) (s17 _ (by unfold zrs; omega))
  have y18_9 := hc.keep (s17 _ (by unfold zrs; omega)) (s17 _ (by unfold zrs; omega))
  have y18_10 := hA.keep (s17 _ (by unfold zrs; omega)) (s17 _ (by unfold zrs; omega))
  have y18_11 := hO.keep (s17 _ (by unfold zrs; omega)) (s17 _ (by unfold zrs; omega))
  have y18_12 : h17 (a) = some (.inl (1, [.int (nI (st)), .int (nI (zbi rs)), .int (nI (zkl b + 16)), .ref (a + 1), .ref (a + 3), .ref (26), .int (nI (kd)), .int (nI (iv)), .int (nI (ct)), .int (dr), .int (nI (sd)), .ref (27), .int (nI (zkl b))])) := (s17 _ (by unfold zrs; omega)).trans o
  rw [zpart_all] at r17
  refine zp_aload_n dX1_produce_20 rfl ?_
  refine zp_pc (pc' := 21) rfl ?_
  refine zp_callV (As := []) (k := 17) (st := []) (ci := 6) dX1_produce_21 cX1_78 rfl y18_10.2.1 rfl rfl (e_length (N := 240) y18_10) (by decide) (by decide) (Nat.le_of_ble_eq_true rfl) (fun v19 h19 n19 q19 => ?_)
  obtain ⟨rfl, H19, N19⟩ := q19
  rw [N19, H19]
  refine zp_nrm (cells' := 0) (slots' := 0) (st' := [.int (nI (A.length))]) rfl rfl rfl ?_
  refine zp_pc (pc' := 24) rfl ?_
  refine zn_if_le (tgt := 58) dX1_produce_24 (by decide) (by omega) (fun c24 => ?_) (fun c24 => ?_)
  · exact cont h17 (K, V) (by rw [if_neg (by omega)]) lK lV (s17.mono (fun i hi => by unfold zgo; unfold zrs at hi; omega)) ⟨y18_0, y18_1, y18_2, ⟨_, y18_3⟩, ⟨_, y18_4⟩, ⟨_, r17⟩, ⟨_, y18_5⟩, y18_6, y18_7⟩ y18_8 y18_9 (by rw [if_neg (by omega)]; exact r17) y18_11 y18_12
  · refine zp_aload_n dX1_produce_27 rfl ?_
    refine zp_pc (pc' := 28) rfl ?_
    refine zp_callU (As := []) (k := a) (st := []) (ci := 1) (q := (RX1, TX1, 13)) dX1_produce_28 cX1_51_1 rfl y18_12 rfl (e_derives1 y18_12 (by omega) b2 (by omega) b4 (by omega) (by omega)) (by decide) (by decide) (Nat.le_of_ble_eq_true rfl) (fun v20 h20 n20 q20 => ?_)
    obtain ⟨rfl, H20, N20⟩ := q20
    rw [N20, H20]
    refine zp_nrm (cells' := 0) (slots' := 0) (st' := [.int (nI (zbi (decide (kd < 6))))]) rfl rfl rfl ?_
    have hd6 := zbi_lt (decide (kd < 6))
    refine zp_pc (pc' := 31) rfl ?_
    refine zn_if_eq (tgt := 52) dX1_produce_31 (by decide) (by omega) (fun c31 => ?_) (fun c31 => ?_)
    · have k6 : ¬ kd < 6 := fun q => by rw [decide_eq_true q] at c31; exact absurd c31 (by decide)
      refine zp_aload_n dX1_produce_52 rfl ?_
      refine zp_aload dX1_produce_53 rfl ?_
      refine zp_pc (pc' := 55) rfl ?_
      refine zp_callV (As := [.ref (43)]) (k := a) (st := []) (ci := 1) dX1_produce_55 cX1_70 rfl y18_12 rfl rfl (e_mix1 (b := b) ⟨y18_0, y18_1, y18_2, ⟨_, y18_3⟩, ⟨_, y18_4⟩, ⟨_, r17⟩, ⟨_, y18_5⟩, y18_6, y18_7⟩ ha y18_12 y18_8 y18_9 r17 lK lV) (by decide) (by decide) (Nat.le_of_ble_eq_true rfl) (fun v21 h21 n21 q21 => ?_)
      obtain ⟨rfl, N21, s21, k21, o21, cc21, r21, z21⟩ := q21
      rw [N21]
      refine zp_nrm (cells' := 0) (slots' := 0) (st' := []) rfl rfl rfl ?_
      refine zp_pc (pc' := 58) rfl ?_
      exact cont h21 (zcmK b K V A, zcmV b K V A) (by rw [if_pos (by omega), if_neg (fun q => k6 q.2)]) (zcmK_len ..) (zcmV_len ..) ((s17.mono (fun i hi => by unfold zgo; unfold zrs at hi; omega)).trans (s21.mono (fun i hi => by unfold zgo; omega))) k21 r21 cc21 (by rw [if_neg (fun q => k6 q.2)]; exact z21) (y18_11.keep (s21 _ (by unfold zgs; omega)) (s21 _ (by unfold zgs; omega))) o21
    · have k6 : kd < 6 := by
        by_cases q : kd < 6
        · exact q
        · rw [decide_eq_false q] at c31; exact absurd rfl c31
      refine zp_aload_n dX1_produce_34 rfl ?_
      refine zp_get dX1_produce_35 gX1_13_1 y18_12 rfl ?_
      refine zp_aload_n dX1_produce_38 rfl ?_
      refine zp_get dX1_produce_39 gX1_24_1 y18_12 rfl ?_
      refine zp_aload_n dX1_produce_42 rfl ?_
      refine zp_aload_n dX1_produce_43 rfl ?_
      refine zp_get dX1_produce_44 gX1_18_1 y18_12 rfl ?_
      refine zp_aload dX1_produce_47 rfl ?_
      refine zp_pc (pc' := 49) rfl ?_
      obtain ⟨rd9, f9, cc9⟩ := y18_2.1
      refine zp_callV (As := [.int (nI (zkl b)), .ref (17), .int (nI (zkl b + 16)), .ref (43)]) (k := 27) (st := []) (ci := 0) dX1_produce_49 cX1_58 rfl cc9.2.1 rfl rfl (e_stretchE (b := b) (c := 27) (N := 240) (K := 512) (k := zkl b + 16) y18_0 y18_2 y18_10 r17 (by decide) (by decide) (by omega) (by omega) (by omega)) (by decide) (by decide) (Nat.le_of_ble_eq_true rfl) (fun v22 h22 n22 q22 => ?_)
      obtain ⟨rfl, N22, s22, r22, y22⟩ := q22
      rw [N22]
      refine zp_nrm (cells' := 0) (slots' := 0) (st' := []) rfl rfl rfl ?_
      have y23_0 := y18_0.sm s22 (fun i hi => by unfold zcs at hi; omega)
      have y23_1 : h22 (26) = some zdkc := (s22 _ (by unfold zcs; omega)).trans y18_1
      have y23_2 := y18_3.keep (s22 _ (by unfold zcs; omega)) (s22 _ (by unfold zcs; omega))
      have y23_3 := y18_4.keep (s22 _ (by unfold zcs; omega)) (s22 _ (by unfold zcs; omega))
      have y23_4 := y18_5.keep (s22 _ (by unfold zcs; omega)) (s22 _ (by unfold zcs; omega))
      have y23_5 : zdg h22 false 47 := y18_6.off (fun i h1 h2 => s22 i (by unfold zcs; omega))
      have y23_6 : zdg h22 true 55 := y18_7.off (fun i h1 h2 => s22 i (by unfold zcs; omega))
      have y23_7 := y18_8.keep (s22 _ (by unfold zcs; omega)) (s22 _ (by unfold zcs; omega))
      have y23_8 := y18_9.keep (s22 _ (by unfold zcs; omega)) (s22 _ (by unfold zcs; omega))
      have y23_9 := y18_10.keep (s22 _ (by unfold zcs; omega)) (s22 _ (by unfold zcs; omega))
      have y23_10 := y18_11.keep (s22 _ (by unfold zcs; omega)) (s22 _ (by unfold zcs; omega))
      have y23_11 : h22 (a) = some (.inl (1, [.int (nI (st)), .int (nI (zbi rs)), .int (nI (zkl b + 16)), .ref (a + 1), .ref (a + 3), .ref (26), .int (nI (kd)), .int (nI (iv)), .int (nI (ct)), .int (dr), .int (nI (sd)), .ref (27), .int (nI (zkl b))])) := (s22 _ (by unfold zcs; omega)).trans y18_12
      have h06 : 0 < A.length ∧ kd < 6 := ⟨by omega, k6⟩
      refine zp_aload_n dX1_produce_52 rfl ?_
      refine zp_aload dX1_produce_53 rfl ?_
      refine zp_pc (pc' := 55) rfl ?_
      refine zp_callV (As := [.ref (43)]) (k := a) (st := []) (ci := 1) dX1_produce_55 cX1_70 rfl y23_11 rfl rfl (e_mix1 (b := b) ⟨y23_0, y23_1, y22, ⟨_, y23_2⟩, ⟨_, y23_3⟩, ⟨_, r22⟩, ⟨_, y23_4⟩, y23_5, y23_6⟩ ha y23_11 y23_7 y23_8 r22 lK lV) (by decide) (by decide) (Nat.le_of_ble_eq_true rfl) (fun v24 h24 n24 q24 => ?_)
      obtain ⟨rfl, N24, s24, k24, o24, cc24, r24, z24⟩ := q24
      rw [N24]
      refine zp_nrm (cells' := 0) (slots' := 0) (st' := []) rfl rfl rfl ?_
      refine zp_pc (pc' := 58) rfl ?_
      exact cont h24 (zcmK b K V (zdce b A (zkl b + 16)), zcmV b K V (zdce b A (zkl b + 16))) (by rw [if_pos (by omega), if_pos h06]) (zcmK_len ..) (zcmV_len ..) (((s17.mono (fun i hi => by unfold zgo; unfold zrs at hi; omega)).trans (s22.mono (fun i hi => by unfold zgo; unfold zcs at hi; omega))).trans (s24.mono (fun i hi => by unfold zgo; omega))) k24 r24 cc24 (by rw [if_pos h06]; exact z24) (y23_10.keep (s24 _ (by unfold zgs; omega)) (s24 _ (by unfold zgs; omega))) o24
