set_option maxRecDepth 10000 in
set_option maxHeartbeats 2000000 in
theorem e_stretchE {g : ZG} {h : ZH} {n : Nat} {c r q N K k : Nat} {b : Bool} {xs ys : List Nat} (ht : ztab h) (hc : zcy h c) (hx : zrow h r N xs) (hq : zrow h q K ys) (hr : r + 1 < c ∨ c + 11 < r) (hqc : q + 1 < c ∨ c + 11 < q) (hl : xs.length ≤ 400) (hk : k ≤ 250) (hK : k ≤ K) : zMt g mX0_stretch (zR 5 0 0) [.ref (c), .int (nI (zkl b)), .ref (r), .int (nI (k)), .ref (q)] h n (fun v h' n' => v = none ∧ n' = n ∧ zsm h h' (zcs c q) ∧ zrow h' q K (zdce b xs k) ∧ zcy h' c) := by
  refine zMt.of [some (.ref (c)), some (.int (nI (zkl b))), some (.ref (r)), some (.int (nI (k))), some (.ref (q)), none] (by decide) rfl (Nat.le_of_ble_eq_true rfl) ?_
  obtain ⟨Qf, hQ⟩ : ∃ Qf : ZQ, Qf = (fun v h' n' => v = none ∧ n' = n ∧ zsm h h' (zcs c q) ∧ zrow h' q K (zdce b xs k) ∧ zcy h' c) := ⟨_, rfl⟩
  rw [← hQ]
  have hz := zkl_or b
  obtain ⟨⟨rd, f, hcc⟩, ⟨ts, rt⟩, ⟨ps, rp⟩, ⟨ks, rk⟩, ⟨us, rx⟩⟩ := hc
  have h16 := hcc.1
  have q16 := hq.ge
  have hql := hq.len
  refine zp_aload_n dX0_stretch_0 rfl ?_
  refine zp_aload_n dX0_stretch_1 rfl ?_
  refine zp_iload_n dX0_stretch_2 rfl ?_
  refine zp_pc (pc' := 3) rfl ?_
  refine zp_callV (As := [.ref (r), .int (nI (k))]) (k := c) (st := []) (ci := 0) dX0_stretch_3 cX0_81 rfl hcc.2.1 rfl rfl (e_fillText (rd := rd) (k := k) h16 hcc.2.1 hx rt hr hl (by omega)) (by decide) (by decide) (Nat.le_of_ble_eq_true rfl) (fun v1 h1 n1 q1 => ?_)
  obtain ⟨rfl, N1, s1, r1⟩ := q1
  rw [N1]
  refine zp_nrm (cells' := 0) (slots' := 0) (st' := []) rfl rfl rfl ?_
  have y2_0 := ht.sm s1 (fun i hi => by unfold zrs at hi; omega)
  have y2_1 := hx.keep (s1 _ (by unfold zrs; omega)) (s1 _ (by unfold zrs; omega))
  have y2_2 := hq.keep (s1 _ (by unfold zrs; omega)) (s1 _ (by unfold zrs; omega))
  have y2_3 := rp.keep (s1 _ (by unfold zrs; omega)) (s1 _ (by unfold zrs; omega))
  have y2_4 := rk.keep (s1 _ (by unfold zrs; omega)) (s1 _ (by unfold zrs; omega))
  have y2_5 := rx.keep (s1 _ (by unfold zrs; omega)) (s1 _ (by unfold zrs; omega))
  have y2_6 : zcc h1 c rd f := hcc.keep (s1 _ (by unfold zrs; omega)) (s1 _ (by unfold zrs; omega)) (s1 _ (by unfold zrs; omega)) (s1 _ (by unfold zrs; omega))
  refine zp_aload_n dX0_stretch_6 rfl ?_
  refine zp_get dX0_stretch_7 gX0_37_0 y2_6.2.1 rfl ?_
  refine zp_pc (pc' := 10) rfl ?_
  refine zp_callV (As := []) (k := c + 8) (st := []) (ci := 6) dX0_stretch_10 cX0_75 rfl y2_4.2.1 rfl rfl (e_clear (N := 32) y2_4) (by decide) (by decide) (Nat.le_of_ble_eq_true rfl) (fun v3 h3 n3 q3 => ?_)
  obtain ⟨rfl, N3, s3, r3⟩ := q3
  rw [N3]
  refine zp_nrm (cells' := 0) (slots' := 0) (st' := []) rfl rfl rfl ?_
  have y4_0 := y2_0.sm s3 (fun i hi => by unfold zrs at hi; omega)
  have y4_1 := y2_2.keep (s3 _ (by unfold zrs; omega)) (s3 _ (by unfold zrs; omega))
  have y4_2 := r1.keep (s3 _ (by unfold zrs; omega)) (s3 _ (by unfold zrs; omega))
  have y4_3 := y2_3.keep (s3 _ (by unfold zrs; omega)) (s3 _ (by unfold zrs; omega))
  have y4_4 := y2_5.keep (s3 _ (by unfold zrs; omega)) (s3 _ (by unfold zrs; omega))
  have y4_5 : zcc h3 c rd f := y2_6.keep (s3 _ (by unfold zrs; omega)) (s3 _ (by unfold zrs; omega)) (s3 _ (by unfold zrs; omega)) (s3 _ (by unfold zrs; omega))
  have sA : zsm h h3 (zcs c q) := (s1.mono (fun i hi => by unfold zcs; unfold zrs at hi; omega)).trans (s3.mono (fun i hi => by unfold zcs; unfold zrs at hi; omega))
  refine zp_iconst (v := nI (0)) dX0_stretch_13 (by decide) ?_
  refine zp_istore (ls' := [some (.ref (c)), some (.int (nI (zkl b))), some (.ref (r)), some (.int (nI (k))), some (.ref (q)), some (.int (nI (0)))]) dX0_stretch_14 (by decide) rfl ?_
  refine zp_pc (pc' := 16) rfl ?_
  have tl := zstf_16 xs k
  have lp : ∀ (m : Nat) (j : Nat) (g1 : ZH), m = zkl b - j → j ≤ zkl b → zsm h g1 (zcs c q) → ztab g1 → zrow g1 q K ys → zrow g1 (c + 4) 512 (zstf xs k) → zrow g1 (c + 6) 48 ps → zrow g1 (c + 8) 32 (List.range j) → zrow g1 (c + 10) 16 us → zcc g1 c rd f → zP g mX0_stretch (zR 5 0 0) Qf 0 0 16 [some (.ref (c)), some (.int (nI (zkl b))), some (.ref (r)), some (.int (nI (k))), some (.ref (q)), some (.int (nI (j)))] [] g1 n := by
    intro m
    induction m using Nat.strongRecOn with
    | _ m ih =>
      intro j g1 hm hj hs b1 b2 b3 b4 b5 b6 b7
      have el : (List.range j).length = j := List.length_range
      refine zp_iload dX0_stretch_16 rfl ?_
      refine zp_iload_n dX0_stretch_18 rfl ?_
      refine zp_pc (pc' := 19) rfl ?_
      refine zn_icmp_ge (tgt := 37) dX0_stretch_19 (by decide) (by omega) (by omega) (fun c19 => ?_) (fun c19 => ?_)
      · have ej : j = zkl b := by omega
        subst ej
        refine zp_aload_n dX0_stretch_37 rfl ?_
        refine zp_aload_n dX0_stretch_38 rfl ?_
        refine zp_get dX0_stretch_39 gX0_37_0 b7.2.1 rfl ?_
        refine zp_pc (pc' := 42) rfl ?_
        refine zp_callV (As := [.ref (c + 8)]) (k := c) (st := []) (ci := 0) dX0_stretch_42 cX0_85 rfl b7.2.1 rfl rfl (e_useKey (b := b) (N := 32) (ks := zJ b) b1 b7 b5 (zJ_len b) (by omega)) (by decide) (by decide) (Nat.le_of_ble_eq_true rfl) (fun v5 h5 n5 q5 => ?_)
        obtain ⟨rfl, N5, s5, k5⟩ := q5
        rw [N5]
        refine zp_nrm (cells' := 0) (slots' := 0) (st' := []) rfl rfl rfl ?_
        have y6_0 := b1.sm s5 (fun i hi => by omega)
        have y6_1 := b2.keep (s5 _ (by omega)) (s5 _ (by omega))
        have y6_2 := b3.keep (s5 _ (by omega)) (s5 _ (by omega))
        have y6_3 := b4.keep (s5 _ (by omega)) (s5 _ (by omega))
        have y6_4 := b5.keep (s5 _ (by omega)) (s5 _ (by omega))
        have y6_5 := b6.keep (s5 _ (by omega)) (s5 _ (by omega))
        refine zp_aload_n dX0_stretch_45 rfl ?_
        refine zp_get dX0_stretch_46 gX0_34_0 k5.obj rfl ?_
        refine zp_pc (pc' := 49) rfl ?_
        refine zp_callV (As := []) (k := c + 6) (st := []) (ci := 6) dX0_stretch_49 cX0_75 rfl y6_3.2.1 rfl rfl (e_clear (N := 48) y6_3) (by decide) (by decide) (Nat.le_of_ble_eq_true rfl) (fun v7 h7 n7 q7 => ?_)
        obtain ⟨rfl, N7, s7, r7⟩ := q7
        rw [N7]
        refine zp_nrm (cells' := 0) (slots' := 0) (st' := []) rfl rfl rfl ?_
        have y8_0 := y6_0.sm s7 (fun i hi => by unfold zrs at hi; omega)
        have y8_1 := y6_1.keep (s7 _ (by unfold zrs; omega)) (s7 _ (by unfold zrs; omega))
        have y8_2 := y6_2.keep (s7 _ (by unfold zrs; omega)) (s7 _ (by unfold zrs; omega))
        have y8_3 := y6_4.keep (s7 _ (by unfold zrs; omega)) (s7 _ (by unfold zrs; omega))
        have y8_4 := y6_5.keep (s7 _ (by unfold zrs; omega)) (s7 _ (by unfold zrs; omega))
        have y8_5 : zckd h7 c b (zJ b) := k5.keep (s7 _ (by unfold zrs; omega)) (s7 _ (by unfold zrs; omega)) (s7 _ (by unfold zrs; omega)) (s7 _ (by unfold zrs; omega))
        have sB : zsm h h7 (zcs c q) := (hs.trans (s5.mono (fun i hi => by unfold zcs; omega))).trans (s7.mono (fun i hi => by unfold zcs; unfold zrs at hi; omega))
        refine zp_iconst (v := nI (0)) dX0_stretch_52 (by decide) ?_
        refine zp_istore (ls' := [some (.ref (c)), some (.int (nI (zkl b))), some (.ref (r)), some (.int (nI (k))), some (.ref (q)), some (.int (nI (0)))]) dX0_stretch_53 (by decide) rfl ?_
        refine zp_pc (pc' := 55) rfl ?_
        have lp2 : ∀ (m : Nat) (i : Nat) (g2 : ZH) (us : List Nat), m = zkl b / 16 + 1 - i → i ≤ zkl b / 16 + 1 → zsm h g2 (zcs c q) → ztab g2 → zrow g2 q K ys → zrow g2 (c + 4) 512 (zstf xs k) → zrow g2 (c + 6) 48 ((List.range (i)).flatMap (fun i => zchn b (zJ b) (zstf xs k) i ((zstf xs k).length / 16))) → zrow g2 (c + 8) 32 (zJ b) → zrow g2 (c + 10) 16 us → zckd g2 c b (zJ b) → zP g mX0_stretch (zR 5 0 0) Qf 0 0 55 [some (.ref (c)), some (.int (nI (zkl b))), some (.ref (r)), some (.int (nI (k))), some (.ref (q)), some (.int (nI (i)))] [] g2 n := by
          intro m
          induction m using Nat.strongRecOn with
          | _ m ih =>
            intro i g2 us hm2 hi hs2 d1 d2 d3 d4 d5 d6 d7
            have fl := zflat_len (fun i => zchn b (zJ b) (zstf xs k) i ((zstf xs k).length / 16)) 16 (fun i => zchn_len _ _ _ _ _) i
            have cl := zchn_len b (zJ b) (zstf xs k) i ((zstf xs k).length / 16)
            refine zp_iload dX0_stretch_55 rfl ?_
            refine zp_bipush (v := nI (16)) dX0_stretch_57 (by decide) ?_
            refine zn_imul dX0_stretch_59 ?_
            refine zp_iload_n dX0_stretch_60 rfl ?_
            refine zp_bipush (v := nI (16)) dX0_stretch_61 (by decide) ?_
            refine zn_iadd dX0_stretch_63 ?_
            refine zp_pc (pc' := 64) rfl ?_
            refine zn_icmp_ge (tgt := 90) dX0_stretch_64 (by decide) (by omega) (by omega) (fun c64 => ?_) (fun c64 => ?_)
            · have ei : i = zkl b / 16 + 1 := by omega
              subst ei
              have ttl := zTT_len b (zstf xs k)
              refine zp_aload_n dX0_stretch_90 rfl ?_
              refine zp_get dX0_stretch_91 gX0_37_0 d7.obj rfl ?_
              refine zp_aload_n dX0_stretch_94 rfl ?_
              refine zp_get dX0_stretch_95 gX0_34_0 d7.obj rfl ?_
              refine zp_iconst (v := nI (0)) dX0_stretch_98 (by decide) ?_
              refine zp_iload_n dX0_stretch_99 rfl ?_
              refine zp_pc (pc' := 100) rfl ?_
              refine zp_callV (As := [.ref (c + 6), .int (nI (0)), .int (nI (zkl b))]) (k := c + 8) (st := []) (ci := 6) dX0_stretch_100 cX0_95 rfl d5.2.1 rfl rfl (e_becomePart (N := 32) (K := 48) (a := 0) (c := zkl b) (ys := (zTT b (zstf xs k))) d5 d4 (by omega) (by omega) (by rw [zpart_len]; omega)) (by decide) (by decide) (Nat.le_of_ble_eq_true rfl) (fun v9 h9 n9 q9 => ?_)
              obtain ⟨rfl, N9, s9, r9⟩ := q9
              rw [N9]
              refine zp_nrm (cells' := 0) (slots' := 0) (st' := []) rfl rfl rfl ?_
              have y10_0 := d1.sm s9 (fun i hi => by unfold zrs at hi; omega)
              have y10_1 := d2.keep (s9 _ (by unfold zrs; omega)) (s9 _ (by unfold zrs; omega))
              have y10_2 := d3.keep (s9 _ (by unfold zrs; omega)) (s9 _ (by unfold zrs; omega))
              have y10_3 := d4.keep (s9 _ (by unfold zrs; omega)) (s9 _ (by unfold zrs; omega))
              have y10_4 := d6.keep (s9 _ (by unfold zrs; omega)) (s9 _ (by unfold zrs; omega))
              have y10_5 : zckd h9 c b (zJ b) := d7.keep (s9 _ (by unfold zrs; omega)) (s9 _ (by unfold zrs; omega)) (s9 _ (by unfold zrs; omega)) (s9 _ (by unfold zrs; omega))
              refine zp_aload_n dX0_stretch_103 rfl ?_
              refine zp_get dX0_stretch_104 gX0_40_0 y10_5.obj rfl ?_
              refine zp_aload_n dX0_stretch_107 rfl ?_
              refine zp_get dX0_stretch_108 gX0_34_0 y10_5.obj rfl ?_
              refine zp_iload_n dX0_stretch_111 rfl ?_
              refine zp_bipush (v := nI (16)) dX0_stretch_112 (by decide) ?_
              refine zp_pc (pc' := 114) rfl ?_
              refine zp_callV (As := [.ref (c + 6), .int (nI (zkl b)), .int (nI (16))]) (k := c + 10) (st := []) (ci := 6) dX0_stretch_114 cX0_95 rfl y10_4.2.1 rfl rfl (e_becomePart (N := 16) (K := 48) (a := zkl b) (c := 16) (ys := (zTT b (zstf xs k))) y10_4 y10_3 (by omega) (by omega) (by rw [zpart_len]; omega)) (by decide) (by decide) (Nat.le_of_ble_eq_true rfl) (fun v11 h11 n11 q11 => ?_)
              obtain ⟨rfl, N11, s11, r11⟩ := q11
              rw [N11]
              refine zp_nrm (cells' := 0) (slots' := 0) (st' := []) rfl rfl rfl ?_
              have y12_0 := y10_0.sm s11 (fun i hi => by unfold zrs at hi; omega)
              have y12_1 := y10_1.keep (s11 _ (by unfold zrs; omega)) (s11 _ (by unfold zrs; omega))
              have y12_2 := y10_2.keep (s11 _ (by unfold zrs; omega)) (s11 _ (by unfold zrs; omega))
              have y12_3 := y10_3.keep (s11 _ (by unfold zrs; omega)) (s11 _ (by unfold zrs; omega))
              have y12_4 := r9.keep (s11 _ (by unfold zrs; omega)) (s11 _ (by unfold zrs; omega))
              have y12_5 : zckd h11 c b (zJ b) := y10_5.keep (s11 _ (by unfold zrs; omega)) (s11 _ (by unfold zrs; omega)) (s11 _ (by unfold zrs; omega)) (s11 _ (by unfold zrs; omega))
              refine zp_aload_n dX0_stretch_117 rfl ?_
              refine zp_aload_n dX0_stretch_118 rfl ?_
              refine zp_get dX0_stretch_119 gX0_37_0 y12_5.obj rfl ?_
              refine zp_pc (pc' := 122) rfl ?_
              obtain ⟨rd3, f3, cc3⟩ := y12_5.zcc
              refine zp_callV (As := [.ref (c + 8)]) (k := c) (st := []) (ci := 0) dX0_stretch_122 cX0_85 rfl y12_5.obj rfl rfl (e_useKey (b := b) (N := 32) (ks := (zpart (zTT b (zstf xs k)) 0 (zkl b))) y12_0 cc3 y12_4 (by rw [zpart_len]; omega) (by omega)) (by decide) (by decide) (Nat.le_of_ble_eq_true rfl) (fun v13 h13 n13 q13 => ?_)
              obtain ⟨rfl, N13, s13, k13⟩ := q13
              rw [N13]
              refine zp_nrm (cells' := 0) (slots' := 0) (st' := []) rfl rfl rfl ?_
              have y14_0 := y12_0.sm s13 (fun i hi => by omega)
              have y14_1 := y12_1.keep (s13 _ (by omega)) (s13 _ (by omega))
              have y14_2 := y12_2.keep (s13 _ (by omega)) (s13 _ (by omega))
              have y14_3 := y12_3.keep (s13 _ (by omega)) (s13 _ (by omega))
              have y14_4 := y12_4.keep (s13 _ (by omega)) (s13 _ (by omega))
              have y14_5 := r11.keep (s13 _ (by omega)) (s13 _ (by omega))
              refine zp_aload dX0_stretch_125 rfl ?_
              refine zp_pc (pc' := 127) rfl ?_
              refine zp_callV (As := []) (k := q) (st := []) (ci := 6) dX0_stretch_127 cX0_75 rfl y14_1.2.1 rfl rfl (e_clear (N := K) y14_1) (by decide) (by decide) (Nat.le_of_ble_eq_true rfl) (fun v15 h15 n15 q15 => ?_)
              obtain ⟨rfl, N15, s15, r15⟩ := q15
              rw [N15]
              refine zp_nrm (cells' := 0) (slots' := 0) (st' := []) rfl rfl rfl ?_
              have y16_0 := y14_0.sm s15 (fun i hi => by unfold zrs at hi; omega)
              have y16_1 := y14_2.keep (s15 _ (by unfold zrs; omega)) (s15 _ (by unfold zrs; omega))
              have y16_2 := y14_3.keep (s15 _ (by unfold zrs; omega)) (s15 _ (by unfold zrs; omega))
              have y16_3 := y14_4.keep (s15 _ (by unfold zrs; omega)) (s15 _ (by unfold zrs; omega))
              have y16_4 := y14_5.keep (s15 _ (by unfold zrs; omega)) (s15 _ (by unfold zrs; omega))
              have y16_5 : zckd h15 c b (zpart (zTT b (zstf xs k)) 0 (zkl b)) := k13.keep (s15 _ (by unfold zrs; omega)) (s15 _ (by unfold zrs; omega)) (s15 _ (by unfold zrs; omega)) (s15 _ (by unfold zrs; omega))
              have sC : zsm h h15 (zcs c q) := (((hs2.trans (s9.mono (fun i hi => by unfold zcs; unfold zrs at hi; omega))).trans (s11.mono (fun i hi => by unfold zcs; unfold zrs at hi; omega))).trans (s13.mono (fun i hi => by unfold zcs; omega))).trans (s15.mono (fun i hi => by unfold zcs; unfold zrs at hi; omega))
              refine zp_iconst (v := nI (0)) dX0_stretch_130 (by decide) ?_
              refine zp_istore (ls' := [some (.ref (c)), some (.int (nI (zkl b))), some (.ref (r)), some (.int (nI (k))), some (.ref (q)), some (.int (nI (0)))]) dX0_stretch_131 (by decide) rfl ?_
              refine zp_pc (pc' := 133) rfl ?_
              have lp3 : ∀ (m : Nat) (c2 : Nat) (g3 : ZH), m = k - c2 → c2 ≤ k → zsm h g3 (zcs c q) → ztab g3 → zrow g3 q K ((zcte b (zpart (zTT b (zstf xs k)) 0 (zkl b)) (zpart (zTT b (zstf xs k)) (zkl b) 16) c2).take k) → zrow g3 (c + 4) 512 (zstf xs k) → zrow g3 (c + 6) 48 (zTT b (zstf xs k)) → zrow g3 (c + 8) 32 (zpart (zTT b (zstf xs k)) 0 (zkl b)) → zrow g3 (c + 10) 16 (zit b (zpart (zTT b (zstf xs k)) 0 (zkl b)) (zpart (zTT b (zstf xs k)) (zkl b) 16) c2) → zckd g3 c b (zpart (zTT b (zstf xs k)) 0 (zkl b)) → zP g mX0_stretch (zR 5 0 0) Qf 0 0 133 [some (.ref (c)), some (.int (nI (zkl b))), some (.ref (r)), some (.int (nI (k))), some (.ref (q)), some (.int (nI (c2)))] [] g3 n := by
                intro m
                induction m using Nat.strongRecOn with
                | _ m ih =>
                  intro c2 g3 hm3 hc3 hs3 v1 v2 v3 v4 v5 v6 v7
                  have cl3 := zcte_len b (zpart (zTT b (zstf xs k)) 0 (zkl b)) (zpart (zTT b (zstf xs k)) (zkl b) 16) c2
                  have il : (zit b (zpart (zTT b (zstf xs k)) 0 (zkl b)) (zpart (zTT b (zstf xs k)) (zkl b) 16) c2).length = 16 := by
                    cases c2
                    · rw [zit, zpart_len]; omega
                    · exact zenc_len _ _ _
                  refine zp_iload dX0_stretch_133 rfl ?_
                  refine zp_iload_n dX0_stretch_135 rfl ?_
                  refine zp_pc (pc' := 136) rfl ?_
                  refine zn_icmp_ge (tgt := 183) dX0_stretch_136 (by decide) (by omega) (by omega) (fun c136 => ?_) (fun c136 => ?_)
                  · have fe : (zcte b (zpart (zTT b (zstf xs k)) 0 (zkl b)) (zpart (zTT b (zstf xs k)) (zkl b) 16) c2).take k = zdce b xs k := zcte_take (by omega) (Or.inr (by omega))
                    rw [fe] at v2
                    refine zp_ret (v := none) dX0_stretch_183 ⟨rfl, rfl⟩ (by decide) (by decide) ?_
                    rw [hQ]
                    exact ⟨rfl, rfl, hs3, v2, v7.zcc, ⟨_, v3⟩, ⟨_, v4⟩, ⟨_, v5⟩, ⟨_, v6⟩⟩
                  · refine zp_aload dX0_stretch_139 rfl ?_
                    refine zp_pc (pc' := 141) rfl ?_
                    refine zp_callV (As := []) (k := q) (st := []) (ci := 6) dX0_stretch_141 cX0_43 rfl v2.2.1 rfl rfl (e_length (N := K) v2) (by decide) (by decide) (Nat.le_of_ble_eq_true rfl) (fun v17 h17 n17 q17 => ?_)
                    obtain ⟨rfl, H17, N17⟩ := q17
                    rw [N17, H17]
                    refine zp_nrm (cells' := 0) (slots' := 0) (st' := [.int (nI (((zcte b (zpart (zTT b (zstf xs k)) 0 (zkl b)) (zpart (zTT b (zstf xs k)) (zkl b) 16) c2).take k).length))]) rfl rfl rfl ?_
                    have tl3 : ((zcte b (zpart (zTT b (zstf xs k)) 0 (zkl b)) (zpart (zTT b (zstf xs k)) (zkl b) 16) c2).take k).length = min k (c2 * 16) := by rw [List.length_take, cl3]
                    refine zp_iload_n dX0_stretch_144 rfl ?_
                    refine zp_pc (pc' := 145) rfl ?_
                    refine zn_icmp_ge (tgt := 183) dX0_stretch_145 (by decide) (by omega) (by omega) (fun c145 => ?_) (fun c145 => ?_)
                    · have fe : (zcte b (zpart (zTT b (zstf xs k)) 0 (zkl b)) (zpart (zTT b (zstf xs k)) (zkl b) 16) c2).take k = zdce b xs k := zcte_take (by omega) (Or.inl (by omega))
                      rw [fe] at v2
                      refine zp_ret (v := none) dX0_stretch_183 ⟨rfl, rfl⟩ (by decide) (by decide) ?_
                      rw [hQ]
                      exact ⟨rfl, rfl, hs3, v2, v7.zcc, ⟨_, v3⟩, ⟨_, v4⟩, ⟨_, v5⟩, ⟨_, v6⟩⟩
                    · have tk : (zcte b (zpart (zTT b (zstf xs k)) 0 (zkl b)) (zpart (zTT b (zstf xs k)) (zkl b) 16) c2).take k = (zcte b (zpart (zTT b (zstf xs k)) 0 (zkl b)) (zpart (zTT b (zstf xs k)) (zkl b) 16) c2) := List.take_of_length_le (by omega)
                      rw [tk] at v2
                      refine zp_aload_n dX0_stretch_148 rfl ?_
                      refine zp_aload_n dX0_stretch_149 rfl ?_
                      refine zp_get dX0_stretch_150 gX0_40_0 v7.obj rfl ?_
                      refine zp_aload_n dX0_stretch_153 rfl ?_
                      refine zp_get dX0_stretch_154 gX0_40_0 v7.obj rfl ?_
                      refine zp_pc (pc' := 157) rfl ?_
                      refine zp_callV (As := [.ref (c + 10), .ref (c + 10)]) (k := c) (st := []) (ci := 0) dX0_stretch_157 cX0_99 rfl v7.obj rfl rfl (e_encrypt (b := b) (N := 16) (K := 16) v1 v7 v6 v6 il (by omega) (by omega) (by decide)) (by decide) (by decide) (Nat.le_of_ble_eq_true rfl) (fun v18 h18 n18 q18 => ?_)
                      obtain ⟨rfl, N18, s18, r18, k18⟩ := q18
                      rw [N18]
                      refine zp_nrm (cells' := 0) (slots' := 0) (st' := []) rfl rfl rfl ?_
                      have y19_0 := v1.sm s18 (fun i hi => by unfold zes at hi; omega)
                      have y19_1 := v2.keep (s18 _ (by unfold zes; omega)) (s18 _ (by unfold zes; omega))
                      have y19_2 := v3.keep (s18 _ (by unfold zes; omega)) (s18 _ (by unfold zes; omega))
                      have y19_3 := v4.keep (s18 _ (by unfold zes; omega)) (s18 _ (by unfold zes; omega))
                      have y19_4 := v5.keep (s18 _ (by unfold zes; omega)) (s18 _ (by unfold zes; omega))
                      refine zp_aload dX0_stretch_160 rfl ?_
                      refine zp_aload_n dX0_stretch_162 rfl ?_
                      refine zp_get dX0_stretch_163 gX0_40_0 k18.obj rfl ?_
                      refine zp_iconst (v := nI (0)) dX0_stretch_166 (by decide) ?_
                      refine zp_iload_n dX0_stretch_167 rfl ?_
                      refine zp_aload dX0_stretch_168 rfl ?_
                      refine zp_pc (pc' := 170) rfl ?_
                      refine zp_callV (As := []) (k := q) (st := [.int (nI (k)), .int (nI (0)), .ref (c + 10), .ref (q)]) (ci := 6) dX0_stretch_170 cX0_43 rfl y19_1.2.1 rfl rfl (e_length (N := K) y19_1) (by decide) (by decide) (Nat.le_of_ble_eq_true rfl) (fun v20 h20 n20 q20 => ?_)
                      obtain ⟨rfl, H20, N20⟩ := q20
                      rw [N20, H20]
                      refine zp_nrm (cells' := 0) (slots' := 0) (st' := [.int (nI ((zcte b (zpart (zTT b (zstf xs k)) 0 (zkl b)) (zpart (zTT b (zstf xs k)) (zkl b) 16) c2).length)), .int (nI (k)), .int (nI (0)), .ref (c + 10), .ref (q)]) rfl rfl rfl ?_
                      refine zn_isub dX0_stretch_173 (by omega) ?_
                      refine zp_pc (pc' := 174) rfl ?_
                      refine zp_callV (As := [.ref (c + 10), .int (nI (0)), .int (nI ((k) - ((zcte b (zpart (zTT b (zstf xs k)) 0 (zkl b)) (zpart (zTT b (zstf xs k)) (zkl b) 16) c2).length)))]) (k := q) (st := []) (ci := 6) dX0_stretch_174 cX0_103 rfl y19_1.2.1 rfl rfl (e_appendPart (N := K) (K := 16) (a := 0) (c := k - (zcte b (zpart (zTT b (zstf xs k)) 0 (zkl b)) (zpart (zTT b (zstf xs k)) (zkl b) 16) c2).length) y19_1 r18 (by omega) (by omega) (by rw [zpart_len, zenc_len]; omega)) (by decide) (by decide) (Nat.le_of_ble_eq_true rfl) (fun v21 h21 n21 q21 => ?_)
                      obtain ⟨rfl, N21, s21, r21⟩ := q21
                      rw [N21]
                      refine zp_nrm (cells' := 0) (slots' := 0) (st' := []) rfl rfl rfl ?_
                      have y22_0 := y19_0.sm s21 (fun i hi => by unfold zrs at hi; omega)
                      have y22_1 := y19_2.keep (s21 _ (by unfold zrs; omega)) (s21 _ (by unfold zrs; omega))
                      have y22_2 := y19_3.keep (s21 _ (by unfold zrs; omega)) (s21 _ (by unfold zrs; omega))
                      have y22_3 := y19_4.keep (s21 _ (by unfold zrs; omega)) (s21 _ (by unfold zrs; omega))
                      have y22_4 := r18.keep (s21 _ (by unfold zrs; omega)) (s21 _ (by unfold zrs; omega))
                      have y22_5 : zckd h21 c b (zpart (zTT b (zstf xs k)) 0 (zkl b)) := k18.keep (s21 _ (by unfold zrs; omega)) (s21 _ (by unfold zrs; omega)) (s21 _ (by unfold zrs; omega)) (s21 _ (by unfold zrs; omega))
                      refine zn_iinc 1 (ls' := [some (.ref (c)), some (.int (nI (zkl b))), some (.ref (r)), some (.int (nI (k))), some (.ref (q)), some (.int (nI (c2 + 1)))]) dX0_stretch_177 (by decide) (by decide) rfl rfl ?_
                      refine zp_pc (pc' := 180) rfl ?_
                      refine zp_goto (tgt := 133) dX0_stretch_180 (by decide) ?_
                      refine zp_pc (pc' := 133) rfl ?_
                      refine ih (k - (c2 + 1)) (by omega) (c2 + 1) h21 rfl (by omega) ((hs3.trans (s18.mono (fun i hi => by unfold zcs; unfold zes at hi; omega))).trans (s21.mono (fun i hi => by unfold zcs; unfold zrs at hi; omega))) y22_0 ?_ y22_1 y22_2 y22_3 y22_4 y22_5
                      have e9 : zcte b (zpart (zTT b (zstf xs k)) 0 (zkl b)) (zpart (zTT b (zstf xs k)) (zkl b) 16) (c2 + 1) = (zcte b (zpart (zTT b (zstf xs k)) 0 (zkl b)) (zpart (zTT b (zstf xs k)) (zkl b) 16) c2) ++ zit b (zpart (zTT b (zstf xs k)) 0 (zkl b)) (zpart (zTT b (zstf xs k)) (zkl b) 16) (c2 + 1) := (zflat_succ _ _).symm
                      rw [e9, List.take_append, tk]
                      exact r21
              exact lp3 _ 0 h15 rfl (Nat.zero_le _) sC y16_0 (by show zrow _ _ _ (List.take k []); rw [List.take_nil]; exact r15) y16_1 y16_2 y16_3 y16_4 y16_5
            · refine zp_aload_n dX0_stretch_67 rfl ?_
              refine zp_iload dX0_stretch_68 rfl ?_
              refine zp_pc (pc' := 70) rfl ?_
              refine zp_callV (As := [.int (nI (i))]) (k := c) (st := []) (ci := 0) dX0_stretch_70 cX0_89 rfl d7.obj rfl rfl (e_chainText (b := b) (i := i) (ks := zJ b) (ts := (zstf xs k)) d1 d7 d6 d3 (by omega) tl.1) (by decide) (by decide) (Nat.le_of_ble_eq_true rfl) (fun v23 h23 n23 q23 => ?_)
              obtain ⟨rfl, N23, s23, r23, k23⟩ := q23
              rw [N23]
              refine zp_nrm (cells' := 0) (slots' := 0) (st' := []) rfl rfl rfl ?_
              have y24_0 := d1.sm s23 (fun i hi => by unfold zes at hi; omega)
              have y24_1 := d2.keep (s23 _ (by unfold zes; omega)) (s23 _ (by unfold zes; omega))
              have y24_2 := d3.keep (s23 _ (by unfold zes; omega)) (s23 _ (by unfold zes; omega))
              have y24_3 := d4.keep (s23 _ (by unfold zes; omega)) (s23 _ (by unfold zes; omega))
              have y24_4 := d5.keep (s23 _ (by unfold zes; omega)) (s23 _ (by unfold zes; omega))
              refine zp_aload_n dX0_stretch_73 rfl ?_
              refine zp_get dX0_stretch_74 gX0_34_0 k23.obj rfl ?_
              refine zp_aload_n dX0_stretch_77 rfl ?_
              refine zp_get dX0_stretch_78 gX0_40_0 k23.obj rfl ?_
              refine zp_pc (pc' := 81) rfl ?_
              refine zp_callV (As := [.ref (c + 10)]) (k := c + 6) (st := []) (ci := 6) dX0_stretch_81 cX0_92 rfl y24_3.2.1 rfl rfl (e_appendRow (N := 48) (K := 16) y24_3 r23 (by omega) (by omega)) (by decide) (by decide) (Nat.le_of_ble_eq_true rfl) (fun v25 h25 n25 q25 => ?_)
              obtain ⟨rfl, N25, s25, r25⟩ := q25
              rw [N25]
              refine zp_nrm (cells' := 0) (slots' := 0) (st' := []) rfl rfl rfl ?_
              have y26_0 := y24_0.sm s25 (fun i hi => by unfold zrs at hi; omega)
              have y26_1 := y24_1.keep (s25 _ (by unfold zrs; omega)) (s25 _ (by unfold zrs; omega))
              have y26_2 := y24_2.keep (s25 _ (by unfold zrs; omega)) (s25 _ (by unfold zrs; omega))
              have y26_3 := y24_4.keep (s25 _ (by unfold zrs; omega)) (s25 _ (by unfold zrs; omega))
              have y26_4 := r23.keep (s25 _ (by unfold zrs; omega)) (s25 _ (by unfold zrs; omega))
              have y26_5 : zckd h25 c b (zJ b) := k23.keep (s25 _ (by unfold zrs; omega)) (s25 _ (by unfold zrs; omega)) (s25 _ (by unfold zrs; omega)) (s25 _ (by unfold zrs; omega))
              refine zn_iinc 1 (ls' := [some (.ref (c)), some (.int (nI (zkl b))), some (.ref (r)), some (.int (nI (k))), some (.ref (q)), some (.int (nI (i + 1)))]) dX0_stretch_84 (by decide) (by decide) rfl rfl ?_
              refine zp_pc (pc' := 87) rfl ?_
              refine zp_goto (tgt := 55) dX0_stretch_87 (by decide) ?_
              refine zp_pc (pc' := 55) rfl ?_
              refine ih (zkl b / 16 + 1 - (i + 1)) (by omega) (i + 1) h25 _ rfl (by omega) ((hs2.trans (s23.mono (fun i hi => by unfold zcs; unfold zes at hi; omega))).trans (s25.mono (fun i hi => by unfold zcs; unfold zrs at hi; omega))) y26_0 y26_1 y26_2 ?_ y26_3 y26_4 y26_5
              rw [← zflat_succ]; exact r25
        exact lp2 _ 0 h7 us rfl (Nat.zero_le _) sB y8_0 y8_1 y8_2 r7 y8_3 y8_4 y8_5
      · refine zp_aload_n dX0_stretch_22 rfl ?_
        refine zp_get dX0_stretch_23 gX0_37_0 b7.2.1 rfl ?_
        refine zp_iload dX0_stretch_26 rfl ?_
        refine zp_pc (pc' := 28) rfl ?_
        refine zp_callV (As := [.int (nI (j))]) (k := c + 8) (st := []) (ci := 6) dX0_stretch_28 cX0_78 rfl b5.2.1 rfl rfl (e_append (N := 32) (b := nI j) b5 (by omega)) (by decide) (by decide) (Nat.le_of_ble_eq_true rfl) (fun v27 h27 n27 q27 => ?_)
        obtain ⟨rfl, N27, s27, r27⟩ := q27
        rw [N27]
        refine zp_nrm (cells' := 0) (slots' := 0) (st' := []) rfl rfl rfl ?_
        have y28_0 := b1.sm s27 (fun i hi => by unfold zrs at hi; omega)
        have y28_1 := b2.keep (s27 _ (by unfold zrs; omega)) (s27 _ (by unfold zrs; omega))
        have y28_2 := b3.keep (s27 _ (by unfold zrs; omega)) (s27 _ (by unfold zrs; omega))
        have y28_3 := b4.keep (s27 _ (by unfold zrs; omega)) (s27 _ (by unfold zrs; omega))
        have y28_4 := b6.keep (s27 _ (by unfold zrs; omega)) (s27 _ (by unfold zrs; omega))
        have y28_5 : zcc h27 c rd f := b7.keep (s27 _ (by unfold zrs; omega)) (s27 _ (by unfold zrs; omega)) (s27 _ (by unfold zrs; omega)) (s27 _ (by unfold zrs; omega))
        rw [znI_nat (by omega), Nat.mod_eq_of_lt (by omega), ← List.range_succ] at r27
        refine zn_iinc 1 (ls' := [some (.ref (c)), some (.int (nI (zkl b))), some (.ref (r)), some (.int (nI (k))), some (.ref (q)), some (.int (nI (j + 1)))]) dX0_stretch_31 (by decide) (by decide) rfl rfl ?_
        refine zp_pc (pc' := 34) rfl ?_
        refine zp_goto (tgt := 16) dX0_stretch_34 (by decide) ?_
        refine zp_pc (pc' := 16) rfl ?_
        exact ih (zkl b - (j + 1)) (by omega) (j + 1) h27 rfl (by omega) (hs.trans (s27.mono (fun i hi => by unfold zcs; unfold zrs at hi; omega))) y28_0 y28_1 y28_2 y28_3 r27 y28_4 y28_5
  exact lp _ 0 h3 rfl (Nat.zero_le _) sA y4_0 y4_1 y4_2 y4_3 r3 y4_4 y4_5
