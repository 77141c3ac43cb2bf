abbrev zes2 (c : Nat) : Nat → Prop := fun i => i = c + 2 ∨ i = c + 3
abbrev zes (c q : Nat) : Nat → Prop := fun i => i = c + 2 ∨ i = c + 3 ∨ i = q ∨ i = q + 1
set_option maxRecDepth 10000 in
set_option maxHeartbeats 2000000 in
theorem e_encrypt {g : ZG} {h : ZH} {n : Nat} {c r q N K : Nat} {b : Bool} {ks xs ys : List Nat} (ht : ztab h) (hc : zckd h c b ks) (hx : zrow h r N xs) (hq : zrow h q K ys) (hl : xs.length = 16) (hr : r + 1 < c ∨ c + 3 < r) (hqc : q + 1 < c ∨ c + 3 < q) (hK : 16 ≤ K) : zMt g mX0_encrypt (zR 3 0 0) [.ref (c), .ref (r), .ref (q)] h n (fun v h' n' => v = none ∧ n' = n ∧ zsm h h' (zes c q) ∧ zrow h' q K (zenc b ks xs) ∧ zckd h' c b ks) := by
  refine zMt.of [some (.ref (c)), some (.ref (r)), some (.ref (q)), none] (by decide) rfl (Nat.le_of_ble_eq_true rfl) ?_
  obtain ⟨Qf, hQ⟩ : ∃ Qf : ZQ, Qf = (fun v h' n' => v = none ∧ n' = n ∧ zsm h h' (zes c q) ∧ zrow h' q K (zenc b ks xs) ∧ zckd h' c b ks) := ⟨_, rfl⟩
  rw [← hQ]
  have hz := zkl_or b
  obtain ⟨hkb, f, ⟨h16, z0, z1, ⟨f2, z2⟩, ⟨f3, z3⟩⟩, hkf⟩ := id hc
  have hxl := hx.len
  have hql := hq.len
  have kb := fun i => zkf_lt (b := b) hkb i
  refine zp_aload_n dX0_encrypt_0 rfl ?_
  refine zp_aload_n dX0_encrypt_1 rfl ?_
  refine zp_get dX0_encrypt_2 gX0_13_0 z0 rfl ?_
  refine zp_bipush (v := nI (16)) dX0_encrypt_5 (by decide) ?_
  refine zp_pc (pc' := 7) rfl ?_
  refine zp_callV (As := [.ref (c + 2), .int (nI (16))]) (k := r) (st := []) (ci := 6) dX0_encrypt_7 cX0_51 rfl hx.2.1 rfl rfl (e_copyTo (N := N) (t := c + 2) (K := 16) (q := 16) hx z2 (by omega) (by decide) (by decide) (by omega)) (by decide) (by decide) (Nat.le_of_ble_eq_true rfl) (fun v1 h1 n1 q1 => ?_)
  obtain ⟨rfl, N1, s1, g1, m1, m2, -⟩ := q1
  rw [N1]
  refine zp_nrm (cells' := 0) (slots' := 0) (st' := [.int (nI (min (min xs.length 16) 16))]) rfl rfl rfl ?_
  have e0 : h1 c = some (zco c (nI (zro b))) := (s1 c (by omega)).trans z0
  have e1 : h1 (c + 1) = some (.inr (240, .inl f)) := (s1 _ (by omega)).trans z1
  have e3 : h1 (c + 3) = some (.inr (16, .inl f3)) := (s1 _ (by omega)).trans z3
  refine zp_pop dX0_encrypt_10 rfl ?_
  refine zp_aload_n dX0_encrypt_11 rfl ?_
  refine zp_iconst (v := nI (0)) dX0_encrypt_12 (by decide) ?_
  refine zp_pc (pc' := 13) rfl ?_
  refine zp_callV (As := [.int (nI (0))]) (k := c) (st := []) (ci := 0) dX0_encrypt_13 cX0_66 rfl e0 rfl rfl (e_addKey (r := 0) (K := zkf b ks) (s := fun k => xs.getD k 0) h16 e0 e1 m1 (by decide) (fun k hk => hkf _ (by omega)) (fun k hk => m2 k (by omega))) (by decide) (by decide) (Nat.le_of_ble_eq_true rfl) (fun v2 h2 n2 q2 => ?_)
  obtain ⟨rfl, N2, s2, g2, m3, m4⟩ := q2
  rw [N2]
  refine zp_nrm (cells' := 0) (slots' := 0) (st' := []) rfl rfl rfl ?_
  have s3 : zsm h h2 (zes2 c) := (s1.trans s2).mono (fun i hi => Or.inl hi)
  refine zp_iconst (v := nI (1)) dX0_encrypt_16 (by decide) ?_
  refine zp_istore_n (ls' := [some (.ref (c)), some (.ref (r)), some (.ref (q)), some (.int (nI (1)))]) dX0_encrypt_17 (by decide) rfl ?_
  refine zp_pc (pc' := 18) rfl ?_
  refine zp_ls (ls' := [some (.ref (c)), some (.ref (r)), some (.ref (q)), some (.int (nI (0 + 1)))]) rfl ?_
  have lp : ∀ (m : Nat) (u : Nat) (k1 : ZH) (fn fs : Nat → Int32), m = zro b - 1 - u → u ≤ zro b - 1 → zsm h k1 (zes2 c) → k1 (c + 2) = some (.inr (16, .inl fn)) → k1 (c + 3) = some (.inr (16, .inl fs)) → (∀ k, k < 16 → fn k = nI ((zrd (zkf b ks) (fun k => xs.getD k 0) u) k)) → zP g mX0_encrypt (zR 3 0 0) Qf 0 0 18 [some (.ref (c)), some (.ref (r)), some (.ref (q)), some (.int (nI (u + 1)))] [] k1 n := by
    intro m
    induction m using Nat.strongRecOn with
    | _ m ih =>
      intro u k1 fn fs hm hu hs b2 b3 hn
      have b0 : k1 c = some (zco c (nI (zro b))) := (hs c (by unfold zes2; omega)).trans z0
      have b1 : k1 (c + 1) = some (.inr (240, .inl f)) := (hs _ (by unfold zes2; omega)).trans z1
      have bt := ht.sm hs (fun i hi => by unfold zes2 at hi; omega)
      have hby := zby_rd (s := fun k => xs.getD k 0) kb (zby_of hx.bytes) u
      refine zp_iload_n dX0_encrypt_18 rfl ?_
      refine zp_aload_n dX0_encrypt_19 rfl ?_
      refine zp_get dX0_encrypt_20 gX0_19_0 b0 rfl ?_
      refine zp_pc (pc' := 23) rfl ?_
      refine zn_icmp_ge (tgt := 45) dX0_encrypt_23 (by decide) (by omega) (by omega) (fun c23 => ?_) (fun c23 => ?_)
      · have eu : u = zro b - 1 := by omega
        subst eu
        refine zp_aload_n dX0_encrypt_45 rfl ?_
        refine zp_pc (pc' := 46) rfl ?_
        refine zp_callV (As := []) (k := c) (st := []) (ci := 0) dX0_encrypt_46 cX0_69 rfl b0 rfl rfl (e_replaceAndShift (s := (zrd (zkf b ks) (fun k => xs.getD k 0) (zro b - 1))) h16 bt b0 b2 b3 hby hn) (by decide) (by decide) (Nat.le_of_ble_eq_true rfl) (fun v3 h3 n3 q3 => ?_)
        obtain ⟨rfl, N3, s4, g4, m5, m6⟩ := q3
        rw [N3]
        refine zp_nrm (cells' := 0) (slots' := 0) (st' := []) rfl rfl rfl ?_
        have s5 : zsm h h3 (zes2 c) := hs.trans (s4.mono (fun i hi => Or.inr hi))
        have d2 : h3 (c + 2) = some (.inr (16, .inl fn)) := (s4 _ (by omega)).trans b2
        refine zp_iconst (v := nI (0)) dX0_encrypt_49 (by decide) ?_
        refine zp_istore_n (ls' := [some (.ref (c)), some (.ref (r)), some (.ref (q)), some (.int (nI (0)))]) dX0_encrypt_50 (by decide) rfl ?_
        refine zp_pc (pc' := 51) rfl ?_
        have lp2 : ∀ (m : Nat) (k : Nat) (k2 : ZH) (f1 : Nat → Int32), m = 16 - k → k ≤ 16 → zsm h k2 (zes2 c) → k2 (c + 2) = some (.inr (16, .inl f1)) → k2 (c + 3) = some (.inr (16, .inl g4)) → (∀ i, i < k → f1 i = nI (zsb (zrd (zkf b ks) (fun k => xs.getD k 0) (zro b - 1)) i)) → zP g mX0_encrypt (zR 3 0 0) Qf 0 0 51 [some (.ref (c)), some (.ref (r)), some (.ref (q)), some (.int (nI (k)))] [] k2 n := by
          intro m
          induction m using Nat.strongRecOn with
          | _ m ih =>
            intro k k2 f1 hm2 hk hs2 c2 c3 hlo
            have c0 : k2 c = some (zco c (nI (zro b))) := (hs2 c (by unfold zes2; omega)).trans z0
            refine zp_iload_n dX0_encrypt_51 rfl ?_
            refine zp_bipush (v := nI (16)) dX0_encrypt_52 (by decide) ?_
            refine zp_pc (pc' := 54) rfl ?_
            refine zn_icmp_ge (tgt := 75) dX0_encrypt_54 (by decide) (by omega) (by omega) (fun c54 => ?_) (fun c54 => ?_)
            · have c1 : k2 (c + 1) = some (.inr (240, .inl f)) := (hs2 _ (by unfold zes2; omega)).trans z1
              refine zp_aload_n dX0_encrypt_75 rfl ?_
              refine zp_aload_n dX0_encrypt_76 rfl ?_
              refine zp_get dX0_encrypt_77 gX0_19_0 c0 rfl ?_
              refine zp_pc (pc' := 80) rfl ?_
              refine zp_callV (As := [.int (nI (zro b))]) (k := c) (st := []) (ci := 0) dX0_encrypt_80 cX0_66 rfl c0 rfl rfl (e_addKey (r := zro b) (K := zkf b ks) (s := zsb (zrd (zkf b ks) (fun k => xs.getD k 0) (zro b - 1))) h16 c0 c1 c2 (by omega) (fun k hk => hkf _ (by omega)) (fun k hk => hlo k (by omega))) (by decide) (by decide) (Nat.le_of_ble_eq_true rfl) (fun v4 h4 n4 q4 => ?_)
              obtain ⟨rfl, N4, s6, g6, m7, m8⟩ := q4
              rw [N4]
              refine zp_nrm (cells' := 0) (slots' := 0) (st' := []) rfl rfl rfl ?_
              have s7 : zsm h h4 (zes2 c) := hs2.trans (s6.mono (fun i hi => Or.inl hi))
              have q7 : zrow h4 q K ys := hq.keep (s7 _ (by unfold zes2; omega)) (s7 _ (by unfold zes2; omega))
              have c7 : h4 (c + 3) = some (.inr (16, .inl g4)) := (s6 _ (by omega)).trans c3
              refine zp_aload_n dX0_encrypt_83 rfl ?_
              refine zp_pc (pc' := 84) rfl ?_
              refine zp_callV (As := []) (k := q) (st := []) (ci := 6) dX0_encrypt_84 cX0_75 rfl q7.2.1 rfl rfl (e_clear (N := K) q7) (by decide) (by decide) (Nat.le_of_ble_eq_true rfl) (fun v5 h5 n5 q5 => ?_)
              obtain ⟨rfl, N5, s8, r8⟩ := q5
              rw [N5]
              refine zp_nrm (cells' := 0) (slots' := 0) (st' := []) rfl rfl rfl ?_
              have s9 : zsm h h5 (zes c q) := (s7.mono (fun i hi => by unfold zes; unfold zes2 at hi; omega)).trans (s8.mono (fun i hi => by unfold zes; unfold zrs at hi; omega))
              have d8 : h5 (c + 2) = some (.inr (16, .inl g6)) := (s8 _ (by unfold zrs; omega)).trans m7
              have c8 : h5 (c + 3) = some (.inr (16, .inl g4)) := (s8 _ (by unfold zrs; omega)).trans c7
              refine zp_iconst (v := nI (0)) dX0_encrypt_87 (by decide) ?_
              refine zp_istore_n (ls' := [some (.ref (c)), some (.ref (r)), some (.ref (q)), some (.int (nI (0)))]) dX0_encrypt_88 (by decide) rfl ?_
              refine zp_pc (pc' := 89) rfl ?_
              have lp3 : ∀ (m : Nat) (k : Nat) (k3 : ZH), m = 16 - k → k ≤ 16 → zsm h k3 (zes c q) → k3 (c + 2) = some (.inr (16, .inl g6)) → k3 (c + 3) = some (.inr (16, .inl g4)) → zrow k3 q K ((List.range k).map (zef b ks xs)) → zP g mX0_encrypt (zR 3 0 0) Qf 0 0 89 [some (.ref (c)), some (.ref (r)), some (.ref (q)), some (.int (nI (k)))] [] k3 n := by
                intro m
                induction m using Nat.strongRecOn with
                | _ m ih =>
                  intro k k3 hm3 hk3 hs3 v2 v3 hr3
                  have el : ((List.range k).map (zef b ks xs)).length = k := by simp
                  have v0 : k3 c = some (zco c (nI (zro b))) := (hs3 c (by unfold zes; omega)).trans z0
                  refine zp_iload_n dX0_encrypt_89 rfl ?_
                  refine zp_bipush (v := nI (16)) dX0_encrypt_90 (by decide) ?_
                  refine zp_pc (pc' := 92) rfl ?_
                  refine zn_icmp_ge (tgt := 111) dX0_encrypt_92 (by decide) (by omega) (by omega) (fun c92 => ?_) (fun c92 => ?_)
                  · have ek : k = 16 := by omega
                    subst ek
                    have cc : zcc k3 c (nI (zro b)) f := ⟨h16, v0, (hs3 _ (by unfold zes; omega)).trans z1, ⟨g6, v2⟩, ⟨g4, v3⟩⟩
                    refine zp_ret (v := none) dX0_encrypt_111 ⟨rfl, rfl⟩ (by decide) (by decide) ?_
                    rw [hQ]
                    exact ⟨rfl, rfl, hs3, hr3, hkb, f, cc, hkf⟩
                  · have eb := zef_by (b := b) (ks := ks) (xs := xs) hkb hx.bytes k (by omega)
                    refine zp_aload_n dX0_encrypt_95 rfl ?_
                    refine zp_aload_n dX0_encrypt_96 rfl ?_
                    refine zp_get dX0_encrypt_97 gX0_13_0 v0 rfl ?_
                    refine zp_iload_n dX0_encrypt_100 rfl ?_
                    refine zn_iald (j := k) dX0_encrypt_101 v2 (by omega) (by omega) ?_
                    refine zp_pc (pc' := 102) rfl ?_
                    refine zp_i (y := nI (zef b ks xs k)) (m8 k (by omega)) ?_
                    refine zp_callV (As := [.int (nI (zef b ks xs k))]) (k := q) (st := []) (ci := 6) dX0_encrypt_102 cX0_78 rfl hr3.2.1 rfl rfl (e_append (N := K) (xs := ((List.range k).map (zef b ks xs))) (b := nI (zef b ks xs k)) hr3 (by omega)) (by decide) (by decide) (Nat.le_of_ble_eq_true rfl) (fun v6 h6 n6 q6 => ?_)
                    obtain ⟨rfl, N6, s10, r10⟩ := q6
                    rw [N6]
                    refine zp_nrm (cells' := 0) (slots' := 0) (st' := []) rfl rfl rfl ?_
                    rw [znI_nat (Nat.lt_trans eb (by decide)), Nat.mod_eq_of_lt eb] at r10
                    refine zn_iinc 1 (ls' := [some (.ref (c)), some (.ref (r)), some (.ref (q)), some (.int (nI (k + 1)))]) dX0_encrypt_105 (by decide) (by decide) rfl rfl ?_
                    refine zp_pc (pc' := 108) rfl ?_
                    refine zp_goto (tgt := 89) dX0_encrypt_108 (by decide) ?_
                    refine zp_pc (pc' := 89) rfl ?_
                    refine ih (16 - (k + 1)) (by omega) (k + 1) h6 rfl (by omega) (hs3.trans (s10.mono (fun i hi => by unfold zes; unfold zrs at hi; omega))) ((s10 _ (by unfold zrs; omega)).trans v2) ((s10 _ (by unfold zrs; omega)).trans v3) ?_
                    rw [List.range_succ, List.map_append]
                    exact r10
              exact lp3 _ 0 h5 rfl (Nat.zero_le _) s9 d8 c8 r8
            · refine zp_aload_n dX0_encrypt_57 rfl ?_
              refine zp_get dX0_encrypt_58 gX0_13_0 c0 rfl ?_
              refine zp_iload_n dX0_encrypt_61 rfl ?_
              refine zp_aload_n dX0_encrypt_62 rfl ?_
              refine zp_get dX0_encrypt_63 gX0_16_0 c0 rfl ?_
              refine zp_iload_n dX0_encrypt_66 rfl ?_
              refine zn_iald (j := k) dX0_encrypt_67 c3 (by omega) (by omega) ?_
              refine zn_iast dX0_encrypt_68 (by omega) c2 (by omega) (by omega) ?_
              refine zp_nh (fun h7x eh7x => ?_)
              have k7_0 := (congrFun eh7x (c)).trans ((va_up_ne _ _ (by omega)).trans c0)
              have k7_1 : h7x (c + 2) = some (.inr (16, .inl (va_up f1 (k) (g4 (k))))) := by rw [eh7x]; exact va_up_self _ _ _
              have k7_2 := (congrFun eh7x (c + 3)).trans ((va_up_ne _ _ (by omega)).trans c3)
              refine zn_iinc 1 (ls' := [some (.ref (c)), some (.ref (r)), some (.ref (q)), some (.int (nI (k + 1)))]) dX0_encrypt_69 (by decide) (by decide) rfl rfl ?_
              refine zp_pc (pc' := 72) rfl ?_
              refine zp_goto (tgt := 51) dX0_encrypt_72 (by decide) ?_
              refine zp_pc (pc' := 51) rfl ?_
              refine ih (16 - (k + 1)) (by omega) (k + 1) h7x _ rfl (by omega) (hs2.up eh7x (Or.inl rfl)) k7_1 k7_2 (fun i hi => ?_)
              by_cases e : i = k
              · rw [e, va_up_self]; exact m6 k (by omega)
              · rw [va_up_ne _ _ e]; exact hlo i (by omega)
        exact lp2 _ 0 h3 fn rfl (Nat.zero_le _) s5 d2 m5 (fun i hi => absurd hi (Nat.not_lt_zero _))
      · refine zp_aload_n dX0_encrypt_26 rfl ?_
        refine zp_pc (pc' := 27) rfl ?_
        refine zp_callV (As := []) (k := c) (st := []) (ci := 0) dX0_encrypt_27 cX0_69 rfl b0 rfl rfl (e_replaceAndShift (s := (zrd (zkf b ks) (fun k => xs.getD k 0) u)) h16 bt b0 b2 b3 hby hn) (by decide) (by decide) (Nat.le_of_ble_eq_true rfl) (fun v8 h8 n8 q8 => ?_)
        obtain ⟨rfl, N8, s4, g4, m5, m6⟩ := q8
        rw [N8]
        refine zp_nrm (cells' := 0) (slots' := 0) (st' := []) rfl rfl rfl ?_
        have d0 : h8 c = some (zco c (nI (zro b))) := (s4 c (by omega)).trans b0
        have d2 : h8 (c + 2) = some (.inr (16, .inl fn)) := (s4 _ (by omega)).trans b2
        refine zp_aload_n dX0_encrypt_30 rfl ?_
        refine zp_pc (pc' := 31) rfl ?_
        refine zp_callV (As := []) (k := c) (st := []) (ci := 0) dX0_encrypt_31 cX0_72 rfl d0 rfl rfl (e_mixColumns (s := zsb (zrd (zkf b ks) (fun k => xs.getD k 0) u)) h16 d0 d2 m5 (zby_sb hby) m6) (by decide) (by decide) (Nat.le_of_ble_eq_true rfl) (fun v9 h9 n9 q9 => ?_)
        obtain ⟨rfl, N9, s5, g5, m7, m8⟩ := q9
        rw [N9]
        refine zp_nrm (cells' := 0) (slots' := 0) (st' := []) rfl rfl rfl ?_
        have f0 : h9 c = some (zco c (nI (zro b))) := (s5 c (by omega)).trans d0
        have f1 : h9 (c + 1) = some (.inr (240, .inl f)) := (s5 _ (by omega)).trans ((s4 _ (by omega)).trans b1)
        refine zp_aload_n dX0_encrypt_34 rfl ?_
        refine zp_iload_n dX0_encrypt_35 rfl ?_
        refine zp_pc (pc' := 36) rfl ?_
        refine zp_callV (As := [.int (nI (u + 1))]) (k := c) (st := []) (ci := 0) dX0_encrypt_36 cX0_66 rfl f0 rfl rfl (e_addKey (r := u + 1) (K := zkf b ks) (s := zmx (zsb (zrd (zkf b ks) (fun k => xs.getD k 0) u))) h16 f0 f1 m7 (by omega) (fun k hk => hkf _ (by omega)) m8) (by decide) (by decide) (Nat.le_of_ble_eq_true rfl) (fun v10 h10 n10 q10 => ?_)
        obtain ⟨rfl, N10, s6, g6, m9, m10⟩ := q10
        rw [N10]
        refine zp_nrm (cells' := 0) (slots' := 0) (st' := []) rfl rfl rfl ?_
        refine zn_iinc 1 (ls' := [some (.ref (c)), some (.ref (r)), some (.ref (q)), some (.int (nI (u + 1 + 1)))]) dX0_encrypt_39 (by decide) (by decide) rfl rfl ?_
        refine zp_pc (pc' := 42) rfl ?_
        refine zp_goto (tgt := 18) dX0_encrypt_42 (by decide) ?_
        refine zp_pc (pc' := 18) rfl ?_
        exact ih (zro b - 1 - (u + 1)) (by omega) (u + 1) h10 g6 g4 rfl (by omega) (((hs.trans (s4.mono (fun i hi => Or.inr hi))).trans (s5.mono (fun i hi => Or.inl hi))).trans (s6.mono (fun i hi => Or.inl hi))) m9 ((s6 _ (by omega)).trans ((s5 _ (by omega)).trans m5)) m10
  exact lp _ 0 h2 g2 f3 rfl (Nat.zero_le _) s3 m3 ((s2 _ (by omega)).trans e3) m4
