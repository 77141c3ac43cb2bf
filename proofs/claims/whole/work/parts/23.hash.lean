set_option maxRecDepth 10000 in
set_option maxHeartbeats 2000000 in
theorem e_hash {g : ZG} {h : ZH} {n : Nat} {d r q N K : Nat} {b : Bool} {xs ys : List Nat} (hd : zdg h b d) (ht : ztab h) (hx : zrow h r N xs) (hq : zrow h q K ys) (hl : xs.length ≤ 512) (hK : 8 * zwb b ≤ K) : zMt g mX3_hash (zR 2 0 0) [.ref (d), .ref (r), .ref (q)] h n (fun v h' n' => v = none ∧ n' = n ∧ zsm h h' (zhs d q) ∧ zrow h' q K (zhash b xs) ∧ zdg h' b d) := by
  refine zMt.of [some (.ref (d)), some (.ref (r)), some (.ref (q)), none, none] (by decide) rfl (Nat.le_of_ble_eq_true rfl) ?_
  obtain ⟨Qf, hQ⟩ : ∃ Qf : ZQ, Qf = (fun v h' n' => v = none ∧ n' = n ∧ zsm h h' (zhs d q) ∧ zrow h' q K (zhash b xs) ∧ zdg h' b d) := ⟨_, rfl⟩
  rw [← hQ]
  have hwb := zwb_or b
  have hrn := zrn_or b
  obtain ⟨x1, x2, x3, x4, x5, x6, x7⟩ := hd.apart hx
  obtain ⟨q1, q2, q3, q4, q5, q6, q7⟩ := hd.apart hq
  obtain ⟨d16, d0, ⟨f1, d1⟩, ⟨f2, d2⟩, ⟨f3, d3⟩, d4, d6⟩ := id hd
  obtain ⟨t1, t2, t3⟩ := ztot_le b hl
  have hxl := hx.len
  have hql := hq.len
  refine zp_aload_n dX3_hash_0 rfl ?_
  refine zp_aload_n dX3_hash_1 rfl ?_
  refine zp_aload_n dX3_hash_2 rfl ?_
  refine zp_get dX3_hash_3 gX3_9_3 d0 rfl ?_
  refine zp_sipush (v := nI (512)) dX3_hash_6 (by decide) ?_
  refine zp_pc (pc' := 9) rfl ?_
  refine zp_callV (As := [.ref (d + 1), .int (nI (512))]) (k := r) (st := [.ref (d)]) (ci := 6) dX3_hash_9 cX3_63 rfl hx.2.1 rfl rfl (e_copyTo (N := N) (xs := xs) (t := d + 1) (K := 640) (q := 512) hx d1 (by omega) (by decide) (by decide) (by omega)) (by decide) (by decide) (Nat.le_of_ble_eq_true rfl) (fun v1 h1 n1 q1 => ?_)
  obtain ⟨rfl, N1, s1, f4, k1, k2, k3⟩ := q1
  rw [N1]
  refine zp_nrm (cells' := 0) (slots' := 0) (st' := [.int (nI (min (min xs.length 640) 512)), .ref (d)]) rfl rfl rfl ?_
  refine zp_i (y := nI (xs.length)) (by rw [show min (min xs.length 640) 512 = xs.length by omega]) ?_
  have e0 : h1 d = some (zdo b d) := (s1 d (by omega)).trans d0
  refine zp_callV (As := [.int (nI (xs.length))]) (k := d) (st := []) (ci := 3) dX3_hash_12 cX3_67 rfl e0 rfl rfl (e_pad (b := b) (d := d) (xs := xs) e0 d16 k1 hl (fun i hi => k2 i (by omega))) (by decide) (by decide) (Nat.le_of_ble_eq_true rfl) (fun v2 h2 n2 q2 => ?_)
  obtain ⟨rfl, N2, s2, f5, k4, k5⟩ := q2
  rw [N2]
  refine zp_nrm (cells' := 0) (slots' := 0) (st' := [.int (nI (ztot b xs.length))]) rfl rfl rfl ?_
  have s3 : zsm h h2 (zh3 d) := (s1.trans s2).mono (fun i hi => Or.inl hi)
  refine zp_istore_n (ls' := [some (.ref (d)), some (.ref (r)), some (.ref (q)), some (.int (nI (ztot b xs.length))), none]) dX3_hash_15 (by decide) rfl ?_
  refine zp_iconst (v := nI (0)) dX3_hash_16 (by decide) ?_
  refine zp_istore (ls' := [some (.ref (d)), some (.ref (r)), some (.ref (q)), some (.int (nI (ztot b xs.length))), some (.int (nI (0)))]) dX3_hash_17 (by decide) rfl ?_
  refine zp_pc (pc' := 19) rfl ?_
  have lp : ∀ (m : Nat) (k : Nat) (g1 : ZH) (fh : Nat → Int64), m = 8 - k → k ≤ 8 → zsm h g1 (zh3 d) → g1 (d + 1) = some (.inr (640, .inl f5)) → g1 (d + 2) = some (.inr (8, .inr (.inl fh))) → g1 (d + 3) = some (.inr (80, .inr (.inl f3))) → (∀ i, i < k → fh i = zcut b (zt_FIRST.getD i 0)) → zP g mX3_hash (zR 2 0 0) Qf 0 0 19 [some (.ref (d)), some (.ref (r)), some (.ref (q)), some (.int (nI (ztot b xs.length))), some (.int (nI (k)))] [] g1 n := by
    intro m
    induction m using Nat.strongRecOn with
    | _ m ih =>
      intro k g1 fh hm hk hs b1 b2 b3 hlo
      have bd : g1 d = some (zdo b d) := (hs d (by unfold zh3; omega)).trans d0
      have bF := (ht.sm hs (fun i hi => by unfold zh3 at hi; omega)).2.1
      refine zp_iload dX3_hash_19 rfl ?_
      refine zp_bipush (v := nI (8)) dX3_hash_21 (by decide) ?_
      refine zp_pc (pc' := 23) rfl ?_
      refine zn_icmp_ge (tgt := 53) dX3_hash_23 (by decide) (by omega) (by omega) (fun c23 => ?_) (fun c23 => ?_)
      · refine zp_iconst (v := nI (0)) dX3_hash_53 (by decide) ?_
        refine zp_istore (ls' := [some (.ref (d)), some (.ref (r)), some (.ref (q)), some (.int (nI (ztot b xs.length))), some (.int (nI (0)))]) dX3_hash_54 (by decide) rfl ?_
        refine zp_pc (pc' := 56) rfl ?_
        refine zp_ls (ls' := [some (.ref (d)), some (.ref (r)), some (.ref (q)), some (.int (nI (ztot b xs.length))), some (.int (nI (16 * zwb b * 0)))]) (by rw [Nat.mul_zero]) ?_
        have b0 : ∀ k, k < 8 → fh k = z8f (zblk b xs 0) k := fun k hk => (hlo k (by omega)).trans (zfirst_f b k hk)
        have lp2 : ∀ (m : Nat) (c : Nat) (g2 : ZH) (fh2 fw2 : Nat → Int64), m = ztot b xs.length - 16 * zwb b * c → 16 * zwb b * c ≤ ztot b xs.length → zsm h g2 (zh3 d) → g2 (d + 1) = some (.inr (640, .inl f5)) → g2 (d + 2) = some (.inr (8, .inr (.inl fh2))) → g2 (d + 3) = some (.inr (80, .inr (.inl fw2))) → (∀ k, k < 8 → fh2 k = z8f (zblk b xs c) k) → zP g mX3_hash (zR 2 0 0) Qf 0 0 56 [some (.ref (d)), some (.ref (r)), some (.ref (q)), some (.int (nI (ztot b xs.length))), some (.int (nI (16 * zwb b * c)))] [] g2 n := by
          intro m
          induction m using Nat.strongRecOn with
          | _ m ih =>
            intro c g2 fh2 fw2 hm2 hc hs2 c1 c2 c3 hlo2
            have cd : g2 d = some (zdo b d) := (hs2 d (by unfold zh3; omega)).trans d0
            have ct := ht.sm hs2 (fun i hi => by unfold zh3 at hi; omega)
            have hcm : 16 * zwb b * (c + 1) = 16 * zwb b * c + 16 * zwb b := Nat.mul_succ _ _
            refine zp_iload dX3_hash_56 rfl ?_
            refine zp_iload_n dX3_hash_58 rfl ?_
            refine zp_pc (pc' := 59) rfl ?_
            refine zn_icmp_ge (tgt := 84) dX3_hash_59 (by decide) (by omega) (by omega) (fun c59 => ?_) (fun c59 => ?_)
            · have ec : c = ztot b xs.length / (16 * zwb b) := by
                have := Nat.div_add_mod (ztot b xs.length) (16 * zwb b)
                have e1 : 16 * zwb b * (ztot b xs.length / (16 * zwb b)) = 16 * zwb b * c := by omega
                exact (Nat.eq_of_mul_eq_mul_left (by omega) e1).symm
              subst ec
              have yq : zrow g2 q K ys := hq.keep (hs2 _ (by unfold zh3; omega)) (hs2 _ (by unfold zh3; omega))
              refine zp_aload_n dX3_hash_84 rfl ?_
              refine zp_pc (pc' := 85) rfl ?_
              refine zp_callV (As := []) (k := q) (st := []) (ci := 6) dX3_hash_85 cX3_80 rfl yq.2.1 rfl rfl (e_clear (N := K) (xs := ys) yq) (by decide) (by decide) (Nat.le_of_ble_eq_true rfl) (fun v3 h3 n3 q3 => ?_)
              obtain ⟨rfl, N3, s5, r5⟩ := q3
              rw [N3]
              refine zp_nrm (cells' := 0) (slots' := 0) (st' := []) rfl rfl rfl ?_
              have s6 : zsm h h3 (zhs d q) := (hs2.mono (fun i hi => by unfold zhs; unfold zh3 at hi; omega)).trans (s5.mono (fun i hi => by unfold zhs; unfold zrs at hi; omega))
              have u2 : h3 (d + 2) = some (.inr (8, .inr (.inl fh2))) := (s5 _ (by unfold zrs; omega)).trans c2
              have u1 : ∃ f, h3 (d + 1) = some (.inr (640, .inl f)) := ⟨f5, (s5 _ (by unfold zrs; omega)).trans c1⟩
              have u3 : ∃ f, h3 (d + 3) = some (.inr (80, .inr (.inl f))) := ⟨fw2, (s5 _ (by unfold zrs; omega)).trans c3⟩
              refine zp_iconst (v := nI (0)) dX3_hash_88 (by decide) ?_
              refine zp_istore (ls' := [some (.ref (d)), some (.ref (r)), some (.ref (q)), some (.int (nI (ztot b xs.length))), some (.int (nI (0)))]) dX3_hash_89 (by decide) rfl ?_
              refine zp_pc (pc' := 91) rfl ?_
              have lp3 : ∀ (m : Nat) (k : Nat) (g3 : ZH), m = 8 - k → k ≤ 8 → zsm h g3 (zhs d q) → (∃ f, g3 (d + 1) = some (.inr (640, .inl f))) → g3 (d + 2) = some (.inr (8, .inr (.inl fh2))) → (∃ f, g3 (d + 3) = some (.inr (80, .inr (.inl f)))) → zrow g3 q K ((List.range k).flatMap (fun k => znum (z8f (zblk b xs (ztot b xs.length / (16 * zwb b))) k).toBitVec.toNat (zwb b))) → zP g mX3_hash (zR 2 0 0) Qf 0 0 91 [some (.ref (d)), some (.ref (r)), some (.ref (q)), some (.int (nI (ztot b xs.length))), some (.int (nI (k)))] [] g3 n := by
                intro m
                induction m using Nat.strongRecOn with
                | _ m ih =>
                  intro k g3 hm3 hk3 hs3 v1 v2 v3 hr3
                  have vd : g3 d = some (zdo b d) := (hs3 d (by unfold zhs; omega)).trans d0
                  have el := zflat_len (fun k => znum (z8f (zblk b xs (ztot b xs.length / (16 * zwb b))) k).toBitVec.toNat (zwb b)) (zwb b) (fun k => znum_len _ _) k
                  have hkm : k * zwb b + zwb b ≤ 8 * zwb b ∨ k = 8 := by
                    rcases Nat.lt_or_ge k 8 with q | q
                    · left; rw [← Nat.succ_mul]; exact Nat.mul_le_mul_right _ (by omega)
                    · right; omega
                  refine zp_iload dX3_hash_91 rfl ?_
                  refine zp_bipush (v := nI (8)) dX3_hash_93 (by decide) ?_
                  refine zp_pc (pc' := 95) rfl ?_
                  refine zn_icmp_ge (tgt := 119) dX3_hash_95 (by decide) (by omega) (by omega) (fun c95 => ?_) (fun c95 => ?_)
                  · have e : k = 8 := by omega
                    subst e
                    refine zp_ret (v := none) dX3_hash_119 ⟨rfl, rfl⟩ (by decide) (by decide) ?_
                    rw [hQ]
                    exact ⟨rfl, rfl, hs3, hr3, hd.keep hs3 hq hr3 v1 ⟨_, v2⟩ v3⟩
                  · refine zp_aload_n dX3_hash_98 rfl ?_
                    refine zp_aload_n dX3_hash_99 rfl ?_
                    refine zp_get dX3_hash_100 gX3_13_3 vd rfl ?_
                    refine zp_iload dX3_hash_103 rfl ?_
                    refine zn_lald (j := k) dX3_hash_105 v2 (by omega) (by omega) ?_
                    refine zp_pc (pc' := 106) rfl ?_
                    refine zp_l (y := z8f (zblk b xs (ztot b xs.length / (16 * zwb b))) k) (hlo2 k (by omega)) ?_
                    refine zp_aload_n dX3_hash_106 rfl ?_
                    refine zp_get dX3_hash_107 gX3_32_3 vd rfl ?_
                    refine zp_pc (pc' := 110) rfl ?_
                    refine zp_callV (As := [.long (z8f (zblk b xs (ztot b xs.length / (16 * zwb b))) k), .int (nI (zwb b))]) (k := q) (st := []) (ci := 6) dX3_hash_110 cX3_83 rfl hr3.2.1 rfl rfl (e_appendNumber (N := K) (xs := (List.range k).flatMap (fun k => znum (z8f (zblk b xs (ztot b xs.length / (16 * zwb b))) k).toBitVec.toNat (zwb b))) (k := zwb b) hr3 (by omega) (by omega)) (by decide) (by decide) (Nat.le_of_ble_eq_true rfl) (fun v4 h4 n4 q4 => ?_)
                    obtain ⟨rfl, N4, s7, r7⟩ := q4
                    rw [N4]
                    refine zp_nrm (cells' := 0) (slots' := 0) (st' := []) rfl rfl rfl ?_
                    refine zn_iinc 1 (ls' := [some (.ref (d)), some (.ref (r)), some (.ref (q)), some (.int (nI (ztot b xs.length))), some (.int (nI (k + 1)))]) dX3_hash_113 (by decide) (by decide) rfl rfl ?_
                    refine zp_pc (pc' := 116) rfl ?_
                    refine zp_goto (tgt := 91) dX3_hash_116 (by decide) ?_
                    refine zp_pc (pc' := 91) rfl ?_
                    refine ih (8 - (k + 1)) (by omega) (k + 1) h4 rfl (by omega) (hs3.trans (s7.mono (fun i hi => by unfold zhs; unfold zrs at hi; omega))) ?_ ((s7 _ (by unfold zrs; omega)).trans v2) ?_ ?_
                    · obtain ⟨f, v1⟩ := v1; exact ⟨f, (s7 _ (by unfold zrs; omega)).trans v1⟩
                    · obtain ⟨f, v3⟩ := v3; exact ⟨f, (s7 _ (by unfold zrs; omega)).trans v3⟩
                    · rw [← zflat_succ]; exact r7
              exact lp3 _ 0 h3 rfl (Nat.zero_le _) s6 u1 u2 u3 r5
            · have hb2 : 16 * zwb b * c + 16 * zwb b ≤ ztot b xs.length := by
                have e1 := Nat.div_add_mod (ztot b xs.length) (16 * zwb b)
                have e2 : c < ztot b xs.length / (16 * zwb b) := Nat.lt_of_mul_lt_mul_left (a := 16 * zwb b) (by omega)
                have e3 : 16 * zwb b * (c + 1) ≤ 16 * zwb b * (ztot b xs.length / (16 * zwb b)) := Nat.mul_le_mul_left _ e2
                omega
              refine zp_aload_n dX3_hash_62 rfl ?_
              refine zp_iload dX3_hash_63 rfl ?_
              refine zp_pc (pc' := 65) rfl ?_
              refine zp_callV (As := [.int (nI (16 * zwb b * c))]) (k := d) (st := []) (ci := 3) dX3_hash_65 cX3_74 rfl cd rfl rfl (e_spread (b := b) (d := d) (a := 16 * zwb b * c) cd d16 ct c1 c3 (by omega)) (by decide) (by decide) (Nat.le_of_ble_eq_true rfl) (fun v5 h5 n5 q5 => ?_)
              obtain ⟨rfl, N5, s5, fw3, m1, m2⟩ := q5
              rw [N5]
              refine zp_nrm (cells' := 0) (slots' := 0) (st' := []) rfl rfl rfl ?_
              have s6 : zsm h h5 (zh3 d) := hs2.trans (s5.mono (fun i hi => Or.inr (Or.inr hi)))
              have ed : h5 d = some (zdo b d) := (s6 d (by unfold zh3; omega)).trans d0
              refine zp_aload_n dX3_hash_68 rfl ?_
              refine zp_pc (pc' := 69) rfl ?_
              refine zp_callV (As := []) (k := d) (st := []) (ci := 3) dX3_hash_69 cX3_77 rfl ed rfl rfl (e_compress (b := b) (d := d) (s := zblk b xs c) (W := zsch b (zpad b xs) (16 * zwb b * c) (zrn b - 16)) ed d16 (ct.sm s5 (fun i hi => by omega)) ((s5 _ (by omega)).trans c2) m1 hlo2 (fun t ht => (m2 t ht).trans (zsch_congr (fun i h1 h2 => k5 i (by omega)) _ t (by omega)))) (by decide) (by decide) (Nat.le_of_ble_eq_true rfl) (fun v6 h6 n6 q6 => ?_)
              obtain ⟨rfl, N6, s7, fh3, m3, m4⟩ := q6
              rw [N6]
              refine zp_nrm (cells' := 0) (slots' := 0) (st' := []) rfl rfl rfl ?_
              have s8 : zsm h h6 (zh3 d) := s6.trans (s7.mono (fun i hi => Or.inr (Or.inl hi)))
              have gd : h6 d = some (zdo b d) := (s8 d (by unfold zh3; omega)).trans d0
              refine zp_iload dX3_hash_72 rfl ?_
              refine zp_aload_n dX3_hash_74 rfl ?_
              refine zp_get dX3_hash_75 gX3_48_3 gd rfl ?_
              refine zn_iadd dX3_hash_78 ?_
              refine zp_istore (ls' := [some (.ref (d)), some (.ref (r)), some (.ref (q)), some (.int (nI (ztot b xs.length))), some (.int (nI ((16 * zwb b * c) + (16 * zwb b))))]) dX3_hash_79 (by decide) rfl ?_
              refine zp_pc (pc' := 81) rfl ?_
              refine zp_ls (ls' := [some (.ref (d)), some (.ref (r)), some (.ref (q)), some (.int (nI (ztot b xs.length))), some (.int (nI (16 * zwb b * (c + 1))))]) (by rw [hcm]) ?_
              refine zp_goto (tgt := 56) dX3_hash_81 (by decide) ?_
              refine zp_pc (pc' := 56) rfl ?_
              refine ih (ztot b xs.length - 16 * zwb b * (c + 1)) (by omega) (c + 1) h6 fh3 fw3 rfl (by omega) s8 ((s7 _ (by omega)).trans ((s5 _ (by omega)).trans c1)) m3 ((s7 _ (by omega)).trans m1) m4
        exact lp2 _ 0 g1 fh f3 rfl (by omega) hs b1 b2 b3 b0
      · refine zp_aload_n dX3_hash_26 rfl ?_
        refine zp_get dX3_hash_27 gX3_13_3 bd rfl ?_
        refine zp_iload dX3_hash_30 rfl ?_
        refine zp_gets dX3_hash_32 sX3_71 ?_
        refine zp_iload dX3_hash_35 rfl ?_
        refine zn_lald (j := k) dX3_hash_37 bF (by omega) (by omega) ?_
        refine zp_bipush (v := nI (64)) dX3_hash_38 (by decide) ?_
        refine zp_aload_n dX3_hash_40 rfl ?_
        refine zp_get dX3_hash_41 gX3_36_3 bd rfl ?_
        refine zn_isub dX3_hash_44 (by omega) ?_
        refine zp_lushr dX3_hash_45 ?_
        refine zp_pc (pc' := 46) rfl ?_
        refine zp_l (y := zcut b (zt_FIRST.getD k 0)) rfl ?_
        refine zn_last dX3_hash_46 (by omega) b2 (by omega) (by omega) ?_
        refine zp_nh (fun h7x eh7x => ?_)
        have k7_0 := (congrFun eh7x (d)).trans ((va_up_ne _ _ (by omega)).trans bd)
        have k7_1 : h7x (d + 2) = some (.inr (8, .inr (.inl (va_up fh (k) (zcut b (zt_FIRST.getD k 0)))))) := by rw [eh7x]; exact va_up_self _ _ _
        have k7_2 := (congrFun eh7x (2)).trans ((va_up_ne _ _ (by omega)).trans bF)
        refine zn_iinc 1 (ls' := [some (.ref (d)), some (.ref (r)), some (.ref (q)), some (.int (nI (ztot b xs.length))), some (.int (nI (k + 1)))]) dX3_hash_47 (by decide) (by decide) rfl rfl ?_
        refine zp_pc (pc' := 50) rfl ?_
        refine zp_goto (tgt := 19) dX3_hash_50 (by decide) ?_
        refine zp_pc (pc' := 19) rfl ?_
        refine ih (8 - (k + 1)) (by omega) (k + 1) h7x _ rfl (by omega) (hs.up eh7x (Or.inr (Or.inl rfl))) ?_ k7_1 ?_ (fun i hi => ?_)
        · rw [eh7x, va_up_ne _ _ (by omega)]; exact b1
        · rw [eh7x, va_up_ne _ _ (by omega)]; exact b3
        by_cases e : i = k
        · rw [e, va_up_self]
        · rw [va_up_ne _ _ e]; exact hlo i (by omega)
  exact lp _ 0 h2 f2 rfl (Nat.zero_le _) s3 k4 ((s2 _ (by omega)).trans ((s1 _ (by omega)).trans d2)) ((s2 _ (by omega)).trans ((s1 _ (by omega)).trans d3)) (fun i hi => absurd hi (Nat.not_lt_zero _))
