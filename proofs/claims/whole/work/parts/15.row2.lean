set_option maxRecDepth 10000 in
set_option maxHeartbeats 2000000 in
theorem e_put {g : ZG} {h : ZH} {n : Nat} {r N : Nat} {xs : List Nat} {j : Nat} {b : Int32} (hx : zrow h r N xs) (hj : j < xs.length) : zMt g mX7_put (zR 0 0 0) [.ref (r), .int (nI (j)), .int (b)] h n (fun v h' n' => v = none ∧ n' = n ∧ zsm h h' (zrs r) ∧ zrow h' r N (xs.set j (b.toBitVec.toNat % 256))) := by
  refine zMt.of [some (.ref (r)), some (.int (nI (j))), some (.int (b))] (by decide) rfl (Nat.le_of_ble_eq_true rfl) ?_
  obtain ⟨a0, a1, a2, a3, a4, f, a5, a6⟩ := id hx
  refine zp_iload_n dX7_put_0 rfl ?_
  refine zp_pc (pc' := 1) rfl ?_
  refine zn_if_lt (tgt := 23) dX7_put_1 (by decide) (by omega) ?_
  refine zp_iload_n dX7_put_4 rfl ?_
  refine zp_aload_n dX7_put_5 rfl ?_
  refine zp_get dX7_put_6 gX7_9_6 a1 rfl ?_
  refine zp_pc (pc' := 9) rfl ?_
  refine zn_icmp_ge (tgt := 23) dX7_put_9 (by decide) (by omega) (by omega) (fun c9 => ?_) (fun c9 => ?_)
  · exact absurd hj (by omega)
  · refine zp_aload_n dX7_put_12 rfl ?_
    refine zp_get dX7_put_13 gX7_21_6 a1 rfl ?_
    refine zp_iload_n dX7_put_16 rfl ?_
    refine zp_iload_n dX7_put_17 rfl ?_
    refine zp_sipush (v := nI (255)) dX7_put_18 (by decide) ?_
    refine zp_iand dX7_put_21 ?_
    refine zp_pc (pc' := 22) rfl ?_
    refine zp_i (y := nI (b.toBitVec.toNat % 256)) (zand255 b) ?_
    refine zn_iast dX7_put_22 (by omega) a5 (by omega) (by omega) ?_
    refine zp_nh (fun h1x eh1x => ?_)
    have k1_0 := (congrFun eh1x (r)).trans ((va_up_ne _ _ (by omega)).trans a1)
    have k1_1 : h1x (r + 1) = some (.inr (N, .inl (va_up f (j) (nI (b.toBitVec.toNat % 256))))) := by rw [eh1x]; exact va_up_self _ _ _
    refine zp_pc (pc' := 23) rfl ?_
    refine zp_ret (v := none) dX7_put_23 ⟨rfl, rfl⟩ (by decide) (by decide) ?_
    exact ⟨rfl, rfl, zsm.rf.up eh1x (Or.inr rfl), zrow.mk a0 k1_0 (List.length_set ..) a2 a3 (fun x hx => (List.mem_or_eq_of_mem_set hx).elim (a4 x) (fun e => by rw [e]; exact Nat.mod_lt _ (by decide))) k1_1 (fun i hi => zset_at a6 hj i hi)⟩
set_option maxRecDepth 10000 in
set_option maxHeartbeats 2000000 in
theorem e_appendNumber {g : ZG} {h : ZH} {n : Nat} {r N : Nat} {xs : List Nat} {v0 : Int64} {k : Nat} (hx : zrow h r N xs) (hk : k ≤ 8) (hl : xs.length + k ≤ N) : zMt g mX7_appendNumber (zR 0 0 0) [.ref (r), .long (v0), .int (nI (k))] h n (fun v h' n' => v = none ∧ n' = n ∧ zsm h h' (zrs r) ∧ zrow h' r N (xs ++ znum v0.toBitVec.toNat k)) := by
  refine zMt.of [some (.ref (r)), some (.long (v0)), none, some (.int (nI (k))), none] (by decide) rfl (Nat.le_of_ble_eq_true rfl) ?_
  obtain ⟨Qf, hQ⟩ : ∃ Qf : ZQ, Qf = (fun v h' n' => v = none ∧ n' = n ∧ zsm h h' (zrs r) ∧ zrow h' r N (xs ++ znum v0.toBitVec.toNat k)) := ⟨_, rfl⟩
  rw [← hQ]
  refine zp_iload_n dX7_appendNumber_0 rfl ?_
  refine zp_iconst (v := nI (1)) dX7_appendNumber_1 (by decide) ?_
  refine zp_isub dX7_appendNumber_2 ?_
  refine zp_pc (pc' := 3) rfl ?_
  refine zp_i (y := nI (k) - 1) rfl ?_
  refine zp_istore (ls' := [some (.ref (r)), some (.long (v0)), none, some (.int (nI (k))), some (.int (nI (k) - 1))]) dX7_appendNumber_3 (by decide) rfl ?_
  refine zp_pc (pc' := 5) rfl ?_
  have lp : ∀ (m : Nat) (c : Nat) (h1 : ZH), m = c → c ≤ k → zsm h h1 (zrs r) → zrow h1 r N (xs ++ (znum v0.toBitVec.toNat k).take (k - c)) → zP g mX7_appendNumber (zR 0 0 0) Qf 0 0 5 [some (.ref (r)), some (.long (v0)), none, some (.int (nI (k))), some (.int (nI (c) - 1))] [] h1 n := by
    intro m
    induction m using Nat.strongRecOn with
    | _ m ih =>
      intro c h1 hm hc hs hy
      have ez : (xs ++ (znum v0.toBitVec.toNat k).take (k - c)).length = xs.length + (k - c) := by rw [List.length_append, List.length_take, znum_len]; omega
      obtain ⟨a0, a1, a2, a3, a4, f, a5, a6⟩ := id hy
      refine zp_iload dX7_appendNumber_5 rfl ?_
      refine zp_pc (pc' := 7) rfl ?_
      refine zp_if_lt (tgt := 59) dX7_appendNumber_7 (by decide) (fun c7 => ?_) (fun c7 => ?_)
      · have e0 := (zpred_lt (by omega)).mp c7
        subst e0
        have e : (znum v0.toBitVec.toNat k).take (k - 0) = znum v0.toBitVec.toNat k := List.take_of_length_le (by rw [znum_len]; omega)
        rw [e] at hy
        refine zp_ret (v := none) dX7_appendNumber_59 ⟨rfl, rfl⟩ (by decide) (by decide) ?_
        rw [hQ]
        exact ⟨rfl, rfl, hs, hy⟩
      · have c0 : c ≠ 0 := fun e => c7 ((zpred_lt (by omega)).mpr e)
        obtain ⟨d, rfl⟩ : ∃ d, c = d + 1 := ⟨c - 1, by omega⟩
        refine zp_ls (ls' := [some (.ref (r)), some (.long (v0)), none, some (.int (nI (k))), some (.int (nI (d)))]) (by rw [nI_pred]) ?_
        refine zp_aload_n dX7_appendNumber_10 rfl ?_
        refine zp_get dX7_appendNumber_11 gX7_9_6 a1 rfl ?_
        refine zp_aload_n dX7_appendNumber_14 rfl ?_
        refine zp_get dX7_appendNumber_15 gX7_21_6 a1 rfl ?_
        refine zp_ilen dX7_appendNumber_18 a5 ?_
        refine zp_pc (pc' := 19) rfl ?_
        refine zn_icmp_ge (tgt := 59) dX7_appendNumber_19 (by decide) (by omega) (by omega) (fun c19 => ?_) (fun c19 => ?_)
        · exact absurd hl (by omega)
        · refine zp_aload_n dX7_appendNumber_22 rfl ?_
          refine zp_get dX7_appendNumber_23 gX7_21_6 a1 rfl ?_
          refine zp_aload_n dX7_appendNumber_26 rfl ?_
          refine zp_get dX7_appendNumber_27 gX7_9_6 a1 rfl ?_
          refine zp_lload_n dX7_appendNumber_30 rfl ?_
          refine zp_bipush (v := nI (8)) dX7_appendNumber_31 (by decide) ?_
          refine zp_iload dX7_appendNumber_33 rfl ?_
          refine zn_imul dX7_appendNumber_35 ?_
          refine zp_lushr dX7_appendNumber_36 ?_
          refine zp_l2i dX7_appendNumber_37 ?_
          refine zp_sipush (v := nI (255)) dX7_appendNumber_38 (by decide) ?_
          refine zp_iand dX7_appendNumber_41 ?_
          refine zp_pc (pc' := 42) rfl ?_
          refine zp_pc (pc' := 42) rfl ?_
          refine zp_i (y := nI (v0.toBitVec.toNat / 2 ^ (8 * d) % 256)) (zlbyte v0 (by omega)) ?_
          refine zn_iast dX7_appendNumber_42 (by omega) a5 (by omega) (by omega) ?_
          refine zp_nh (fun h1x eh1x => ?_)
          have k1_0 := (congrFun eh1x (r)).trans ((va_up_ne _ _ (by omega)).trans a1)
          have k1_1 : h1x (r + 1) = some (.inr (N, .inl (va_up f ((xs ++ (znum v0.toBitVec.toNat k).take (k - (d + 1))).length) (nI (v0.toBitVec.toNat / 2 ^ (8 * d) % 256))))) := by rw [eh1x]; exact va_up_self _ _ _
          refine zp_aload_n dX7_appendNumber_43 rfl ?_
          refine zp_dup dX7_appendNumber_44 rfl ?_
          refine zp_get dX7_appendNumber_45 gX7_9_6 k1_0 rfl ?_
          refine zp_iconst (v := nI (1)) dX7_appendNumber_48 (by decide) ?_
          refine zn_iadd dX7_appendNumber_49 ?_
          refine zp_put (fs' := [.ref (r + 1), .int (nI (((xs ++ (znum v0.toBitVec.toNat k).take (k - (d + 1))).length) + (1)))]) dX7_appendNumber_50 pX7_9_6 (by omega) k1_0 (Nat.le_of_ble_eq_true rfl) (zfit_i _) rfl ?_
          refine zp_nh (fun h2x eh2x => ?_)
          have k2_0 : h2x (r) = some (.inl (6, [.ref (r + 1), .int (nI (((xs ++ (znum v0.toBitVec.toNat k).take (k - (d + 1))).length) + (1)))])) := by rw [eh2x]; exact va_up_self _ _ _
          have k2_1 := (congrFun eh2x (r + 1)).trans ((va_up_ne _ _ (by omega)).trans k1_1)
          refine zp_pc (pc' := 53) rfl ?_
          refine zp_iinc (v := nI (d) - 1) (ls' := [some (.ref (r)), some (.long (v0)), none, some (.int (nI (k))), some (.int (nI (d) - 1))]) dX7_appendNumber_53 (by decide) rfl (zdec _) rfl ?_
          refine zp_goto (tgt := 5) dX7_appendNumber_56 (by decide) ?_
          refine zp_pc (pc' := 5) rfl ?_
          refine ih d (by omega) d h2x rfl (by omega) ((hs.up eh1x (Or.inr rfl)).up eh2x (Or.inl rfl)) ?_
          have q := zrow.app a0 k2_0 (by omega) a3 a4 (Nat.mod_lt _ (by decide)) k2_1 a6
          rwa [List.append_assoc, znum_take _ (by omega)] at q
  exact lp k k h rfl (Nat.le_refl _) zsm.rf (by rw [Nat.sub_self, List.take_zero, List.append_nil]; exact hx)
set_option maxRecDepth 10000 in
set_option maxHeartbeats 2000000 in
theorem e_appendSame {g : ZG} {h : ZH} {n : Nat} {r N : Nat} {xs : List Nat} {b : Int32} {k : Nat} (hx : zrow h r N xs) (hl : xs.length + k ≤ N) : zMt g mX7_appendSame (zR 0 0 0) [.ref (r), .int (b), .int (nI (k))] h n (fun v h' n' => v = none ∧ n' = n ∧ zsm h h' (zrs r) ∧ zrow h' r N (xs ++ List.replicate k (b.toBitVec.toNat % 256))) := by
  refine zMt.of [some (.ref (r)), some (.int (b)), some (.int (nI (k))), none] (by decide) rfl (Nat.le_of_ble_eq_true rfl) ?_
  obtain ⟨Qf, hQ⟩ : ∃ Qf : ZQ, Qf = (fun v h' n' => v = none ∧ n' = n ∧ zsm h h' (zrs r) ∧ zrow h' r N (xs ++ List.replicate k (b.toBitVec.toNat % 256))) := ⟨_, rfl⟩
  rw [← hQ]
  have hN := hx.len
  refine zp_iconst (v := nI (0)) dX7_appendSame_0 (by decide) ?_
  refine zp_istore_n (ls' := [some (.ref (r)), some (.int (b)), some (.int (nI (k))), some (.int (nI (0)))]) dX7_appendSame_1 (by decide) rfl ?_
  refine zp_pc (pc' := 2) rfl ?_
  have lp : ∀ (m : Nat) (i : Nat) (h1 : ZH), m = k - i → i ≤ k → zsm h h1 (zrs r) → zrow h1 r N (xs ++ List.replicate i (b.toBitVec.toNat % 256)) → zP g mX7_appendSame (zR 0 0 0) Qf 0 0 2 [some (.ref (r)), some (.int (b)), some (.int (nI (k))), some (.int (nI (i)))] [] h1 n := by
    intro m
    induction m using Nat.strongRecOn with
    | _ m ih =>
      intro i h1 hm hi hs hy
      have ez : (xs ++ List.replicate i (b.toBitVec.toNat % 256)).length = xs.length + i := by rw [List.length_append, List.length_replicate]
      obtain ⟨a0, a1, a2, a3, a4, f, a5, a6⟩ := id hy
      refine zp_iload_n dX7_appendSame_2 rfl ?_
      refine zp_iload_n dX7_appendSame_3 rfl ?_
      refine zp_pc (pc' := 4) rfl ?_
      refine zn_icmp_ge (tgt := 49) dX7_appendSame_4 (by decide) (by omega) (by omega) (fun c4 => ?_) (fun c4 => ?_)
      · have e0 : i = k := by omega
        subst e0
        refine zp_ret (v := none) dX7_appendSame_49 ⟨rfl, rfl⟩ (by decide) (by decide) ?_
        rw [hQ]
        exact ⟨rfl, rfl, hs, hy⟩
      · refine zp_aload_n dX7_appendSame_7 rfl ?_
        refine zp_get dX7_appendSame_8 gX7_9_6 a1 rfl ?_
        refine zp_aload_n dX7_appendSame_11 rfl ?_
        refine zp_get dX7_appendSame_12 gX7_21_6 a1 rfl ?_
        refine zp_ilen dX7_appendSame_15 a5 ?_
        refine zp_pc (pc' := 16) rfl ?_
        refine zn_icmp_ge (tgt := 49) dX7_appendSame_16 (by decide) (by omega) (by omega) (fun c16 => ?_) (fun c16 => ?_)
        · exact absurd hl (by omega)
        · refine zp_aload_n dX7_appendSame_19 rfl ?_
          refine zp_get dX7_appendSame_20 gX7_21_6 a1 rfl ?_
          refine zp_aload_n dX7_appendSame_23 rfl ?_
          refine zp_get dX7_appendSame_24 gX7_9_6 a1 rfl ?_
          refine zp_iload_n dX7_appendSame_27 rfl ?_
          refine zp_sipush (v := nI (255)) dX7_appendSame_28 (by decide) ?_
          refine zp_iand dX7_appendSame_31 ?_
          refine zp_pc (pc' := 32) rfl ?_
          refine zp_i (y := nI (b.toBitVec.toNat % 256)) (zand255 b) ?_
          refine zn_iast dX7_appendSame_32 (by omega) a5 (by omega) (by omega) ?_
          refine zp_nh (fun h1x eh1x => ?_)
          have k1_0 := (congrFun eh1x (r)).trans ((va_up_ne _ _ (by omega)).trans a1)
          have k1_1 : h1x (r + 1) = some (.inr (N, .inl (va_up f ((xs ++ List.replicate i (b.toBitVec.toNat % 256)).length) (nI (b.toBitVec.toNat % 256))))) := by rw [eh1x]; exact va_up_self _ _ _
          refine zp_aload_n dX7_appendSame_33 rfl ?_
          refine zp_dup dX7_appendSame_34 rfl ?_
          refine zp_get dX7_appendSame_35 gX7_9_6 k1_0 rfl ?_
          refine zp_iconst (v := nI (1)) dX7_appendSame_38 (by decide) ?_
          refine zn_iadd dX7_appendSame_39 ?_
          refine zp_put (fs' := [.ref (r + 1), .int (nI (((xs ++ List.replicate i (b.toBitVec.toNat % 256)).length) + (1)))]) dX7_appendSame_40 pX7_9_6 (by omega) k1_0 (Nat.le_of_ble_eq_true rfl) (zfit_i _) rfl ?_
          refine zp_nh (fun h2x eh2x => ?_)
          have k2_0 : h2x (r) = some (.inl (6, [.ref (r + 1), .int (nI (((xs ++ List.replicate i (b.toBitVec.toNat % 256)).length) + (1)))])) := by rw [eh2x]; exact va_up_self _ _ _
          have k2_1 := (congrFun eh2x (r + 1)).trans ((va_up_ne _ _ (by omega)).trans k1_1)
          refine zn_iinc 1 (ls' := [some (.ref (r)), some (.int (b)), some (.int (nI (k))), some (.int (nI (i + 1)))]) dX7_appendSame_43 (by decide) (by decide) rfl rfl ?_
          refine zp_pc (pc' := 46) rfl ?_
          refine zp_goto (tgt := 2) dX7_appendSame_46 (by decide) ?_
          refine zp_pc (pc' := 2) rfl ?_
          refine ih (k - (i + 1)) (by omega) (i + 1) h2x rfl (by omega) ((hs.up eh1x (Or.inr rfl)).up eh2x (Or.inl rfl)) ?_
          have q := zrow.app a0 k2_0 (by omega) a3 a4 (Nat.mod_lt _ (by decide)) k2_1 a6
          rwa [List.append_assoc, ← List.replicate_succ'] at q
  exact lp _ 0 h rfl (Nat.zero_le _) zsm.rf (by rw [List.replicate_zero, List.append_nil]; exact hx)
set_option maxRecDepth 10000 in
set_option maxHeartbeats 2000000 in
theorem e_appendPart {g : ZG} {h : ZH} {n : Nat} {r N : Nat} {xs : List Nat} {s K : Nat} {ys : List Nat} {a c : Nat} (hx : zrow h r N xs) (hy : zrow h s K ys) (hrs : r ≠ s) (ha : a + c < 2 ^ 30) (hl : xs.length + (zpart ys a c).length ≤ N) : zMt g mX7_appendPart (zR 1 0 0) [.ref (r), .ref (s), .int (nI (a)), .int (nI (c))] h n (fun v h' n' => v = none ∧ n' = n ∧ zsm h h' (zrs r) ∧ zrow h' r N (xs ++ zpart ys a c)) := by
  refine zMt.of [some (.ref (r)), some (.ref (s)), some (.int (nI (a))), some (.int (nI (c))), none, none] (by decide) rfl (Nat.le_of_ble_eq_true rfl) ?_
  obtain ⟨Qf, hQ⟩ : ∃ Qf : ZQ, Qf = (fun v h' n' => v = none ∧ n' = n ∧ zsm h h' (zrs r) ∧ zrow h' r N (xs ++ zpart ys a c)) := ⟨_, rfl⟩
  rw [← hQ]
  have hN := hx.len
  have hK := hy.len
  obtain ⟨p1, p2⟩ := hx.apart hy
  rw [zpart_len] at hl
  obtain ⟨b0, b1, b2, b3, b4, f2, b5, b6⟩ := id hy
  refine zp_aload_n dX7_appendPart_0 rfl ?_
  refine zp_get dX7_appendPart_1 gX7_9_6 b1 rfl ?_
  refine zp_iload_n dX7_appendPart_4 rfl ?_
  refine zp_iload_n dX7_appendPart_5 rfl ?_
  refine zn_iadd dX7_appendPart_6 ?_
  refine zp_pc (pc' := 7) rfl ?_
  refine zp_mmin dX7_appendPart_7 cX7_29 (by decide) (by decide) (Nat.le_of_ble_eq_true rfl) ?_
  refine zp_i (y := nI (min (ys.length) ((a) + (c)))) (zmin_nI (by omega) (by omega)) ?_
  refine zp_istore (ls' := [some (.ref (r)), some (.ref (s)), some (.int (nI (a))), some (.int (nI (c))), some (.int (nI (min (ys.length) ((a) + (c))))), none]) dX7_appendPart_10 (by decide) rfl ?_
  refine zp_iload_n dX7_appendPart_12 rfl ?_
  refine zp_iconst (v := nI (0)) dX7_appendPart_13 (by decide) ?_
  refine zp_pc (pc' := 14) rfl ?_
  refine zp_mmax dX7_appendPart_14 cX7_15 (by decide) (by decide) (Nat.le_of_ble_eq_true rfl) ?_
  refine zp_i (y := nI (max (a) (0))) (zmax_nI (by omega) (by omega)) ?_
  refine zp_istore (ls' := [some (.ref (r)), some (.ref (s)), some (.int (nI (a))), some (.int (nI (c))), some (.int (nI (min (ys.length) ((a) + (c))))), some (.int (nI (max (a) (0))))]) dX7_appendPart_17 (by decide) rfl ?_
  refine zp_pc (pc' := 19) rfl ?_
  have e1 : max a 0 = a := by omega
  refine zp_ls (ls' := [some (.ref (r)), some (.ref (s)), some (.int (nI (a))), some (.int (nI (c))), some (.int (nI (min (ys.length) ((a) + (c))))), some (.int (nI (a + 0)))]) (by rw [e1, Nat.add_zero]) ?_
  have lp : ∀ (m : Nat) (i : Nat) (h1 : ZH), m = c - i → (i ≤ c ∧ (i = 0 ∨ a + i ≤ ys.length)) → zsm h h1 (zrs r) → zrow h1 r N (xs ++ zpart ys a i) → zP g mX7_appendPart (zR 1 0 0) Qf 0 0 19 [some (.ref (r)), some (.ref (s)), some (.int (nI (a))), some (.int (nI (c))), some (.int (nI (min (ys.length) ((a) + (c))))), some (.int (nI (a + i)))] [] h1 n := by
    intro m
    induction m using Nat.strongRecOn with
    | _ m ih =>
      intro i h1 hm hi hs hz
      have hz2 := hy.sm hs (by omega) (by omega) (by omega)
      have ez : (xs ++ zpart ys a i).length = xs.length + i := by rw [List.length_append, zpart_len]; omega
      obtain ⟨a0, a1, a2, a3, a4, f, a5, a6⟩ := id hz
      obtain ⟨b0, b1, b2, b3, b4, f3, b5, b6⟩ := id hz2
      refine zp_iload dX7_appendPart_19 rfl ?_
      refine zp_iload dX7_appendPart_21 rfl ?_
      refine zp_pc (pc' := 23) rfl ?_
      refine zn_icmp_ge (tgt := 70) dX7_appendPart_23 (by decide) (by omega) (by omega) (fun c23 => ?_) (fun c23 => ?_)
      · have e : zpart ys a c = zpart ys a i := by
          by_cases q : a + c ≤ ys.length
          · rw [show i = c by omega]
          · rw [zpart_over ys a (show ys.length ≤ a + c by omega), zpart_over ys a (show ys.length ≤ a + i by omega)]
        refine zp_ret (v := none) dX7_appendPart_70 ⟨rfl, rfl⟩ (by decide) (by decide) ?_
        rw [hQ]
        exact ⟨rfl, rfl, hs, by rw [e]; exact hz⟩
      · refine zp_aload_n dX7_appendPart_26 rfl ?_
        refine zp_get dX7_appendPart_27 gX7_9_6 a1 rfl ?_
        refine zp_aload_n dX7_appendPart_30 rfl ?_
        refine zp_get dX7_appendPart_31 gX7_21_6 a1 rfl ?_
        refine zp_ilen dX7_appendPart_34 a5 ?_
        refine zp_pc (pc' := 35) rfl ?_
        refine zn_icmp_ge (tgt := 70) dX7_appendPart_35 (by decide) (by omega) (by omega) (fun c35 => ?_) (fun c35 => ?_)
        · exact absurd hl (by omega)
        · refine zp_aload_n dX7_appendPart_38 rfl ?_
          refine zp_get dX7_appendPart_39 gX7_21_6 a1 rfl ?_
          refine zp_aload_n dX7_appendPart_42 rfl ?_
          refine zp_get dX7_appendPart_43 gX7_9_6 a1 rfl ?_
          refine zp_aload_n dX7_appendPart_46 rfl ?_
          refine zp_get dX7_appendPart_47 gX7_21_6 b1 rfl ?_
          refine zp_iload dX7_appendPart_50 rfl ?_
          refine zn_iald (j := a + i) dX7_appendPart_52 b5 (by omega) (by omega) ?_
          refine zp_pc (pc' := 53) rfl ?_
          refine zp_i (y := nI (ys.getD (a + i) 0)) (b6 _ (by omega)) ?_
          refine zn_iast dX7_appendPart_53 (by omega) a5 (by omega) (by omega) ?_
          refine zp_nh (fun h1x eh1x => ?_)
          have k1_0 := (congrFun eh1x (r)).trans ((va_up_ne _ _ (by omega)).trans a1)
          have k1_1 : h1x (r + 1) = some (.inr (N, .inl (va_up f ((xs ++ zpart ys a i).length) (nI (ys.getD (a + i) 0))))) := by rw [eh1x]; exact va_up_self _ _ _
          have k1_2 := (congrFun eh1x (s)).trans ((va_up_ne _ _ (by omega)).trans b1)
          have k1_3 := (congrFun eh1x (s + 1)).trans ((va_up_ne _ _ (by omega)).trans b5)
          refine zp_aload_n dX7_appendPart_54 rfl ?_
          refine zp_dup dX7_appendPart_55 rfl ?_
          refine zp_get dX7_appendPart_56 gX7_9_6 k1_0 rfl ?_
          refine zp_iconst (v := nI (1)) dX7_appendPart_59 (by decide) ?_
          refine zn_iadd dX7_appendPart_60 ?_
          refine zp_put (fs' := [.ref (r + 1), .int (nI (((xs ++ zpart ys a i).length) + (1)))]) dX7_appendPart_61 pX7_9_6 (by omega) k1_0 (Nat.le_of_ble_eq_true rfl) (zfit_i _) rfl ?_
          refine zp_nh (fun h2x eh2x => ?_)
          have k2_0 : h2x (r) = some (.inl (6, [.ref (r + 1), .int (nI (((xs ++ zpart ys a i).length) + (1)))])) := by rw [eh2x]; exact va_up_self _ _ _
          have k2_1 := (congrFun eh2x (r + 1)).trans ((va_up_ne _ _ (by omega)).trans k1_1)
          have k2_2 := (congrFun eh2x (s)).trans ((va_up_ne _ _ (by omega)).trans k1_2)
          have k2_3 := (congrFun eh2x (s + 1)).trans ((va_up_ne _ _ (by omega)).trans k1_3)
          refine zn_iinc 1 (ls' := [some (.ref (r)), some (.ref (s)), some (.int (nI (a))), some (.int (nI (c))), some (.int (nI (min (ys.length) ((a) + (c))))), some (.int (nI (a + i + 1)))]) dX7_appendPart_64 (by decide) (by decide) rfl rfl ?_
          refine zp_pc (pc' := 67) rfl ?_
          refine zp_ls (ls' := [some (.ref (r)), some (.ref (s)), some (.int (nI (a))), some (.int (nI (c))), some (.int (nI (min (ys.length) ((a) + (c))))), some (.int (nI (a + (i + 1))))]) (by rw [Nat.add_assoc]) ?_
          refine zp_goto (tgt := 19) dX7_appendPart_67 (by decide) ?_
          refine zp_pc (pc' := 19) rfl ?_
          refine ih (c - (i + 1)) (by omega) (i + 1) h2x rfl (by omega) ((hs.up eh1x (Or.inr rfl)).up eh2x (Or.inl rfl)) ?_
          have q := zrow.app a0 k2_0 (by omega) a3 a4 (zget_lt b4 (by decide) _) k2_1 a6
          rwa [List.append_assoc, zpart_step ys a (by omega)] at q
  exact lp _ 0 h rfl ⟨Nat.zero_le _, Or.inl rfl⟩ zsm.rf (by rw [zpart_nil, List.append_nil]; exact hx)
