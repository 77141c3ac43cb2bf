set_option maxRecDepth 10000 in
set_option maxHeartbeats 2000000 in
theorem e_twice {g : ZG} {h : ZH} {n : Nat} {x : Nat} (hx : x < 256) : zMt g mX0_twice (zR 0 0 0) [.int (nI (x))] h n (fun v h' n' => v = some (.int (nI (zxt x))) ∧ h' = h ∧ n' = n) := by
  refine zMt.of [some (.int (nI (x)))] (by decide) rfl (Nat.le_of_ble_eq_true rfl) ?_
  refine zp_iload_n dX0_twice_0 rfl ?_
  refine zp_iconst (v := nI (1)) dX0_twice_1 (by decide) ?_
  refine zp_ishl dX0_twice_2 ?_
  refine zp_iload_n dX0_twice_3 rfl ?_
  refine zp_bipush (v := nI (7)) dX0_twice_4 (by decide) ?_
  refine zp_ishr dX0_twice_6 ?_
  refine zp_sipush (v := nI (283)) dX0_twice_7 (by decide) ?_
  refine zp_imul dX0_twice_10 ?_
  refine zp_ixor dX0_twice_11 ?_
  refine zp_pc (pc' := 12) rfl ?_
  refine zp_i (y := nI (zxt x)) (zxt_eq x hx).1 ?_
  refine zp_ret (v := (some (.int (nI (zxt x))))) dX0_twice_12 ⟨⟨_, rfl, rfl⟩, rfl⟩ (by decide) (by decide) ?_
  exact ⟨rfl, rfl, rfl⟩
set_option maxRecDepth 10000 in
set_option maxHeartbeats 2000000 in
theorem e_keyLength {g : ZG} {h : ZH} {n : Nat} {b : Bool}  : zMt g mX0_keyLength (zR 0 0 0) [.int (nI ((if b then 1 else 0)))] h n (fun v h' n' => v = some (.int (nI (zkl b))) ∧ h' = h ∧ n' = n) := by
  refine zMt.of [some (.int (nI ((if b then 1 else 0))))] (by decide) rfl (Nat.le_of_ble_eq_true rfl) ?_
  cases b
  · refine zp_ls (ls' := [some (.int (nI 0))]) rfl ?_
    refine zp_iload_n dX0_keyLength_0 rfl ?_
    refine zp_pc (pc' := 1) rfl ?_
    refine zn_if_eq (tgt := 9) dX0_keyLength_1 (by decide) (by omega) (fun c1 => ?_) (fun c1 => ?_)
    · refine zp_bipush (v := nI (16)) dX0_keyLength_9 (by decide) ?_
      refine zp_pc (pc' := 11) rfl ?_
      refine zp_ret (v := (some (.int (nI (16))))) dX0_keyLength_11 ⟨⟨_, rfl, rfl⟩, rfl⟩ (by decide) (by decide) ?_
      exact ⟨rfl, rfl, rfl⟩
    · exact absurd rfl c1
  · refine zp_ls (ls' := [some (.int (nI 1))]) rfl ?_
    refine zp_iload_n dX0_keyLength_0 rfl ?_
    refine zp_pc (pc' := 1) rfl ?_
    refine zn_if_eq (tgt := 9) dX0_keyLength_1 (by decide) (by omega) (fun c1 => ?_) (fun c1 => ?_)
    · exact absurd c1 (by decide)
    · refine zp_bipush (v := nI (32)) dX0_keyLength_4 (by decide) ?_
      refine zp_goto (tgt := 11) dX0_keyLength_6 (by decide) ?_
      refine zp_pc (pc' := 11) rfl ?_
      refine zp_ret (v := (some (.int (nI (32))))) dX0_keyLength_11 ⟨⟨_, rfl, rfl⟩, rfl⟩ (by decide) (by decide) ?_
      exact ⟨rfl, rfl, rfl⟩
set_option maxRecDepth 10000 in
set_option maxHeartbeats 2000000 in
theorem e_addKey {g : ZG} {h : ZH} {n : Nat} {c r : Nat} {rd : Int32} {K s : Nat → Nat} {f fn : Nat → Int32} (h16 : 16 ≤ c) (h0 : h c = some (zco c rd)) (h1 : h (c + 1) = some (.inr (240, .inl f))) (h2 : h (c + 2) = some (.inr (16, .inl fn))) (hr : r ≤ 14) (hK : ∀ k, k < 16 → f (16 * r + k) = nI (K (16 * r + k))) (hn : ∀ k, k < 16 → fn k = nI (s k)) : zMt g mX0_addKey (zR 0 0 0) [.ref (c), .int (nI (r))] h n (fun v h' n' => v = none ∧ n' = n ∧ zsm h h' (fun i => i = c + 2) ∧ ∃ f', h' (c + 2) = some (.inr (16, .inl f')) ∧ ∀ k, k < 16 → f' k = nI (zadk K r s k)) := by
  refine zMt.of [some (.ref (c)), some (.int (nI (r))), none] (by decide) rfl (Nat.le_of_ble_eq_true rfl) ?_
  obtain ⟨Qf, hQ⟩ : ∃ Qf : ZQ, Qf = (fun v h' n' => v = none ∧ n' = n ∧ zsm h h' (fun i => i = c + 2) ∧ ∃ f', h' (c + 2) = some (.inr (16, .inl f')) ∧ ∀ k, k < 16 → f' k = nI (zadk K r s k)) := ⟨_, rfl⟩
  rw [← hQ]
  refine zp_iconst (v := nI (0)) dX0_addKey_0 (by decide) ?_
  refine zp_istore_n (ls' := [some (.ref (c)), some (.int (nI (r))), some (.int (nI (0)))]) dX0_addKey_1 (by decide) rfl ?_
  refine zp_pc (pc' := 2) rfl ?_
  have lp : ∀ (m : Nat) (k : Nat) (g1 : ZH) (f1 : Nat → Int32), m = 16 - k → k ≤ 16 → zsm h g1 (fun i => i = c + 2) → g1 (c + 2) = some (.inr (16, .inl f1)) → (∀ i, i < k → f1 i = nI (zadk K r s i)) → (∀ i, k ≤ i → i < 16 → f1 i = nI (s i)) → zP g mX0_addKey (zR 0 0 0) Qf 0 0 2 [some (.ref (c)), some (.int (nI (r))), some (.int (nI (k)))] [] g1 n := by
    intro m
    induction m using Nat.strongRecOn with
    | _ m ih =>
      intro k g1 f1 hm hk hs b2 hlo hhi
      have b0 : g1 c = some (zco c rd) := (hs c (by omega)).trans h0
      have b1 : g1 (c + 1) = some (.inr (240, .inl f)) := (hs (c + 1) (by omega)).trans h1
      refine zp_iload_n dX0_addKey_2 rfl ?_
      refine zp_bipush (v := nI (16)) dX0_addKey_3 (by decide) ?_
      refine zp_pc (pc' := 5) rfl ?_
      refine zn_icmp_ge (tgt := 34) dX0_addKey_5 (by decide) (by omega) (by omega) (fun c5 => ?_) (fun c5 => ?_)
      · refine zp_ret (v := none) dX0_addKey_34 ⟨rfl, rfl⟩ (by decide) (by decide) ?_
        rw [hQ]
        exact ⟨rfl, rfl, hs, f1, b2, fun i hi => hlo i (by omega)⟩
      · refine zp_aload_n dX0_addKey_8 rfl ?_
        refine zp_get dX0_addKey_9 gX0_13_0 b0 rfl ?_
        refine zp_iload_n dX0_addKey_12 rfl ?_
        refine zp_dup2 dX0_addKey_13 rfl rfl ?_
        refine zn_iald (j := k) dX0_addKey_14 b2 (by omega) (by omega) ?_
        refine zp_aload_n dX0_addKey_15 rfl ?_
        refine zp_get dX0_addKey_16 gX0_9_0 b0 rfl ?_
        refine zp_bipush (v := nI (16)) dX0_addKey_19 (by decide) ?_
        refine zp_iload_n dX0_addKey_21 rfl ?_
        refine zn_imul dX0_addKey_22 ?_
        refine zp_iload_n dX0_addKey_23 rfl ?_
        refine zn_iadd dX0_addKey_24 ?_
        refine zp_pc (pc' := 25) rfl ?_
        refine zn_iald (j := ((16) * (r)) + (k)) dX0_addKey_25 b1 (by omega) (by omega) ?_
        refine zp_ixor dX0_addKey_26 ?_
        refine zp_pc (pc' := 27) rfl ?_
        refine zp_i (y := nI (zadk K r s k)) (by rw [hhi k (Nat.le_refl _) (by omega), hK k (by omega), nx_xor]; rfl) ?_
        refine zn_iast dX0_addKey_27 (by omega) b2 (by omega) (by omega) ?_
        refine zp_nh (fun h1x eh1x => ?_)
        have k1_0 := (congrFun eh1x (c)).trans ((va_up_ne _ _ (by omega)).trans b0)
        have k1_1 := (congrFun eh1x (c + 1)).trans ((va_up_ne _ _ (by omega)).trans b1)
        have k1_2 : h1x (c + 2) = some (.inr (16, .inl (va_up f1 (k) (nI (zadk K r s k))))) := by rw [eh1x]; exact va_up_self _ _ _
        refine zn_iinc 1 (ls' := [some (.ref (c)), some (.int (nI (r))), some (.int (nI (k + 1)))]) dX0_addKey_28 (by decide) (by decide) rfl rfl ?_
        refine zp_pc (pc' := 31) rfl ?_
        refine zp_goto (tgt := 2) dX0_addKey_31 (by decide) ?_
        refine zp_pc (pc' := 2) rfl ?_
        refine ih (16 - (k + 1)) (by omega) (k + 1) h1x _ rfl (by omega) (hs.up eh1x rfl) k1_2 (fun i hi => ?_) (fun i h1 h2 => ?_)
        · by_cases e : i = k
          · rw [e, va_up_self]
          · rw [va_up_ne _ _ e]; exact hlo i (by omega)
        · rw [va_up_ne _ _ (by omega)]; exact hhi i (by omega) h2
  exact lp _ 0 h fn rfl (Nat.zero_le _) zsm.rf h2 (fun i hi => absurd hi (Nat.not_lt_zero _)) (fun i _ hi => hn i hi)
set_option maxRecDepth 10000 in
set_option maxHeartbeats 2000000 in
theorem e_replaceAndShift {g : ZG} {h : ZH} {n : Nat} {c : Nat} {rd : Int32} {s : Nat → Nat} {fn fs : Nat → Int32} (h16 : 16 ≤ c) (ht : ztab h) (h0 : h c = some (zco c rd)) (h2 : h (c + 2) = some (.inr (16, .inl fn))) (h3 : h (c + 3) = some (.inr (16, .inl fs))) (hb : zby s) (hn : ∀ k, k < 16 → fn k = nI (s k)) : zMt g mX0_replaceAndShift (zR 0 0 0) [.ref (c)] h n (fun v h' n' => v = none ∧ n' = n ∧ zsm h h' (fun i => i = c + 3) ∧ ∃ f', h' (c + 3) = some (.inr (16, .inl f')) ∧ ∀ k, k < 16 → f' k = nI (zsb s k)) := by
  refine zMt.of [some (.ref (c)), none] (by decide) rfl (Nat.le_of_ble_eq_true rfl) ?_
  obtain ⟨Qf, hQ⟩ : ∃ Qf : ZQ, Qf = (fun v h' n' => v = none ∧ n' = n ∧ zsm h h' (fun i => i = c + 3) ∧ ∃ f', h' (c + 3) = some (.inr (16, .inl f')) ∧ ∀ k, k < 16 → f' k = nI (zsb s k)) := ⟨_, rfl⟩
  rw [← hQ]
  refine zp_iconst (v := nI (0)) dX0_replaceAndShift_0 (by decide) ?_
  refine zp_istore_n (ls' := [some (.ref (c)), some (.int (nI (0)))]) dX0_replaceAndShift_1 (by decide) rfl ?_
  refine zp_pc (pc' := 2) rfl ?_
  have lp : ∀ (m : Nat) (k : Nat) (g1 : ZH) (f1 : Nat → Int32), m = 16 - k → k ≤ 16 → zsm h g1 (fun i => i = c + 3) → g1 (c + 3) = some (.inr (16, .inl f1)) → (∀ i, i < k → f1 i = nI (zsb s i)) → zP g mX0_replaceAndShift (zR 0 0 0) Qf 0 0 2 [some (.ref (c)), some (.int (nI (k)))] [] g1 n := by
    intro m
    induction m using Nat.strongRecOn with
    | _ m ih =>
      intro k g1 f1 hm hk hs b3 hlo
      have b0 : g1 c = some (zco c rd) := (hs c (by omega)).trans h0
      have b2 : g1 (c + 2) = some (.inr (16, .inl fn)) := (hs (c + 2) (by omega)).trans h2
      have bB := (ht.sm hs (fun i hi => by omega)).1
      refine zp_iload_n dX0_replaceAndShift_2 rfl ?_
      refine zp_bipush (v := nI (16)) dX0_replaceAndShift_3 (by decide) ?_
      refine zp_pc (pc' := 5) rfl ?_
      refine zn_icmp_ge (tgt := 39) dX0_replaceAndShift_5 (by decide) (by omega) (by omega) (fun c5 => ?_) (fun c5 => ?_)
      · refine zp_ret (v := none) dX0_replaceAndShift_39 ⟨rfl, rfl⟩ (by decide) (by decide) ?_
        rw [hQ]
        exact ⟨rfl, rfl, hs, f1, b3, fun i hi => hlo i (by omega)⟩
      · have hb5 := hb (5 * k % 16) (Nat.mod_lt _ (by decide))
        refine zp_aload_n dX0_replaceAndShift_8 rfl ?_
        refine zp_get dX0_replaceAndShift_9 gX0_16_0 b0 rfl ?_
        refine zp_iload_n dX0_replaceAndShift_12 rfl ?_
        refine zp_gets dX0_replaceAndShift_13 sX0_63 ?_
        refine zp_aload_n dX0_replaceAndShift_16 rfl ?_
        refine zp_get dX0_replaceAndShift_17 gX0_13_0 b0 rfl ?_
        refine zp_iconst (v := nI (5)) dX0_replaceAndShift_20 (by decide) ?_
        refine zp_iload_n dX0_replaceAndShift_21 rfl ?_
        refine zn_imul dX0_replaceAndShift_22 ?_
        refine zp_bipush (v := nI (15)) dX0_replaceAndShift_23 (by decide) ?_
        refine zp_iand dX0_replaceAndShift_25 ?_
        refine zp_pc (pc' := 26) rfl ?_
        refine zp_i (y := nI (5 * k % 16)) (zidx_sr (by omega)) ?_
        refine zn_iald (j := 5 * k % 16) dX0_replaceAndShift_26 b2 (by omega) (by omega) ?_
        refine zp_pc (pc' := 27) rfl ?_
        refine zp_i (y := nI (s (5 * k % 16))) (hn _ (Nat.mod_lt _ (by decide))) ?_
        refine zp_sipush (v := nI (255)) dX0_replaceAndShift_27 (by decide) ?_
        refine zp_iand dX0_replaceAndShift_30 ?_
        refine zp_pc (pc' := 31) rfl ?_
        refine zp_i (y := nI (s (5 * k % 16))) (by rw [zandN (by omega), Nat.mod_eq_of_lt hb5]) ?_
        refine zn_iald (j := s (5 * k % 16)) dX0_replaceAndShift_31 bB (by omega) (by omega) ?_
        refine zp_pc (pc' := 32) rfl ?_
        refine zp_i (y := nI (zsb s k)) (zbox_eq _ hb5).1 ?_
        refine zn_iast dX0_replaceAndShift_32 (by omega) b3 (by omega) (by omega) ?_
        refine zp_nh (fun h1x eh1x => ?_)
        have k1_0 := (congrFun eh1x (c)).trans ((va_up_ne _ _ (by omega)).trans b0)
        have k1_1 := (congrFun eh1x (c + 2)).trans ((va_up_ne _ _ (by omega)).trans b2)
        have k1_2 : h1x (c + 3) = some (.inr (16, .inl (va_up f1 (k) (nI (zsb s k))))) := by rw [eh1x]; exact va_up_self _ _ _
        have k1_3 := (congrFun eh1x (1)).trans ((va_up_ne _ _ (by omega)).trans bB)
        refine zn_iinc 1 (ls' := [some (.ref (c)), some (.int (nI (k + 1)))]) dX0_replaceAndShift_33 (by decide) (by decide) rfl rfl ?_
        refine zp_pc (pc' := 36) rfl ?_
        refine zp_goto (tgt := 2) dX0_replaceAndShift_36 (by decide) ?_
        refine zp_pc (pc' := 2) rfl ?_
        refine ih (16 - (k + 1)) (by omega) (k + 1) h1x _ rfl (by omega) (hs.up eh1x rfl) k1_2 (fun i hi => ?_)
        by_cases e : i = k
        · rw [e, va_up_self]
        · rw [va_up_ne _ _ e]; exact hlo i (by omega)
  exact lp _ 0 h fs rfl (Nat.zero_le _) zsm.rf h3 (fun i hi => absurd hi (Nat.not_lt_zero _))
set_option maxRecDepth 10000 in
set_option maxHeartbeats 2000000 in
theorem e_mixColumns {g : ZG} {h : ZH} {n : Nat} {c : Nat} {rd : Int32} {s : Nat → Nat} {fn fs : Nat → Int32} (h16 : 16 ≤ c) (h0 : h c = some (zco c rd)) (h2 : h (c + 2) = some (.inr (16, .inl fn))) (h3 : h (c + 3) = some (.inr (16, .inl fs))) (hb : zby s) (hn : ∀ k, k < 16 → fs k = nI (s k)) : zMt g mX0_mixColumns (zR 1 0 0) [.ref (c)] h n (fun v h' n' => v = none ∧ n' = n ∧ zsm h h' (fun i => i = c + 2) ∧ ∃ f', h' (c + 2) = some (.inr (16, .inl f')) ∧ ∀ k, k < 16 → f' k = nI (zmx s k)) := by
  refine zMt.of [some (.ref (c)), none, none, none, none, none] (by decide) rfl (Nat.le_of_ble_eq_true rfl) ?_
  obtain ⟨Qf, hQ⟩ : ∃ Qf : ZQ, Qf = (fun v h' n' => v = none ∧ n' = n ∧ zsm h h' (fun i => i = c + 2) ∧ ∃ f', h' (c + 2) = some (.inr (16, .inl f')) ∧ ∀ k, k < 16 → f' k = nI (zmx s k)) := ⟨_, rfl⟩
  rw [← hQ]
  refine zp_iconst (v := nI (0)) dX0_mixColumns_0 (by decide) ?_
  refine zp_istore_n (ls' := [some (.ref (c)), some (.int (nI (0))), none, none, none, none]) dX0_mixColumns_1 (by decide) rfl ?_
  refine zp_pc (pc' := 2) rfl ?_
  have lp : ∀ (m : Nat) (k : Nat) (g1 : ZH) (f1 : Nat → Int32), m = 16 - k → k ≤ 16 → zsm h g1 (fun i => i = c + 2) → g1 (c + 2) = some (.inr (16, .inl f1)) → (∀ i, i < k → f1 i = nI (zmx s i)) → zP g mX0_mixColumns (zR 1 0 0) Qf 0 0 2 [some (.ref (c)), some (.int (nI (k))), none, none, none, none] [] g1 n := by
    intro m
    induction m using Nat.strongRecOn with
    | _ m ih =>
      intro k g1 f1 hm hk hs b2 hlo
      have b0 : g1 c = some (zco c rd) := (hs c (by omega)).trans h0
      have b3 : g1 (c + 3) = some (.inr (16, .inl fs)) := (hs (c + 3) (by omega)).trans h3
      refine zp_iload_n dX0_mixColumns_2 rfl ?_
      refine zp_bipush (v := nI (16)) dX0_mixColumns_3 (by decide) ?_
      refine zp_pc (pc' := 5) rfl ?_
      refine zn_icmp_ge (tgt := 85) dX0_mixColumns_5 (by decide) (by omega) (by omega) (fun c5 => ?_) (fun c5 => ?_)
      · refine zp_ret (v := none) dX0_mixColumns_85 ⟨rfl, rfl⟩ (by decide) (by decide) ?_
        rw [hQ]
        exact ⟨rfl, rfl, hs, f1, b2, fun i hi => hlo i (by omega)⟩
      · obtain ⟨i1, i2, i3⟩ := zidx_mc k (by omega)
        refine zp_iload_n dX0_mixColumns_8 rfl ?_
        refine zp_bipush (v := nI (12)) dX0_mixColumns_9 (by decide) ?_
        refine zp_iand dX0_mixColumns_11 ?_
        refine zp_istore_n (ls' := [some (.ref (c)), some (.int (nI (k))), some (.int ((nI (k)) &&& (nI (12)))), none, none, none]) dX0_mixColumns_12 (by decide) rfl ?_
        refine zp_aload_n dX0_mixColumns_13 rfl ?_
        refine zp_get dX0_mixColumns_14 gX0_16_0 b0 rfl ?_
        refine zp_iload_n dX0_mixColumns_17 rfl ?_
        refine zp_iload_n dX0_mixColumns_18 rfl ?_
        refine zp_iconst (v := nI (1)) dX0_mixColumns_19 (by decide) ?_
        refine zn_iadd dX0_mixColumns_20 ?_
        refine zp_iconst (v := nI (3)) dX0_mixColumns_21 (by decide) ?_
        refine zp_iand dX0_mixColumns_22 ?_
        refine zp_pc (pc' := 23) rfl ?_
        refine zp_ior dX0_mixColumns_23 ?_
        refine zp_pc (pc' := 24) rfl ?_
        refine zp_i (y := nI (zcl k 1)) i1 ?_
        refine zn_iald (j := zcl k 1) dX0_mixColumns_24 b3 (zcl_lt (by omega) _) (by decide) ?_
        refine zp_pc (pc' := 25) rfl ?_
        refine zp_i (y := nI (s (zcl k 1))) (hn _ (zcl_lt (by omega) _)) ?_
        refine zp_istore_n (ls' := [some (.ref (c)), some (.int (nI (k))), some (.int ((nI (k)) &&& (nI (12)))), some (.int (nI (s (zcl k 1)))), none, none]) dX0_mixColumns_25 (by decide) rfl ?_
        refine zp_aload_n dX0_mixColumns_26 rfl ?_
        refine zp_get dX0_mixColumns_27 gX0_16_0 b0 rfl ?_
        refine zp_iload_n dX0_mixColumns_30 rfl ?_
        refine zp_iload_n dX0_mixColumns_31 rfl ?_
        refine zp_iconst (v := nI (2)) dX0_mixColumns_32 (by decide) ?_
        refine zn_iadd dX0_mixColumns_33 ?_
        refine zp_iconst (v := nI (3)) dX0_mixColumns_34 (by decide) ?_
        refine zp_iand dX0_mixColumns_35 ?_
        refine zp_ior dX0_mixColumns_36 ?_
        refine zp_pc (pc' := 37) rfl ?_
        refine zp_i (y := nI (zcl k 2)) i2 ?_
        refine zn_iald (j := zcl k 2) dX0_mixColumns_37 b3 (zcl_lt (by omega) _) (by decide) ?_
        refine zp_pc (pc' := 38) rfl ?_
        refine zp_i (y := nI (s (zcl k 2))) (hn _ (zcl_lt (by omega) _)) ?_
        refine zp_istore (ls' := [some (.ref (c)), some (.int (nI (k))), some (.int ((nI (k)) &&& (nI (12)))), some (.int (nI (s (zcl k 1)))), some (.int (nI (s (zcl k 2)))), none]) dX0_mixColumns_38 (by decide) rfl ?_
        refine zp_aload_n dX0_mixColumns_40 rfl ?_
        refine zp_get dX0_mixColumns_41 gX0_16_0 b0 rfl ?_
        refine zp_iload_n dX0_mixColumns_44 rfl ?_
        refine zp_iload_n dX0_mixColumns_45 rfl ?_
        refine zp_iconst (v := nI (3)) dX0_mixColumns_46 (by decide) ?_
        refine zn_iadd dX0_mixColumns_47 ?_
        refine zp_iconst (v := nI (3)) dX0_mixColumns_48 (by decide) ?_
        refine zp_iand dX0_mixColumns_49 ?_
        refine zp_ior dX0_mixColumns_50 ?_
        refine zp_pc (pc' := 51) rfl ?_
        refine zp_i (y := nI (zcl k 3)) i3 ?_
        refine zn_iald (j := zcl k 3) dX0_mixColumns_51 b3 (zcl_lt (by omega) _) (by decide) ?_
        refine zp_pc (pc' := 52) rfl ?_
        refine zp_i (y := nI (s (zcl k 3))) (hn _ (zcl_lt (by omega) _)) ?_
        refine zp_istore (ls' := [some (.ref (c)), some (.int (nI (k))), some (.int ((nI (k)) &&& (nI (12)))), some (.int (nI (s (zcl k 1)))), some (.int (nI (s (zcl k 2)))), some (.int (nI (s (zcl k 3))))]) dX0_mixColumns_52 (by decide) rfl ?_
        refine zp_aload_n dX0_mixColumns_54 rfl ?_
        refine zp_get dX0_mixColumns_55 gX0_13_0 b0 rfl ?_
        refine zp_iload_n dX0_mixColumns_58 rfl ?_
        refine zp_aload_n dX0_mixColumns_59 rfl ?_
        refine zp_get dX0_mixColumns_60 gX0_16_0 b0 rfl ?_
        refine zp_iload_n dX0_mixColumns_63 rfl ?_
        refine zn_iald (j := k) dX0_mixColumns_64 b3 (by omega) (by omega) ?_
        refine zp_pc (pc' := 65) rfl ?_
        refine zp_i (y := nI (s k)) (hn _ (by omega)) ?_
        refine zp_iload_n dX0_mixColumns_65 rfl ?_
        refine zp_ixor dX0_mixColumns_66 ?_
        refine zp_pc (pc' := 67) rfl ?_
        refine zp_i (y := nI (s k ^^^ s (zcl k 1))) (nx_xor _ _) ?_
        refine zp_callS (As := [.int (nI (s k ^^^ s (zcl k 1)))]) (st := [.int (nI (k)), .ref (c + 2)]) dX0_mixColumns_67 cX0_59 rfl (e_twice (x := s k ^^^ s (zcl k 1)) (zx_lt (hb _ (by omega)) (hb _ (zcl_lt (by omega) _)))) (by decide) (by decide) (Nat.le_of_ble_eq_true rfl) (fun v1 h1 n1 q1 => ?_)
        obtain ⟨rfl, H1, N1⟩ := q1
        rw [N1, H1]
        refine zp_nrm (cells' := 0) (slots' := 0) (st' := [.int (nI (zxt (s k ^^^ s (zcl k 1)))), .int (nI (k)), .ref (c + 2)]) rfl rfl rfl ?_
        refine zp_iload_n dX0_mixColumns_70 rfl ?_
        refine zp_ixor dX0_mixColumns_71 ?_
        refine zp_iload dX0_mixColumns_72 rfl ?_
        refine zp_ixor dX0_mixColumns_74 ?_
        refine zp_iload dX0_mixColumns_75 rfl ?_
        refine zp_ixor dX0_mixColumns_77 ?_
        refine zp_pc (pc' := 78) rfl ?_
        refine zp_i (y := nI (zmx s k)) (by rw [nx_xor, nx_xor, nx_xor]; rfl) ?_
        refine zn_iast dX0_mixColumns_78 (by omega) b2 (by omega) (by omega) ?_
        refine zp_nh (fun h2x eh2x => ?_)
        have k2_0 := (congrFun eh2x (c)).trans ((va_up_ne _ _ (by omega)).trans b0)
        have k2_1 : h2x (c + 2) = some (.inr (16, .inl (va_up f1 (k) (nI (zmx s k))))) := by rw [eh2x]; exact va_up_self _ _ _
        have k2_2 := (congrFun eh2x (c + 3)).trans ((va_up_ne _ _ (by omega)).trans b3)
        refine zn_iinc 1 (ls' := [some (.ref (c)), some (.int (nI (k + 1))), some (.int ((nI (k)) &&& (nI (12)))), some (.int (nI (s (zcl k 1)))), some (.int (nI (s (zcl k 2)))), some (.int (nI (s (zcl k 3))))]) dX0_mixColumns_79 (by decide) (by decide) rfl rfl ?_
        refine zp_pc (pc' := 82) rfl ?_
        refine zp_goto (tgt := 2) dX0_mixColumns_82 (by decide) ?_
        refine zp_pc (pc' := 2) rfl ?_
        refine zp_drop (ls' := [some (.ref (c)), some (.int (nI (k + 1))), none, none, none, none]) (fun i v hv => ?_) ?_
        · rcases i with _ | _ | _ | _ | _ | _ | i <;> simp at hv ⊢ <;> exact hv
        refine ih (16 - (k + 1)) (by omega) (k + 1) h2x _ rfl (by omega) (hs.up eh2x rfl) k2_1 (fun i hi => ?_)
        by_cases e : i = k
        · rw [e, va_up_self]
        · rw [va_up_ne _ _ e]; exact hlo i (by omega)
  exact lp _ 0 h fn rfl (Nat.zero_le _) zsm.rf h2 (fun i hi => absurd hi (Nat.not_lt_zero _))
