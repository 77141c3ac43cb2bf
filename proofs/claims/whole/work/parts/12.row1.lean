set_option maxRecDepth 10000 in
set_option maxHeartbeats 1000000 in
theorem e_length {g : ZG} {h : ZH} {n : Nat} {r N : Nat} {xs : List Nat} (hx : zrow h r N xs) : zMt g mX7_length (zR 0 0 0) [.ref (r)] h n (fun v h' n' => v = some (.int (nI xs.length)) ∧ h' = h ∧ n' = n) := by
  refine zMt.of [some (.ref (r))] (by decide) rfl (Nat.le_of_ble_eq_true rfl) ?_
  obtain ⟨a0, a1, a2, a3, a4, f, a5, a6⟩ := id hx
  refine zp_aload_n dX7_length_0 rfl ?_
  refine zp_get dX7_length_1 gX7_9_6 a1 rfl ?_
  refine zp_ret (v := (some (.int (nI (xs.length))))) dX7_length_4 ⟨⟨_, rfl, rfl⟩, rfl⟩ (by decide) (by decide) ?_
  exact ⟨rfl, rfl, rfl⟩
set_option maxRecDepth 10000 in
set_option maxHeartbeats 1000000 in
theorem e_at {g : ZG} {h : ZH} {n : Nat} {r N : Nat} {xs : List Nat} {k : Int32} (hx : zrow h r N xs) : zMt g mX7_at (zR 0 0 0) [.ref (r), .int (k)] h n (fun v h' n' => v = some (.int (zat xs k)) ∧ h' = h ∧ n' = n) := by
  refine zMt.of [some (.ref (r)), some (.int (k))] (by decide) rfl (Nat.le_of_ble_eq_true rfl) ?_
  obtain ⟨a0, a1, a2, a3, a4, f, a5, a6⟩ := id hx
  refine zp_iload_n dX7_at_0 rfl ?_
  refine zp_if_lt (tgt := 21) dX7_at_1 (by decide) (fun c1 => ?_) (fun c1 => ?_)
  · refine zp_iconst (v := (-1)) dX7_at_21 (by decide) ?_
    refine zp_i (y := zat xs k) (by unfold zat; rw [if_pos c1]) ?_
    refine zp_ret (v := (some (.int (zat xs k)))) dX7_at_22 ⟨⟨_, rfl, rfl⟩, rfl⟩ (by decide) (by decide) ?_
    exact ⟨rfl, rfl, rfl⟩
  · refine zp_iload_n dX7_at_4 rfl ?_
    refine zp_aload_n dX7_at_5 rfl ?_
    refine zp_get dX7_at_6 gX7_9_6 a1 rfl ?_
    refine zp_icmp_ge (tgt := 21) dX7_at_9 (by decide) (fun c9 => ?_) (fun c9 => ?_)
    · refine zp_iconst (v := (-1)) dX7_at_21 (by decide) ?_
      refine zp_i (y := zat xs k) (by unfold zat; rw [if_neg c1, if_pos c9]) ?_
      refine zp_ret (v := (some (.int (zat xs k)))) dX7_at_22 ⟨⟨_, rfl, rfl⟩, rfl⟩ (by decide) (by decide) ?_
      exact ⟨rfl, rfl, rfl⟩
    · obtain ⟨j, hj, rfl⟩ : ∃ j : Nat, j < xs.length ∧ k = nI j := by
        rcases pk_ix k (n := xs.length) (by omega) with q | q | q
        · exact absurd q c1
        · exact absurd q c9
        · exact q
      refine zp_aload_n dX7_at_12 rfl ?_
      refine zp_get dX7_at_13 gX7_21_6 a1 rfl ?_
      refine zp_iload_n dX7_at_16 rfl ?_
      refine zn_iald (j := j) dX7_at_17 a5 (by omega) (by omega) ?_
      refine zp_goto (tgt := 22) dX7_at_18 (by decide) ?_
      refine zp_i (y := zat xs (nI j)) (by rw [a6 j hj, zat_nI hj (by omega)]) ?_
      refine zp_ret (v := (some (.int (zat xs (nI j))))) dX7_at_22 ⟨⟨_, rfl, rfl⟩, rfl⟩ (by decide) (by decide) ?_
      exact ⟨rfl, rfl, rfl⟩
set_option maxRecDepth 10000 in
set_option maxHeartbeats 1000000 in
theorem e_clear {g : ZG} {h : ZH} {n : Nat} {r N : Nat} {xs : List Nat} (hx : zrow h r N xs) : zMt g mX7_clear (zR 0 0 0) [.ref (r)] h n (fun v h' n' => v = none ∧ n' = n ∧ zsm h h' (zrs r) ∧ zrow h' r N ([])) := by
  refine zMt.of [some (.ref (r))] (by decide) rfl (Nat.le_of_ble_eq_true rfl) ?_
  obtain ⟨a0, a1, a2, a3, a4, f, a5, a6⟩ := id hx
  refine zp_aload_n dX7_clear_0 rfl ?_
  refine zp_iconst (v := nI (0)) dX7_clear_1 (by decide) ?_
  refine zp_put (fs' := [.ref (r + 1), .int (nI (0))]) dX7_clear_2 pX7_9_6 (by omega) a1 (Nat.le_of_ble_eq_true rfl) (zfit_i _) rfl ?_
  refine zp_nh (fun h1x eh1x => ?_)
  have k1_0 : h1x (r) = some (.inl (6, [.ref (r + 1), .int (nI (0))])) := by rw [eh1x]; exact va_up_self _ _ _
  have k1_1 := (congrFun eh1x (r + 1)).trans ((va_up_ne _ _ (by omega)).trans a5)
  refine zp_ret (v := none) dX7_clear_5 ⟨rfl, rfl⟩ (by decide) (by decide) ?_
  exact ⟨rfl, rfl, zsm.rf.up eh1x (Or.inl rfl), by have q := zrow.tk (k := 0) (xs := xs) a0 k1_0 (Nat.zero_le _) a2 a3 a4 k1_1 a6; rwa [List.take_zero] at q⟩
set_option maxRecDepth 10000 in
set_option maxHeartbeats 1000000 in
theorem e_cut {g : ZG} {h : ZH} {n : Nat} {r N j : Nat} {xs : List Nat} (hx : zrow h r N xs) (hj : j ≤ xs.length) : zMt g mX7_cut (zR 0 0 0) [.ref (r), .int (nI (j))] h n (fun v h' n' => v = none ∧ n' = n ∧ zsm h h' (zrs r) ∧ zrow h' r N (xs.take j)) := by
  refine zMt.of [some (.ref (r)), some (.int (nI (j)))] (by decide) rfl (Nat.le_of_ble_eq_true rfl) ?_
  obtain ⟨a0, a1, a2, a3, a4, f, a5, a6⟩ := id hx
  refine zp_iload_n dX7_cut_0 rfl ?_
  refine zn_if_lt (tgt := 17) dX7_cut_1 (by decide) (by omega) ?_
  refine zp_iload_n dX7_cut_4 rfl ?_
  refine zp_aload_n dX7_cut_5 rfl ?_
  refine zp_get dX7_cut_6 gX7_9_6 a1 rfl ?_
  refine zn_icmp_ge (tgt := 17) dX7_cut_9 (by decide) (by omega) (by omega) (fun c9 => ?_) (fun c9 => ?_)
  · refine zp_ret (v := none) dX7_cut_17 ⟨rfl, rfl⟩ (by decide) (by decide) ?_
    exact ⟨rfl, rfl, zsm.rf, by rw [List.take_of_length_le (by omega)]; exact hx⟩
  · refine zp_aload_n dX7_cut_12 rfl ?_
    refine zp_iload_n dX7_cut_13 rfl ?_
    refine zp_put (fs' := [.ref (r + 1), .int (nI (j))]) dX7_cut_14 pX7_9_6 (by omega) a1 (Nat.le_of_ble_eq_true rfl) (zfit_i _) rfl ?_
    refine zp_nh (fun h1x eh1x => ?_)
    have k1_0 : h1x (r) = some (.inl (6, [.ref (r + 1), .int (nI (j))])) := by rw [eh1x]; exact va_up_self _ _ _
    have k1_1 := (congrFun eh1x (r + 1)).trans ((va_up_ne _ _ (by omega)).trans a5)
    refine zp_ret (v := none) dX7_cut_17 ⟨rfl, rfl⟩ (by decide) (by decide) ?_
    exact ⟨rfl, rfl, zsm.rf.up eh1x (Or.inl rfl), zrow.tk (xs := xs) a0 k1_0 hj a2 a3 a4 k1_1 a6⟩
set_option maxRecDepth 10000 in
set_option maxHeartbeats 1000000 in
theorem e_append {g : ZG} {h : ZH} {n : Nat} {r N : Nat} {xs : List Nat} {b : Int32} (hx : zrow h r N xs) (hl : xs.length < N) : zMt g mX7_append (zR 0 0 0) [.ref (r), .int (b)] h n (fun v h' n' => v = none ∧ n' = n ∧ zsm h h' (zrs r) ∧ zrow h' r N (xs ++ [b.toBitVec.toNat % 256])) := by
  refine zMt.of [some (.ref (r)), some (.int (b))] (by decide) rfl (Nat.le_of_ble_eq_true rfl) ?_
  obtain ⟨a0, a1, a2, a3, a4, f, a5, a6⟩ := id hx
  refine zp_aload_n dX7_append_0 rfl ?_
  refine zp_get dX7_append_1 gX7_9_6 a1 rfl ?_
  refine zp_aload_n dX7_append_4 rfl ?_
  refine zp_get dX7_append_5 gX7_21_6 a1 rfl ?_
  refine zp_ilen dX7_append_8 a5 ?_
  refine zn_icmp_ge (tgt := 36) dX7_append_9 (by decide) (by omega) (by omega) (fun c9 => ?_) (fun c9 => ?_)
  · exact absurd hl (by omega)
  · refine zp_aload_n dX7_append_12 rfl ?_
    refine zp_get dX7_append_13 gX7_21_6 a1 rfl ?_
    refine zp_aload_n dX7_append_16 rfl ?_
    refine zp_get dX7_append_17 gX7_9_6 a1 rfl ?_
    refine zp_iload_n dX7_append_20 rfl ?_
    refine zp_sipush (v := nI (255)) dX7_append_21 (by decide) ?_
    refine zp_iand dX7_append_24 ?_
    refine zp_i (y := nI (b.toBitVec.toNat % 256)) (zand255 b) ?_
    refine zn_iast dX7_append_25 (by omega) a5 (by omega) (by omega) ?_
    refine zp_nh (fun h1x eh1x => ?_)
    have k1_0 := (congrFun eh1x (r)).trans ((va_up_ne _ _ (by omega)).trans a1)
    have k1_1 : h1x (r + 1) = some (.inr (N, .inl (va_up f (xs.length) (nI (b.toBitVec.toNat % 256))))) := by rw [eh1x]; exact va_up_self _ _ _
    refine zp_aload_n dX7_append_26 rfl ?_
    refine zp_dup dX7_append_27 rfl ?_
    refine zp_get dX7_append_28 gX7_9_6 k1_0 rfl ?_
    refine zp_iconst (v := nI (1)) dX7_append_31 (by decide) ?_
    refine zn_iadd dX7_append_32 ?_
    refine zp_put (fs' := [.ref (r + 1), .int (nI ((xs.length) + (1)))]) dX7_append_33 pX7_9_6 (by omega) k1_0 (Nat.le_of_ble_eq_true rfl) (zfit_i _) rfl ?_
    refine zp_nh (fun h2x eh2x => ?_)
    have k2_0 : h2x (r) = some (.inl (6, [.ref (r + 1), .int (nI ((xs.length) + (1)))])) := by rw [eh2x]; exact va_up_self _ _ _
    have k2_1 := (congrFun eh2x (r + 1)).trans ((va_up_ne _ _ (by omega)).trans k1_1)
    refine zp_ret (v := none) dX7_append_36 ⟨rfl, rfl⟩ (by decide) (by decide) ?_
    exact ⟨rfl, rfl, (zsm.rf.up eh1x (Or.inr rfl)).up eh2x (Or.inl rfl), zrow.app a0 k2_0 hl a3 a4 (Nat.mod_lt _ (by decide)) k2_1 a6⟩
