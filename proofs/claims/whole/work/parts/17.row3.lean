set_option maxRecDepth 10000 in
set_option maxHeartbeats 2000000 in
theorem e_row {g : ZG} {h : ZH} {n : Nat} {r N : Nat} (hr : 16 ≤ r) (hrn : r < n) (hN : N < 1000000) (h0 : h r = some (.inl (6, [.null, .int 0]))) : zMt g mX7_init (zR 1 1 N) [.ref (r), .int (nI (N))] h n (fun v h' n' => v = none ∧ n' = n + 1 ∧ zsm h h' (fun i => i = r ∨ i = n) ∧ (n = r + 1 → zrow h' r N [])) := by
  refine zMt.of [some (.ref (r)), some (.int (nI (N)))] (by decide) rfl (Nat.le_of_ble_eq_true rfl) ?_
  refine zp_aload_n dX7_init_0 rfl ?_
  refine zp_pc (pc' := 1) rfl ?_
  refine zp_objInit dX7_init_1 cX7_3 ⟨Nat.le_of_ble_eq_true rfl, Nat.le_of_ble_eq_true rfl⟩ (Nat.le_of_ble_eq_true rfl) ?_
  refine zp_aload_n dX7_init_4 rfl ?_
  refine zp_iconst (v := nI (0)) dX7_init_5 (by decide) ?_
  refine zp_put (fs' := [.null, .int (nI (0))]) dX7_init_6 pX7_9_6 (by omega) h0 (Nat.le_of_ble_eq_true rfl) (zfit_i _) rfl ?_
  refine zp_nh (fun h1x eh1x => ?_)
  have k1_0 : h1x (r) = some (.inl (6, [.null, .int (nI (0))])) := by rw [eh1x]; exact va_up_self _ _ _
  refine zp_aload_n dX7_init_9 rfl ?_
  refine zp_iload_n dX7_init_10 rfl ?_
  refine zp_iconst (v := nI (0)) dX7_init_11 (by decide) ?_
  refine zp_pc (pc' := 12) rfl ?_
  refine zp_mmax dX7_init_12 cX7_15 ⟨Nat.le_of_ble_eq_true rfl, Nat.le_of_ble_eq_true rfl⟩ ⟨Nat.zero_le _, Nat.zero_le _⟩ (Nat.le_of_ble_eq_true rfl) ?_
  refine zp_i (y := nI N) (by rw [zmax_nI (by omega) (by decide), Nat.max_zero]) ?_
  refine zp_newi (N := N) dX7_init_15 (nI_pos (by omega)) (nI_clamp (by omega)) (by omega) (Nat.le_refl 1) (by show 0 + N ≤ N; omega) ?_
  refine zp_nh (fun h2x eh2x => ?_)
  have k2_0 := (congrFun eh2x (r)).trans ((va_up_ne _ _ (by omega)).trans k1_0)
  have k2_1 : h2x (n) = some (.inr (N, .inl (fun _ => 0))) := by rw [eh2x]; exact va_up_self _ _ _
  refine zp_putF (fs' := [.ref (n), .int (nI (0))]) dX7_init_17 pX7_21_6 rfl (by omega) k2_0 (Nat.le_of_ble_eq_true rfl) (zfit_a _ _) rfl ?_
  refine zp_nh (fun h3x eh3x => ?_)
  have k3_0 : h3x (r) = some (.inl (6, [.ref (n), .int (nI (0))])) := by rw [eh3x]; exact va_up_self _ _ _
  have k3_1 := (congrFun eh3x (n)).trans ((va_up_ne _ _ (by omega)).trans k2_1)
  refine zp_pc (pc' := 20) rfl ?_
  refine zp_ret (v := none) dX7_init_20 ⟨rfl, rfl⟩ (Nat.le_refl 1) (by show 0 + N ≤ N; omega) ?_
  exact ⟨rfl, rfl, ((zsm.rf.up eh1x (Or.inl rfl)).up eh2x (Or.inr rfl)).up eh3x (Or.inl rfl), fun e => by subst e; exact ⟨hr, k3_0, Nat.zero_le _, hN, fun x hx => absurd hx List.not_mem_nil, _, k3_1, fun j hj => absurd hj (Nat.not_lt_zero _)⟩⟩
set_option maxRecDepth 10000 in
set_option maxHeartbeats 2000000 in
theorem e_appendRow {g : ZG} {h : ZH} {n : Nat} {r N : Nat} {xs : List Nat} {s K : Nat} {ys : List Nat} (hx : zrow h r N xs) (hy : zrow h s K ys) (hrs : r ≠ s) (hl : xs.length + ys.length ≤ N) : zMt g mX7_appendRow (zR 2 0 0) [.ref (r), .ref (s)] h n (fun v h' n' => v = none ∧ n' = n ∧ zsm h h' (zrs r) ∧ zrow h' r N (xs ++ ys)) := by
  refine zMt.of [some (.ref (r)), some (.ref (s))] (by decide) rfl (Nat.le_of_ble_eq_true rfl) ?_
  have hK := hy.len
  refine zp_aload_n dX7_appendRow_0 rfl ?_
  refine zp_aload_n dX7_appendRow_1 rfl ?_
  refine zp_iconst (v := nI (0)) dX7_appendRow_2 (by decide) ?_
  refine zp_aload_n dX7_appendRow_3 rfl ?_
  refine zp_get dX7_appendRow_4 gX7_9_6 hy.2.1 rfl ?_
  refine zp_pc (pc' := 7) rfl ?_
  refine zp_callV (As := [.ref (s), .int (nI (0)), .int (nI (ys.length))]) (k := r) (st := []) (ci := 6) dX7_appendRow_7 cX7_25 rfl hx.2.1 rfl rfl (e_appendPart (N := N) (K := K) (xs := xs) (ys := ys) (a := 0) (c := ys.length) hx hy hrs (by omega) (by rw [zpart_all]; exact hl)) (by decide) (by decide) (Nat.le_of_ble_eq_true rfl) (fun v1 h1 n1 q1 => ?_)
  obtain ⟨rfl, rfl, s1, r1⟩ := q1
  refine zp_nrm (cells' := 0) (slots' := 0) (st' := []) rfl rfl rfl ?_
  refine zp_ret (v := none) dX7_appendRow_10 ⟨rfl, rfl⟩ (by decide) (by decide) ?_
  exact ⟨rfl, rfl, s1, by rw [zpart_all] at r1; exact r1⟩
set_option maxRecDepth 10000 in
set_option maxHeartbeats 2000000 in
theorem e_becomePart {g : ZG} {h : ZH} {n : Nat} {r N : Nat} {xs : List Nat} {s K : Nat} {ys : List Nat} {a c : Nat} (hx : zrow h r N xs) (hy : zrow h s K ys) (hrs : r ≠ s) (ha : a + c < 2 ^ 30) (hl : (zpart ys a c).length ≤ N) : zMt g mX7_becomePart (zR 2 0 0) [.ref (r), .ref (s), .int (nI (a)), .int (nI (c))] h n (fun v h' n' => v = none ∧ n' = n ∧ zsm h h' (zrs r) ∧ zrow h' r N (zpart ys a c)) := by
  refine zMt.of [some (.ref (r)), some (.ref (s)), some (.int (nI (a))), some (.int (nI (c)))] (by decide) rfl (Nat.le_of_ble_eq_true rfl) ?_
  obtain ⟨p1, p2⟩ := hx.apart hy
  obtain ⟨a0, a1, a2, a3, a4, f, a5, a6⟩ := id hx
  refine zp_aload_n dX7_becomePart_0 rfl ?_
  refine zp_iconst (v := nI (0)) dX7_becomePart_1 (by decide) ?_
  refine zp_put (fs' := [.ref (r + 1), .int (nI (0))]) dX7_becomePart_2 pX7_9_6 (by omega) a1 (Nat.le_of_ble_eq_true rfl) (zfit_i _) rfl ?_
  refine zp_nh (fun h1x eh1x => ?_)
  have k1_0 : h1x (r) = some (.inl (6, [.ref (r + 1), .int (nI (0))])) := by rw [eh1x]; exact va_up_self _ _ _
  have k1_1 := (congrFun eh1x (r + 1)).trans ((va_up_ne _ _ (by omega)).trans a5)
  refine zp_aload_n dX7_becomePart_5 rfl ?_
  refine zp_aload_n dX7_becomePart_6 rfl ?_
  refine zp_iload_n dX7_becomePart_7 rfl ?_
  refine zp_iload_n dX7_becomePart_8 rfl ?_
  refine zp_pc (pc' := 9) rfl ?_
  have e0 : zsm h h1x (zrs r) := zsm.rf.up eh1x (Or.inl rfl)
  have x1 : zrow h1x r N [] := by have q := zrow.tk (k := 0) (xs := xs) a0 k1_0 (Nat.zero_le _) a2 a3 a4 k1_1 a6; rwa [List.take_zero] at q
  have y1 := hy.sm e0 (Ne.symm hrs) (by omega) (by omega)
  refine zp_callV (As := [.ref (s), .int (nI (a)), .int (nI (c))]) (k := r) (st := []) (ci := 6) dX7_becomePart_9 cX7_25 rfl x1.2.1 rfl rfl (e_appendPart (N := N) (K := K) (xs := []) (ys := ys) (a := a) (c := c) x1 y1 hrs ha (by simpa using hl)) (by decide) (by decide) (Nat.le_of_ble_eq_true rfl) (fun v2 h2 n2 q2 => ?_)
  obtain ⟨rfl, rfl, s1, r1⟩ := q2
  refine zp_nrm (cells' := 0) (slots' := 0) (st' := []) rfl rfl rfl ?_
  refine zp_ret (v := none) dX7_becomePart_12 ⟨rfl, rfl⟩ (by decide) (by decide) ?_
  exact ⟨rfl, rfl, e0.trans s1, by rw [List.nil_append] at r1; exact r1⟩
set_option maxRecDepth 10000 in
set_option maxHeartbeats 2000000 in
theorem e_becomeSame {g : ZG} {h : ZH} {n : Nat} {r N : Nat} {xs : List Nat} {b : Int32} {k : Nat} (hx : zrow h r N xs) (hl : k ≤ N) : zMt g mX7_becomeSame (zR 1 0 0) [.ref (r), .int (b), .int (nI (k))] h n (fun v h' n' => v = none ∧ n' = n ∧ zsm h h' (zrs r) ∧ zrow h' r N (List.replicate k (b.toBitVec.toNat % 256))) := by
  refine zMt.of [some (.ref (r)), some (.int (b)), some (.int (nI (k)))] (by decide) rfl (Nat.le_of_ble_eq_true rfl) ?_
  obtain ⟨a0, a1, a2, a3, a4, f, a5, a6⟩ := id hx
  refine zp_aload_n dX7_becomeSame_0 rfl ?_
  refine zp_iconst (v := nI (0)) dX7_becomeSame_1 (by decide) ?_
  refine zp_put (fs' := [.ref (r + 1), .int (nI (0))]) dX7_becomeSame_2 pX7_9_6 (by omega) a1 (Nat.le_of_ble_eq_true rfl) (zfit_i _) rfl ?_
  refine zp_nh (fun h1x eh1x => ?_)
  have k1_0 : h1x (r) = some (.inl (6, [.ref (r + 1), .int (nI (0))])) := by rw [eh1x]; exact va_up_self _ _ _
  have k1_1 := (congrFun eh1x (r + 1)).trans ((va_up_ne _ _ (by omega)).trans a5)
  refine zp_aload_n dX7_becomeSame_5 rfl ?_
  refine zp_iload_n dX7_becomeSame_6 rfl ?_
  refine zp_iload_n dX7_becomeSame_7 rfl ?_
  refine zp_pc (pc' := 8) rfl ?_
  have e0 : zsm h h1x (zrs r) := zsm.rf.up eh1x (Or.inl rfl)
  have x1 : zrow h1x r N [] := by have q := zrow.tk (k := 0) (xs := xs) a0 k1_0 (Nat.zero_le _) a2 a3 a4 k1_1 a6; rwa [List.take_zero] at q
  refine zp_callV (As := [.int (b), .int (nI (k))]) (k := r) (st := []) (ci := 6) dX7_becomeSame_8 cX7_32 rfl x1.2.1 rfl rfl (e_appendSame (N := N) (xs := []) (b := b) (k := k) x1 (by simpa using hl)) (by decide) (by decide) (Nat.le_of_ble_eq_true rfl) (fun v2 h2 n2 q2 => ?_)
  obtain ⟨rfl, rfl, s1, r1⟩ := q2
  refine zp_nrm (cells' := 0) (slots' := 0) (st' := []) rfl rfl rfl ?_
  refine zp_ret (v := none) dX7_becomeSame_11 ⟨rfl, rfl⟩ (by decide) (by decide) ?_
  exact ⟨rfl, rfl, e0.trans s1, by rw [List.nil_append] at r1; exact r1⟩
set_option maxRecDepth 10000 in
set_option maxHeartbeats 2000000 in
theorem e_dropFirst {g : ZG} {h : ZH} {n : Nat} {r N : Nat} {xs : List Nat} {j : Nat} (hx : zrow h r N xs) (hj : j ≤ xs.length) : zMt g mX7_dropFirst (zR 0 0 0) [.ref (r), .int (nI (j))] h n (fun v h' n' => v = none ∧ n' = n ∧ zsm h h' (zrs r) ∧ zrow h' r N (xs.drop j)) := by
  refine zMt.of [some (.ref (r)), some (.int (nI (j))), none] (by decide) rfl (Nat.le_of_ble_eq_true rfl) ?_
  obtain ⟨Qf, hQ⟩ : ∃ Qf : ZQ, Qf = (fun v h' n' => v = none ∧ n' = n ∧ zsm h h' (zrs r) ∧ zrow h' r N (xs.drop j)) := ⟨_, rfl⟩
  rw [← hQ]
  obtain ⟨a0, a1, a2, a3, a4, f, a5, a6⟩ := id hx
  refine zp_iload_n dX7_dropFirst_0 rfl ?_
  refine zp_pc (pc' := 1) rfl ?_
  refine zn_if_lt (tgt := 12) dX7_dropFirst_1 (by decide) (by omega) ?_
  refine zp_iload_n dX7_dropFirst_4 rfl ?_
  refine zp_aload_n dX7_dropFirst_5 rfl ?_
  refine zp_get dX7_dropFirst_6 gX7_9_6 a1 rfl ?_
  refine zp_pc (pc' := 9) rfl ?_
  refine zn_icmp_le (tgt := 13) dX7_dropFirst_9 (by decide) (by omega) (by omega) (fun c9 => ?_) (fun c9 => ?_)
  · refine zp_iload_n dX7_dropFirst_13 rfl ?_
    refine zp_istore_n (ls' := [some (.ref (r)), some (.int (nI (j))), some (.int (nI (j)))]) dX7_dropFirst_14 (by decide) rfl ?_
    refine zp_pc (pc' := 15) rfl ?_
    refine zp_ls (ls' := [some (.ref (r)), some (.int (nI (j))), some (.int (nI (j + 0)))]) (by rw [Nat.add_zero]) ?_
    have lp : ∀ (m : Nat) (c : Nat) (h1 : ZH) (f1 : Nat → Int32), m = xs.length - (j + c) → j + c ≤ xs.length → zsm h h1 (zrs r) → h1 r = some (.inl (6, [.ref (r + 1), .int (nI xs.length)])) → h1 (r + 1) = some (.inr (N, .inl f1)) → (∀ i, i < c → f1 i = nI (xs.getD (i + j) 0)) → (∀ i, c ≤ i → i < xs.length → f1 i = nI (xs.getD i 0)) → zP g mX7_dropFirst (zR 0 0 0) Qf 0 0 15 [some (.ref (r)), some (.int (nI (j))), some (.int (nI (j + c)))] [] h1 n := by
      intro m
      induction m using Nat.strongRecOn with
      | _ m ih =>
        intro c h1 f1 hm hc hs b1 b5 hlo hhi
        refine zp_iload_n dX7_dropFirst_15 rfl ?_
        refine zp_aload_n dX7_dropFirst_16 rfl ?_
        refine zp_get dX7_dropFirst_17 gX7_9_6 b1 rfl ?_
        refine zp_pc (pc' := 20) rfl ?_
        refine zn_icmp_ge (tgt := 43) dX7_dropFirst_20 (by decide) (by omega) (by omega) (fun c20 => ?_) (fun c20 => ?_)
        · refine zp_aload_n dX7_dropFirst_43 rfl ?_
          refine zp_dup dX7_dropFirst_44 rfl ?_
          refine zp_get dX7_dropFirst_45 gX7_9_6 b1 rfl ?_
          refine zp_iload_n dX7_dropFirst_48 rfl ?_
          refine zn_isub dX7_dropFirst_49 (by omega) ?_
          refine zp_put (fs' := [.ref (r + 1), .int (nI ((xs.length) - (j)))]) dX7_dropFirst_50 pX7_9_6 (by omega) b1 (Nat.le_of_ble_eq_true rfl) (zfit_i _) rfl ?_
          refine zp_nh (fun h1x eh1x => ?_)
          have k1_0 : h1x (r) = some (.inl (6, [.ref (r + 1), .int (nI ((xs.length) - (j)))])) := by rw [eh1x]; exact va_up_self _ _ _
          have k1_1 := (congrFun eh1x (r + 1)).trans ((va_up_ne _ _ (by omega)).trans b5)
          refine zp_pc (pc' := 53) rfl ?_
          have e : j + c = xs.length := by omega
          refine zp_ret (v := none) dX7_dropFirst_53 ⟨rfl, rfl⟩ (by decide) (by decide) ?_
          rw [hQ]
          exact ⟨rfl, rfl, hs.up eh1x (Or.inl rfl), zrow.mk a0 k1_0 (List.length_drop ..) (by omega) a3 (fun x hx => a4 x (List.mem_of_mem_drop hx)) k1_1 (fun i hi => by rw [hlo i (by omega), zget_drop, Nat.add_comm])⟩
        · refine zp_aload_n dX7_dropFirst_23 rfl ?_
          refine zp_get dX7_dropFirst_24 gX7_21_6 b1 rfl ?_
          refine zp_iload_n dX7_dropFirst_27 rfl ?_
          refine zp_iload_n dX7_dropFirst_28 rfl ?_
          refine zn_isub dX7_dropFirst_29 (by omega) ?_
          refine zp_pc (pc' := 30) rfl ?_
          refine zp_i (y := nI (c)) (by rw [Nat.add_sub_cancel_left]) ?_
          refine zp_aload_n dX7_dropFirst_30 rfl ?_
          refine zp_get dX7_dropFirst_31 gX7_21_6 b1 rfl ?_
          refine zp_iload_n dX7_dropFirst_34 rfl ?_
          refine zn_iald (j := j + c) dX7_dropFirst_35 b5 (by omega) (by omega) ?_
          refine zp_pc (pc' := 36) rfl ?_
          refine zp_i (y := nI (xs.getD (j + c) 0)) (hhi _ (by omega) (by omega)) ?_
          refine zn_iast dX7_dropFirst_36 (by omega) b5 (by omega) (by omega) ?_
          refine zp_nh (fun h2x eh2x => ?_)
          have k2_0 := (congrFun eh2x (r)).trans ((va_up_ne _ _ (by omega)).trans b1)
          have k2_1 : h2x (r + 1) = some (.inr (N, .inl (va_up f1 (c) (nI (xs.getD (j + c) 0))))) := by rw [eh2x]; exact va_up_self _ _ _
          refine zn_iinc 1 (ls' := [some (.ref (r)), some (.int (nI (j))), some (.int (nI (j + c + 1)))]) dX7_dropFirst_37 (by decide) (by decide) rfl rfl ?_
          refine zp_pc (pc' := 40) rfl ?_
          refine zp_ls (ls' := [some (.ref (r)), some (.int (nI (j))), some (.int (nI (j + (c + 1))))]) (by rw [Nat.add_assoc]) ?_
          refine zp_goto (tgt := 15) dX7_dropFirst_40 (by decide) ?_
          refine zp_pc (pc' := 15) rfl ?_
          refine ih (xs.length - (j + (c + 1))) (by omega) (c + 1) h2x _ rfl (by omega) (hs.up eh2x (Or.inr rfl)) k2_0 k2_1 (fun i hi => ?_) (fun i h1 h2 => ?_)
          · by_cases e : i = c
            · rw [e, va_up_self, Nat.add_comm]
            · rw [va_up_ne _ _ e]; exact hlo i (by omega)
          · rw [va_up_ne _ _ (by omega)]; exact hhi i (by omega) h2
    exact lp _ 0 h f rfl (by omega) zsm.rf a1 a5 (fun i hi => absurd hi (Nat.not_lt_zero _)) (fun i _ hi => a6 i hi)
  · exact absurd hj (by omega)
set_option maxRecDepth 10000 in
set_option maxHeartbeats 2000000 in
theorem e_xorPart {g : ZG} {h : ZH} {n : Nat} {r N : Nat} {xs : List Nat} {s K : Nat} {ys : List Nat} {a : Nat} (hx : zrow h r N xs) (hy : zrow h s K ys) (hrs : r ≠ s) (ha : a < 2 ^ 29) : zMt g mX7_xorPart (zR 0 0 0) [.ref (r), .ref (s), .int (nI (a))] h n (fun v h' n' => v = none ∧ n' = n ∧ zsm h h' (zrs r) ∧ zrow h' r N (zxor xs ys a)) := by
  refine zMt.of [some (.ref (r)), some (.ref (s)), some (.int (nI (a))), none, none] (by decide) rfl (Nat.le_of_ble_eq_true rfl) ?_
  obtain ⟨Qf, hQ⟩ : ∃ Qf : ZQ, Qf = (fun v h' n' => v = none ∧ n' = n ∧ zsm h h' (zrs r) ∧ zrow h' r N (zxor xs ys a)) := ⟨_, rfl⟩
  rw [← hQ]
  obtain ⟨p1, p2⟩ := hx.apart hy
  obtain ⟨a0, a1, a2, a3, a4, f, a5, a6⟩ := id hx
  refine zp_iconst (v := nI (0)) dX7_xorPart_0 (by decide) ?_
  refine zp_istore_n (ls' := [some (.ref (r)), some (.ref (s)), some (.int (nI (a))), some (.int (nI (0))), none]) dX7_xorPart_1 (by decide) rfl ?_
  refine zp_pc (pc' := 2) rfl ?_
  have lp : ∀ (m : Nat) (k : Nat) (h1 : ZH) (f1 : Nat → Int32), m = xs.length - k → k ≤ xs.length → zsm h h1 (zrs r) → h1 r = some (.inl (6, [.ref (r + 1), .int (nI xs.length)])) → h1 (r + 1) = some (.inr (N, .inl f1)) → (∀ i, i < k → f1 i = nI (xs.getD i 0 ^^^ ys.getD (a + i) 0)) → (∀ i, k ≤ i → i < xs.length → f1 i = nI (xs.getD i 0)) → zP g mX7_xorPart (zR 0 0 0) Qf 0 0 2 [some (.ref (r)), some (.ref (s)), some (.int (nI (a))), some (.int (nI (k))), none] [] h1 n := by
    intro m
    induction m using Nat.strongRecOn with
    | _ m ih =>
      intro k h1 f1 hm hk hs b1 b5 hlo hhi
      have y1 := hy.sm hs (Ne.symm hrs) (by omega) (by omega)
      obtain ⟨d0, d1, d2, d3, d4, f3, d5, d6⟩ := id y1
      refine zp_iload_n dX7_xorPart_2 rfl ?_
      refine zp_aload_n dX7_xorPart_3 rfl ?_
      refine zp_get dX7_xorPart_4 gX7_9_6 b1 rfl ?_
      refine zp_pc (pc' := 7) rfl ?_
      refine zn_icmp_ge (tgt := 51) dX7_xorPart_7 (by decide) (by omega) (by omega) (fun c7 => ?_) (fun c7 => ?_)
      · have e : k = xs.length := by omega
        subst e
        refine zp_ret (v := none) dX7_xorPart_51 ⟨rfl, rfl⟩ (by decide) (by decide) ?_
        rw [hQ]
        exact ⟨rfl, rfl, hs, zrow.mk a0 b1 (zxor_len ..) a2 a3 (zxor_lt a4 d4 a) b5 (fun i hi => by rw [hlo i hi, zxor_get _ _ _ hi])⟩
      · refine zp_iload_n dX7_xorPart_10 rfl ?_
        refine zp_iload_n dX7_xorPart_11 rfl ?_
        refine zn_iadd dX7_xorPart_12 ?_
        refine zp_istore (ls' := [some (.ref (r)), some (.ref (s)), some (.int (nI (a))), some (.int (nI (k))), some (.int (nI ((a) + (k))))]) dX7_xorPart_13 (by decide) rfl ?_
        refine zp_iload dX7_xorPart_15 rfl ?_
        refine zp_pc (pc' := 17) rfl ?_
        refine zn_if_lt (tgt := 45) dX7_xorPart_17 (by decide) (by omega) ?_
        refine zp_iload dX7_xorPart_20 rfl ?_
        refine zp_aload_n dX7_xorPart_22 rfl ?_
        refine zp_get dX7_xorPart_23 gX7_9_6 d1 rfl ?_
        refine zp_pc (pc' := 26) rfl ?_
        refine zn_icmp_ge (tgt := 45) dX7_xorPart_26 (by decide) (by omega) (by omega) (fun c26 => ?_) (fun c26 => ?_)
        · refine zn_iinc 1 (ls' := [some (.ref (r)), some (.ref (s)), some (.int (nI (a))), some (.int (nI (k + 1))), some (.int (nI ((a) + (k))))]) dX7_xorPart_45 (by decide) (by decide) rfl rfl ?_
          refine zp_pc (pc' := 48) rfl ?_
          refine zp_goto (tgt := 2) dX7_xorPart_48 (by decide) ?_
          refine zp_pc (pc' := 2) rfl ?_
          refine zp_drop (ls' := [some (.ref (r)), some (.ref (s)), some (.int (nI (a))), some (.int (nI (k + 1))), none]) (fun i v hv => ?_) ?_
          · rcases i with _ | _ | _ | _ | _ | i <;> simp at hv ⊢ <;> exact hv
          refine ih (xs.length - (k + 1)) (by omega) (k + 1) h1 _ rfl (by omega) hs b1 b5 (fun i hi => ?_) (fun i h1 h2 => ?_)
          · by_cases e : i = k
            · rw [e, hhi k (Nat.le_refl _) (by omega), zget_ge (ys := ys) (by omega), Nat.xor_zero]
            · exact hlo i (by omega)
          · exact hhi i (by omega) h2
        · refine zp_aload_n dX7_xorPart_29 rfl ?_
          refine zp_get dX7_xorPart_30 gX7_21_6 b1 rfl ?_
          refine zp_iload_n dX7_xorPart_33 rfl ?_
          refine zp_dup2 dX7_xorPart_34 rfl rfl ?_
          refine zn_iald (j := k) dX7_xorPart_35 b5 (by omega) (by omega) ?_
          refine zp_aload_n dX7_xorPart_36 rfl ?_
          refine zp_get dX7_xorPart_37 gX7_21_6 d1 rfl ?_
          refine zp_iload dX7_xorPart_40 rfl ?_
          refine zn_iald (j := (a) + (k)) dX7_xorPart_42 d5 (by omega) (by omega) ?_
          refine zp_pc (pc' := 43) rfl ?_
          refine zp_i (y := nI (ys.getD (a + k) 0)) (d6 _ (by omega)) ?_
          refine zp_ixor dX7_xorPart_43 ?_
          refine zp_pc (pc' := 44) rfl ?_
          refine zp_i (y := nI (xs.getD k 0 ^^^ ys.getD (a + k) 0)) (by rw [hhi k (Nat.le_refl _) (by omega), nx_xor]) ?_
          refine zn_iast dX7_xorPart_44 (by omega) b5 (by omega) (by omega) ?_
          refine zp_nh (fun h1x eh1x => ?_)
          have k1_0 := (congrFun eh1x (r)).trans ((va_up_ne _ _ (by omega)).trans b1)
          have k1_1 : h1x (r + 1) = some (.inr (N, .inl (va_up f1 (k) (nI (xs.getD k 0 ^^^ ys.getD (a + k) 0))))) := by rw [eh1x]; exact va_up_self _ _ _
          have k1_2 := (congrFun eh1x (s)).trans ((va_up_ne _ _ (by omega)).trans d1)
          have k1_3 := (congrFun eh1x (s + 1)).trans ((va_up_ne _ _ (by omega)).trans d5)
          refine zp_pc (pc' := 45) rfl ?_
          refine zn_iinc 1 (ls' := [some (.ref (r)), some (.ref (s)), some (.int (nI (a))), some (.int (nI (k + 1))), some (.int (nI ((a) + (k))))]) dX7_xorPart_45 (by decide) (by decide) rfl rfl ?_
          refine zp_pc (pc' := 48) rfl ?_
          refine zp_goto (tgt := 2) dX7_xorPart_48 (by decide) ?_
          refine zp_pc (pc' := 2) rfl ?_
          refine zp_drop (ls' := [some (.ref (r)), some (.ref (s)), some (.int (nI (a))), some (.int (nI (k + 1))), none]) (fun i v hv => ?_) ?_
          · rcases i with _ | _ | _ | _ | _ | i <;> simp at hv ⊢ <;> exact hv
          refine ih (xs.length - (k + 1)) (by omega) (k + 1) h1x _ rfl (by omega) (hs.up eh1x (Or.inr rfl)) k1_0 k1_1 (fun i hi => ?_) (fun i h1 h2 => ?_)
          · by_cases e : i = k
            · rw [e, va_up_self]
            · rw [va_up_ne _ _ e]; exact hlo i (by omega)
          · rw [va_up_ne _ _ (by omega)]; exact hhi i (by omega) h2
  exact lp _ 0 h f rfl (Nat.zero_le _) zsm.rf a1 a5 (fun i hi => absurd hi (Nat.not_lt_zero _)) (fun i _ hi => a6 i hi)
