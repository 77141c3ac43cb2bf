set_option maxRecDepth 10000 in
set_option maxHeartbeats 2000000 in
theorem e_derives1 {g : ZG} {h : ZH} {n : Nat} {a st : Nat} {rs : Bool} {sl kd iv ct : Nat} {dr : Int32} {sd : Nat} {by_ kl : Nat} (o : h a = some (.inl (1, [.int (nI (st)), .int (nI (zbi rs)), .int (nI (sl)), .ref (a + 1), .ref (a + 3), .ref (26), .int (nI (kd)), .int (nI (iv)), .int (nI (ct)), .int (dr), .int (nI (sd)), .ref (by_), .int (nI (kl))]))) (b1 : kd < 8) (b2 : st ≤ 256) (b3 : sl ≤ 111) (b4 : iv ≤ 100000) (b5 : ct < 100000) (b6 : sd < 100000) : zMt g mX5_derives (zR 0 0 0) [.ref (a)] h n (fun v h' n' => v = some (.int (nI (zbi (decide (kd < 6))))) ∧ h' = h ∧ n' = n) := by
  refine zMt.of [some (.ref (a))] (by decide) rfl (Nat.le_of_ble_eq_true rfl) ?_
  refine zp_aload_n dX5_derives_0 rfl ?_
  refine zp_get dX5_derives_1 gX5_21_1 o rfl ?_
  refine zp_bipush (v := nI (6)) dX5_derives_4 (by decide) ?_
  refine zp_pc (pc' := 6) rfl ?_
  refine zn_icmp_ge (tgt := 13) dX5_derives_6 (by decide) (by omega) (by omega) (fun c6 => ?_) (fun c6 => ?_)
  · refine zp_iconst (v := nI (0)) dX5_derives_13 (by decide) ?_
    refine zp_pc (pc' := 14) rfl ?_
    refine zp_i (y := nI (zbi (decide (kd < 6)))) (by rw [decide_eq_false (by omega)]; rfl) ?_
    refine zp_ret (v := (some (.int (nI (zbi (decide (kd < 6))))))) dX5_derives_14 ⟨⟨_, rfl, ((zfit_b (decide (kd < 6))) g).1⟩, rfl⟩ (by decide) (by decide) ?_
    exact ⟨rfl, rfl, rfl⟩
  · refine zp_iconst (v := nI (1)) dX5_derives_9 (by decide) ?_
    refine zp_goto (tgt := 14) dX5_derives_10 (by decide) ?_
    refine zp_pc (pc' := 14) rfl ?_
    refine zp_i (y := nI (zbi (decide (kd < 6)))) (by rw [decide_eq_true (by omega)]; rfl) ?_
    refine zp_ret (v := (some (.int (nI (zbi (decide (kd < 6))))))) dX5_derives_14 ⟨⟨_, rfl, ((zfit_b (decide (kd < 6))) g).1⟩, rfl⟩ (by decide) (by decide) ?_
    exact ⟨rfl, rfl, rfl⟩
set_option maxRecDepth 10000 in
set_option maxHeartbeats 2000000 in
theorem e_isNew1 {g : ZG} {h : ZH} {n : Nat} {a st : Nat} {rs : Bool} {sl kd iv ct : Nat} {dr : Int32} {sd : Nat} {by_ kl : Nat} (o : h a = some (.inl (1, [.int (nI (st)), .int (nI (zbi rs)), .int (nI (sl)), .ref (a + 1), .ref (a + 3), .ref (26), .int (nI (kd)), .int (nI (iv)), .int (nI (ct)), .int (dr), .int (nI (sd)), .ref (by_), .int (nI (kl))]))) (b1 : kd < 8) (b2 : st ≤ 256) (b3 : sl ≤ 111) (b4 : iv ≤ 100000) (b5 : ct < 100000) (b6 : sd < 100000) : zMt g mX5_isNew (zR 0 0 0) [.ref (a)] h n (fun v h' n' => v = some (.int (nI (zbi (decide (sd = 0))))) ∧ h' = h ∧ n' = n) := by
  refine zMt.of [some (.ref (a))] (by decide) rfl (Nat.le_of_ble_eq_true rfl) ?_
  refine zp_aload_n dX5_isNew_0 rfl ?_
  refine zp_get dX5_isNew_1 gX5_18_1 o rfl ?_
  refine zp_pc (pc' := 4) rfl ?_
  refine zn_if_ne (tgt := 11) dX5_isNew_4 (by decide) (by omega) (fun c4 => ?_) (fun c4 => ?_)
  · refine zp_iconst (v := nI (0)) dX5_isNew_11 (by decide) ?_
    refine zp_pc (pc' := 12) rfl ?_
    refine zp_i (y := nI (zbi (decide (sd = 0)))) (by rw [decide_eq_false c4]; rfl) ?_
    refine zp_ret (v := (some (.int (nI (zbi (decide (sd = 0))))))) dX5_isNew_12 ⟨⟨_, rfl, ((zfit_b (decide (sd = 0))) g).1⟩, rfl⟩ (by decide) (by decide) ?_
    exact ⟨rfl, rfl, rfl⟩
  · refine zp_iconst (v := nI (1)) dX5_isNew_7 (by decide) ?_
    refine zp_goto (tgt := 12) dX5_isNew_8 (by decide) ?_
    refine zp_pc (pc' := 12) rfl ?_
    refine zp_i (y := nI (zbi (decide (sd = 0)))) (by rw [decide_eq_true c4]; rfl) ?_
    refine zp_ret (v := (some (.int (nI (zbi (decide (sd = 0))))))) dX5_isNew_12 ⟨⟨_, rfl, ((zfit_b (decide (sd = 0))) g).1⟩, rfl⟩ (by decide) (by decide) ?_
    exact ⟨rfl, rfl, rfl⟩
set_option maxRecDepth 10000 in
set_option maxHeartbeats 2000000 in
theorem e_isDue1 {g : ZG} {h : ZH} {n : Nat} {a st : Nat} {rs : Bool} {sl kd iv ct : Nat} {dr : Int32} {sd : Nat} {by_ kl : Nat} (o : h a = some (.inl (1, [.int (nI (st)), .int (nI (zbi rs)), .int (nI (sl)), .ref (a + 1), .ref (a + 3), .ref (26), .int (nI (kd)), .int (nI (iv)), .int (nI (ct)), .int (dr), .int (nI (sd)), .ref (by_), .int (nI (kl))]))) (b1 : kd < 8) (b2 : st ≤ 256) (b3 : sl ≤ 111) (b4 : iv ≤ 100000) (b5 : ct < 100000) (b6 : sd < 100000) : zMt g mX5_isDue (zR 0 0 0) [.ref (a)] h n (fun v h' n' => v = some (.int (nI (zbi (decide (iv < ct))))) ∧ h' = h ∧ n' = n) := by
  refine zMt.of [some (.ref (a))] (by decide) rfl (Nat.le_of_ble_eq_true rfl) ?_
  refine zp_aload_n dX5_isDue_0 rfl ?_
  refine zp_get dX5_isDue_1 gX5_9_1 o rfl ?_
  refine zp_aload_n dX5_isDue_4 rfl ?_
  refine zp_get dX5_isDue_5 gX5_31_1 o rfl ?_
  refine zp_pc (pc' := 8) rfl ?_
  refine zn_icmp_le (tgt := 15) dX5_isDue_8 (by decide) (by omega) (by omega) (fun c8 => ?_) (fun c8 => ?_)
  · refine zp_iconst (v := nI (0)) dX5_isDue_15 (by decide) ?_
    refine zp_pc (pc' := 16) rfl ?_
    refine zp_i (y := nI (zbi (decide (iv < ct)))) (by rw [decide_eq_false (by omega)]; rfl) ?_
    refine zp_ret (v := (some (.int (nI (zbi (decide (iv < ct))))))) dX5_isDue_16 ⟨⟨_, rfl, ((zfit_b (decide (iv < ct))) g).1⟩, rfl⟩ (by decide) (by decide) ?_
    exact ⟨rfl, rfl, rfl⟩
  · refine zp_iconst (v := nI (1)) dX5_isDue_11 (by decide) ?_
    refine zp_goto (tgt := 16) dX5_isDue_12 (by decide) ?_
    refine zp_pc (pc' := 16) rfl ?_
    refine zp_i (y := nI (zbi (decide (iv < ct)))) (by rw [decide_eq_true (by omega)]; rfl) ?_
    refine zp_ret (v := (some (.int (nI (zbi (decide (iv < ct))))))) dX5_isDue_16 ⟨⟨_, rfl, ((zfit_b (decide (iv < ct))) g).1⟩, rfl⟩ (by decide) (by decide) ?_
    exact ⟨rfl, rfl, rfl⟩
set_option maxRecDepth 10000 in
set_option maxHeartbeats 2000000 in
theorem e_isTooLong1 {g : ZG} {h : ZH} {n : Nat} {a st : Nat} {rs : Bool} {sl kd iv ct : Nat} {dr : Int32} {sd : Nat} {by_ kl : Nat} {r N : Nat} {xs : List Nat} (o : h a = some (.inl (1, [.int (nI (st)), .int (nI (zbi rs)), .int (nI (sl)), .ref (a + 1), .ref (a + 3), .ref (26), .int (nI (kd)), .int (nI (iv)), .int (nI (ct)), .int (dr), .int (nI (sd)), .ref (by_), .int (nI (kl))]))) (b1 : kd < 8) (b2 : st ≤ 256) (b3 : sl ≤ 111) (b4 : iv ≤ 100000) (b5 : ct < 100000) (b6 : sd < 100000) (hx : zrow h r N xs) : zMt g mX5_isTooLong (zR 1 0 0) [.ref (a), .ref (r)] h n (fun v h' n' => v = some (.int (nI (zbi (decide (6 ≤ kd ∧ sl < xs.length))))) ∧ h' = h ∧ n' = n) := by
  refine zMt.of [some (.ref (a)), some (.ref (r))] (by decide) rfl (Nat.le_of_ble_eq_true rfl) ?_
  have hxl := hx.len
  refine zp_aload_n dX5_isTooLong_0 rfl ?_
  refine zp_pc (pc' := 1) rfl ?_
  refine zp_callU (As := []) (k := a) (st := []) (ci := 1) (q := (RX1, TX1, 13)) dX5_isTooLong_1 cX5_69_1 rfl o rfl (e_derives1 o b1 b2 b3 b4 b5 b6) (by decide) (by decide) (Nat.le_of_ble_eq_true rfl) (fun v1 h1 n1 q1 => ?_)
  obtain ⟨rfl, H1, N1⟩ := q1
  rw [N1, H1]
  refine zp_nrm (cells' := 0) (slots' := 0) (st' := [.int (nI (zbi (decide (kd < 6))))]) rfl rfl rfl ?_
  have hz := zbi_lt (decide (kd < 6))
  refine zp_pc (pc' := 4) rfl ?_
  refine zn_if_ne (tgt := 22) dX5_isTooLong_4 (by decide) (by omega) (fun c4 => ?_) (fun c4 => ?_)
  · have hk : kd < 6 := by
      by_cases q : kd < 6
      · exact q
      · rw [decide_eq_false q] at c4; exact absurd rfl c4
    refine zp_iconst (v := nI (0)) dX5_isTooLong_22 (by decide) ?_
    refine zp_pc (pc' := 23) rfl ?_
    refine zp_i (y := nI (zbi (decide (6 ≤ kd ∧ sl < xs.length)))) (by rw [decide_eq_false (by omega)]; rfl) ?_
    refine zp_ret (v := (some (.int (nI (zbi (decide (6 ≤ kd ∧ sl < xs.length))))))) dX5_isTooLong_23 ⟨⟨_, rfl, ((zfit_b (decide (6 ≤ kd ∧ sl < xs.length))) g).1⟩, rfl⟩ (by decide) (by decide) ?_
    exact ⟨rfl, rfl, rfl⟩
  · have hk : ¬ kd < 6 := fun q => by rw [decide_eq_true q] at c4; exact absurd c4 (by decide)
    refine zp_aload_n dX5_isTooLong_7 rfl ?_
    refine zp_pc (pc' := 8) rfl ?_
    refine zp_callV (As := []) (k := r) (st := []) (ci := 6) dX5_isTooLong_8 cX5_73 rfl hx.2.1 rfl rfl (e_length (N := N) hx) (by decide) (by decide) (Nat.le_of_ble_eq_true rfl) (fun v2 h2 n2 q2 => ?_)
    obtain ⟨rfl, H2, N2⟩ := q2
    rw [N2, H2]
    refine zp_nrm (cells' := 0) (slots' := 0) (st' := [.int (nI (xs.length))]) rfl rfl rfl ?_
    refine zp_aload_n dX5_isTooLong_11 rfl ?_
    refine zp_get dX5_isTooLong_12 gX5_42_1 o rfl ?_
    refine zp_pc (pc' := 15) rfl ?_
    refine zn_icmp_le (tgt := 22) dX5_isTooLong_15 (by decide) (by omega) (by omega) (fun c15 => ?_) (fun c15 => ?_)
    · refine zp_iconst (v := nI (0)) dX5_isTooLong_22 (by decide) ?_
      refine zp_pc (pc' := 23) rfl ?_
      refine zp_i (y := nI (zbi (decide (6 ≤ kd ∧ sl < xs.length)))) (by rw [decide_eq_false (by omega)]; rfl) ?_
      refine zp_ret (v := (some (.int (nI (zbi (decide (6 ≤ kd ∧ sl < xs.length))))))) dX5_isTooLong_23 ⟨⟨_, rfl, ((zfit_b (decide (6 ≤ kd ∧ sl < xs.length))) g).1⟩, rfl⟩ (by decide) (by decide) ?_
      exact ⟨rfl, rfl, rfl⟩
    · refine zp_iconst (v := nI (1)) dX5_isTooLong_18 (by decide) ?_
      refine zp_goto (tgt := 23) dX5_isTooLong_19 (by decide) ?_
      refine zp_pc (pc' := 23) rfl ?_
      refine zp_i (y := nI (zbi (decide (6 ≤ kd ∧ sl < xs.length)))) (by rw [decide_eq_true (by omega)]; rfl) ?_
      refine zp_ret (v := (some (.int (nI (zbi (decide (6 ≤ kd ∧ sl < xs.length))))))) dX5_isTooLong_23 ⟨⟨_, rfl, ((zfit_b (decide (6 ≤ kd ∧ sl < xs.length))) g).1⟩, rfl⟩ (by decide) (by decide) ?_
      exact ⟨rfl, rfl, rfl⟩
set_option maxRecDepth 10000 in
set_option maxHeartbeats 2000000 in
theorem e_demand1 {g : ZG} {h : ZH} {n : Nat} {a st : Nat} {rs : Bool} {sl kd iv ct : Nat} {dr : Int32} {sd : Nat} {by_ kl : Nat} (o : h a = some (.inl (1, [.int (nI (st)), .int (nI (zbi rs)), .int (nI (sl)), .ref (a + 1), .ref (a + 3), .ref (26), .int (nI (kd)), .int (nI (iv)), .int (nI (ct)), .int (dr), .int (nI (sd)), .ref (by_), .int (nI (kl))]))) (b1 : kd < 8) (b2 : st ≤ 256) (b3 : sl ≤ 111) (b4 : iv ≤ 100000) (b5 : ct < 100000) (b6 : sd < 100000) : zMt g mX5_demand (zR 1 0 0) [.ref (a)] h n (fun v h' n' => v = some (.int (nI (zdem kd st sl sd))) ∧ h' = h ∧ n' = n) := by
  refine zMt.of [some (.ref (a)), none] (by decide) rfl (Nat.le_of_ble_eq_true rfl) ?_
  refine zp_aload_n dX5_demand_0 rfl ?_
  refine zp_pc (pc' := 1) rfl ?_
  refine zp_callU (As := []) (k := a) (st := []) (ci := 1) (q := (RX1, TX1, 13)) dX5_demand_1 cX5_69_1 rfl o rfl (e_derives1 o b1 b2 b3 b4 b5 b6) (by decide) (by decide) (Nat.le_of_ble_eq_true rfl) (fun v1 h1 n1 q1 => ?_)
  obtain ⟨rfl, H1, N1⟩ := q1
  rw [N1, H1]
  refine zp_nrm (cells' := 0) (slots' := 0) (st' := [.int (nI (zbi (decide (kd < 6))))]) rfl rfl rfl ?_
  have hz := zbi_lt (decide (kd < 6))
  refine zp_pc (pc' := 4) rfl ?_
  refine zn_if_ne (tgt := 12) dX5_demand_4 (by decide) (by omega) (fun c4 => ?_) (fun c4 => ?_)
  · have hk : kd < 6 := by
      by_cases q : kd < 6
      · exact q
      · rw [decide_eq_false q] at c4; exact absurd rfl c4
    refine zp_aload_n dX5_demand_12 rfl ?_
    refine zp_get dX5_demand_13 gX5_24_1 o rfl ?_
    refine zp_bipush (v := nI (8)) dX5_demand_16 (by decide) ?_
    refine zn_idiv dX5_demand_18 (by omega) (by omega) (by omega) ?_
    refine zp_istore_n (ls' := [some (.ref (a)), some (.int (nI ((st) / (8))))]) dX5_demand_19 (by decide) rfl ?_
    refine zp_aload_n dX5_demand_20 rfl ?_
    refine zp_pc (pc' := 21) rfl ?_
    refine zp_callU (As := []) (k := a) (st := []) (ci := 1) (q := (RX1, TX1, 13)) dX5_demand_21 cX5_77_1 rfl o rfl (e_isNew1 o b1 b2 b3 b4 b5 b6) (by decide) (by decide) (Nat.le_of_ble_eq_true rfl) (fun v2 h2 n2 q2 => ?_)
    obtain ⟨rfl, H2, N2⟩ := q2
    rw [N2, H2]
    refine zp_nrm (cells' := 0) (slots' := 0) (st' := [.int (nI (zbi (decide (sd = 0))))]) rfl rfl rfl ?_
    have hz2 := zbi_lt (decide (sd = 0))
    refine zp_pc (pc' := 24) rfl ?_
    refine zn_if_eq (tgt := 35) dX5_demand_24 (by decide) (by omega) (fun c24 => ?_) (fun c24 => ?_)
    · have h2 : ¬ sd = 0 := fun q => by rw [decide_eq_true q] at c24; exact absurd c24 (by decide)
      refine zp_iload_n dX5_demand_35 rfl ?_
      refine zp_pc (pc' := 36) rfl ?_
      refine zp_i (y := nI (zdem kd st sl sd)) (by rw [zdem, if_neg (by omega), if_neg h2]) ?_
      refine zp_ret (v := (some (.int (nI (zdem kd st sl sd))))) dX5_demand_36 ⟨⟨_, rfl, rfl⟩, rfl⟩ (by decide) (by decide) ?_
      exact ⟨rfl, rfl, rfl⟩
    · have h2 : sd = 0 := by
        by_cases q : sd = 0
        · exact q
        · rw [decide_eq_false q] at c24; exact absurd rfl c24
      refine zp_iload_n dX5_demand_27 rfl ?_
      refine zp_iload_n dX5_demand_28 rfl ?_
      refine zp_iconst (v := nI (2)) dX5_demand_29 (by decide) ?_
      refine zn_idiv dX5_demand_30 (by omega) (by omega) (by omega) ?_
      refine zn_iadd dX5_demand_31 ?_
      refine zp_goto (tgt := 36) dX5_demand_32 (by decide) ?_
      refine zp_pc (pc' := 36) rfl ?_
      refine zp_i (y := nI (zdem kd st sl sd)) (by rw [zdem, if_neg (by omega), if_pos h2]) ?_
      refine zp_ret (v := (some (.int (nI (zdem kd st sl sd))))) dX5_demand_36 ⟨⟨_, rfl, rfl⟩, rfl⟩ (by decide) (by decide) ?_
      exact ⟨rfl, rfl, rfl⟩
  · have hk : ¬ kd < 6 := fun q => by rw [decide_eq_true q] at c4; exact absurd c4 (by decide)
    refine zp_aload_n dX5_demand_7 rfl ?_
    refine zp_get dX5_demand_8 gX5_42_1 o rfl ?_
    refine zp_pc (pc' := 11) rfl ?_
    refine zp_i (y := nI (zdem kd st sl sd)) (by rw [zdem, if_pos (by omega)]) ?_
    refine zp_ret (v := (some (.int (nI (zdem kd st sl sd))))) dX5_demand_11 ⟨⟨_, rfl, rfl⟩, rfl⟩ (by decide) (by decide) ?_
    exact ⟨rfl, rfl, rfl⟩
set_option maxRecDepth 10000 in
set_option maxHeartbeats 2000000 in
theorem e_noteSeeding1 {g : ZG} {h : ZH} {n : Nat} {a st : Nat} {rs : Bool} {sl kd iv ct : Nat} {dr : Int32} {sd : Nat} {by_ kl : Nat} (o : h a = some (.inl (1, [.int (nI (st)), .int (nI (zbi rs)), .int (nI (sl)), .ref (a + 1), .ref (a + 3), .ref (26), .int (nI (kd)), .int (nI (iv)), .int (nI (ct)), .int (dr), .int (nI (sd)), .ref (by_), .int (nI (kl))]))) (a16 : 16 ≤ a) : zMt g mX5_noteSeeding (zR 0 0 0) [.ref (a)] h n (fun v h' n' => v = none ∧ n' = n ∧ zsm h h' (fun i => i = a) ∧ h' a = some (.inl (1, [.int (nI (st)), .int (nI (zbi rs)), .int (nI (sl)), .ref (a + 1), .ref (a + 3), .ref (26), .int (nI (kd)), .int (nI (iv)), .int (nI (1)), .int (dr), .int (nI (sd + 1)), .ref (by_), .int (nI (kl))]))) := by
  refine zMt.of [some (.ref (a))] (by decide) rfl (Nat.le_of_ble_eq_true rfl) ?_
  refine zp_aload_n dX5_noteSeeding_0 rfl ?_
  refine zp_iconst (v := nI (1)) dX5_noteSeeding_1 (by decide) ?_
  refine zp_put (fs' := [.int (nI (st)), .int (nI (zbi rs)), .int (nI (sl)), .ref (a + 1), .ref (a + 3), .ref (26), .int (nI (kd)), .int (nI (iv)), .int (nI (1)), .int (dr), .int (nI (sd)), .ref (by_), .int (nI (kl))]) dX5_noteSeeding_2 pX5_9_1 (by omega) o (Nat.le_of_ble_eq_true rfl) (zfit_i _) rfl ?_
  refine zp_nh (fun h1x eh1x => ?_)
  have k1_0 : h1x (a) = some (.inl (1, [.int (nI (st)), .int (nI (zbi rs)), .int (nI (sl)), .ref (a + 1), .ref (a + 3), .ref (26), .int (nI (kd)), .int (nI (iv)), .int (nI (1)), .int (dr), .int (nI (sd)), .ref (by_), .int (nI (kl))])) := by rw [eh1x]; exact va_up_self _ _ _
  refine zp_aload_n dX5_noteSeeding_5 rfl ?_
  refine zp_dup dX5_noteSeeding_6 rfl ?_
  refine zp_get dX5_noteSeeding_7 gX5_18_1 k1_0 rfl ?_
  refine zp_iconst (v := nI (1)) dX5_noteSeeding_10 (by decide) ?_
  refine zn_iadd dX5_noteSeeding_11 ?_
  refine zp_put (fs' := [.int (nI (st)), .int (nI (zbi rs)), .int (nI (sl)), .ref (a + 1), .ref (a + 3), .ref (26), .int (nI (kd)), .int (nI (iv)), .int (nI (1)), .int (dr), .int (nI ((sd) + (1))), .ref (by_), .int (nI (kl))]) dX5_noteSeeding_12 pX5_18_1 (by omega) k1_0 (Nat.le_of_ble_eq_true rfl) (zfit_i _) rfl ?_
  refine zp_nh (fun h2x eh2x => ?_)
  have k2_0 : h2x (a) = some (.inl (1, [.int (nI (st)), .int (nI (zbi rs)), .int (nI (sl)), .ref (a + 1), .ref (a + 3), .ref (26), .int (nI (kd)), .int (nI (iv)), .int (nI (1)), .int (dr), .int (nI ((sd) + (1))), .ref (by_), .int (nI (kl))])) := by rw [eh2x]; exact va_up_self _ _ _
  refine zp_pc (pc' := 15) rfl ?_
  refine zp_ret (v := none) dX5_noteSeeding_15 ⟨rfl, rfl⟩ (by decide) (by decide) ?_
  exact ⟨rfl, rfl, ((zsm.rf (S := fun i => i = a)).up eh1x rfl).up eh2x rfl, k2_0⟩
set_option maxRecDepth 10000 in
set_option maxHeartbeats 2000000 in
theorem e_noteDrawing1 {g : ZG} {h : ZH} {n : Nat} {a st : Nat} {rs : Bool} {sl kd iv ct : Nat} {dr : Int32} {sd : Nat} {by_ kl : Nat} {k : Nat} (o : h a = some (.inl (1, [.int (nI (st)), .int (nI (zbi rs)), .int (nI (sl)), .ref (a + 1), .ref (a + 3), .ref (26), .int (nI (kd)), .int (nI (iv)), .int (nI (ct)), .int (dr), .int (nI (sd)), .ref (by_), .int (nI (kl))]))) (a16 : 16 ≤ a) : zMt g mX5_noteDrawing (zR 0 0 0) [.ref (a), .int (nI (k))] h n (fun v h' n' => v = none ∧ n' = n ∧ zsm h h' (fun i => i = a) ∧ h' a = some (.inl (1, [.int (nI (st)), .int (nI (zbi rs)), .int (nI (sl)), .ref (a + 1), .ref (a + 3), .ref (26), .int (nI (kd)), .int (nI (iv)), .int (nI (ct + 1)), .int (dr + nI k), .int (nI (sd)), .ref (by_), .int (nI (kl))]))) := by
  refine zMt.of [some (.ref (a)), some (.int (nI (k)))] (by decide) rfl (Nat.le_of_ble_eq_true rfl) ?_
  refine zp_aload_n dX5_noteDrawing_0 rfl ?_
  refine zp_dup dX5_noteDrawing_1 rfl ?_
  refine zp_get dX5_noteDrawing_2 gX5_9_1 o rfl ?_
  refine zp_iconst (v := nI (1)) dX5_noteDrawing_5 (by decide) ?_
  refine zn_iadd dX5_noteDrawing_6 ?_
  refine zp_put (fs' := [.int (nI (st)), .int (nI (zbi rs)), .int (nI (sl)), .ref (a + 1), .ref (a + 3), .ref (26), .int (nI (kd)), .int (nI (iv)), .int (nI ((ct) + (1))), .int (dr), .int (nI (sd)), .ref (by_), .int (nI (kl))]) dX5_noteDrawing_7 pX5_9_1 (by omega) o (Nat.le_of_ble_eq_true rfl) (zfit_i _) rfl ?_
  refine zp_nh (fun h1x eh1x => ?_)
  have k1_0 : h1x (a) = some (.inl (1, [.int (nI (st)), .int (nI (zbi rs)), .int (nI (sl)), .ref (a + 1), .ref (a + 3), .ref (26), .int (nI (kd)), .int (nI (iv)), .int (nI ((ct) + (1))), .int (dr), .int (nI (sd)), .ref (by_), .int (nI (kl))])) := by rw [eh1x]; exact va_up_self _ _ _
  refine zp_aload_n dX5_noteDrawing_10 rfl ?_
  refine zp_dup dX5_noteDrawing_11 rfl ?_
  refine zp_get dX5_noteDrawing_12 gX5_15_1 k1_0 rfl ?_
  refine zp_iload_n dX5_noteDrawing_15 rfl ?_
  refine zp_iadd dX5_noteDrawing_16 ?_
  refine zp_put (fs' := [.int (nI (st)), .int (nI (zbi rs)), .int (nI (sl)), .ref (a + 1), .ref (a + 3), .ref (26), .int (nI (kd)), .int (nI (iv)), .int (nI ((ct) + (1))), .int ((dr) + (nI (k))), .int (nI (sd)), .ref (by_), .int (nI (kl))]) dX5_noteDrawing_17 pX5_15_1 (by omega) k1_0 (Nat.le_of_ble_eq_true rfl) (zfit_i _) rfl ?_
  refine zp_nh (fun h2x eh2x => ?_)
  have k2_0 : h2x (a) = some (.inl (1, [.int (nI (st)), .int (nI (zbi rs)), .int (nI (sl)), .ref (a + 1), .ref (a + 3), .ref (26), .int (nI (kd)), .int (nI (iv)), .int (nI ((ct) + (1))), .int ((dr) + (nI (k))), .int (nI (sd)), .ref (by_), .int (nI (kl))])) := by rw [eh2x]; exact va_up_self _ _ _
  refine zp_pc (pc' := 20) rfl ?_
  refine zp_pc (pc' := 20) rfl ?_
  refine zp_ret (v := none) dX5_noteDrawing_20 ⟨rfl, rfl⟩ (by decide) (by decide) ?_
  exact ⟨rfl, rfl, ((zsm.rf (S := fun i => i = a)).up eh1x rfl).up eh2x rfl, k2_0⟩
set_option maxRecDepth 10000 in
set_option maxHeartbeats 2000000 in
theorem e_wipe1 {g : ZG} {h : ZH} {n : Nat} {a st : Nat} {rs : Bool} {sl kd iv ct : Nat} {dr : Int32} {sd : Nat} {by_ kl : Nat} {N K : Nat} {xs ys : List Nat} (o : h a = some (.inl (1, [.int (nI (st)), .int (nI (zbi rs)), .int (nI (sl)), .ref (a + 1), .ref (a + 3), .ref (26), .int (nI (kd)), .int (nI (iv)), .int (nI (ct)), .int (dr), .int (nI (sd)), .ref (by_), .int (nI (kl))]))) (hv : zrow h (a + 1) N xs) (hc : zrow h (a + 3) K ys) : zMt g mX5_wipe (zR 2 0 0) [.ref (a)] h n (fun v h' n' => v = none ∧ n' = n ∧ zsm h h' (fun i => a + 1 ≤ i ∧ i ≤ a + 4)) := by
  refine zMt.of [some (.ref (a))] (by decide) rfl (Nat.le_of_ble_eq_true rfl) ?_
  refine zp_aload_n dX5_wipe_0 rfl ?_
  refine zp_get dX5_wipe_1 gX5_52_1 o rfl ?_
  refine zp_iconst (v := nI (0)) dX5_wipe_4 (by decide) ?_
  refine zp_aload_n dX5_wipe_5 rfl ?_
  refine zp_get dX5_wipe_6 gX5_52_1 o rfl ?_
  refine zp_pc (pc' := 9) rfl ?_
  have l1 := hv.len
  have l2 := hc.len
  refine zp_callV (As := []) (k := a + 1) (st := [.int (nI (0)), .ref (a + 1)]) (ci := 6) dX5_wipe_9 cX5_73 rfl hv.2.1 rfl rfl (e_length (N := N) hv) (by decide) (by decide) (Nat.le_of_ble_eq_true rfl) (fun v1 h1 n1 q1 => ?_)
  obtain ⟨rfl, H1, N1⟩ := q1
  rw [N1, H1]
  refine zp_nrm (cells' := 0) (slots' := 0) (st' := [.int (nI (xs.length)), .int (nI (0)), .ref (a + 1)]) rfl rfl rfl ?_
  refine zp_pc (pc' := 12) rfl ?_
  refine zp_callV (As := [.int (nI (0)), .int (nI (xs.length))]) (k := a + 1) (st := []) (ci := 6) dX5_wipe_12 cX5_80 rfl hv.2.1 rfl rfl (e_becomeSame (N := N) (b := nI 0) (k := xs.length) hv (by omega)) (by decide) (by decide) (Nat.le_of_ble_eq_true rfl) (fun v2 h2 n2 q2 => ?_)
  obtain ⟨rfl, N2, s2, r2⟩ := q2
  rw [N2]
  refine zp_nrm (cells' := 0) (slots' := 0) (st' := []) rfl rfl rfl ?_
  have y3_0 := hc.keep (s2 _ (by unfold zrs; omega)) (s2 _ (by unfold zrs; omega))
  have y3_1 : h2 (a) = some (.inl (1, [.int (nI (st)), .int (nI (zbi rs)), .int (nI (sl)), .ref (a + 1), .ref (a + 3), .ref (26), .int (nI (kd)), .int (nI (iv)), .int (nI (ct)), .int (dr), .int (nI (sd)), .ref (by_), .int (nI (kl))])) := (s2 _ (by unfold zrs; omega)).trans o
  refine zp_aload_n dX5_wipe_15 rfl ?_
  refine zp_get dX5_wipe_16 gX5_56_1 y3_1 rfl ?_
  refine zp_iconst (v := nI (0)) dX5_wipe_19 (by decide) ?_
  refine zp_aload_n dX5_wipe_20 rfl ?_
  refine zp_get dX5_wipe_21 gX5_56_1 y3_1 rfl ?_
  refine zp_pc (pc' := 24) rfl ?_
  refine zp_callV (As := []) (k := a + 3) (st := [.int (nI (0)), .ref (a + 3)]) (ci := 6) dX5_wipe_24 cX5_73 rfl y3_0.2.1 rfl rfl (e_length (N := K) y3_0) (by decide) (by decide) (Nat.le_of_ble_eq_true rfl) (fun v4 h4 n4 q4 => ?_)
  obtain ⟨rfl, H4, N4⟩ := q4
  rw [N4, H4]
  refine zp_nrm (cells' := 0) (slots' := 0) (st' := [.int (nI (ys.length)), .int (nI (0)), .ref (a + 3)]) rfl rfl rfl ?_
  refine zp_pc (pc' := 27) rfl ?_
  refine zp_callV (As := [.int (nI (0)), .int (nI (ys.length))]) (k := a + 3) (st := []) (ci := 6) dX5_wipe_27 cX5_80 rfl y3_0.2.1 rfl rfl (e_becomeSame (N := K) (b := nI 0) (k := ys.length) y3_0 (by omega)) (by decide) (by decide) (Nat.le_of_ble_eq_true rfl) (fun v5 h5 n5 q5 => ?_)
  obtain ⟨rfl, N5, s5, r5⟩ := q5
  rw [N5]
  refine zp_nrm (cells' := 0) (slots' := 0) (st' := []) rfl rfl rfl ?_
  have y6_0 := r2.keep (s5 _ (by unfold zrs; omega)) (s5 _ (by unfold zrs; omega))
  have y6_1 : h5 (a) = some (.inl (1, [.int (nI (st)), .int (nI (zbi rs)), .int (nI (sl)), .ref (a + 1), .ref (a + 3), .ref (26), .int (nI (kd)), .int (nI (iv)), .int (nI (ct)), .int (dr), .int (nI (sd)), .ref (by_), .int (nI (kl))])) := (s5 _ (by unfold zrs; omega)).trans y3_1
  refine zp_ret (v := none) dX5_wipe_30 ⟨rfl, rfl⟩ (by decide) (by decide) ?_
  exact ⟨rfl, rfl, (s2.mono (fun i hi => by unfold zrs at hi; omega)).trans (s5.mono (fun i hi => by unfold zrs at hi; omega))⟩
set_option maxRecDepth 10000 in
set_option maxHeartbeats 2000000 in
theorem e_genLook1 {g : ZG} {h : ZH} {n : Nat} {a st : Nat} {rs : Bool} {sl kd iv ct : Nat} {dr : Int32} {sd : Nat} {by_ kl : Nat} {x : Int32} (o : h a = some (.inl (1, [.int (nI (st)), .int (nI (zbi rs)), .int (nI (sl)), .ref (a + 1), .ref (a + 3), .ref (26), .int (nI (kd)), .int (nI (iv)), .int (nI (ct)), .int (dr), .int (nI (sd)), .ref (by_), .int (nI (kl))]))) : zMt g mX5_look (zR 0 0 0) [.ref (a), .int (x)] h n (fun v h' n' => v = some (.int (zglook kd st ct iv rs sl dr sd x)) ∧ h' = h ∧ n' = n) := by
  refine zMt.of [some (.ref (a)), some (.int (x))] (by decide) rfl (Nat.le_of_ble_eq_true rfl) ?_
  refine zp_iload_n dX5_look_0 rfl ?_
  refine zp_pc (pc' := 1) rfl ?_
  rcases zsw x 8 (by decide) with ⟨j, hj, rfl⟩ | hx
  · have hj2 : j = 0 ∨ j = 1 ∨ j = 2 ∨ j = 3 ∨ j = 4 ∨ j = 5 ∨ j = 6 ∨ j = 7 := by omega
    rcases hj2 with rfl | rfl | rfl | rfl | rfl | rfl | rfl | rfl
    · refine zp_tabIn (off := 47) (tgt := 48) dX5_look_1 (by decide) (by decide) rfl (by decide) ?_
      refine zp_aload_n dX5_look_48 rfl ?_
      refine zp_get dX5_look_49 gX5_21_1 o rfl ?_
      refine zp_pc (pc' := 52) rfl ?_
      refine zp_i (y := zglook kd st ct iv rs sl dr sd (nI 0)) rfl ?_
      refine zp_ret (v := (some (.int (zglook kd st ct iv rs sl dr sd (nI 0))))) dX5_look_52 ⟨⟨_, rfl, rfl⟩, rfl⟩ (by decide) (by decide) ?_
      exact ⟨rfl, rfl, rfl⟩
    · refine zp_tabIn (off := 52) (tgt := 53) dX5_look_1 (by decide) (by decide) rfl (by decide) ?_
      refine zp_aload_n dX5_look_53 rfl ?_
      refine zp_get dX5_look_54 gX5_24_1 o rfl ?_
      refine zp_pc (pc' := 57) rfl ?_
      refine zp_i (y := zglook kd st ct iv rs sl dr sd (nI 1)) rfl ?_
      refine zp_ret (v := (some (.int (zglook kd st ct iv rs sl dr sd (nI 1))))) dX5_look_57 ⟨⟨_, rfl, rfl⟩, rfl⟩ (by decide) (by decide) ?_
      exact ⟨rfl, rfl, rfl⟩
    · refine zp_tabIn (off := 57) (tgt := 58) dX5_look_1 (by decide) (by decide) rfl (by decide) ?_
      refine zp_aload_n dX5_look_58 rfl ?_
      refine zp_get dX5_look_59 gX5_9_1 o rfl ?_
      refine zp_pc (pc' := 62) rfl ?_
      refine zp_i (y := zglook kd st ct iv rs sl dr sd (nI 2)) rfl ?_
      refine zp_ret (v := (some (.int (zglook kd st ct iv rs sl dr sd (nI 2))))) dX5_look_62 ⟨⟨_, rfl, rfl⟩, rfl⟩ (by decide) (by decide) ?_
      exact ⟨rfl, rfl, rfl⟩
    · refine zp_tabIn (off := 62) (tgt := 63) dX5_look_1 (by decide) (by decide) rfl (by decide) ?_
      refine zp_aload_n dX5_look_63 rfl ?_
      refine zp_get dX5_look_64 gX5_31_1 o rfl ?_
      refine zp_pc (pc' := 67) rfl ?_
      refine zp_i (y := zglook kd st ct iv rs sl dr sd (nI 3)) rfl ?_
      refine zp_ret (v := (some (.int (zglook kd st ct iv rs sl dr sd (nI 3))))) dX5_look_67 ⟨⟨_, rfl, rfl⟩, rfl⟩ (by decide) (by decide) ?_
      exact ⟨rfl, rfl, rfl⟩
    · refine zp_tabIn (off := 67) (tgt := 68) dX5_look_1 (by decide) (by decide) rfl (by decide) ?_
      have hu := zbi_lt rs
      refine zp_aload_n dX5_look_68 rfl ?_
      refine zp_get dX5_look_69 gX5_27_1 o rfl ?_
      refine zp_pc (pc' := 72) rfl ?_
      refine zn_if_eq (tgt := 79) dX5_look_72 (by decide) (by omega) (fun c72 => ?_) (fun c72 => ?_)
      · refine zp_iconst (v := nI (0)) dX5_look_79 (by decide) ?_
        refine zp_pc (pc' := 80) rfl ?_
        refine zp_i (y := zglook kd st ct iv rs sl dr sd (nI 4)) (by show _ = nI (zbi rs); rw [c72]) ?_
        refine zp_ret (v := (some (.int (zglook kd st ct iv rs sl dr sd (nI 4))))) dX5_look_80 ⟨⟨_, rfl, rfl⟩, rfl⟩ (by decide) (by decide) ?_
        exact ⟨rfl, rfl, rfl⟩
      · refine zp_iconst (v := nI (1)) dX5_look_75 (by decide) ?_
        refine zp_goto (tgt := 80) dX5_look_76 (by decide) ?_
        refine zp_pc (pc' := 80) rfl ?_
        refine zp_i (y := zglook kd st ct iv rs sl dr sd (nI 4)) (by show _ = nI (zbi rs); rw [show zbi rs = 1 by omega]) ?_
        refine zp_ret (v := (some (.int (zglook kd st ct iv rs sl dr sd (nI 4))))) dX5_look_80 ⟨⟨_, rfl, rfl⟩, rfl⟩ (by decide) (by decide) ?_
        exact ⟨rfl, rfl, rfl⟩
    · refine zp_tabIn (off := 80) (tgt := 81) dX5_look_1 (by decide) (by decide) rfl (by decide) ?_
      refine zp_aload_n dX5_look_81 rfl ?_
      refine zp_get dX5_look_82 gX5_42_1 o rfl ?_
      refine zp_pc (pc' := 85) rfl ?_
      refine zp_i (y := zglook kd st ct iv rs sl dr sd (nI 5)) rfl ?_
      refine zp_ret (v := (some (.int (zglook kd st ct iv rs sl dr sd (nI 5))))) dX5_look_85 ⟨⟨_, rfl, rfl⟩, rfl⟩ (by decide) (by decide) ?_
      exact ⟨rfl, rfl, rfl⟩
    · refine zp_tabIn (off := 85) (tgt := 86) dX5_look_1 (by decide) (by decide) rfl (by decide) ?_
      refine zp_aload_n dX5_look_86 rfl ?_
      refine zp_get dX5_look_87 gX5_15_1 o rfl ?_
      refine zp_pc (pc' := 90) rfl ?_
      refine zp_i (y := zglook kd st ct iv rs sl dr sd (nI 6)) rfl ?_
      refine zp_ret (v := (some (.int (zglook kd st ct iv rs sl dr sd (nI 6))))) dX5_look_90 ⟨⟨_, rfl, rfl⟩, rfl⟩ (by decide) (by decide) ?_
      exact ⟨rfl, rfl, rfl⟩
    · refine zp_tabIn (off := 90) (tgt := 91) dX5_look_1 (by decide) (by decide) rfl (by decide) ?_
      refine zp_aload_n dX5_look_91 rfl ?_
      refine zp_get dX5_look_92 gX5_18_1 o rfl ?_
      refine zp_pc (pc' := 95) rfl ?_
      refine zp_i (y := zglook kd st ct iv rs sl dr sd (nI 7)) rfl ?_
      refine zp_ret (v := (some (.int (zglook kd st ct iv rs sl dr sd (nI 7))))) dX5_look_95 ⟨⟨_, rfl, rfl⟩, rfl⟩ (by decide) (by decide) ?_
      exact ⟨rfl, rfl, rfl⟩
  · refine zp_tabOut (tgt := 96) dX5_look_1 hx (by decide) ?_
    refine zp_iconst (v := (-1)) dX5_look_96 (by decide) ?_
    refine zp_pc (pc' := 97) rfl ?_
    have zo := fun j hj => zsw_out (k := 8) hx j hj (by decide)
    refine zp_i (y := zglook kd st ct iv rs sl dr sd x) (by rw [zglook, if_neg (zo 0 (by decide)), if_neg (zo 1 (by decide)), if_neg (zo 2 (by decide)), if_neg (zo 3 (by decide)), if_neg (zo 4 (by decide)), if_neg (zo 5 (by decide)), if_neg (zo 6 (by decide)), if_neg (zo 7 (by decide))]) ?_
    refine zp_ret (v := (some (.int (zglook kd st ct iv rs sl dr sd x)))) dX5_look_97 ⟨⟨_, rfl, rfl⟩, rfl⟩ (by decide) (by decide) ?_
    exact ⟨rfl, rfl, rfl⟩
set_option maxRecDepth 10000 in
set_option maxHeartbeats 2000000 in
theorem e_derives4 {g : ZG} {h : ZH} {n : Nat} {a st : Nat} {rs : Bool} {sl kd iv ct : Nat} {dr : Int32} {sd : Nat} {by_ : Nat} (o : h a = some (.inl (4, [.int (nI (st)), .int (nI (zbi rs)), .int (nI (sl)), .ref (a + 1), .ref (a + 3), .ref (26), .int (nI (kd)), .int (nI (iv)), .int (nI (ct)), .int (dr), .int (nI (sd)), .ref (by_)]))) (b1 : kd < 8) (b2 : st ≤ 256) (b3 : sl ≤ 111) (b4 : iv ≤ 100000) (b5 : ct < 100000) (b6 : sd < 100000) : zMt g mX5_derives (zR 0 0 0) [.ref (a)] h n (fun v h' n' => v = some (.int (nI (zbi (decide (kd < 6))))) ∧ h' = h ∧ n' = n) := by
  refine zMt.of [some (.ref (a))] (by decide) rfl (Nat.le_of_ble_eq_true rfl) ?_
  refine zp_aload_n dX5_derives_0 rfl ?_
  refine zp_get dX5_derives_1 gX5_21_4 o rfl ?_
  refine zp_bipush (v := nI (6)) dX5_derives_4 (by decide) ?_
  refine zp_pc (pc' := 6) rfl ?_
  refine zn_icmp_ge (tgt := 13) dX5_derives_6 (by decide) (by omega) (by omega) (fun c6 => ?_) (fun c6 => ?_)
  · refine zp_iconst (v := nI (0)) dX5_derives_13 (by decide) ?_
    refine zp_pc (pc' := 14) rfl ?_
    refine zp_i (y := nI (zbi (decide (kd < 6)))) (by rw [decide_eq_false (by omega)]; rfl) ?_
    refine zp_ret (v := (some (.int (nI (zbi (decide (kd < 6))))))) dX5_derives_14 ⟨⟨_, rfl, ((zfit_b (decide (kd < 6))) g).1⟩, rfl⟩ (by decide) (by decide) ?_
    exact ⟨rfl, rfl, rfl⟩
  · refine zp_iconst (v := nI (1)) dX5_derives_9 (by decide) ?_
    refine zp_goto (tgt := 14) dX5_derives_10 (by decide) ?_
    refine zp_pc (pc' := 14) rfl ?_
    refine zp_i (y := nI (zbi (decide (kd < 6)))) (by rw [decide_eq_true (by omega)]; rfl) ?_
    refine zp_ret (v := (some (.int (nI (zbi (decide (kd < 6))))))) dX5_derives_14 ⟨⟨_, rfl, ((zfit_b (decide (kd < 6))) g).1⟩, rfl⟩ (by decide) (by decide) ?_
    exact ⟨rfl, rfl, rfl⟩
set_option maxRecDepth 10000 in
set_option maxHeartbeats 2000000 in
theorem e_isNew4 {g : ZG} {h : ZH} {n : Nat} {a st : Nat} {rs : Bool} {sl kd iv ct : Nat} {dr : Int32} {sd : Nat} {by_ : Nat} (o : h a = some (.inl (4, [.int (nI (st)), .int (nI (zbi rs)), .int (nI (sl)), .ref (a + 1), .ref (a + 3), .ref (26), .int (nI (kd)), .int (nI (iv)), .int (nI (ct)), .int (dr), .int (nI (sd)), .ref (by_)]))) (b1 : kd < 8) (b2 : st ≤ 256) (b3 : sl ≤ 111) (b4 : iv ≤ 100000) (b5 : ct < 100000) (b6 : sd < 100000) : zMt g mX5_isNew (zR 0 0 0) [.ref (a)] h n (fun v h' n' => v = some (.int (nI (zbi (decide (sd = 0))))) ∧ h' = h ∧ n' = n) := by
  refine zMt.of [some (.ref (a))] (by decide) rfl (Nat.le_of_ble_eq_true rfl) ?_
  refine zp_aload_n dX5_isNew_0 rfl ?_
  refine zp_get dX5_isNew_1 gX5_18_4 o rfl ?_
  refine zp_pc (pc' := 4) rfl ?_
  refine zn_if_ne (tgt := 11) dX5_isNew_4 (by decide) (by omega) (fun c4 => ?_) (fun c4 => ?_)
  · refine zp_iconst (v := nI (0)) dX5_isNew_11 (by decide) ?_
    refine zp_pc (pc' := 12) rfl ?_
    refine zp_i (y := nI (zbi (decide (sd = 0)))) (by rw [decide_eq_false c4]; rfl) ?_
    refine zp_ret (v := (some (.int (nI (zbi (decide (sd = 0))))))) dX5_isNew_12 ⟨⟨_, rfl, ((zfit_b (decide (sd = 0))) g).1⟩, rfl⟩ (by decide) (by decide) ?_
    exact ⟨rfl, rfl, rfl⟩
  · refine zp_iconst (v := nI (1)) dX5_isNew_7 (by decide) ?_
    refine zp_goto (tgt := 12) dX5_isNew_8 (by decide) ?_
    refine zp_pc (pc' := 12) rfl ?_
    refine zp_i (y := nI (zbi (decide (sd = 0)))) (by rw [decide_eq_true c4]; rfl) ?_
    refine zp_ret (v := (some (.int (nI (zbi (decide (sd = 0))))))) dX5_isNew_12 ⟨⟨_, rfl, ((zfit_b (decide (sd = 0))) g).1⟩, rfl⟩ (by decide) (by decide) ?_
    exact ⟨rfl, rfl, rfl⟩
set_option maxRecDepth 10000 in
set_option maxHeartbeats 2000000 in
theorem e_isDue4 {g : ZG} {h : ZH} {n : Nat} {a st : Nat} {rs : Bool} {sl kd iv ct : Nat} {dr : Int32} {sd : Nat} {by_ : Nat} (o : h a = some (.inl (4, [.int (nI (st)), .int (nI (zbi rs)), .int (nI (sl)), .ref (a + 1), .ref (a + 3), .ref (26), .int (nI (kd)), .int (nI (iv)), .int (nI (ct)), .int (dr), .int (nI (sd)), .ref (by_)]))) (b1 : kd < 8) (b2 : st ≤ 256) (b3 : sl ≤ 111) (b4 : iv ≤ 100000) (b5 : ct < 100000) (b6 : sd < 100000) : zMt g mX5_isDue (zR 0 0 0) [.ref (a)] h n (fun v h' n' => v = some (.int (nI (zbi (decide (iv < ct))))) ∧ h' = h ∧ n' = n) := by
  refine zMt.of [some (.ref (a))] (by decide) rfl (Nat.le_of_ble_eq_true rfl) ?_
  refine zp_aload_n dX5_isDue_0 rfl ?_
  refine zp_get dX5_isDue_1 gX5_9_4 o rfl ?_
  refine zp_aload_n dX5_isDue_4 rfl ?_
  refine zp_get dX5_isDue_5 gX5_31_4 o rfl ?_
  refine zp_pc (pc' := 8) rfl ?_
  refine zn_icmp_le (tgt := 15) dX5_isDue_8 (by decide) (by omega) (by omega) (fun c8 => ?_) (fun c8 => ?_)
  · refine zp_iconst (v := nI (0)) dX5_isDue_15 (by decide) ?_
    refine zp_pc (pc' := 16) rfl ?_
    refine zp_i (y := nI (zbi (decide (iv < ct)))) (by rw [decide_eq_false (by omega)]; rfl) ?_
    refine zp_ret (v := (some (.int (nI (zbi (decide (iv < ct))))))) dX5_isDue_16 ⟨⟨_, rfl, ((zfit_b (decide (iv < ct))) g).1⟩, rfl⟩ (by decide) (by decide) ?_
    exact ⟨rfl, rfl, rfl⟩
  · refine zp_iconst (v := nI (1)) dX5_isDue_11 (by decide) ?_
    refine zp_goto (tgt := 16) dX5_isDue_12 (by decide) ?_
    refine zp_pc (pc' := 16) rfl ?_
    refine zp_i (y := nI (zbi (decide (iv < ct)))) (by rw [decide_eq_true (by omega)]; rfl) ?_
    refine zp_ret (v := (some (.int (nI (zbi (decide (iv < ct))))))) dX5_isDue_16 ⟨⟨_, rfl, ((zfit_b (decide (iv < ct))) g).1⟩, rfl⟩ (by decide) (by decide) ?_
    exact ⟨rfl, rfl, rfl⟩
set_option maxRecDepth 10000 in
set_option maxHeartbeats 2000000 in
theorem e_isTooLong4 {g : ZG} {h : ZH} {n : Nat} {a st : Nat} {rs : Bool} {sl kd iv ct : Nat} {dr : Int32} {sd : Nat} {by_ : Nat} {r N : Nat} {xs : List Nat} (o : h a = some (.inl (4, [.int (nI (st)), .int (nI (zbi rs)), .int (nI (sl)), .ref (a + 1), .ref (a + 3), .ref (26), .int (nI (kd)), .int (nI (iv)), .int (nI (ct)), .int (dr), .int (nI (sd)), .ref (by_)]))) (b1 : kd < 8) (b2 : st ≤ 256) (b3 : sl ≤ 111) (b4 : iv ≤ 100000) (b5 : ct < 100000) (b6 : sd < 100000) (hx : zrow h r N xs) : zMt g mX5_isTooLong (zR 1 0 0) [.ref (a), .ref (r)] h n (fun v h' n' => v = some (.int (nI (zbi (decide (6 ≤ kd ∧ sl < xs.length))))) ∧ h' = h ∧ n' = n) := by
  refine zMt.of [some (.ref (a)), some (.ref (r))] (by decide) rfl (Nat.le_of_ble_eq_true rfl) ?_
  have hxl := hx.len
  refine zp_aload_n dX5_isTooLong_0 rfl ?_
  refine zp_pc (pc' := 1) rfl ?_
  refine zp_callU (As := []) (k := a) (st := []) (ci := 4) (q := (RX4, TX4, 12)) dX5_isTooLong_1 cX5_69_4 rfl o rfl (e_derives4 o b1 b2 b3 b4 b5 b6) (by decide) (by decide) (Nat.le_of_ble_eq_true rfl) (fun v1 h1 n1 q1 => ?_)
  obtain ⟨rfl, H1, N1⟩ := q1
  rw [N1, H1]
  refine zp_nrm (cells' := 0) (slots' := 0) (st' := [.int (nI (zbi (decide (kd < 6))))]) rfl rfl rfl ?_
  have hz := zbi_lt (decide (kd < 6))
  refine zp_pc (pc' := 4) rfl ?_
  refine zn_if_ne (tgt := 22) dX5_isTooLong_4 (by decide) (by omega) (fun c4 => ?_) (fun c4 => ?_)
  · have hk : kd < 6 := by
      by_cases q : kd < 6
      · exact q
      · rw [decide_eq_false q] at c4; exact absurd rfl c4
    refine zp_iconst (v := nI (0)) dX5_isTooLong_22 (by decide) ?_
    refine zp_pc (pc' := 23) rfl ?_
    refine zp_i (y := nI (zbi (decide (6 ≤ kd ∧ sl < xs.length)))) (by rw [decide_eq_false (by omega)]; rfl) ?_
    refine zp_ret (v := (some (.int (nI (zbi (decide (6 ≤ kd ∧ sl < xs.length))))))) dX5_isTooLong_23 ⟨⟨_, rfl, ((zfit_b (decide (6 ≤ kd ∧ sl < xs.length))) g).1⟩, rfl⟩ (by decide) (by decide) ?_
    exact ⟨rfl, rfl, rfl⟩
  · have hk : ¬ kd < 6 := fun q => by rw [decide_eq_true q] at c4; exact absurd c4 (by decide)
    refine zp_aload_n dX5_isTooLong_7 rfl ?_
    refine zp_pc (pc' := 8) rfl ?_
    refine zp_callV (As := []) (k := r) (st := []) (ci := 6) dX5_isTooLong_8 cX5_73 rfl hx.2.1 rfl rfl (e_length (N := N) hx) (by decide) (by decide) (Nat.le_of_ble_eq_true rfl) (fun v2 h2 n2 q2 => ?_)
    obtain ⟨rfl, H2, N2⟩ := q2
    rw [N2, H2]
    refine zp_nrm (cells' := 0) (slots' := 0) (st' := [.int (nI (xs.length))]) rfl rfl rfl ?_
    refine zp_aload_n dX5_isTooLong_11 rfl ?_
    refine zp_get dX5_isTooLong_12 gX5_42_4 o rfl ?_
    refine zp_pc (pc' := 15) rfl ?_
    refine zn_icmp_le (tgt := 22) dX5_isTooLong_15 (by decide) (by omega) (by omega) (fun c15 => ?_) (fun c15 => ?_)
    · refine zp_iconst (v := nI (0)) dX5_isTooLong_22 (by decide) ?_
      refine zp_pc (pc' := 23) rfl ?_
      refine zp_i (y := nI (zbi (decide (6 ≤ kd ∧ sl < xs.length)))) (by rw [decide_eq_false (by omega)]; rfl) ?_
      refine zp_ret (v := (some (.int (nI (zbi (decide (6 ≤ kd ∧ sl < xs.length))))))) dX5_isTooLong_23 ⟨⟨_, rfl, ((zfit_b (decide (6 ≤ kd ∧ sl < xs.length))) g).1⟩, rfl⟩ (by decide) (by decide) ?_
      exact ⟨rfl, rfl, rfl⟩
    · refine zp_iconst (v := nI (1)) dX5_isTooLong_18 (by decide) ?_
      refine zp_goto (tgt := 23) dX5_isTooLong_19 (by decide) ?_
      refine zp_pc (pc' := 23) rfl ?_
      refine zp_i (y := nI (zbi (decide (6 ≤ kd ∧ sl < xs.length)))) (by rw [decide_eq_true (by omega)]; rfl) ?_
      refine zp_ret (v := (some (.int (nI (zbi (decide (6 ≤ kd ∧ sl < xs.length))))))) dX5_isTooLong_23 ⟨⟨_, rfl, ((zfit_b (decide (6 ≤ kd ∧ sl < xs.length))) g).1⟩, rfl⟩ (by decide) (by decide) ?_
      exact ⟨rfl, rfl, rfl⟩
set_option maxRecDepth 10000 in
set_option maxHeartbeats 2000000 in
theorem e_demand4 {g : ZG} {h : ZH} {n : Nat} {a st : Nat} {rs : Bool} {sl kd iv ct : Nat} {dr : Int32} {sd : Nat} {by_ : Nat} (o : h a = some (.inl (4, [.int (nI (st)), .int (nI (zbi rs)), .int (nI (sl)), .ref (a + 1), .ref (a + 3), .ref (26), .int (nI (kd)), .int (nI (iv)), .int (nI (ct)), .int (dr), .int (nI (sd)), .ref (by_)]))) (b1 : kd < 8) (b2 : st ≤ 256) (b3 : sl ≤ 111) (b4 : iv ≤ 100000) (b5 : ct < 100000) (b6 : sd < 100000) : zMt g mX5_demand (zR 1 0 0) [.ref (a)] h n (fun v h' n' => v = some (.int (nI (zdem kd st sl sd))) ∧ h' = h ∧ n' = n) := by
  refine zMt.of [some (.ref (a)), none] (by decide) rfl (Nat.le_of_ble_eq_true rfl) ?_
  refine zp_aload_n dX5_demand_0 rfl ?_
  refine zp_pc (pc' := 1) rfl ?_
  refine zp_callU (As := []) (k := a) (st := []) (ci := 4) (q := (RX4, TX4, 12)) dX5_demand_1 cX5_69_4 rfl o rfl (e_derives4 o b1 b2 b3 b4 b5 b6) (by decide) (by decide) (Nat.le_of_ble_eq_true rfl) (fun v1 h1 n1 q1 => ?_)
  obtain ⟨rfl, H1, N1⟩ := q1
  rw [N1, H1]
  refine zp_nrm (cells' := 0) (slots' := 0) (st' := [.int (nI (zbi (decide (kd < 6))))]) rfl rfl rfl ?_
  have hz := zbi_lt (decide (kd < 6))
  refine zp_pc (pc' := 4) rfl ?_
  refine zn_if_ne (tgt := 12) dX5_demand_4 (by decide) (by omega) (fun c4 => ?_) (fun c4 => ?_)
  · have hk : kd < 6 := by
      by_cases q : kd < 6
      · exact q
      · rw [decide_eq_false q] at c4; exact absurd rfl c4
    refine zp_aload_n dX5_demand_12 rfl ?_
    refine zp_get dX5_demand_13 gX5_24_4 o rfl ?_
    refine zp_bipush (v := nI (8)) dX5_demand_16 (by decide) ?_
    refine zn_idiv dX5_demand_18 (by omega) (by omega) (by omega) ?_
    refine zp_istore_n (ls' := [some (.ref (a)), some (.int (nI ((st) / (8))))]) dX5_demand_19 (by decide) rfl ?_
    refine zp_aload_n dX5_demand_20 rfl ?_
    refine zp_pc (pc' := 21) rfl ?_
    refine zp_callU (As := []) (k := a) (st := []) (ci := 4) (q := (RX4, TX4, 12)) dX5_demand_21 cX5_77_4 rfl o rfl (e_isNew4 o b1 b2 b3 b4 b5 b6) (by decide) (by decide) (Nat.le_of_ble_eq_true rfl) (fun v2 h2 n2 q2 => ?_)
    obtain ⟨rfl, H2, N2⟩ := q2
    rw [N2, H2]
    refine zp_nrm (cells' := 0) (slots' := 0) (st' := [.int (nI (zbi (decide (sd = 0))))]) rfl rfl rfl ?_
    have hz2 := zbi_lt (decide (sd = 0))
    refine zp_pc (pc' := 24) rfl ?_
    refine zn_if_eq (tgt := 35) dX5_demand_24 (by decide) (by omega) (fun c24 => ?_) (fun c24 => ?_)
    · have h2 : ¬ sd = 0 := fun q => by rw [decide_eq_true q] at c24; exact absurd c24 (by decide)
      refine zp_iload_n dX5_demand_35 rfl ?_
      refine zp_pc (pc' := 36) rfl ?_
      refine zp_i (y := nI (zdem kd st sl sd)) (by rw [zdem, if_neg (by omega), if_neg h2]) ?_
      refine zp_ret (v := (some (.int (nI (zdem kd st sl sd))))) dX5_demand_36 ⟨⟨_, rfl, rfl⟩, rfl⟩ (by decide) (by decide) ?_
      exact ⟨rfl, rfl, rfl⟩
    · have h2 : sd = 0 := by
        by_cases q : sd = 0
        · exact q
        · rw [decide_eq_false q] at c24; exact absurd rfl c24
      refine zp_iload_n dX5_demand_27 rfl ?_
      refine zp_iload_n dX5_demand_28 rfl ?_
      refine zp_iconst (v := nI (2)) dX5_demand_29 (by decide) ?_
      refine zn_idiv dX5_demand_30 (by omega) (by omega) (by omega) ?_
      refine zn_iadd dX5_demand_31 ?_
      refine zp_goto (tgt := 36) dX5_demand_32 (by decide) ?_
      refine zp_pc (pc' := 36) rfl ?_
      refine zp_i (y := nI (zdem kd st sl sd)) (by rw [zdem, if_neg (by omega), if_pos h2]) ?_
      refine zp_ret (v := (some (.int (nI (zdem kd st sl sd))))) dX5_demand_36 ⟨⟨_, rfl, rfl⟩, rfl⟩ (by decide) (by decide) ?_
      exact ⟨rfl, rfl, rfl⟩
  · have hk : ¬ kd < 6 := fun q => by rw [decide_eq_true q] at c4; exact absurd c4 (by decide)
    refine zp_aload_n dX5_demand_7 rfl ?_
    refine zp_get dX5_demand_8 gX5_42_4 o rfl ?_
    refine zp_pc (pc' := 11) rfl ?_
    refine zp_i (y := nI (zdem kd st sl sd)) (by rw [zdem, if_pos (by omega)]) ?_
    refine zp_ret (v := (some (.int (nI (zdem kd st sl sd))))) dX5_demand_11 ⟨⟨_, rfl, rfl⟩, rfl⟩ (by decide) (by decide) ?_
    exact ⟨rfl, rfl, rfl⟩
set_option maxRecDepth 10000 in
set_option maxHeartbeats 2000000 in
theorem e_noteSeeding4 {g : ZG} {h : ZH} {n : Nat} {a st : Nat} {rs : Bool} {sl kd iv ct : Nat} {dr : Int32} {sd : Nat} {by_ : Nat} (o : h a = some (.inl (4, [.int (nI (st)), .int (nI (zbi rs)), .int (nI (sl)), .ref (a + 1), .ref (a + 3), .ref (26), .int (nI (kd)), .int (nI (iv)), .int (nI (ct)), .int (dr), .int (nI (sd)), .ref (by_)]))) (a16 : 16 ≤ a) : zMt g mX5_noteSeeding (zR 0 0 0) [.ref (a)] h n (fun v h' n' => v = none ∧ n' = n ∧ zsm h h' (fun i => i = a) ∧ h' a = some (.inl (4, [.int (nI (st)), .int (nI (zbi rs)), .int (nI (sl)), .ref (a + 1), .ref (a + 3), .ref (26), .int (nI (kd)), .int (nI (iv)), .int (nI (1)), .int (dr), .int (nI (sd + 1)), .ref (by_)]))) := by
  refine zMt.of [some (.ref (a))] (by decide) rfl (Nat.le_of_ble_eq_true rfl) ?_
  refine zp_aload_n dX5_noteSeeding_0 rfl ?_
  refine zp_iconst (v := nI (1)) dX5_noteSeeding_1 (by decide) ?_
  refine zp_put (fs' := [.int (nI (st)), .int (nI (zbi rs)), .int (nI (sl)), .ref (a + 1), .ref (a + 3), .ref (26), .int (nI (kd)), .int (nI (iv)), .int (nI (1)), .int (dr), .int (nI (sd)), .ref (by_)]) dX5_noteSeeding_2 pX5_9_4 (by omega) o (Nat.le_of_ble_eq_true rfl) (zfit_i _) rfl ?_
  refine zp_nh (fun h1x eh1x => ?_)
  have k1_0 : h1x (a) = some (.inl (4, [.int (nI (st)), .int (nI (zbi rs)), .int (nI (sl)), .ref (a + 1), .ref (a + 3), .ref (26), .int (nI (kd)), .int (nI (iv)), .int (nI (1)), .int (dr), .int (nI (sd)), .ref (by_)])) := by rw [eh1x]; exact va_up_self _ _ _
  refine zp_aload_n dX5_noteSeeding_5 rfl ?_
  refine zp_dup dX5_noteSeeding_6 rfl ?_
  refine zp_get dX5_noteSeeding_7 gX5_18_4 k1_0 rfl ?_
  refine zp_iconst (v := nI (1)) dX5_noteSeeding_10 (by decide) ?_
  refine zn_iadd dX5_noteSeeding_11 ?_
  refine zp_put (fs' := [.int (nI (st)), .int (nI (zbi rs)), .int (nI (sl)), .ref (a + 1), .ref (a + 3), .ref (26), .int (nI (kd)), .int (nI (iv)), .int (nI (1)), .int (dr), .int (nI ((sd) + (1))), .ref (by_)]) dX5_noteSeeding_12 pX5_18_4 (by omega) k1_0 (Nat.le_of_ble_eq_true rfl) (zfit_i _) rfl ?_
  refine zp_nh (fun h2x eh2x => ?_)
  have k2_0 : h2x (a) = some (.inl (4, [.int (nI (st)), .int (nI (zbi rs)), .int (nI (sl)), .ref (a + 1), .ref (a + 3), .ref (26), .int (nI (kd)), .int (nI (iv)), .int (nI (1)), .int (dr), .int (nI ((sd) + (1))), .ref (by_)])) := by rw [eh2x]; exact va_up_self _ _ _
  refine zp_pc (pc' := 15) rfl ?_
  refine zp_ret (v := none) dX5_noteSeeding_15 ⟨rfl, rfl⟩ (by decide) (by decide) ?_
  exact ⟨rfl, rfl, ((zsm.rf (S := fun i => i = a)).up eh1x rfl).up eh2x rfl, k2_0⟩
set_option maxRecDepth 10000 in
set_option maxHeartbeats 2000000 in
theorem e_noteDrawing4 {g : ZG} {h : ZH} {n : Nat} {a st : Nat} {rs : Bool} {sl kd iv ct : Nat} {dr : Int32} {sd : Nat} {by_ : Nat} {k : Nat} (o : h a = some (.inl (4, [.int (nI (st)), .int (nI (zbi rs)), .int (nI (sl)), .ref (a + 1), .ref (a + 3), .ref (26), .int (nI (kd)), .int (nI (iv)), .int (nI (ct)), .int (dr), .int (nI (sd)), .ref (by_)]))) (a16 : 16 ≤ a) : zMt g mX5_noteDrawing (zR 0 0 0) [.ref (a), .int (nI (k))] h n (fun v h' n' => v = none ∧ n' = n ∧ zsm h h' (fun i => i = a) ∧ h' a = some (.inl (4, [.int (nI (st)), .int (nI (zbi rs)), .int (nI (sl)), .ref (a + 1), .ref (a + 3), .ref (26), .int (nI (kd)), .int (nI (iv)), .int (nI (ct + 1)), .int (dr + nI k), .int (nI (sd)), .ref (by_)]))) := by
  refine zMt.of [some (.ref (a)), some (.int (nI (k)))] (by decide) rfl (Nat.le_of_ble_eq_true rfl) ?_
  refine zp_aload_n dX5_noteDrawing_0 rfl ?_
  refine zp_dup dX5_noteDrawing_1 rfl ?_
  refine zp_get dX5_noteDrawing_2 gX5_9_4 o rfl ?_
  refine zp_iconst (v := nI (1)) dX5_noteDrawing_5 (by decide) ?_
  refine zn_iadd dX5_noteDrawing_6 ?_
  refine zp_put (fs' := [.int (nI (st)), .int (nI (zbi rs)), .int (nI (sl)), .ref (a + 1), .ref (a + 3), .ref (26), .int (nI (kd)), .int (nI (iv)), .int (nI ((ct) + (1))), .int (dr), .int (nI (sd)), .ref (by_)]) dX5_noteDrawing_7 pX5_9_4 (by omega) o (Nat.le_of_ble_eq_true rfl) (zfit_i _) rfl ?_
  refine zp_nh (fun h1x eh1x => ?_)
  have k1_0 : h1x (a) = some (.inl (4, [.int (nI (st)), .int (nI (zbi rs)), .int (nI (sl)), .ref (a + 1), .ref (a + 3), .ref (26), .int (nI (kd)), .int (nI (iv)), .int (nI ((ct) + (1))), .int (dr), .int (nI (sd)), .ref (by_)])) := by rw [eh1x]; exact va_up_self _ _ _
  refine zp_aload_n dX5_noteDrawing_10 rfl ?_
  refine zp_dup dX5_noteDrawing_11 rfl ?_
  refine zp_get dX5_noteDrawing_12 gX5_15_4 k1_0 rfl ?_
  refine zp_iload_n dX5_noteDrawing_15 rfl ?_
  refine zp_iadd dX5_noteDrawing_16 ?_
  refine zp_put (fs' := [.int (nI (st)), .int (nI (zbi rs)), .int (nI (sl)), .ref (a + 1), .ref (a + 3), .ref (26), .int (nI (kd)), .int (nI (iv)), .int (nI ((ct) + (1))), .int ((dr) + (nI (k))), .int (nI (sd)), .ref (by_)]) dX5_noteDrawing_17 pX5_15_4 (by omega) k1_0 (Nat.le_of_ble_eq_true rfl) (zfit_i _) rfl ?_
  refine zp_nh (fun h2x eh2x => ?_)
  have k2_0 : h2x (a) = some (.inl (4, [.int (nI (st)), .int (nI (zbi rs)), .int (nI (sl)), .ref (a + 1), .ref (a + 3), .ref (26), .int (nI (kd)), .int (nI (iv)), .int (nI ((ct) + (1))), .int ((dr) + (nI (k))), .int (nI (sd)), .ref (by_)])) := by rw [eh2x]; exact va_up_self _ _ _
  refine zp_pc (pc' := 20) rfl ?_
  refine zp_pc (pc' := 20) rfl ?_
  refine zp_ret (v := none) dX5_noteDrawing_20 ⟨rfl, rfl⟩ (by decide) (by decide) ?_
  exact ⟨rfl, rfl, ((zsm.rf (S := fun i => i = a)).up eh1x rfl).up eh2x rfl, k2_0⟩
set_option maxRecDepth 10000 in
set_option maxHeartbeats 2000000 in
theorem e_count4 {g : ZG} {h : ZH} {n : Nat} {a st : Nat} {rs : Bool} {sl kd iv ct : Nat} {dr : Int32} {sd : Nat} {by_ : Nat} (o : h a = some (.inl (4, [.int (nI (st)), .int (nI (zbi rs)), .int (nI (sl)), .ref (a + 1), .ref (a + 3), .ref (26), .int (nI (kd)), .int (nI (iv)), .int (nI (ct)), .int (dr), .int (nI (sd)), .ref (by_)]))) : zMt g mX5_count (zR 0 0 0) [.ref (a)] h n (fun v h' n' => v = some (.int (nI ct)) ∧ h' = h ∧ n' = n) := by
  refine zMt.of [some (.ref (a))] (by decide) rfl (Nat.le_of_ble_eq_true rfl) ?_
  refine zp_aload_n dX5_count_0 rfl ?_
  refine zp_get dX5_count_1 gX5_9_4 o rfl ?_
  refine zp_pc (pc' := 4) rfl ?_
  refine zp_ret (v := (some (.int (nI (ct))))) dX5_count_4 ⟨⟨_, rfl, rfl⟩, rfl⟩ (by decide) (by decide) ?_
  exact ⟨rfl, rfl, rfl⟩
set_option maxRecDepth 10000 in
set_option maxHeartbeats 2000000 in
theorem e_wipe4 {g : ZG} {h : ZH} {n : Nat} {a st : Nat} {rs : Bool} {sl kd iv ct : Nat} {dr : Int32} {sd : Nat} {by_ : Nat} {N K : Nat} {xs ys : List Nat} (o : h a = some (.inl (4, [.int (nI (st)), .int (nI (zbi rs)), .int (nI (sl)), .ref (a + 1), .ref (a + 3), .ref (26), .int (nI (kd)), .int (nI (iv)), .int (nI (ct)), .int (dr), .int (nI (sd)), .ref (by_)]))) (hv : zrow h (a + 1) N xs) (hc : zrow h (a + 3) K ys) : zMt g mX5_wipe (zR 2 0 0) [.ref (a)] h n (fun v h' n' => v = none ∧ n' = n ∧ zsm h h' (fun i => a + 1 ≤ i ∧ i ≤ a + 4)) := by
  refine zMt.of [some (.ref (a))] (by decide) rfl (Nat.le_of_ble_eq_true rfl) ?_
  refine zp_aload_n dX5_wipe_0 rfl ?_
  refine zp_get dX5_wipe_1 gX5_52_4 o rfl ?_
  refine zp_iconst (v := nI (0)) dX5_wipe_4 (by decide) ?_
  refine zp_aload_n dX5_wipe_5 rfl ?_
  refine zp_get dX5_wipe_6 gX5_52_4 o rfl ?_
  refine zp_pc (pc' := 9) rfl ?_
  have l1 := hv.len
  have l2 := hc.len
  refine zp_callV (As := []) (k := a + 1) (st := [.int (nI (0)), .ref (a + 1)]) (ci := 6) dX5_wipe_9 cX5_73 rfl hv.2.1 rfl rfl (e_length (N := N) hv) (by decide) (by decide) (Nat.le_of_ble_eq_true rfl) (fun v1 h1 n1 q1 => ?_)
  obtain ⟨rfl, H1, N1⟩ := q1
  rw [N1, H1]
  refine zp_nrm (cells' := 0) (slots' := 0) (st' := [.int (nI (xs.length)), .int (nI (0)), .ref (a + 1)]) rfl rfl rfl ?_
  refine zp_pc (pc' := 12) rfl ?_
  refine zp_callV (As := [.int (nI (0)), .int (nI (xs.length))]) (k := a + 1) (st := []) (ci := 6) dX5_wipe_12 cX5_80 rfl hv.2.1 rfl rfl (e_becomeSame (N := N) (b := nI 0) (k := xs.length) hv (by omega)) (by decide) (by decide) (Nat.le_of_ble_eq_true rfl) (fun v2 h2 n2 q2 => ?_)
  obtain ⟨rfl, N2, s2, r2⟩ := q2
  rw [N2]
  refine zp_nrm (cells' := 0) (slots' := 0) (st' := []) rfl rfl rfl ?_
  have y3_0 := hc.keep (s2 _ (by unfold zrs; omega)) (s2 _ (by unfold zrs; omega))
  have y3_1 : h2 (a) = some (.inl (4, [.int (nI (st)), .int (nI (zbi rs)), .int (nI (sl)), .ref (a + 1), .ref (a + 3), .ref (26), .int (nI (kd)), .int (nI (iv)), .int (nI (ct)), .int (dr), .int (nI (sd)), .ref (by_)])) := (s2 _ (by unfold zrs; omega)).trans o
  refine zp_aload_n dX5_wipe_15 rfl ?_
  refine zp_get dX5_wipe_16 gX5_56_4 y3_1 rfl ?_
  refine zp_iconst (v := nI (0)) dX5_wipe_19 (by decide) ?_
  refine zp_aload_n dX5_wipe_20 rfl ?_
  refine zp_get dX5_wipe_21 gX5_56_4 y3_1 rfl ?_
  refine zp_pc (pc' := 24) rfl ?_
  refine zp_callV (As := []) (k := a + 3) (st := [.int (nI (0)), .ref (a + 3)]) (ci := 6) dX5_wipe_24 cX5_73 rfl y3_0.2.1 rfl rfl (e_length (N := K) y3_0) (by decide) (by decide) (Nat.le_of_ble_eq_true rfl) (fun v4 h4 n4 q4 => ?_)
  obtain ⟨rfl, H4, N4⟩ := q4
  rw [N4, H4]
  refine zp_nrm (cells' := 0) (slots' := 0) (st' := [.int (nI (ys.length)), .int (nI (0)), .ref (a + 3)]) rfl rfl rfl ?_
  refine zp_pc (pc' := 27) rfl ?_
  refine zp_callV (As := [.int (nI (0)), .int (nI (ys.length))]) (k := a + 3) (st := []) (ci := 6) dX5_wipe_27 cX5_80 rfl y3_0.2.1 rfl rfl (e_becomeSame (N := K) (b := nI 0) (k := ys.length) y3_0 (by omega)) (by decide) (by decide) (Nat.le_of_ble_eq_true rfl) (fun v5 h5 n5 q5 => ?_)
  obtain ⟨rfl, N5, s5, r5⟩ := q5
  rw [N5]
  refine zp_nrm (cells' := 0) (slots' := 0) (st' := []) rfl rfl rfl ?_
  have y6_0 := r2.keep (s5 _ (by unfold zrs; omega)) (s5 _ (by unfold zrs; omega))
  have y6_1 : h5 (a) = some (.inl (4, [.int (nI (st)), .int (nI (zbi rs)), .int (nI (sl)), .ref (a + 1), .ref (a + 3), .ref (26), .int (nI (kd)), .int (nI (iv)), .int (nI (ct)), .int (dr), .int (nI (sd)), .ref (by_)])) := (s5 _ (by unfold zrs; omega)).trans y3_1
  refine zp_ret (v := none) dX5_wipe_30 ⟨rfl, rfl⟩ (by decide) (by decide) ?_
  exact ⟨rfl, rfl, (s2.mono (fun i hi => by unfold zrs at hi; omega)).trans (s5.mono (fun i hi => by unfold zrs at hi; omega))⟩
set_option maxRecDepth 10000 in
set_option maxHeartbeats 2000000 in
theorem e_genLook4 {g : ZG} {h : ZH} {n : Nat} {a st : Nat} {rs : Bool} {sl kd iv ct : Nat} {dr : Int32} {sd : Nat} {by_ : Nat} {x : Int32} (o : h a = some (.inl (4, [.int (nI (st)), .int (nI (zbi rs)), .int (nI (sl)), .ref (a + 1), .ref (a + 3), .ref (26), .int (nI (kd)), .int (nI (iv)), .int (nI (ct)), .int (dr), .int (nI (sd)), .ref (by_)]))) : zMt g mX5_look (zR 0 0 0) [.ref (a), .int (x)] h n (fun v h' n' => v = some (.int (zglook kd st ct iv rs sl dr sd x)) ∧ h' = h ∧ n' = n) := by
  refine zMt.of [some (.ref (a)), some (.int (x))] (by decide) rfl (Nat.le_of_ble_eq_true rfl) ?_
  refine zp_iload_n dX5_look_0 rfl ?_
  refine zp_pc (pc' := 1) rfl ?_
  rcases zsw x 8 (by decide) with ⟨j, hj, rfl⟩ | hx
  · have hj2 : j = 0 ∨ j = 1 ∨ j = 2 ∨ j = 3 ∨ j = 4 ∨ j = 5 ∨ j = 6 ∨ j = 7 := by omega
    rcases hj2 with rfl | rfl | rfl | rfl | rfl | rfl | rfl | rfl
    · refine zp_tabIn (off := 47) (tgt := 48) dX5_look_1 (by decide) (by decide) rfl (by decide) ?_
      refine zp_aload_n dX5_look_48 rfl ?_
      refine zp_get dX5_look_49 gX5_21_4 o rfl ?_
      refine zp_pc (pc' := 52) rfl ?_
      refine zp_i (y := zglook kd st ct iv rs sl dr sd (nI 0)) rfl ?_
      refine zp_ret (v := (some (.int (zglook kd st ct iv rs sl dr sd (nI 0))))) dX5_look_52 ⟨⟨_, rfl, rfl⟩, rfl⟩ (by decide) (by decide) ?_
      exact ⟨rfl, rfl, rfl⟩
    · refine zp_tabIn (off := 52) (tgt := 53) dX5_look_1 (by decide) (by decide) rfl (by decide) ?_
      refine zp_aload_n dX5_look_53 rfl ?_
      refine zp_get dX5_look_54 gX5_24_4 o rfl ?_
      refine zp_pc (pc' := 57) rfl ?_
      refine zp_i (y := zglook kd st ct iv rs sl dr sd (nI 1)) rfl ?_
      refine zp_ret (v := (some (.int (zglook kd st ct iv rs sl dr sd (nI 1))))) dX5_look_57 ⟨⟨_, rfl, rfl⟩, rfl⟩ (by decide) (by decide) ?_
      exact ⟨rfl, rfl, rfl⟩
    · refine zp_tabIn (off := 57) (tgt := 58) dX5_look_1 (by decide) (by decide) rfl (by decide) ?_
      refine zp_aload_n dX5_look_58 rfl ?_
      refine zp_get dX5_look_59 gX5_9_4 o rfl ?_
      refine zp_pc (pc' := 62) rfl ?_
      refine zp_i (y := zglook kd st ct iv rs sl dr sd (nI 2)) rfl ?_
      refine zp_ret (v := (some (.int (zglook kd st ct iv rs sl dr sd (nI 2))))) dX5_look_62 ⟨⟨_, rfl, rfl⟩, rfl⟩ (by decide) (by decide) ?_
      exact ⟨rfl, rfl, rfl⟩
    · refine zp_tabIn (off := 62) (tgt := 63) dX5_look_1 (by decide) (by decide) rfl (by decide) ?_
      refine zp_aload_n dX5_look_63 rfl ?_
      refine zp_get dX5_look_64 gX5_31_4 o rfl ?_
      refine zp_pc (pc' := 67) rfl ?_
      refine zp_i (y := zglook kd st ct iv rs sl dr sd (nI 3)) rfl ?_
      refine zp_ret (v := (some (.int (zglook kd st ct iv rs sl dr sd (nI 3))))) dX5_look_67 ⟨⟨_, rfl, rfl⟩, rfl⟩ (by decide) (by decide) ?_
      exact ⟨rfl, rfl, rfl⟩
    · refine zp_tabIn (off := 67) (tgt := 68) dX5_look_1 (by decide) (by decide) rfl (by decide) ?_
      have hu := zbi_lt rs
      refine zp_aload_n dX5_look_68 rfl ?_
      refine zp_get dX5_look_69 gX5_27_4 o rfl ?_
      refine zp_pc (pc' := 72) rfl ?_
      refine zn_if_eq (tgt := 79) dX5_look_72 (by decide) (by omega) (fun c72 => ?_) (fun c72 => ?_)
      · refine zp_iconst (v := nI (0)) dX5_look_79 (by decide) ?_
        refine zp_pc (pc' := 80) rfl ?_
        refine zp_i (y := zglook kd st ct iv rs sl dr sd (nI 4)) (by show _ = nI (zbi rs); rw [c72]) ?_
        refine zp_ret (v := (some (.int (zglook kd st ct iv rs sl dr sd (nI 4))))) dX5_look_80 ⟨⟨_, rfl, rfl⟩, rfl⟩ (by decide) (by decide) ?_
        exact ⟨rfl, rfl, rfl⟩
      · refine zp_iconst (v := nI (1)) dX5_look_75 (by decide) ?_
        refine zp_goto (tgt := 80) dX5_look_76 (by decide) ?_
        refine zp_pc (pc' := 80) rfl ?_
        refine zp_i (y := zglook kd st ct iv rs sl dr sd (nI 4)) (by show _ = nI (zbi rs); rw [show zbi rs = 1 by omega]) ?_
        refine zp_ret (v := (some (.int (zglook kd st ct iv rs sl dr sd (nI 4))))) dX5_look_80 ⟨⟨_, rfl, rfl⟩, rfl⟩ (by decide) (by decide) ?_
        exact ⟨rfl, rfl, rfl⟩
    · refine zp_tabIn (off := 80) (tgt := 81) dX5_look_1 (by decide) (by decide) rfl (by decide) ?_
      refine zp_aload_n dX5_look_81 rfl ?_
      refine zp_get dX5_look_82 gX5_42_4 o rfl ?_
      refine zp_pc (pc' := 85) rfl ?_
      refine zp_i (y := zglook kd st ct iv rs sl dr sd (nI 5)) rfl ?_
      refine zp_ret (v := (some (.int (zglook kd st ct iv rs sl dr sd (nI 5))))) dX5_look_85 ⟨⟨_, rfl, rfl⟩, rfl⟩ (by decide) (by decide) ?_
      exact ⟨rfl, rfl, rfl⟩
    · refine zp_tabIn (off := 85) (tgt := 86) dX5_look_1 (by decide) (by decide) rfl (by decide) ?_
      refine zp_aload_n dX5_look_86 rfl ?_
      refine zp_get dX5_look_87 gX5_15_4 o rfl ?_
      refine zp_pc (pc' := 90) rfl ?_
      refine zp_i (y := zglook kd st ct iv rs sl dr sd (nI 6)) rfl ?_
      refine zp_ret (v := (some (.int (zglook kd st ct iv rs sl dr sd (nI 6))))) dX5_look_90 ⟨⟨_, rfl, rfl⟩, rfl⟩ (by decide) (by decide) ?_
      exact ⟨rfl, rfl, rfl⟩
    · refine zp_tabIn (off := 90) (tgt := 91) dX5_look_1 (by decide) (by decide) rfl (by decide) ?_
      refine zp_aload_n dX5_look_91 rfl ?_
      refine zp_get dX5_look_92 gX5_18_4 o rfl ?_
      refine zp_pc (pc' := 95) rfl ?_
      refine zp_i (y := zglook kd st ct iv rs sl dr sd (nI 7)) rfl ?_
      refine zp_ret (v := (some (.int (zglook kd st ct iv rs sl dr sd (nI 7))))) dX5_look_95 ⟨⟨_, rfl, rfl⟩, rfl⟩ (by decide) (by decide) ?_
      exact ⟨rfl, rfl, rfl⟩
  · refine zp_tabOut (tgt := 96) dX5_look_1 hx (by decide) ?_
    refine zp_iconst (v := (-1)) dX5_look_96 (by decide) ?_
    refine zp_pc (pc' := 97) rfl ?_
    have zo := fun j hj => zsw_out (k := 8) hx j hj (by decide)
    refine zp_i (y := zglook kd st ct iv rs sl dr sd x) (by rw [zglook, if_neg (zo 0 (by decide)), if_neg (zo 1 (by decide)), if_neg (zo 2 (by decide)), if_neg (zo 3 (by decide)), if_neg (zo 4 (by decide)), if_neg (zo 5 (by decide)), if_neg (zo 6 (by decide)), if_neg (zo 7 (by decide))]) ?_
    refine zp_ret (v := (some (.int (zglook kd st ct iv rs sl dr sd x)))) dX5_look_97 ⟨⟨_, rfl, rfl⟩, rfl⟩ (by decide) (by decide) ?_
    exact ⟨rfl, rfl, rfl⟩
set_option maxRecDepth 10000 in
set_option maxHeartbeats 2000000 in
theorem e_derives5 {g : ZG} {h : ZH} {n : Nat} {a st : Nat} {rs : Bool} {sl kd iv ct : Nat} {dr : Int32} {sd : Nat} {by_ : Nat} (o : h a = some (.inl (5, [.int (nI (st)), .int (nI (zbi rs)), .int (nI (sl)), .ref (a + 1), .ref (a + 3), .ref (26), .int (nI (kd)), .int (nI (iv)), .int (nI (ct)), .int (dr), .int (nI (sd)), .ref (by_)]))) (b1 : kd < 8) (b2 : st ≤ 256) (b3 : sl ≤ 111) (b4 : iv ≤ 100000) (b5 : ct < 100000) (b6 : sd < 100000) : zMt g mX5_derives (zR 0 0 0) [.ref (a)] h n (fun v h' n' => v = some (.int (nI (zbi (decide (kd < 6))))) ∧ h' = h ∧ n' = n) := by
  refine zMt.of [some (.ref (a))] (by decide) rfl (Nat.le_of_ble_eq_true rfl) ?_
  refine zp_aload_n dX5_derives_0 rfl ?_
  refine zp_get dX5_derives_1 gX5_21_5 o rfl ?_
  refine zp_bipush (v := nI (6)) dX5_derives_4 (by decide) ?_
  refine zp_pc (pc' := 6) rfl ?_
  refine zn_icmp_ge (tgt := 13) dX5_derives_6 (by decide) (by omega) (by omega) (fun c6 => ?_) (fun c6 => ?_)
  · refine zp_iconst (v := nI (0)) dX5_derives_13 (by decide) ?_
    refine zp_pc (pc' := 14) rfl ?_
    refine zp_i (y := nI (zbi (decide (kd < 6)))) (by rw [decide_eq_false (by omega)]; rfl) ?_
    refine zp_ret (v := (some (.int (nI (zbi (decide (kd < 6))))))) dX5_derives_14 ⟨⟨_, rfl, ((zfit_b (decide (kd < 6))) g).1⟩, rfl⟩ (by decide) (by decide) ?_
    exact ⟨rfl, rfl, rfl⟩
  · refine zp_iconst (v := nI (1)) dX5_derives_9 (by decide) ?_
    refine zp_goto (tgt := 14) dX5_derives_10 (by decide) ?_
    refine zp_pc (pc' := 14) rfl ?_
    refine zp_i (y := nI (zbi (decide (kd < 6)))) (by rw [decide_eq_true (by omega)]; rfl) ?_
    refine zp_ret (v := (some (.int (nI (zbi (decide (kd < 6))))))) dX5_derives_14 ⟨⟨_, rfl, ((zfit_b (decide (kd < 6))) g).1⟩, rfl⟩ (by decide) (by decide) ?_
    exact ⟨rfl, rfl, rfl⟩
set_option maxRecDepth 10000 in
set_option maxHeartbeats 2000000 in
theorem e_isNew5 {g : ZG} {h : ZH} {n : Nat} {a st : Nat} {rs : Bool} {sl kd iv ct : Nat} {dr : Int32} {sd : Nat} {by_ : Nat} (o : h a = some (.inl (5, [.int (nI (st)), .int (nI (zbi rs)), .int (nI (sl)), .ref (a + 1), .ref (a + 3), .ref (26), .int (nI (kd)), .int (nI (iv)), .int (nI (ct)), .int (dr), .int (nI (sd)), .ref (by_)]))) (b1 : kd < 8) (b2 : st ≤ 256) (b3 : sl ≤ 111) (b4 : iv ≤ 100000) (b5 : ct < 100000) (b6 : sd < 100000) : zMt g mX5_isNew (zR 0 0 0) [.ref (a)] h n (fun v h' n' => v = some (.int (nI (zbi (decide (sd = 0))))) ∧ h' = h ∧ n' = n) := by
  refine zMt.of [some (.ref (a))] (by decide) rfl (Nat.le_of_ble_eq_true rfl) ?_
  refine zp_aload_n dX5_isNew_0 rfl ?_
  refine zp_get dX5_isNew_1 gX5_18_5 o rfl ?_
  refine zp_pc (pc' := 4) rfl ?_
  refine zn_if_ne (tgt := 11) dX5_isNew_4 (by decide) (by omega) (fun c4 => ?_) (fun c4 => ?_)
  · refine zp_iconst (v := nI (0)) dX5_isNew_11 (by decide) ?_
    refine zp_pc (pc' := 12) rfl ?_
    refine zp_i (y := nI (zbi (decide (sd = 0)))) (by rw [decide_eq_false c4]; rfl) ?_
    refine zp_ret (v := (some (.int (nI (zbi (decide (sd = 0))))))) dX5_isNew_12 ⟨⟨_, rfl, ((zfit_b (decide (sd = 0))) g).1⟩, rfl⟩ (by decide) (by decide) ?_
    exact ⟨rfl, rfl, rfl⟩
  · refine zp_iconst (v := nI (1)) dX5_isNew_7 (by decide) ?_
    refine zp_goto (tgt := 12) dX5_isNew_8 (by decide) ?_
    refine zp_pc (pc' := 12) rfl ?_
    refine zp_i (y := nI (zbi (decide (sd = 0)))) (by rw [decide_eq_true c4]; rfl) ?_
    refine zp_ret (v := (some (.int (nI (zbi (decide (sd = 0))))))) dX5_isNew_12 ⟨⟨_, rfl, ((zfit_b (decide (sd = 0))) g).1⟩, rfl⟩ (by decide) (by decide) ?_
    exact ⟨rfl, rfl, rfl⟩
set_option maxRecDepth 10000 in
set_option maxHeartbeats 2000000 in
theorem e_isDue5 {g : ZG} {h : ZH} {n : Nat} {a st : Nat} {rs : Bool} {sl kd iv ct : Nat} {dr : Int32} {sd : Nat} {by_ : Nat} (o : h a = some (.inl (5, [.int (nI (st)), .int (nI (zbi rs)), .int (nI (sl)), .ref (a + 1), .ref (a + 3), .ref (26), .int (nI (kd)), .int (nI (iv)), .int (nI (ct)), .int (dr), .int (nI (sd)), .ref (by_)]))) (b1 : kd < 8) (b2 : st ≤ 256) (b3 : sl ≤ 111) (b4 : iv ≤ 100000) (b5 : ct < 100000) (b6 : sd < 100000) : zMt g mX5_isDue (zR 0 0 0) [.ref (a)] h n (fun v h' n' => v = some (.int (nI (zbi (decide (iv < ct))))) ∧ h' = h ∧ n' = n) := by
  refine zMt.of [some (.ref (a))] (by decide) rfl (Nat.le_of_ble_eq_true rfl) ?_
  refine zp_aload_n dX5_isDue_0 rfl ?_
  refine zp_get dX5_isDue_1 gX5_9_5 o rfl ?_
  refine zp_aload_n dX5_isDue_4 rfl ?_
  refine zp_get dX5_isDue_5 gX5_31_5 o rfl ?_
  refine zp_pc (pc' := 8) rfl ?_
  refine zn_icmp_le (tgt := 15) dX5_isDue_8 (by decide) (by omega) (by omega) (fun c8 => ?_) (fun c8 => ?_)
  · refine zp_iconst (v := nI (0)) dX5_isDue_15 (by decide) ?_
    refine zp_pc (pc' := 16) rfl ?_
    refine zp_i (y := nI (zbi (decide (iv < ct)))) (by rw [decide_eq_false (by omega)]; rfl) ?_
    refine zp_ret (v := (some (.int (nI (zbi (decide (iv < ct))))))) dX5_isDue_16 ⟨⟨_, rfl, ((zfit_b (decide (iv < ct))) g).1⟩, rfl⟩ (by decide) (by decide) ?_
    exact ⟨rfl, rfl, rfl⟩
  · refine zp_iconst (v := nI (1)) dX5_isDue_11 (by decide) ?_
    refine zp_goto (tgt := 16) dX5_isDue_12 (by decide) ?_
    refine zp_pc (pc' := 16) rfl ?_
    refine zp_i (y := nI (zbi (decide (iv < ct)))) (by rw [decide_eq_true (by omega)]; rfl) ?_
    refine zp_ret (v := (some (.int (nI (zbi (decide (iv < ct))))))) dX5_isDue_16 ⟨⟨_, rfl, ((zfit_b (decide (iv < ct))) g).1⟩, rfl⟩ (by decide) (by decide) ?_
    exact ⟨rfl, rfl, rfl⟩
set_option maxRecDepth 10000 in
set_option maxHeartbeats 2000000 in
theorem e_isTooLong5 {g : ZG} {h : ZH} {n : Nat} {a st : Nat} {rs : Bool} {sl kd iv ct : Nat} {dr : Int32} {sd : Nat} {by_ : Nat} {r N : Nat} {xs : List Nat} (o : h a = some (.inl (5, [.int (nI (st)), .int (nI (zbi rs)), .int (nI (sl)), .ref (a + 1), .ref (a + 3), .ref (26), .int (nI (kd)), .int (nI (iv)), .int (nI (ct)), .int (dr), .int (nI (sd)), .ref (by_)]))) (b1 : kd < 8) (b2 : st ≤ 256) (b3 : sl ≤ 111) (b4 : iv ≤ 100000) (b5 : ct < 100000) (b6 : sd < 100000) (hx : zrow h r N xs) : zMt g mX5_isTooLong (zR 1 0 0) [.ref (a), .ref (r)] h n (fun v h' n' => v = some (.int (nI (zbi (decide (6 ≤ kd ∧ sl < xs.length))))) ∧ h' = h ∧ n' = n) := by
  refine zMt.of [some (.ref (a)), some (.ref (r))] (by decide) rfl (Nat.le_of_ble_eq_true rfl) ?_
  have hxl := hx.len
  refine zp_aload_n dX5_isTooLong_0 rfl ?_
  refine zp_pc (pc' := 1) rfl ?_
  refine zp_callU (As := []) (k := a) (st := []) (ci := 5) (q := (RX6, TX6, 12)) dX5_isTooLong_1 cX5_69_5 rfl o rfl (e_derives5 o b1 b2 b3 b4 b5 b6) (by decide) (by decide) (Nat.le_of_ble_eq_true rfl) (fun v1 h1 n1 q1 => ?_)
  obtain ⟨rfl, H1, N1⟩ := q1
  rw [N1, H1]
  refine zp_nrm (cells' := 0) (slots' := 0) (st' := [.int (nI (zbi (decide (kd < 6))))]) rfl rfl rfl ?_
  have hz := zbi_lt (decide (kd < 6))
  refine zp_pc (pc' := 4) rfl ?_
  refine zn_if_ne (tgt := 22) dX5_isTooLong_4 (by decide) (by omega) (fun c4 => ?_) (fun c4 => ?_)
  · have hk : kd < 6 := by
      by_cases q : kd < 6
      · exact q
      · rw [decide_eq_false q] at c4; exact absurd rfl c4
    refine zp_iconst (v := nI (0)) dX5_isTooLong_22 (by decide) ?_
    refine zp_pc (pc' := 23) rfl ?_
    refine zp_i (y := nI (zbi (decide (6 ≤ kd ∧ sl < xs.length)))) (by rw [decide_eq_false (by omega)]; rfl) ?_
    refine zp_ret (v := (some (.int (nI (zbi (decide (6 ≤ kd ∧ sl < xs.length))))))) dX5_isTooLong_23 ⟨⟨_, rfl, ((zfit_b (decide (6 ≤ kd ∧ sl < xs.length))) g).1⟩, rfl⟩ (by decide) (by decide) ?_
    exact ⟨rfl, rfl, rfl⟩
  · have hk : ¬ kd < 6 := fun q => by rw [decide_eq_true q] at c4; exact absurd c4 (by decide)
    refine zp_aload_n dX5_isTooLong_7 rfl ?_
    refine zp_pc (pc' := 8) rfl ?_
    refine zp_callV (As := []) (k := r) (st := []) (ci := 6) dX5_isTooLong_8 cX5_73 rfl hx.2.1 rfl rfl (e_length (N := N) hx) (by decide) (by decide) (Nat.le_of_ble_eq_true rfl) (fun v2 h2 n2 q2 => ?_)
    obtain ⟨rfl, H2, N2⟩ := q2
    rw [N2, H2]
    refine zp_nrm (cells' := 0) (slots' := 0) (st' := [.int (nI (xs.length))]) rfl rfl rfl ?_
    refine zp_aload_n dX5_isTooLong_11 rfl ?_
    refine zp_get dX5_isTooLong_12 gX5_42_5 o rfl ?_
    refine zp_pc (pc' := 15) rfl ?_
    refine zn_icmp_le (tgt := 22) dX5_isTooLong_15 (by decide) (by omega) (by omega) (fun c15 => ?_) (fun c15 => ?_)
    · refine zp_iconst (v := nI (0)) dX5_isTooLong_22 (by decide) ?_
      refine zp_pc (pc' := 23) rfl ?_
      refine zp_i (y := nI (zbi (decide (6 ≤ kd ∧ sl < xs.length)))) (by rw [decide_eq_false (by omega)]; rfl) ?_
      refine zp_ret (v := (some (.int (nI (zbi (decide (6 ≤ kd ∧ sl < xs.length))))))) dX5_isTooLong_23 ⟨⟨_, rfl, ((zfit_b (decide (6 ≤ kd ∧ sl < xs.length))) g).1⟩, rfl⟩ (by decide) (by decide) ?_
      exact ⟨rfl, rfl, rfl⟩
    · refine zp_iconst (v := nI (1)) dX5_isTooLong_18 (by decide) ?_
      refine zp_goto (tgt := 23) dX5_isTooLong_19 (by decide) ?_
      refine zp_pc (pc' := 23) rfl ?_
      refine zp_i (y := nI (zbi (decide (6 ≤ kd ∧ sl < xs.length)))) (by rw [decide_eq_true (by omega)]; rfl) ?_
      refine zp_ret (v := (some (.int (nI (zbi (decide (6 ≤ kd ∧ sl < xs.length))))))) dX5_isTooLong_23 ⟨⟨_, rfl, ((zfit_b (decide (6 ≤ kd ∧ sl < xs.length))) g).1⟩, rfl⟩ (by decide) (by decide) ?_
      exact ⟨rfl, rfl, rfl⟩
set_option maxRecDepth 10000 in
set_option maxHeartbeats 2000000 in
theorem e_demand5 {g : ZG} {h : ZH} {n : Nat} {a st : Nat} {rs : Bool} {sl kd iv ct : Nat} {dr : Int32} {sd : Nat} {by_ : Nat} (o : h a = some (.inl (5, [.int (nI (st)), .int (nI (zbi rs)), .int (nI (sl)), .ref (a + 1), .ref (a + 3), .ref (26), .int (nI (kd)), .int (nI (iv)), .int (nI (ct)), .int (dr), .int (nI (sd)), .ref (by_)]))) (b1 : kd < 8) (b2 : st ≤ 256) (b3 : sl ≤ 111) (b4 : iv ≤ 100000) (b5 : ct < 100000) (b6 : sd < 100000) : zMt g mX5_demand (zR 1 0 0) [.ref (a)] h n (fun v h' n' => v = some (.int (nI (zdem kd st sl sd))) ∧ h' = h ∧ n' = n) := by
  refine zMt.of [some (.ref (a)), none] (by decide) rfl (Nat.le_of_ble_eq_true rfl) ?_
  refine zp_aload_n dX5_demand_0 rfl ?_
  refine zp_pc (pc' := 1) rfl ?_
  refine zp_callU (As := []) (k := a) (st := []) (ci := 5) (q := (RX6, TX6, 12)) dX5_demand_1 cX5_69_5 rfl o rfl (e_derives5 o b1 b2 b3 b4 b5 b6) (by decide) (by decide) (Nat.le_of_ble_eq_true rfl) (fun v1 h1 n1 q1 => ?_)
  obtain ⟨rfl, H1, N1⟩ := q1
  rw [N1, H1]
  refine zp_nrm (cells' := 0) (slots' := 0) (st' := [.int (nI (zbi (decide (kd < 6))))]) rfl rfl rfl ?_
  have hz := zbi_lt (decide (kd < 6))
  refine zp_pc (pc' := 4) rfl ?_
  refine zn_if_ne (tgt := 12) dX5_demand_4 (by decide) (by omega) (fun c4 => ?_) (fun c4 => ?_)
  · have hk : kd < 6 := by
      by_cases q : kd < 6
      · exact q
      · rw [decide_eq_false q] at c4; exact absurd rfl c4
    refine zp_aload_n dX5_demand_12 rfl ?_
    refine zp_get dX5_demand_13 gX5_24_5 o rfl ?_
    refine zp_bipush (v := nI (8)) dX5_demand_16 (by decide) ?_
    refine zn_idiv dX5_demand_18 (by omega) (by omega) (by omega) ?_
    refine zp_istore_n (ls' := [some (.ref (a)), some (.int (nI ((st) / (8))))]) dX5_demand_19 (by decide) rfl ?_
    refine zp_aload_n dX5_demand_20 rfl ?_
    refine zp_pc (pc' := 21) rfl ?_
    refine zp_callU (As := []) (k := a) (st := []) (ci := 5) (q := (RX6, TX6, 12)) dX5_demand_21 cX5_77_5 rfl o rfl (e_isNew5 o b1 b2 b3 b4 b5 b6) (by decide) (by decide) (Nat.le_of_ble_eq_true rfl) (fun v2 h2 n2 q2 => ?_)
    obtain ⟨rfl, H2, N2⟩ := q2
    rw [N2, H2]
    refine zp_nrm (cells' := 0) (slots' := 0) (st' := [.int (nI (zbi (decide (sd = 0))))]) rfl rfl rfl ?_
    have hz2 := zbi_lt (decide (sd = 0))
    refine zp_pc (pc' := 24) rfl ?_
    refine zn_if_eq (tgt := 35) dX5_demand_24 (by decide) (by omega) (fun c24 => ?_) (fun c24 => ?_)
    · have h2 : ¬ sd = 0 := fun q => by rw [decide_eq_true q] at c24; exact absurd c24 (by decide)
      refine zp_iload_n dX5_demand_35 rfl ?_
      refine zp_pc (pc' := 36) rfl ?_
      refine zp_i (y := nI (zdem kd st sl sd)) (by rw [zdem, if_neg (by omega), if_neg h2]) ?_
      refine zp_ret (v := (some (.int (nI (zdem kd st sl sd))))) dX5_demand_36 ⟨⟨_, rfl, rfl⟩, rfl⟩ (by decide) (by decide) ?_
      exact ⟨rfl, rfl, rfl⟩
    · have h2 : sd = 0 := by
        by_cases q : sd = 0
        · exact q
        · rw [decide_eq_false q] at c24; exact absurd rfl c24
      refine zp_iload_n dX5_demand_27 rfl ?_
      refine zp_iload_n dX5_demand_28 rfl ?_
      refine zp_iconst (v := nI (2)) dX5_demand_29 (by decide) ?_
      refine zn_idiv dX5_demand_30 (by omega) (by omega) (by omega) ?_
      refine zn_iadd dX5_demand_31 ?_
      refine zp_goto (tgt := 36) dX5_demand_32 (by decide) ?_
      refine zp_pc (pc' := 36) rfl ?_
      refine zp_i (y := nI (zdem kd st sl sd)) (by rw [zdem, if_neg (by omega), if_pos h2]) ?_
      refine zp_ret (v := (some (.int (nI (zdem kd st sl sd))))) dX5_demand_36 ⟨⟨_, rfl, rfl⟩, rfl⟩ (by decide) (by decide) ?_
      exact ⟨rfl, rfl, rfl⟩
  · have hk : ¬ kd < 6 := fun q => by rw [decide_eq_true q] at c4; exact absurd c4 (by decide)
    refine zp_aload_n dX5_demand_7 rfl ?_
    refine zp_get dX5_demand_8 gX5_42_5 o rfl ?_
    refine zp_pc (pc' := 11) rfl ?_
    refine zp_i (y := nI (zdem kd st sl sd)) (by rw [zdem, if_pos (by omega)]) ?_
    refine zp_ret (v := (some (.int (nI (zdem kd st sl sd))))) dX5_demand_11 ⟨⟨_, rfl, rfl⟩, rfl⟩ (by decide) (by decide) ?_
    exact ⟨rfl, rfl, rfl⟩
set_option maxRecDepth 10000 in
set_option maxHeartbeats 2000000 in
theorem e_noteSeeding5 {g : ZG} {h : ZH} {n : Nat} {a st : Nat} {rs : Bool} {sl kd iv ct : Nat} {dr : Int32} {sd : Nat} {by_ : Nat} (o : h a = some (.inl (5, [.int (nI (st)), .int (nI (zbi rs)), .int (nI (sl)), .ref (a + 1), .ref (a + 3), .ref (26), .int (nI (kd)), .int (nI (iv)), .int (nI (ct)), .int (dr), .int (nI (sd)), .ref (by_)]))) (a16 : 16 ≤ a) : zMt g mX5_noteSeeding (zR 0 0 0) [.ref (a)] h n (fun v h' n' => v = none ∧ n' = n ∧ zsm h h' (fun i => i = a) ∧ h' a = some (.inl (5, [.int (nI (st)), .int (nI (zbi rs)), .int (nI (sl)), .ref (a + 1), .ref (a + 3), .ref (26), .int (nI (kd)), .int (nI (iv)), .int (nI (1)), .int (dr), .int (nI (sd + 1)), .ref (by_)]))) := by
  refine zMt.of [some (.ref (a))] (by decide) rfl (Nat.le_of_ble_eq_true rfl) ?_
  refine zp_aload_n dX5_noteSeeding_0 rfl ?_
  refine zp_iconst (v := nI (1)) dX5_noteSeeding_1 (by decide) ?_
  refine zp_put (fs' := [.int (nI (st)), .int (nI (zbi rs)), .int (nI (sl)), .ref (a + 1), .ref (a + 3), .ref (26), .int (nI (kd)), .int (nI (iv)), .int (nI (1)), .int (dr), .int (nI (sd)), .ref (by_)]) dX5_noteSeeding_2 pX5_9_5 (by omega) o (Nat.le_of_ble_eq_true rfl) (zfit_i _) rfl ?_
  refine zp_nh (fun h1x eh1x => ?_)
  have k1_0 : h1x (a) = some (.inl (5, [.int (nI (st)), .int (nI (zbi rs)), .int (nI (sl)), .ref (a + 1), .ref (a + 3), .ref (26), .int (nI (kd)), .int (nI (iv)), .int (nI (1)), .int (dr), .int (nI (sd)), .ref (by_)])) := by rw [eh1x]; exact va_up_self _ _ _
  refine zp_aload_n dX5_noteSeeding_5 rfl ?_
  refine zp_dup dX5_noteSeeding_6 rfl ?_
  refine zp_get dX5_noteSeeding_7 gX5_18_5 k1_0 rfl ?_
  refine zp_iconst (v := nI (1)) dX5_noteSeeding_10 (by decide) ?_
  refine zn_iadd dX5_noteSeeding_11 ?_
  refine zp_put (fs' := [.int (nI (st)), .int (nI (zbi rs)), .int (nI (sl)), .ref (a + 1), .ref (a + 3), .ref (26), .int (nI (kd)), .int (nI (iv)), .int (nI (1)), .int (dr), .int (nI ((sd) + (1))), .ref (by_)]) dX5_noteSeeding_12 pX5_18_5 (by omega) k1_0 (Nat.le_of_ble_eq_true rfl) (zfit_i _) rfl ?_
  refine zp_nh (fun h2x eh2x => ?_)
  have k2_0 : h2x (a) = some (.inl (5, [.int (nI (st)), .int (nI (zbi rs)), .int (nI (sl)), .ref (a + 1), .ref (a + 3), .ref (26), .int (nI (kd)), .int (nI (iv)), .int (nI (1)), .int (dr), .int (nI ((sd) + (1))), .ref (by_)])) := by rw [eh2x]; exact va_up_self _ _ _
  refine zp_pc (pc' := 15) rfl ?_
  refine zp_ret (v := none) dX5_noteSeeding_15 ⟨rfl, rfl⟩ (by decide) (by decide) ?_
  exact ⟨rfl, rfl, ((zsm.rf (S := fun i => i = a)).up eh1x rfl).up eh2x rfl, k2_0⟩
set_option maxRecDepth 10000 in
set_option maxHeartbeats 2000000 in
theorem e_noteDrawing5 {g : ZG} {h : ZH} {n : Nat} {a st : Nat} {rs : Bool} {sl kd iv ct : Nat} {dr : Int32} {sd : Nat} {by_ : Nat} {k : Nat} (o : h a = some (.inl (5, [.int (nI (st)), .int (nI (zbi rs)), .int (nI (sl)), .ref (a + 1), .ref (a + 3), .ref (26), .int (nI (kd)), .int (nI (iv)), .int (nI (ct)), .int (dr), .int (nI (sd)), .ref (by_)]))) (a16 : 16 ≤ a) : zMt g mX5_noteDrawing (zR 0 0 0) [.ref (a), .int (nI (k))] h n (fun v h' n' => v = none ∧ n' = n ∧ zsm h h' (fun i => i = a) ∧ h' a = some (.inl (5, [.int (nI (st)), .int (nI (zbi rs)), .int (nI (sl)), .ref (a + 1), .ref (a + 3), .ref (26), .int (nI (kd)), .int (nI (iv)), .int (nI (ct + 1)), .int (dr + nI k), .int (nI (sd)), .ref (by_)]))) := by
  refine zMt.of [some (.ref (a)), some (.int (nI (k)))] (by decide) rfl (Nat.le_of_ble_eq_true rfl) ?_
  refine zp_aload_n dX5_noteDrawing_0 rfl ?_
  refine zp_dup dX5_noteDrawing_1 rfl ?_
  refine zp_get dX5_noteDrawing_2 gX5_9_5 o rfl ?_
  refine zp_iconst (v := nI (1)) dX5_noteDrawing_5 (by decide) ?_
  refine zn_iadd dX5_noteDrawing_6 ?_
  refine zp_put (fs' := [.int (nI (st)), .int (nI (zbi rs)), .int (nI (sl)), .ref (a + 1), .ref (a + 3), .ref (26), .int (nI (kd)), .int (nI (iv)), .int (nI ((ct) + (1))), .int (dr), .int (nI (sd)), .ref (by_)]) dX5_noteDrawing_7 pX5_9_5 (by omega) o (Nat.le_of_ble_eq_true rfl) (zfit_i _) rfl ?_
  refine zp_nh (fun h1x eh1x => ?_)
  have k1_0 : h1x (a) = some (.inl (5, [.int (nI (st)), .int (nI (zbi rs)), .int (nI (sl)), .ref (a + 1), .ref (a + 3), .ref (26), .int (nI (kd)), .int (nI (iv)), .int (nI ((ct) + (1))), .int (dr), .int (nI (sd)), .ref (by_)])) := by rw [eh1x]; exact va_up_self _ _ _
  refine zp_aload_n dX5_noteDrawing_10 rfl ?_
  refine zp_dup dX5_noteDrawing_11 rfl ?_
  refine zp_get dX5_noteDrawing_12 gX5_15_5 k1_0 rfl ?_
  refine zp_iload_n dX5_noteDrawing_15 rfl ?_
  refine zp_iadd dX5_noteDrawing_16 ?_
  refine zp_put (fs' := [.int (nI (st)), .int (nI (zbi rs)), .int (nI (sl)), .ref (a + 1), .ref (a + 3), .ref (26), .int (nI (kd)), .int (nI (iv)), .int (nI ((ct) + (1))), .int ((dr) + (nI (k))), .int (nI (sd)), .ref (by_)]) dX5_noteDrawing_17 pX5_15_5 (by omega) k1_0 (Nat.le_of_ble_eq_true rfl) (zfit_i _) rfl ?_
  refine zp_nh (fun h2x eh2x => ?_)
  have k2_0 : h2x (a) = some (.inl (5, [.int (nI (st)), .int (nI (zbi rs)), .int (nI (sl)), .ref (a + 1), .ref (a + 3), .ref (26), .int (nI (kd)), .int (nI (iv)), .int (nI ((ct) + (1))), .int ((dr) + (nI (k))), .int (nI (sd)), .ref (by_)])) := by rw [eh2x]; exact va_up_self _ _ _
  refine zp_pc (pc' := 20) rfl ?_
  refine zp_pc (pc' := 20) rfl ?_
  refine zp_ret (v := none) dX5_noteDrawing_20 ⟨rfl, rfl⟩ (by decide) (by decide) ?_
  exact ⟨rfl, rfl, ((zsm.rf (S := fun i => i = a)).up eh1x rfl).up eh2x rfl, k2_0⟩
set_option maxRecDepth 10000 in
set_option maxHeartbeats 2000000 in
theorem e_wipe5 {g : ZG} {h : ZH} {n : Nat} {a st : Nat} {rs : Bool} {sl kd iv ct : Nat} {dr : Int32} {sd : Nat} {by_ : Nat} {N K : Nat} {xs ys : List Nat} (o : h a = some (.inl (5, [.int (nI (st)), .int (nI (zbi rs)), .int (nI (sl)), .ref (a + 1), .ref (a + 3), .ref (26), .int (nI (kd)), .int (nI (iv)), .int (nI (ct)), .int (dr), .int (nI (sd)), .ref (by_)]))) (hv : zrow h (a + 1) N xs) (hc : zrow h (a + 3) K ys) : zMt g mX5_wipe (zR 2 0 0) [.ref (a)] h n (fun v h' n' => v = none ∧ n' = n ∧ zsm h h' (fun i => a + 1 ≤ i ∧ i ≤ a + 4)) := by
  refine zMt.of [some (.ref (a))] (by decide) rfl (Nat.le_of_ble_eq_true rfl) ?_
  refine zp_aload_n dX5_wipe_0 rfl ?_
  refine zp_get dX5_wipe_1 gX5_52_5 o rfl ?_
  refine zp_iconst (v := nI (0)) dX5_wipe_4 (by decide) ?_
  refine zp_aload_n dX5_wipe_5 rfl ?_
  refine zp_get dX5_wipe_6 gX5_52_5 o rfl ?_
  refine zp_pc (pc' := 9) rfl ?_
  have l1 := hv.len
  have l2 := hc.len
  refine zp_callV (As := []) (k := a + 1) (st := [.int (nI (0)), .ref (a + 1)]) (ci := 6) dX5_wipe_9 cX5_73 rfl hv.2.1 rfl rfl (e_length (N := N) hv) (by decide) (by decide) (Nat.le_of_ble_eq_true rfl) (fun v1 h1 n1 q1 => ?_)
  obtain ⟨rfl, H1, N1⟩ := q1
  rw [N1, H1]
  refine zp_nrm (cells' := 0) (slots' := 0) (st' := [.int (nI (xs.length)), .int (nI (0)), .ref (a + 1)]) rfl rfl rfl ?_
  refine zp_pc (pc' := 12) rfl ?_
  refine zp_callV (As := [.int (nI (0)), .int (nI (xs.length))]) (k := a + 1) (st := []) (ci := 6) dX5_wipe_12 cX5_80 rfl hv.2.1 rfl rfl (e_becomeSame (N := N) (b := nI 0) (k := xs.length) hv (by omega)) (by decide) (by decide) (Nat.le_of_ble_eq_true rfl) (fun v2 h2 n2 q2 => ?_)
  obtain ⟨rfl, N2, s2, r2⟩ := q2
  rw [N2]
  refine zp_nrm (cells' := 0) (slots' := 0) (st' := []) rfl rfl rfl ?_
  have y3_0 := hc.keep (s2 _ (by unfold zrs; omega)) (s2 _ (by unfold zrs; omega))
  have y3_1 : h2 (a) = some (.inl (5, [.int (nI (st)), .int (nI (zbi rs)), .int (nI (sl)), .ref (a + 1), .ref (a + 3), .ref (26), .int (nI (kd)), .int (nI (iv)), .int (nI (ct)), .int (dr), .int (nI (sd)), .ref (by_)])) := (s2 _ (by unfold zrs; omega)).trans o
  refine zp_aload_n dX5_wipe_15 rfl ?_
  refine zp_get dX5_wipe_16 gX5_56_5 y3_1 rfl ?_
  refine zp_iconst (v := nI (0)) dX5_wipe_19 (by decide) ?_
  refine zp_aload_n dX5_wipe_20 rfl ?_
  refine zp_get dX5_wipe_21 gX5_56_5 y3_1 rfl ?_
  refine zp_pc (pc' := 24) rfl ?_
  refine zp_callV (As := []) (k := a + 3) (st := [.int (nI (0)), .ref (a + 3)]) (ci := 6) dX5_wipe_24 cX5_73 rfl y3_0.2.1 rfl rfl (e_length (N := K) y3_0) (by decide) (by decide) (Nat.le_of_ble_eq_true rfl) (fun v4 h4 n4 q4 => ?_)
  obtain ⟨rfl, H4, N4⟩ := q4
  rw [N4, H4]
  refine zp_nrm (cells' := 0) (slots' := 0) (st' := [.int (nI (ys.length)), .int (nI (0)), .ref (a + 3)]) rfl rfl rfl ?_
  refine zp_pc (pc' := 27) rfl ?_
  refine zp_callV (As := [.int (nI (0)), .int (nI (ys.length))]) (k := a + 3) (st := []) (ci := 6) dX5_wipe_27 cX5_80 rfl y3_0.2.1 rfl rfl (e_becomeSame (N := K) (b := nI 0) (k := ys.length) y3_0 (by omega)) (by decide) (by decide) (Nat.le_of_ble_eq_true rfl) (fun v5 h5 n5 q5 => ?_)
  obtain ⟨rfl, N5, s5, r5⟩ := q5
  rw [N5]
  refine zp_nrm (cells' := 0) (slots' := 0) (st' := []) rfl rfl rfl ?_
  have y6_0 := r2.keep (s5 _ (by unfold zrs; omega)) (s5 _ (by unfold zrs; omega))
  have y6_1 : h5 (a) = some (.inl (5, [.int (nI (st)), .int (nI (zbi rs)), .int (nI (sl)), .ref (a + 1), .ref (a + 3), .ref (26), .int (nI (kd)), .int (nI (iv)), .int (nI (ct)), .int (dr), .int (nI (sd)), .ref (by_)])) := (s5 _ (by unfold zrs; omega)).trans y3_1
  refine zp_ret (v := none) dX5_wipe_30 ⟨rfl, rfl⟩ (by decide) (by decide) ?_
  exact ⟨rfl, rfl, (s2.mono (fun i hi => by unfold zrs at hi; omega)).trans (s5.mono (fun i hi => by unfold zrs at hi; omega))⟩
set_option maxRecDepth 10000 in
set_option maxHeartbeats 2000000 in
theorem e_genLook5 {g : ZG} {h : ZH} {n : Nat} {a st : Nat} {rs : Bool} {sl kd iv ct : Nat} {dr : Int32} {sd : Nat} {by_ : Nat} {x : Int32} (o : h a = some (.inl (5, [.int (nI (st)), .int (nI (zbi rs)), .int (nI (sl)), .ref (a + 1), .ref (a + 3), .ref (26), .int (nI (kd)), .int (nI (iv)), .int (nI (ct)), .int (dr), .int (nI (sd)), .ref (by_)]))) : zMt g mX5_look (zR 0 0 0) [.ref (a), .int (x)] h n (fun v h' n' => v = some (.int (zglook kd st ct iv rs sl dr sd x)) ∧ h' = h ∧ n' = n) := by
  refine zMt.of [some (.ref (a)), some (.int (x))] (by decide) rfl (Nat.le_of_ble_eq_true rfl) ?_
  refine zp_iload_n dX5_look_0 rfl ?_
  refine zp_pc (pc' := 1) rfl ?_
  rcases zsw x 8 (by decide) with ⟨j, hj, rfl⟩ | hx
  · have hj2 : j = 0 ∨ j = 1 ∨ j = 2 ∨ j = 3 ∨ j = 4 ∨ j = 5 ∨ j = 6 ∨ j = 7 := by omega
    rcases hj2 with rfl | rfl | rfl | rfl | rfl | rfl | rfl | rfl
    · refine zp_tabIn (off := 47) (tgt := 48) dX5_look_1 (by decide) (by decide) rfl (by decide) ?_
      refine zp_aload_n dX5_look_48 rfl ?_
      refine zp_get dX5_look_49 gX5_21_5 o rfl ?_
      refine zp_pc (pc' := 52) rfl ?_
      refine zp_i (y := zglook kd st ct iv rs sl dr sd (nI 0)) rfl ?_
      refine zp_ret (v := (some (.int (zglook kd st ct iv rs sl dr sd (nI 0))))) dX5_look_52 ⟨⟨_, rfl, rfl⟩, rfl⟩ (by decide) (by decide) ?_
      exact ⟨rfl, rfl, rfl⟩
    · refine zp_tabIn (off := 52) (tgt := 53) dX5_look_1 (by decide) (by decide) rfl (by decide) ?_
      refine zp_aload_n dX5_look_53 rfl ?_
      refine zp_get dX5_look_54 gX5_24_5 o rfl ?_
      refine zp_pc (pc' := 57) rfl ?_
      refine zp_i (y := zglook kd st ct iv rs sl dr sd (nI 1)) rfl ?_
      refine zp_ret (v := (some (.int (zglook kd st ct iv rs sl dr sd (nI 1))))) dX5_look_57 ⟨⟨_, rfl, rfl⟩, rfl⟩ (by decide) (by decide) ?_
      exact ⟨rfl, rfl, rfl⟩
    · refine zp_tabIn (off := 57) (tgt := 58) dX5_look_1 (by decide) (by decide) rfl (by decide) ?_
      refine zp_aload_n dX5_look_58 rfl ?_
      refine zp_get dX5_look_59 gX5_9_5 o rfl ?_
      refine zp_pc (pc' := 62) rfl ?_
      refine zp_i (y := zglook kd st ct iv rs sl dr sd (nI 2)) rfl ?_
      refine zp_ret (v := (some (.int (zglook kd st ct iv rs sl dr sd (nI 2))))) dX5_look_62 ⟨⟨_, rfl, rfl⟩, rfl⟩ (by decide) (by decide) ?_
      exact ⟨rfl, rfl, rfl⟩
    · refine zp_tabIn (off := 62) (tgt := 63) dX5_look_1 (by decide) (by decide) rfl (by decide) ?_
      refine zp_aload_n dX5_look_63 rfl ?_
      refine zp_get dX5_look_64 gX5_31_5 o rfl ?_
      refine zp_pc (pc' := 67) rfl ?_
      refine zp_i (y := zglook kd st ct iv rs sl dr sd (nI 3)) rfl ?_
      refine zp_ret (v := (some (.int (zglook kd st ct iv rs sl dr sd (nI 3))))) dX5_look_67 ⟨⟨_, rfl, rfl⟩, rfl⟩ (by decide) (by decide) ?_
      exact ⟨rfl, rfl, rfl⟩
    · refine zp_tabIn (off := 67) (tgt := 68) dX5_look_1 (by decide) (by decide) rfl (by decide) ?_
      have hu := zbi_lt rs
      refine zp_aload_n dX5_look_68 rfl ?_
      refine zp_get dX5_look_69 gX5_27_5 o rfl ?_
      refine zp_pc (pc' := 72) rfl ?_
      refine zn_if_eq (tgt := 79) dX5_look_72 (by decide) (by omega) (fun c72 => ?_) (fun c72 => ?_)
      · refine zp_iconst (v := nI (0)) dX5_look_79 (by decide) ?_
        refine zp_pc (pc' := 80) rfl ?_
        refine zp_i (y := zglook kd st ct iv rs sl dr sd (nI 4)) (by show _ = nI (zbi rs); rw [c72]) ?_
        refine zp_ret (v := (some (.int (zglook kd st ct iv rs sl dr sd (nI 4))))) dX5_look_80 ⟨⟨_, rfl, rfl⟩, rfl⟩ (by decide) (by decide) ?_
        exact ⟨rfl, rfl, rfl⟩
      · refine zp_iconst (v := nI (1)) dX5_look_75 (by decide) ?_
        refine zp_goto (tgt := 80) dX5_look_76 (by decide) ?_
        refine zp_pc (pc' := 80) rfl ?_
        refine zp_i (y := zglook kd st ct iv rs sl dr sd (nI 4)) (by show _ = nI (zbi rs); rw [show zbi rs = 1 by omega]) ?_
        refine zp_ret (v := (some (.int (zglook kd st ct iv rs sl dr sd (nI 4))))) dX5_look_80 ⟨⟨_, rfl, rfl⟩, rfl⟩ (by decide) (by decide) ?_
        exact ⟨rfl, rfl, rfl⟩
    · refine zp_tabIn (off := 80) (tgt := 81) dX5_look_1 (by decide) (by decide) rfl (by decide) ?_
      refine zp_aload_n dX5_look_81 rfl ?_
      refine zp_get dX5_look_82 gX5_42_5 o rfl ?_
      refine zp_pc (pc' := 85) rfl ?_
      refine zp_i (y := zglook kd st ct iv rs sl dr sd (nI 5)) rfl ?_
      refine zp_ret (v := (some (.int (zglook kd st ct iv rs sl dr sd (nI 5))))) dX5_look_85 ⟨⟨_, rfl, rfl⟩, rfl⟩ (by decide) (by decide) ?_
      exact ⟨rfl, rfl, rfl⟩
    · refine zp_tabIn (off := 85) (tgt := 86) dX5_look_1 (by decide) (by decide) rfl (by decide) ?_
      refine zp_aload_n dX5_look_86 rfl ?_
      refine zp_get dX5_look_87 gX5_15_5 o rfl ?_
      refine zp_pc (pc' := 90) rfl ?_
      refine zp_i (y := zglook kd st ct iv rs sl dr sd (nI 6)) rfl ?_
      refine zp_ret (v := (some (.int (zglook kd st ct iv rs sl dr sd (nI 6))))) dX5_look_90 ⟨⟨_, rfl, rfl⟩, rfl⟩ (by decide) (by decide) ?_
      exact ⟨rfl, rfl, rfl⟩
    · refine zp_tabIn (off := 90) (tgt := 91) dX5_look_1 (by decide) (by decide) rfl (by decide) ?_
      refine zp_aload_n dX5_look_91 rfl ?_
      refine zp_get dX5_look_92 gX5_18_5 o rfl ?_
      refine zp_pc (pc' := 95) rfl ?_
      refine zp_i (y := zglook kd st ct iv rs sl dr sd (nI 7)) rfl ?_
      refine zp_ret (v := (some (.int (zglook kd st ct iv rs sl dr sd (nI 7))))) dX5_look_95 ⟨⟨_, rfl, rfl⟩, rfl⟩ (by decide) (by decide) ?_
      exact ⟨rfl, rfl, rfl⟩
  · refine zp_tabOut (tgt := 96) dX5_look_1 hx (by decide) ?_
    refine zp_iconst (v := (-1)) dX5_look_96 (by decide) ?_
    refine zp_pc (pc' := 97) rfl ?_
    have zo := fun j hj => zsw_out (k := 8) hx j hj (by decide)
    refine zp_i (y := zglook kd st ct iv rs sl dr sd x) (by rw [zglook, if_neg (zo 0 (by decide)), if_neg (zo 1 (by decide)), if_neg (zo 2 (by decide)), if_neg (zo 3 (by decide)), if_neg (zo 4 (by decide)), if_neg (zo 5 (by decide)), if_neg (zo 6 (by decide)), if_neg (zo 7 (by decide))]) ?_
    refine zp_ret (v := (some (.int (zglook kd st ct iv rs sl dr sd x)))) dX5_look_97 ⟨⟨_, rfl, rfl⟩, rfl⟩ (by decide) (by decide) ?_
    exact ⟨rfl, rfl, rfl⟩
