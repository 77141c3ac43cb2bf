def zgr (kd : Nat) : Bool := decide (kd = 1 ∨ kd = 3)
def zfr (kd st : Nat) : Nat := if 6 ≤ kd then zsd kd else st / 8
theorem zgr_odd {kd : Nat} (h : kd < 4) : zgr kd = zod kd := by
  have : kd = 0 ∨ kd = 1 ∨ kd = 2 ∨ kd = 3 := by omega
  rcases this with rfl | rfl | rfl | rfl <;> rfl
theorem zsd_all {kd : Nat} (h : kd < 8) : zsd kd = if kd = 0 then 55 else if kd = 1 then 111 else if kd < 4 then 8 * zwb (zgr kd) else 16 + zkl (zod kd) := zkd8 (P := fun kd => zsd kd = if kd = 0 then 55 else if kd = 1 then 111 else if kd < 4 then 8 * zwb (zgr kd) else 16 + zkl (zod kd)) h rfl rfl rfl rfl rfl rfl rfl rfl
theorem zcN_hi {kd : Nat} (h : kd < 8) (h4 : 4 ≤ kd) : zcN kd = zkl (zod kd) := by
  rcases zkind h with q | q | q
  · omega
  · omega
  · exact q.2.2.2.2.2.1
theorem ztake_step {ys : List Nat} {k : Nat} (h : k < ys.length) : ys.take k ++ [ys.getD k 0] = ys.take (k + 1) := by
  rw [List.take_succ, List.getD_eq_getElem?_getD, List.getElem?_eq_getElem h]; rfl
abbrev zsa (p : Nat) : Nat → Prop := fun i => i = 88 ∨ i = p
abbrev zst3 : Nat → Prop := fun i => i = 64 ∨ i = 84 ∨ i = 85
set_option maxRecDepth 10000 in
set_option maxHeartbeats 2000000 in
theorem e_zgreat {g : ZG} {h : ZH} {n : Nat} {a kd : Nat} {t0 s0 i1 r1 c1 d1 e1 : Int32} {p q : Nat} (ho : h a = some (.inl (9, [.int (t0), .int (nI (kd)), .int (s0), .int (i1), .int (r1), .int (c1), .int (d1), .int (e1), .ref (p), .ref (q)]))) (hkd : kd < 8) : zMt g mX10_isGreat (zR 0 0 0) [.ref (a)] h n (fun v h' n' => v = some (.int (nI (zbi (zgr kd)))) ∧ h' = h ∧ n' = n) := by
  refine zMt.of [some (.ref (a))] (by decide) rfl (Nat.le_of_ble_eq_true rfl) ?_
  obtain ⟨Qf, hQ⟩ : ∃ Qf : ZQ, Qf = (fun v h' n' => v = some (.int (nI (zbi (zgr kd)))) ∧ h' = h ∧ n' = n) := ⟨_, rfl⟩
  rw [← hQ]
  refine zp_aload_n dX10_isGreat_0 rfl ?_
  refine zp_get dX10_isGreat_1 gX10_16_9 ho rfl ?_
  refine zp_iconst (v := nI (1)) dX10_isGreat_4 (by decide) ?_
  refine zp_pc (pc' := 5) rfl ?_
  refine zn_icmp_eq (tgt := 16) dX10_isGreat_5 (by decide) (by omega) (by omega) (fun c5 => ?_) (fun c5 => ?_)
  · refine zp_iconst (v := nI (1)) dX10_isGreat_16 (by decide) ?_
    refine zp_goto (tgt := 21) dX10_isGreat_17 (by decide) ?_
    refine zp_pc (pc' := 21) rfl ?_
    refine zp_i (y := nI (zbi (zgr kd))) (by rw [show zgr kd = true from decide_eq_true (Or.inl c5)]; rfl) ?_
    refine zp_ret (v := (some (.int (nI (zbi (zgr kd)))))) dX10_isGreat_21 ⟨⟨_, rfl, ((zfit_b _) g).1⟩, rfl⟩ (by decide) (by decide) ?_
    rw [hQ]
    exact ⟨rfl, rfl, rfl⟩
  · refine zp_aload_n dX10_isGreat_8 rfl ?_
    refine zp_get dX10_isGreat_9 gX10_16_9 ho rfl ?_
    refine zp_iconst (v := nI (3)) dX10_isGreat_12 (by decide) ?_
    refine zp_pc (pc' := 13) rfl ?_
    refine zn_icmp_ne (tgt := 20) dX10_isGreat_13 (by decide) (by omega) (by omega) (fun c13 => ?_) (fun c13 => ?_)
    · refine zp_iconst (v := nI (0)) dX10_isGreat_20 (by decide) ?_
      refine zp_pc (pc' := 21) rfl ?_
      refine zp_i (y := nI (zbi (zgr kd))) (by rw [show zgr kd = false from decide_eq_false (fun q => q.elim c5 c13)]; rfl) ?_
      refine zp_ret (v := (some (.int (nI (zbi (zgr kd)))))) dX10_isGreat_21 ⟨⟨_, rfl, ((zfit_b _) g).1⟩, rfl⟩ (by decide) (by decide) ?_
      rw [hQ]
      exact ⟨rfl, rfl, rfl⟩
    · refine zp_iconst (v := nI (1)) dX10_isGreat_16 (by decide) ?_
      refine zp_goto (tgt := 21) dX10_isGreat_17 (by decide) ?_
      refine zp_pc (pc' := 21) rfl ?_
      refine zp_i (y := nI (zbi (zgr kd))) (by rw [show zgr kd = true from decide_eq_true (Or.inr c13)]; rfl) ?_
      refine zp_ret (v := (some (.int (nI (zbi (zgr kd)))))) dX10_isGreat_21 ⟨⟨_, rfl, ((zfit_b _) g).1⟩, rfl⟩ (by decide) (by decide) ?_
      rw [hQ]
      exact ⟨rfl, rfl, rfl⟩
set_option maxRecDepth 10000 in
set_option maxHeartbeats 2000000 in
theorem e_zkeys {g : ZG} {h : ZH} {n : Nat} {a kd : Nat} {t0 s0 i1 r1 c1 d1 e1 : Int32} {p q : Nat} (ho : h a = some (.inl (9, [.int (t0), .int (nI (kd)), .int (s0), .int (i1), .int (r1), .int (c1), .int (d1), .int (e1), .ref (p), .ref (q)]))) (hkd : kd < 8) : zMt g mX10_keySize (zR 0 0 0) [.ref (a)] h n (fun v h' n' => v = some (.int (nI (zkl (zod kd)))) ∧ h' = h ∧ n' = n) := by
  refine zMt.of [some (.ref (a))] (by decide) rfl (Nat.le_of_ble_eq_true rfl) ?_
  obtain ⟨Qf, hQ⟩ : ∃ Qf : ZQ, Qf = (fun v h' n' => v = some (.int (nI (zkl (zod kd)))) ∧ h' = h ∧ n' = n) := ⟨_, rfl⟩
  rw [← hQ]
  refine zp_aload_n dX10_keySize_0 rfl ?_
  refine zp_get dX10_keySize_1 gX10_16_9 ho rfl ?_
  refine zp_iconst (v := nI (2)) dX10_keySize_4 (by decide) ?_
  refine zn_irem dX10_keySize_5 (by omega) (by omega) (by omega) ?_
  refine zp_pc (pc' := 6) rfl ?_
  refine zn_if_ne (tgt := 14) dX10_keySize_6 (by decide) (by omega) (fun c6 => ?_) (fun c6 => ?_)
  · refine zp_bipush (v := nI (32)) dX10_keySize_14 (by decide) ?_
    refine zp_pc (pc' := 16) rfl ?_
    refine zp_i (y := nI (zkl (zod kd))) (by rw [show zod kd = true from decide_eq_true (by omega)]; rfl) ?_
    refine zp_ret (v := (some (.int (nI (zkl (zod kd)))))) dX10_keySize_16 ⟨⟨_, rfl, rfl⟩, rfl⟩ (by decide) (by decide) ?_
    rw [hQ]
    exact ⟨rfl, rfl, rfl⟩
  · refine zp_bipush (v := nI (16)) dX10_keySize_9 (by decide) ?_
    refine zp_goto (tgt := 16) dX10_keySize_11 (by decide) ?_
    refine zp_pc (pc' := 16) rfl ?_
    refine zp_i (y := nI (zkl (zod kd))) (by rw [show zod kd = false from decide_eq_false (by omega)]; rfl) ?_
    refine zp_ret (v := (some (.int (nI (zkl (zod kd)))))) dX10_keySize_16 ⟨⟨_, rfl, rfl⟩, rfl⟩ (by decide) (by decide) ?_
    rw [hQ]
    exact ⟨rfl, rfl, rfl⟩
set_option maxRecDepth 10000 in
set_option maxHeartbeats 2000000 in
theorem e_zseed {g : ZG} {h : ZH} {n : Nat} {a kd : Nat} {t0 s0 i1 r1 c1 d1 e1 : Int32} {p q : Nat} (ho : h a = some (.inl (9, [.int (t0), .int (nI (kd)), .int (s0), .int (i1), .int (r1), .int (c1), .int (d1), .int (e1), .ref (p), .ref (q)]))) (hkd : kd < 8) : zMt g mX10_seed (zR 1 0 0) [.ref (a)] h n (fun v h' n' => v = some (.int (nI (zsd kd))) ∧ h' = h ∧ n' = n) := by
  refine zMt.of [some (.ref (a))] (by decide) rfl (Nat.le_of_ble_eq_true rfl) ?_
  obtain ⟨Qf, hQ⟩ : ∃ Qf : ZQ, Qf = (fun v h' n' => v = some (.int (nI (zsd kd))) ∧ h' = h ∧ n' = n) := ⟨_, rfl⟩
  rw [← hQ]
  have hs := zsd_all hkd
  refine zp_aload_n dX10_seed_0 rfl ?_
  refine zp_get dX10_seed_1 gX10_16_9 ho rfl ?_
  refine zp_pc (pc' := 4) rfl ?_
  refine zn_if_ne (tgt := 12) dX10_seed_4 (by decide) (by omega) (fun c4 => ?_) (fun c4 => ?_)
  · refine zp_aload_n dX10_seed_12 rfl ?_
    refine zp_get dX10_seed_13 gX10_16_9 ho rfl ?_
    refine zp_iconst (v := nI (1)) dX10_seed_16 (by decide) ?_
    refine zp_pc (pc' := 17) rfl ?_
    refine zn_icmp_ne (tgt := 25) dX10_seed_17 (by decide) (by omega) (by omega) (fun c17 => ?_) (fun c17 => ?_)
    · refine zp_aload_n dX10_seed_25 rfl ?_
      refine zp_get dX10_seed_26 gX10_16_9 ho rfl ?_
      refine zp_iconst (v := nI (4)) dX10_seed_29 (by decide) ?_
      refine zp_pc (pc' := 30) rfl ?_
      refine zn_icmp_ge (tgt := 43) dX10_seed_30 (by decide) (by omega) (by omega) (fun c30 => ?_) (fun c30 => ?_)
      · refine zp_bipush (v := nI (16)) dX10_seed_43 (by decide) ?_
        refine zp_aload_n dX10_seed_45 rfl ?_
        refine zp_callV (As := []) (k := a) (st := [.int (nI (16))]) (ci := 9) dX10_seed_46 cX10_30 rfl ho rfl rfl (e_zkeys ho hkd) (by decide) (by decide) (Nat.le_of_ble_eq_true rfl) (fun v1 h1 n1 q1 => ?_)
        obtain ⟨rfl, H1, N1⟩ := q1
        rw [N1, H1]
        refine zp_nrm (cells' := 0) (slots' := 0) (st' := [.int (nI (zkl (zod kd))), .int (nI (16))]) rfl rfl rfl ?_
        refine zn_iadd dX10_seed_49 ?_
        refine zp_pc (pc' := 50) rfl ?_
        refine zp_i (y := nI (zsd kd)) (by rw [hs, if_neg c4, if_neg c17, if_neg (by omega)]) ?_
        refine zp_ret (v := (some (.int (nI (zsd kd))))) dX10_seed_50 ⟨⟨_, rfl, rfl⟩, rfl⟩ (by decide) (by decide) ?_
        rw [hQ]
        exact ⟨rfl, rfl, rfl⟩
      · refine zp_aload_n dX10_seed_33 rfl ?_
        refine zp_callV (As := []) (k := a) (st := []) (ci := 9) dX10_seed_34 cX10_20 rfl ho rfl rfl (e_zgreat ho hkd) (by decide) (by decide) (Nat.le_of_ble_eq_true rfl) (fun v2 h2 n2 q2 => ?_)
        obtain ⟨rfl, H2, N2⟩ := q2
        rw [N2, H2]
        refine zp_nrm (cells' := 0) (slots' := 0) (st' := [.int (nI (zbi (zgr kd)))]) rfl rfl rfl ?_
        refine zp_callSN (As := [.int (nI (zbi (zgr kd)))]) (st := []) dX10_seed_37 cX10_24 rfl (e_sizeOf (b := (zgr kd))) (by decide) (by decide) (Nat.le_of_ble_eq_true rfl) (fun v3 h3 n3 q3 => ?_)
        obtain ⟨rfl, H3, N3⟩ := q3
        rw [N3, H3]
        refine zp_nrm (cells' := 0) (slots' := 0) (st' := [.int (nI (8 * zwb (zgr kd)))]) rfl rfl rfl ?_
        refine zp_goto (tgt := 50) dX10_seed_40 (by decide) ?_
        refine zp_pc (pc' := 50) rfl ?_
        refine zp_i (y := nI (zsd kd)) (by rw [hs, if_neg c4, if_neg c17, if_pos c30]) ?_
        refine zp_ret (v := (some (.int (nI (zsd kd))))) dX10_seed_50 ⟨⟨_, rfl, rfl⟩, rfl⟩ (by decide) (by decide) ?_
        rw [hQ]
        exact ⟨rfl, rfl, rfl⟩
    · refine zp_bipush (v := nI (111)) dX10_seed_20 (by decide) ?_
      refine zp_goto (tgt := 50) dX10_seed_22 (by decide) ?_
      refine zp_pc (pc' := 50) rfl ?_
      refine zp_i (y := nI (zsd kd)) (by rw [hs, if_neg c4, if_pos c17]) ?_
      refine zp_ret (v := (some (.int (nI (zsd kd))))) dX10_seed_50 ⟨⟨_, rfl, rfl⟩, rfl⟩ (by decide) (by decide) ?_
      rw [hQ]
      exact ⟨rfl, rfl, rfl⟩
  · refine zp_bipush (v := nI (55)) dX10_seed_7 (by decide) ?_
    refine zp_goto (tgt := 50) dX10_seed_9 (by decide) ?_
    refine zp_pc (pc' := 50) rfl ?_
    refine zp_i (y := nI (zsd kd)) (by rw [hs, if_pos c4]) ?_
    refine zp_ret (v := (some (.int (nI (zsd kd))))) dX10_seed_50 ⟨⟨_, rfl, rfl⟩, rfl⟩ (by decide) (by decide) ?_
    rw [hQ]
    exact ⟨rfl, rfl, rfl⟩
set_option maxRecDepth 10000 in
set_option maxHeartbeats 2000000 in
theorem e_zvs {g : ZG} {h : ZH} {n : Nat} {a kd : Nat} {t0 s0 i1 r1 c1 d1 e1 : Int32} {p q : Nat} (ho : h a = some (.inl (9, [.int (t0), .int (nI (kd)), .int (s0), .int (i1), .int (r1), .int (c1), .int (d1), .int (e1), .ref (p), .ref (q)]))) (hkd : kd < 8) : zMt g mX10_vSize (zR 2 0 0) [.ref (a)] h n (fun v h' n' => v = some (.int (nI (zvN kd))) ∧ h' = h ∧ n' = n) := by
  refine zMt.of [some (.ref (a))] (by decide) rfl (Nat.le_of_ble_eq_true rfl) ?_
  obtain ⟨Qf, hQ⟩ : ∃ Qf : ZQ, Qf = (fun v h' n' => v = some (.int (nI (zvN kd))) ∧ h' = h ∧ n' = n) := ⟨_, rfl⟩
  rw [← hQ]
  refine zp_aload_n dX10_vSize_0 rfl ?_
  refine zp_get dX10_vSize_1 gX10_16_9 ho rfl ?_
  refine zp_iconst (v := nI (4)) dX10_vSize_4 (by decide) ?_
  refine zp_pc (pc' := 5) rfl ?_
  refine zn_icmp_ge (tgt := 15) dX10_vSize_5 (by decide) (by omega) (by omega) (fun c5 => ?_) (fun c5 => ?_)
  · refine zp_bipush (v := nI (16)) dX10_vSize_15 (by decide) ?_
    refine zp_pc (pc' := 17) rfl ?_
    refine zp_i (y := nI (zvN kd)) (by unfold zvN; rw [if_neg (by omega)]) ?_
    refine zp_ret (v := (some (.int (nI (zvN kd))))) dX10_vSize_17 ⟨⟨_, rfl, rfl⟩, rfl⟩ (by decide) (by decide) ?_
    rw [hQ]
    exact ⟨rfl, rfl, rfl⟩
  · refine zp_aload_n dX10_vSize_8 rfl ?_
    refine zp_callV (As := []) (k := a) (st := []) (ci := 9) dX10_vSize_9 cX10_34 rfl ho rfl rfl (e_zseed ho hkd) (by decide) (by decide) (Nat.le_of_ble_eq_true rfl) (fun v1 h1 n1 q1 => ?_)
    obtain ⟨rfl, H1, N1⟩ := q1
    rw [N1, H1]
    refine zp_nrm (cells' := 0) (slots' := 0) (st' := [.int (nI (zsd kd))]) rfl rfl rfl ?_
    refine zp_goto (tgt := 17) dX10_vSize_12 (by decide) ?_
    refine zp_pc (pc' := 17) rfl ?_
    refine zp_i (y := nI (zvN kd)) (by unfold zvN; rw [if_pos c5]) ?_
    refine zp_ret (v := (some (.int (nI (zvN kd))))) dX10_vSize_17 ⟨⟨_, rfl, rfl⟩, rfl⟩ (by decide) (by decide) ?_
    rw [hQ]
    exact ⟨rfl, rfl, rfl⟩
set_option maxRecDepth 10000 in
set_option maxHeartbeats 2000000 in
theorem e_zcs {g : ZG} {h : ZH} {n : Nat} {a kd : Nat} {t0 s0 i1 r1 c1 d1 e1 : Int32} {p q : Nat} (ho : h a = some (.inl (9, [.int (t0), .int (nI (kd)), .int (s0), .int (i1), .int (r1), .int (c1), .int (d1), .int (e1), .ref (p), .ref (q)]))) (hkd : kd < 8) : zMt g mX10_cSize (zR 2 0 0) [.ref (a)] h n (fun v h' n' => v = some (.int (nI (zcN kd))) ∧ h' = h ∧ n' = n) := by
  refine zMt.of [some (.ref (a))] (by decide) rfl (Nat.le_of_ble_eq_true rfl) ?_
  obtain ⟨Qf, hQ⟩ : ∃ Qf : ZQ, Qf = (fun v h' n' => v = some (.int (nI (zcN kd))) ∧ h' = h ∧ n' = n) := ⟨_, rfl⟩
  rw [← hQ]
  refine zp_aload_n dX10_cSize_0 rfl ?_
  refine zp_get dX10_cSize_1 gX10_16_9 ho rfl ?_
  refine zp_iconst (v := nI (4)) dX10_cSize_4 (by decide) ?_
  refine zp_pc (pc' := 5) rfl ?_
  refine zn_icmp_ge (tgt := 15) dX10_cSize_5 (by decide) (by omega) (by omega) (fun c5 => ?_) (fun c5 => ?_)
  · refine zp_aload_n dX10_cSize_15 rfl ?_
    refine zp_callV (As := []) (k := a) (st := []) (ci := 9) dX10_cSize_16 cX10_30 rfl ho rfl rfl (e_zkeys ho hkd) (by decide) (by decide) (Nat.le_of_ble_eq_true rfl) (fun v1 h1 n1 q1 => ?_)
    obtain ⟨rfl, H1, N1⟩ := q1
    rw [N1, H1]
    refine zp_nrm (cells' := 0) (slots' := 0) (st' := [.int (nI (zkl (zod kd)))]) rfl rfl rfl ?_
    refine zp_pc (pc' := 19) rfl ?_
    refine zp_i (y := nI (zcN kd)) (by rw [zcN_hi hkd (by omega)]) ?_
    refine zp_ret (v := (some (.int (nI (zcN kd))))) dX10_cSize_19 ⟨⟨_, rfl, rfl⟩, rfl⟩ (by decide) (by decide) ?_
    rw [hQ]
    exact ⟨rfl, rfl, rfl⟩
  · refine zp_aload_n dX10_cSize_8 rfl ?_
    refine zp_callV (As := []) (k := a) (st := []) (ci := 9) dX10_cSize_9 cX10_34 rfl ho rfl rfl (e_zseed ho hkd) (by decide) (by decide) (Nat.le_of_ble_eq_true rfl) (fun v2 h2 n2 q2 => ?_)
    obtain ⟨rfl, H2, N2⟩ := q2
    rw [N2, H2]
    refine zp_nrm (cells' := 0) (slots' := 0) (st' := [.int (nI (zsd kd))]) rfl rfl rfl ?_
    refine zp_goto (tgt := 19) dX10_cSize_12 (by decide) ?_
    refine zp_pc (pc' := 19) rfl ?_
    refine zp_i (y := nI (zcN kd)) (by unfold zcN; rw [if_pos c5]) ?_
    refine zp_ret (v := (some (.int (nI (zcN kd))))) dX10_cSize_19 ⟨⟨_, rfl, rfl⟩, rfl⟩ (by decide) (by decide) ?_
    rw [hQ]
    exact ⟨rfl, rfl, rfl⟩
set_option maxRecDepth 10000 in
set_option maxHeartbeats 2000000 in
theorem e_zfresh {g : ZG} {h : ZH} {n : Nat} {a kd : Nat} {t0 i1 r1 c1 d1 e1 : Int32} {p q : Nat} {st : Nat} (ho : h a = some (.inl (9, [.int (t0), .int (nI (kd)), .int (nI (st)), .int (i1), .int (r1), .int (c1), .int (d1), .int (e1), .ref (p), .ref (q)]))) (hkd : kd < 8) (hst : st < 100000) : zMt g mX10_fresh (zR 2 0 0) [.ref (a)] h n (fun v h' n' => v = some (.int (nI (zfr kd st))) ∧ h' = h ∧ n' = n) := by
  refine zMt.of [some (.ref (a))] (by decide) rfl (Nat.le_of_ble_eq_true rfl) ?_
  obtain ⟨Qf, hQ⟩ : ∃ Qf : ZQ, Qf = (fun v h' n' => v = some (.int (nI (zfr kd st))) ∧ h' = h ∧ n' = n) := ⟨_, rfl⟩
  rw [← hQ]
  refine zp_aload_n dX10_fresh_0 rfl ?_
  refine zp_get dX10_fresh_1 gX10_16_9 ho rfl ?_
  refine zp_iconst (v := nI (5)) dX10_fresh_4 (by decide) ?_
  refine zp_pc (pc' := 5) rfl ?_
  refine zn_icmp_le (tgt := 15) dX10_fresh_5 (by decide) (by omega) (by omega) (fun c5 => ?_) (fun c5 => ?_)
  · refine zp_aload_n dX10_fresh_15 rfl ?_
    refine zp_get dX10_fresh_16 gX10_37_9 ho rfl ?_
    refine zp_bipush (v := nI (8)) dX10_fresh_19 (by decide) ?_
    refine zn_idiv dX10_fresh_21 (by omega) (by omega) (by omega) ?_
    refine zp_pc (pc' := 22) rfl ?_
    refine zp_i (y := nI (zfr kd st)) (by unfold zfr; rw [if_neg (by omega)]) ?_
    refine zp_ret (v := (some (.int (nI (zfr kd st))))) dX10_fresh_22 ⟨⟨_, rfl, rfl⟩, rfl⟩ (by decide) (by decide) ?_
    rw [hQ]
    exact ⟨rfl, rfl, rfl⟩
  · refine zp_aload_n dX10_fresh_8 rfl ?_
    refine zp_callV (As := []) (k := a) (st := []) (ci := 9) dX10_fresh_9 cX10_34 rfl ho rfl rfl (e_zseed ho hkd) (by decide) (by decide) (Nat.le_of_ble_eq_true rfl) (fun v1 h1 n1 q1 => ?_)
    obtain ⟨rfl, H1, N1⟩ := q1
    rw [N1, H1]
    refine zp_nrm (cells' := 0) (slots' := 0) (st' := [.int (nI (zsd kd))]) rfl rfl rfl ?_
    refine zp_goto (tgt := 22) dX10_fresh_12 (by decide) ?_
    refine zp_pc (pc' := 22) rfl ?_
    refine zp_i (y := nI (zfr kd st)) (by unfold zfr; rw [if_pos (by omega)]) ?_
    refine zp_ret (v := (some (.int (nI (zfr kd st))))) dX10_fresh_22 ⟨⟨_, rfl, rfl⟩, rfl⟩ (by decide) (by decide) ?_
    rw [hQ]
    exact ⟨rfl, rfl, rfl⟩
set_option maxRecDepth 10000 in
set_option maxHeartbeats 2000000 in
theorem e_ztoo {g : ZG} {h : ZH} {n : Nat} {a kd : Nat} {t0 s0 i1 r1 c1 d1 e1 : Int32} {p q : Nat} {k : Nat} (ho : h a = some (.inl (9, [.int (t0), .int (nI (kd)), .int (s0), .int (i1), .int (r1), .int (c1), .int (d1), .int (e1), .ref (p), .ref (q)]))) (hkd : kd < 8) (hk : k < 100000) : zMt g mX11_isTooLong (zR 2 0 0) [.ref (a), .int (nI (k))] h n (fun v h' n' => v = some (.int (nI (zbi (decide (6 ≤ kd ∧ zsd kd < k))))) ∧ h' = h ∧ n' = n) := by
  refine zMt.of [some (.ref (a)), some (.int (nI (k)))] (by decide) rfl (Nat.le_of_ble_eq_true rfl) ?_
  obtain ⟨Qf, hQ⟩ : ∃ Qf : ZQ, Qf = (fun v h' n' => v = some (.int (nI (zbi (decide (6 ≤ kd ∧ zsd kd < k))))) ∧ h' = h ∧ n' = n) := ⟨_, rfl⟩
  rw [← hQ]
  have hs := zsd_le hkd
  refine zp_aload_n dX11_isTooLong_0 rfl ?_
  refine zp_get dX11_isTooLong_1 gX11_271_9 ho rfl ?_
  refine zp_iconst (v := nI (5)) dX11_isTooLong_4 (by decide) ?_
  refine zp_pc (pc' := 5) rfl ?_
  refine zn_icmp_le (tgt := 20) dX11_isTooLong_5 (by decide) (by omega) (by omega) (fun c5 => ?_) (fun c5 => ?_)
  · refine zp_iconst (v := nI (0)) dX11_isTooLong_20 (by decide) ?_
    refine zp_pc (pc' := 21) rfl ?_
    refine zp_i (y := nI (zbi (decide (6 ≤ kd ∧ zsd kd < k)))) (by rw [show decide (6 ≤ kd ∧ zsd kd < k) = false from decide_eq_false (by omega)]; rfl) ?_
    refine zp_ret (v := (some (.int (nI (zbi (decide (6 ≤ kd ∧ zsd kd < k))))))) dX11_isTooLong_21 ⟨⟨_, rfl, ((zfit_b _) g).1⟩, rfl⟩ (by decide) (by decide) ?_
    rw [hQ]
    exact ⟨rfl, rfl, rfl⟩
  · refine zp_iload_n dX11_isTooLong_8 rfl ?_
    refine zp_aload_n dX11_isTooLong_9 rfl ?_
    refine zp_callV (As := []) (k := a) (st := [.int (nI (k))]) (ci := 9) dX11_isTooLong_10 cX11_229 rfl ho rfl rfl (e_zseed ho hkd) (by decide) (by decide) (Nat.le_of_ble_eq_true rfl) (fun v1 h1 n1 q1 => ?_)
    obtain ⟨rfl, H1, N1⟩ := q1
    rw [N1, H1]
    refine zp_nrm (cells' := 0) (slots' := 0) (st' := [.int (nI (zsd kd)), .int (nI (k))]) rfl rfl rfl ?_
    refine zp_pc (pc' := 13) rfl ?_
    refine zn_icmp_le (tgt := 20) dX11_isTooLong_13 (by decide) (by omega) (by omega) (fun c13 => ?_) (fun c13 => ?_)
    · refine zp_iconst (v := nI (0)) dX11_isTooLong_20 (by decide) ?_
      refine zp_pc (pc' := 21) rfl ?_
      refine zp_i (y := nI (zbi (decide (6 ≤ kd ∧ zsd kd < k)))) (by rw [show decide (6 ≤ kd ∧ zsd kd < k) = false from decide_eq_false (by omega)]; rfl) ?_
      refine zp_ret (v := (some (.int (nI (zbi (decide (6 ≤ kd ∧ zsd kd < k))))))) dX11_isTooLong_21 ⟨⟨_, rfl, ((zfit_b _) g).1⟩, rfl⟩ (by decide) (by decide) ?_
      rw [hQ]
      exact ⟨rfl, rfl, rfl⟩
    · refine zp_iconst (v := nI (1)) dX11_isTooLong_16 (by decide) ?_
      refine zp_goto (tgt := 21) dX11_isTooLong_17 (by decide) ?_
      refine zp_pc (pc' := 21) rfl ?_
      refine zp_i (y := nI (zbi (decide (6 ≤ kd ∧ zsd kd < k)))) (by rw [show decide (6 ≤ kd ∧ zsd kd < k) = true from decide_eq_true (by omega)]; rfl) ?_
      refine zp_ret (v := (some (.int (nI (zbi (decide (6 ≤ kd ∧ zsd kd < k))))))) dX11_isTooLong_21 ⟨⟨_, rfl, ((zfit_b _) g).1⟩, rfl⟩ (by decide) (by decide) ?_
      rw [hQ]
      exact ⟨rfl, rfl, rfl⟩
theorem e_mdigW {g : ZG} {h : ZH} {n : Nat} {b : Bool} {p N : Nat} {xs : List Nat} {th : Int32} {wt : Nat} {un : Bool} {rp wi pa be ru sa me se ta fa : Int32} {mn tp ou : Nat} (hw : zmw h) (ho : h 64 = some (.inl (10, [.int (th), .ref (65), .ref (66), .ref (67), .ref (68), .ref (69), .ref (70), .ref (71), .ref (72), .ref (73), .ref (74), .ref (75), .ref (76), .ref (77), .ref (78), .ref (79), .ref (80), .ref (81), .ref (82), .ref (83), .ref (84), .int (nI (wt)), .int (nI (zbi un)), .int (rp), .int (wi), .int (pa), .int (be), .int (ru), .int (sa), .int (me), .int (se), .int (ta), .int (fa), .ref (85), .ref (86), .ref (87), .int (nI (mn)), .ref (88), .ref (89), .ref (90), .ref (91), .ref (92), .ref (93), .int (nI (tp)), .ref (94), .int (nI (ou))]))) (hx : zar h p N xs) (hp : p < 70 ∨ 74 < p) (hl : xs.length ≤ 1000) : zMt g mX11_digest (zR 3 0 0) [.ref (64), .int (nI (zbi b)), .ref (p), .int (nI (xs.length))] h n (fun v h' n' => v = none ∧ n' = n ∧ zsm h h' (zb3 70 74) ∧ zsh h h' ∧ zar h' 74 64 (zhash b xs)) :=
  (e_mdigest hw.1 ho hx hp hl).post (fun v h' n' q => ⟨q.1, q.2.1, q.2.2.1, zsh.mk q.2.2.1 (fun k hk => zsh.dig hw.1 q.2.2.2.2 k hk), q.2.2.2.1⟩)
theorem e_mmacW {g : ZG} {h : ZH} {n : Nat} {b : Bool} {q p Nq Np : Nat} {ks xs : List Nat} {th : Int32} {wt : Nat} {un : Bool} {rp wi pa be ru sa me se ta fa : Int32} {mn tp ou : Nat} (hw : zmw h) (ho : h 64 = some (.inl (10, [.int (th), .ref (65), .ref (66), .ref (67), .ref (68), .ref (69), .ref (70), .ref (71), .ref (72), .ref (73), .ref (74), .ref (75), .ref (76), .ref (77), .ref (78), .ref (79), .ref (80), .ref (81), .ref (82), .ref (83), .ref (84), .int (nI (wt)), .int (nI (zbi un)), .int (rp), .int (wi), .int (pa), .int (be), .int (ru), .int (sa), .int (me), .int (se), .int (ta), .int (fa), .ref (85), .ref (86), .ref (87), .int (nI (mn)), .ref (88), .ref (89), .ref (90), .ref (91), .ref (92), .ref (93), .int (nI (tp)), .ref (94), .int (nI (ou))]))) (hk : zar h q Nq ks) (hx : zar h p Np xs) (hq : q < 70 ∨ 75 < q) (hp : p < 70 ∨ 75 < p) (lk : ks.length = 8 * zwb b) (hl : xs.length ≤ 800) : zMt g mX11_mac (zR 4 0 0) [.ref (64), .int (nI (zbi b)), .ref (q), .ref (p), .int (nI (xs.length))] h n (fun v h' n' => v = none ∧ n' = n ∧ zsm h h' (zb3 70 75) ∧ zsh h h' ∧ zar h' 74 64 (zmac b ks xs)) :=
  (e_mmac hw.1 ho hw.2.1 hk hx hq hp lk hl).post (fun v h' n' q => ⟨q.1, q.2.1, q.2.2.1, zsh.mk q.2.2.1 (fun k hk => by
    by_cases e : k = 75
    · subst e; exact zsh.at hw.2.1 q.2.2.2.2.2
    · exact zsh.dig hw.1 q.2.2.2.2.1 k (by have := hk; unfold zb3 at this; omega)), q.2.2.2.1⟩)
abbrev zs7 (r : Nat) : Nat → Prop := fun i => (70 ≤ i ∧ i ≤ 74) ∨ i = 76 ∨ i = r
theorem e_mderW {g : ZG} {h : ZH} {n : Nat} {b : Bool} {p r Np Nr k : Nat} {xs : List Nat} {th : Int32} {wt : Nat} {un : Bool} {rp wi pa be ru sa me se ta fa : Int32} {mn tp ou : Nat} (hw : zmw h) (ho : h 64 = some (.inl (10, [.int (th), .ref (65), .ref (66), .ref (67), .ref (68), .ref (69), .ref (70), .ref (71), .ref (72), .ref (73), .ref (74), .ref (75), .ref (76), .ref (77), .ref (78), .ref (79), .ref (80), .ref (81), .ref (82), .ref (83), .ref (84), .int (nI (wt)), .int (nI (zbi un)), .int (rp), .int (wi), .int (pa), .int (be), .int (ru), .int (sa), .int (me), .int (se), .int (ta), .int (fa), .ref (85), .ref (86), .ref (87), .int (nI (mn)), .ref (88), .ref (89), .ref (90), .ref (91), .ref (92), .ref (93), .int (nI (tp)), .ref (94), .int (nI (ou))]))) (hx : zar h p Np xs) (hr : zia h r Nr) (hrN : k ≤ Nr) (hrM : Nr < 1000000) (hp : p < 70 ∨ 76 < p) (hr2 : 76 < r) (hpr : p ≠ r) (hl : xs.length ≤ 800) (hk : k ≤ 250) : zMt g mX11_derive (zR 4 0 0) [.ref (64), .int (nI (zbi b)), .ref (p), .int (nI (xs.length)), .ref (r), .int (nI (k))] h n (fun v h' n' => v = none ∧ n' = n ∧ zsm h h' (zs7 r) ∧ zsh h h' ∧ zar h' r Nr (zder b xs k)) :=
  (e_mderive hw.1 ho hw.2.2.1 hx hr hrN hrM hp hr2 hpr hl hk).post (fun v h' n' q => ⟨q.1, q.2.1, q.2.2.1, zsh.mk q.2.2.1 (fun k hk => by
    rcases hk with e | e | e
    · exact zsh.dig hw.1 q.2.2.2.2.1 k e
    · subst e; exact zsh.at hw.2.2.1 q.2.2.2.2.2
    · subst e; exact zsh.at hr q.2.2.2.1.ia), q.2.2.2.1⟩)
abbrev zsp : Nat → Prop := fun i => i = 64 ∨ i = 87
set_option maxRecDepth 10000 in
set_option maxHeartbeats 2000000 in
theorem e_mbegin {g : ZG} {h : ZH} {n : Nat} {th : Int32} {wt : Nat} {un : Bool} {rp wi pa be ru sa me se ta fa : Int32} {mn tp ou : Nat} (ho : h 64 = some (.inl (10, [.int (th), .ref (65), .ref (66), .ref (67), .ref (68), .ref (69), .ref (70), .ref (71), .ref (72), .ref (73), .ref (74), .ref (75), .ref (76), .ref (77), .ref (78), .ref (79), .ref (80), .ref (81), .ref (82), .ref (83), .ref (84), .int (nI (wt)), .int (nI (zbi un)), .int (rp), .int (wi), .int (pa), .int (be), .int (ru), .int (sa), .int (me), .int (se), .int (ta), .int (fa), .ref (85), .ref (86), .ref (87), .int (nI (mn)), .ref (88), .ref (89), .ref (90), .ref (91), .ref (92), .ref (93), .int (nI (tp)), .ref (94), .int (nI (ou))]))) : zMt g mX11_begin (zR 0 0 0) [.ref (64)] h n (fun v h' n' => v = none ∧ n' = n ∧ zsm h h' (zon 64) ∧ zsh h h' ∧ h' 64 = some (.inl (10, [.int (th), .ref (65), .ref (66), .ref (67), .ref (68), .ref (69), .ref (70), .ref (71), .ref (72), .ref (73), .ref (74), .ref (75), .ref (76), .ref (77), .ref (78), .ref (79), .ref (80), .ref (81), .ref (82), .ref (83), .ref (84), .int (nI (wt)), .int (nI (zbi un)), .int (rp), .int (wi), .int (pa), .int (be), .int (ru), .int (sa), .int (me), .int (se), .int (ta), .int (fa), .ref (85), .ref (86), .ref (87), .int (nI (([] : List Nat).length)), .ref (88), .ref (89), .ref (90), .ref (91), .ref (92), .ref (93), .int (nI (tp)), .ref (94), .int (nI (ou))]))) := by
  refine zMt.of [some (.ref (64))] (by decide) rfl (Nat.le_of_ble_eq_true rfl) ?_
  obtain ⟨Qf, hQ⟩ : ∃ Qf : ZQ, Qf = (fun v h' n' => v = none ∧ n' = n ∧ zsm h h' (zon 64) ∧ zsh h h' ∧ h' 64 = some (.inl (10, [.int (th), .ref (65), .ref (66), .ref (67), .ref (68), .ref (69), .ref (70), .ref (71), .ref (72), .ref (73), .ref (74), .ref (75), .ref (76), .ref (77), .ref (78), .ref (79), .ref (80), .ref (81), .ref (82), .ref (83), .ref (84), .int (nI (wt)), .int (nI (zbi un)), .int (rp), .int (wi), .int (pa), .int (be), .int (ru), .int (sa), .int (me), .int (se), .int (ta), .int (fa), .ref (85), .ref (86), .ref (87), .int (nI (([] : List Nat).length)), .ref (88), .ref (89), .ref (90), .ref (91), .ref (92), .ref (93), .int (nI (tp)), .ref (94), .int (nI (ou))]))) := ⟨_, rfl⟩
  rw [← hQ]
  refine zp_aload_n dX11_begin_0 rfl ?_
  refine zp_iconst (v := nI (0)) dX11_begin_1 (by decide) ?_
  refine zp_put (fs' := [.int (th), .ref (65), .ref (66), .ref (67), .ref (68), .ref (69), .ref (70), .ref (71), .ref (72), .ref (73), .ref (74), .ref (75), .ref (76), .ref (77), .ref (78), .ref (79), .ref (80), .ref (81), .ref (82), .ref (83), .ref (84), .int (nI (wt)), .int (nI (zbi un)), .int (rp), .int (wi), .int (pa), .int (be), .int (ru), .int (sa), .int (me), .int (se), .int (ta), .int (fa), .ref (85), .ref (86), .ref (87), .int (nI (0)), .ref (88), .ref (89), .ref (90), .ref (91), .ref (92), .ref (93), .int (nI (tp)), .ref (94), .int (nI (ou))]) dX11_begin_2 pX11_212_10 (by omega) ho (Nat.le_of_ble_eq_true rfl) (zfit_i _) rfl ?_
  refine zp_nh (fun h101x eh101x => ?_)
  have k101_0 : h101x (64) = some (.inl (10, [.int (th), .ref (65), .ref (66), .ref (67), .ref (68), .ref (69), .ref (70), .ref (71), .ref (72), .ref (73), .ref (74), .ref (75), .ref (76), .ref (77), .ref (78), .ref (79), .ref (80), .ref (81), .ref (82), .ref (83), .ref (84), .int (nI (wt)), .int (nI (zbi un)), .int (rp), .int (wi), .int (pa), .int (be), .int (ru), .int (sa), .int (me), .int (se), .int (ta), .int (fa), .ref (85), .ref (86), .ref (87), .int (nI (0)), .ref (88), .ref (89), .ref (90), .ref (91), .ref (92), .ref (93), .int (nI (tp)), .ref (94), .int (nI (ou))])) := by rw [eh101x]; exact va_up_self _ _ _
  have sw102 : zsm h h101x (zon (64)) := zsm.rf.up eh101x rfl
  have zw102 : zsh h h101x := zsh.obj eh101x ho
  refine zp_pc (pc' := 5) rfl ?_
  refine zp_ret (v := none) dX11_begin_5 ⟨rfl, rfl⟩ (by decide) (by decide) ?_
  rw [hQ]
  exact ⟨rfl, rfl, (sw102).mono (fun i hi => by unfold zon; unfold zon at hi; omega), zw102, k101_0⟩
set_option maxRecDepth 10000 in
set_option maxHeartbeats 2000000 in
theorem e_mput {g : ZG} {h : ZH} {n : Nat} {xs : List Nat} {x : Nat} {th : Int32} {wt : Nat} {un : Bool} {rp wi pa be ru sa me se ta fa : Int32} {tp ou : Nat} (ho : h 64 = some (.inl (10, [.int (th), .ref (65), .ref (66), .ref (67), .ref (68), .ref (69), .ref (70), .ref (71), .ref (72), .ref (73), .ref (74), .ref (75), .ref (76), .ref (77), .ref (78), .ref (79), .ref (80), .ref (81), .ref (82), .ref (83), .ref (84), .int (nI (wt)), .int (nI (zbi un)), .int (rp), .int (wi), .int (pa), .int (be), .int (ru), .int (sa), .int (me), .int (se), .int (ta), .int (fa), .ref (85), .ref (86), .ref (87), .int (nI (xs.length)), .ref (88), .ref (89), .ref (90), .ref (91), .ref (92), .ref (93), .int (nI (tp)), .ref (94), .int (nI (ou))]))) (hx : zar h 87 1000 xs) (hb : x < 256) (hl : xs.length < 1000) : zMt g mX11_put (zR 0 0 0) [.ref (64), .int (nI (x))] h n (fun v h' n' => v = none ∧ n' = n ∧ zsm h h' zsp ∧ zsh h h' ∧ h' 64 = some (.inl (10, [.int (th), .ref (65), .ref (66), .ref (67), .ref (68), .ref (69), .ref (70), .ref (71), .ref (72), .ref (73), .ref (74), .ref (75), .ref (76), .ref (77), .ref (78), .ref (79), .ref (80), .ref (81), .ref (82), .ref (83), .ref (84), .int (nI (wt)), .int (nI (zbi un)), .int (rp), .int (wi), .int (pa), .int (be), .int (ru), .int (sa), .int (me), .int (se), .int (ta), .int (fa), .ref (85), .ref (86), .ref (87), .int (nI ((xs ++ [x]).length)), .ref (88), .ref (89), .ref (90), .ref (91), .ref (92), .ref (93), .int (nI (tp)), .ref (94), .int (nI (ou))])) ∧ zar h' 87 1000 (xs ++ [x])) := by
  refine zMt.of [some (.ref (64)), some (.int (nI (x)))] (by decide) rfl (Nat.le_of_ble_eq_true rfl) ?_
  obtain ⟨Qf, hQ⟩ : ∃ Qf : ZQ, Qf = (fun v h' n' => v = none ∧ n' = n ∧ zsm h h' zsp ∧ zsh h h' ∧ h' 64 = some (.inl (10, [.int (th), .ref (65), .ref (66), .ref (67), .ref (68), .ref (69), .ref (70), .ref (71), .ref (72), .ref (73), .ref (74), .ref (75), .ref (76), .ref (77), .ref (78), .ref (79), .ref (80), .ref (81), .ref (82), .ref (83), .ref (84), .int (nI (wt)), .int (nI (zbi un)), .int (rp), .int (wi), .int (pa), .int (be), .int (ru), .int (sa), .int (me), .int (se), .int (ta), .int (fa), .ref (85), .ref (86), .ref (87), .int (nI ((xs ++ [x]).length)), .ref (88), .ref (89), .ref (90), .ref (91), .ref (92), .ref (93), .int (nI (tp)), .ref (94), .int (nI (ou))])) ∧ zar h' 87 1000 (xs ++ [x])) := ⟨_, rfl⟩
  rw [← hQ]
  obtain ⟨la101, lb101, lc101, lf101, ld101, le101⟩ := id hx
  refine zp_aload_n dX11_put_0 rfl ?_
  refine zp_get dX11_put_1 gX11_96_10 ho rfl ?_
  refine zp_aload_n dX11_put_4 rfl ?_
  refine zp_get dX11_put_5 gX11_212_10 ho rfl ?_
  refine zp_iload_n dX11_put_8 rfl ?_
  refine zn_iast dX11_put_9 (by omega) ld101 (by omega) (by omega) ?_
  refine zp_nh (fun h102x eh102x => ?_)
  have k102_0 := (congrFun eh102x (64)).trans ((va_up_ne _ _ (by omega)).trans ho)
  have k102_1 : h102x (87) = some (.inr (1000, .inl (va_up lf101 (xs.length) (nI (x))))) := by rw [eh102x]; exact va_up_self _ _ _
  have sw103 : zsm h h102x (zon (87)) := zsm.rf.up eh102x rfl
  have zw103 : zsh h h102x := zsh.fill eh102x ld101
  refine zp_aload_n dX11_put_10 rfl ?_
  refine zp_dup dX11_put_11 rfl ?_
  refine zp_get dX11_put_12 gX11_212_10 k102_0 rfl ?_
  refine zp_iconst (v := nI (1)) dX11_put_15 (by decide) ?_
  refine zp_pc (pc' := 16) rfl ?_
  refine zn_iadd dX11_put_16 ?_
  refine zp_i (y := nI ((xs ++ [x]).length)) (by rw [List.length_append]; rfl) ?_
  refine zp_put (fs' := [.int (th), .ref (65), .ref (66), .ref (67), .ref (68), .ref (69), .ref (70), .ref (71), .ref (72), .ref (73), .ref (74), .ref (75), .ref (76), .ref (77), .ref (78), .ref (79), .ref (80), .ref (81), .ref (82), .ref (83), .ref (84), .int (nI (wt)), .int (nI (zbi un)), .int (rp), .int (wi), .int (pa), .int (be), .int (ru), .int (sa), .int (me), .int (se), .int (ta), .int (fa), .ref (85), .ref (86), .ref (87), .int (nI ((xs ++ [x]).length)), .ref (88), .ref (89), .ref (90), .ref (91), .ref (92), .ref (93), .int (nI (tp)), .ref (94), .int (nI (ou))]) dX11_put_17 pX11_212_10 (by omega) k102_0 (Nat.le_of_ble_eq_true rfl) (zfit_i _) rfl ?_
  refine zp_nh (fun h104x eh104x => ?_)
  have k104_0 : h104x (64) = some (.inl (10, [.int (th), .ref (65), .ref (66), .ref (67), .ref (68), .ref (69), .ref (70), .ref (71), .ref (72), .ref (73), .ref (74), .ref (75), .ref (76), .ref (77), .ref (78), .ref (79), .ref (80), .ref (81), .ref (82), .ref (83), .ref (84), .int (nI (wt)), .int (nI (zbi un)), .int (rp), .int (wi), .int (pa), .int (be), .int (ru), .int (sa), .int (me), .int (se), .int (ta), .int (fa), .ref (85), .ref (86), .ref (87), .int (nI ((xs ++ [x]).length)), .ref (88), .ref (89), .ref (90), .ref (91), .ref (92), .ref (93), .int (nI (tp)), .ref (94), .int (nI (ou))])) := by rw [eh104x]; exact va_up_self _ _ _
  have k104_1 := (congrFun eh104x (87)).trans ((va_up_ne _ _ (by omega)).trans k102_1)
  have sw105 : zsm h102x h104x (zon (64)) := zsm.rf.up eh104x rfl
  have zw105 : zsh h102x h104x := zsh.obj eh104x k102_0
  refine zp_pc (pc' := 20) rfl ?_
  refine zp_ret (v := none) dX11_put_20 ⟨rfl, rfl⟩ (by decide) (by decide) ?_
  rw [hQ]
  exact ⟨rfl, rfl, ((sw103).mono (fun i hi => by unfold zsp; unfold zon at hi; omega)).trans ((sw105).mono (fun i hi => by unfold zsp; unfold zon at hi; omega)), (zw103).trans zw105, k104_0, zar.mk (L := xs.length + 1) k104_1 (by rw [List.length_append]; rfl) (by omega) (by decide) (zapp_lt lc101 (fun y hy => by rw [List.mem_singleton.mp hy]; exact hb)) (fun j hj => by
        rcases Nat.lt_or_ge j xs.length with q | q
        · rw [va_up_ne _ _ (by omega), le101 j q, zapp_getD1 q]
        · rw [show j = xs.length by omega, va_up_self, show (xs ++ [x]).getD xs.length 0 = x from (zapp_getD2 (xs := xs) (ys := [x]) (i := 0))])⟩
set_option maxRecDepth 10000 in
set_option maxHeartbeats 2000000 in
theorem e_mputs {g : ZG} {h : ZH} {n : Nat} {xs ys : List Nat} {q Nq : Nat} {th : Int32} {wt : Nat} {un : Bool} {rp wi pa be ru sa me se ta fa : Int32} {tp ou : Nat} (ho : h 64 = some (.inl (10, [.int (th), .ref (65), .ref (66), .ref (67), .ref (68), .ref (69), .ref (70), .ref (71), .ref (72), .ref (73), .ref (74), .ref (75), .ref (76), .ref (77), .ref (78), .ref (79), .ref (80), .ref (81), .ref (82), .ref (83), .ref (84), .int (nI (wt)), .int (nI (zbi un)), .int (rp), .int (wi), .int (pa), .int (be), .int (ru), .int (sa), .int (me), .int (se), .int (ta), .int (fa), .ref (85), .ref (86), .ref (87), .int (nI (xs.length)), .ref (88), .ref (89), .ref (90), .ref (91), .ref (92), .ref (93), .int (nI (tp)), .ref (94), .int (nI (ou))]))) (hx : zar h 87 1000 xs) (hy : zar h q Nq ys) (hq : q ≠ 64 ∧ q ≠ 87) (hl : xs.length + ys.length < 1000) : zMt g mX11_put_ (zR 1 0 0) [.ref (64), .ref (q), .int (nI (ys.length))] h n (fun v h' n' => v = none ∧ n' = n ∧ zsm h h' zsp ∧ zsh h h' ∧ h' 64 = some (.inl (10, [.int (th), .ref (65), .ref (66), .ref (67), .ref (68), .ref (69), .ref (70), .ref (71), .ref (72), .ref (73), .ref (74), .ref (75), .ref (76), .ref (77), .ref (78), .ref (79), .ref (80), .ref (81), .ref (82), .ref (83), .ref (84), .int (nI (wt)), .int (nI (zbi un)), .int (rp), .int (wi), .int (pa), .int (be), .int (ru), .int (sa), .int (me), .int (se), .int (ta), .int (fa), .ref (85), .ref (86), .ref (87), .int (nI ((xs ++ ys).length)), .ref (88), .ref (89), .ref (90), .ref (91), .ref (92), .ref (93), .int (nI (tp)), .ref (94), .int (nI (ou))])) ∧ zar h' 87 1000 (xs ++ ys)) := by
  refine zMt.of [some (.ref (64)), some (.ref (q)), some (.int (nI (ys.length))), none] (by decide) rfl (Nat.le_of_ble_eq_true rfl) ?_
  obtain ⟨Qf, hQ⟩ : ∃ Qf : ZQ, Qf = (fun v h' n' => v = none ∧ n' = n ∧ zsm h h' zsp ∧ zsh h h' ∧ h' 64 = some (.inl (10, [.int (th), .ref (65), .ref (66), .ref (67), .ref (68), .ref (69), .ref (70), .ref (71), .ref (72), .ref (73), .ref (74), .ref (75), .ref (76), .ref (77), .ref (78), .ref (79), .ref (80), .ref (81), .ref (82), .ref (83), .ref (84), .int (nI (wt)), .int (nI (zbi un)), .int (rp), .int (wi), .int (pa), .int (be), .int (ru), .int (sa), .int (me), .int (se), .int (ta), .int (fa), .ref (85), .ref (86), .ref (87), .int (nI ((xs ++ ys).length)), .ref (88), .ref (89), .ref (90), .ref (91), .ref (92), .ref (93), .int (nI (tp)), .ref (94), .int (nI (ou))])) ∧ zar h' 87 1000 (xs ++ ys)) := ⟨_, rfl⟩
  rw [← hQ]
  obtain ⟨y1, y2, y3, fy, y4, y5⟩ := id hy
  refine zp_iconst (v := nI (0)) dX11_put__0 (by decide) ?_
  refine zp_istore_n (ls' := [some (.ref (64)), some (.ref (q)), some (.int (nI (ys.length))), some (.int (nI (0)))]) dX11_put__1 (by decide) rfl ?_
  refine zp_pc (pc' := 2) rfl ?_
  have lp : ∀ (m : Nat) (k : Nat) (h1 : ZH), m = ys.length - k → k ≤ ys.length → zsm h h1 zsp → zsh h h1 → h1 64 = some (.inl (10, [.int (th), .ref (65), .ref (66), .ref (67), .ref (68), .ref (69), .ref (70), .ref (71), .ref (72), .ref (73), .ref (74), .ref (75), .ref (76), .ref (77), .ref (78), .ref (79), .ref (80), .ref (81), .ref (82), .ref (83), .ref (84), .int (nI (wt)), .int (nI (zbi un)), .int (rp), .int (wi), .int (pa), .int (be), .int (ru), .int (sa), .int (me), .int (se), .int (ta), .int (fa), .ref (85), .ref (86), .ref (87), .int (nI ((xs ++ ys.take k).length)), .ref (88), .ref (89), .ref (90), .ref (91), .ref (92), .ref (93), .int (nI (tp)), .ref (94), .int (nI (ou))])) → zar h1 87 1000 (xs ++ ys.take k) → zP g mX11_put_ (zR 1 0 0) Qf 0 0 2 [some (.ref (64)), some (.ref (q)), some (.int (nI (ys.length))), some (.int (nI (k)))] [] h1 n := by
    intro m
    induction m using Nat.strongRecOn with
    | _ m ih =>
      intro k h1 hm hk s1 z1 o1 x1
      have q1 : h1 q = some (.inr (Nq, .inl fy)) := (s1 _ (by unfold zsp; omega)).trans y4
      have lt1 : (xs ++ ys.take k).length = xs.length + k := by rw [List.length_append, List.length_take]; omega
      refine zp_iload_n dX11_put__2 rfl ?_
      refine zp_iload_n dX11_put__3 rfl ?_
      refine zp_pc (pc' := 4) rfl ?_
      refine zn_icmp_ge (tgt := 20) dX11_put__4 (by decide) (by omega) (by omega) (fun c4 => ?_) (fun c4 => ?_)
      · have e : k = ys.length := by omega
        subst e
        rw [List.take_length] at o1 x1
        refine zp_pc (pc' := 20) rfl ?_
        refine zp_ret (v := none) dX11_put__20 ⟨rfl, rfl⟩ (by decide) (by decide) ?_
        rw [hQ]
        exact ⟨rfl, rfl, s1, z1, o1, x1⟩
      · have hby := zgetD_lt y3 k
        refine zp_aload_n dX11_put__7 rfl ?_
        refine zp_aload_n dX11_put__8 rfl ?_
        refine zp_iload_n dX11_put__9 rfl ?_
        refine zp_pc (pc' := 10) rfl ?_
        refine zn_iald (j := k) dX11_put__10 q1 (by omega) (by omega) ?_
        refine zp_i (y := nI (ys.getD k 0)) (y5 _ (by omega)) ?_
        have et : xs ++ ys.take k ++ [ys.getD k 0] = xs ++ ys.take (k + 1) := by rw [List.append_assoc]; congr 1; exact ztake_step (by omega)
        refine zp_callV (As := [.int (nI (ys.getD k 0))]) (k := 64) (st := []) (ci := 10) dX11_put__11 cX11_215 rfl o1 rfl rfl (e_mput (xs := xs ++ ys.take k) (x := ys.getD k 0) o1 x1 hby (by omega)) (by decide) (by decide) (Nat.le_of_ble_eq_true rfl) (fun v101 h101 n101 q101 => ?_)
        obtain ⟨rfl, N101, s101, z101, o101, x101⟩ := q101
        rw [N101]
        refine zp_nrm (cells' := 0) (slots' := 0) (st' := []) rfl rfl rfl ?_
        have m102 : h101 (q) = some (.inr (Nq, .inl fy)) := (s101 _ (by unfold zsp; omega)).trans q1
        rw [et] at o101 x101
        refine zn_iinc 1 (ls' := [some (.ref (64)), some (.ref (q)), some (.int (nI (ys.length))), some (.int (nI (k + 1)))]) dX11_put__14 (by decide) (by decide) rfl rfl ?_
        refine zp_goto (tgt := 2) dX11_put__17 (by decide) ?_
        refine zp_pc (pc' := 2) rfl ?_
        exact ih (ys.length - (k + 1)) (by omega) (k + 1) h101 rfl (by omega) (s1.trans s101) (z1.trans z101) o101 x101
  exact lp _ 0 h rfl (Nat.zero_le _) zsm.rf zsh.rf (by rw [List.take_zero, List.append_nil]; exact ho) (by rw [List.take_zero, List.append_nil]; exact hx)
set_option maxRecDepth 10000 in
set_option maxHeartbeats 2000000 in
theorem e_madds {g : ZG} {h : ZH} {n : Nat} {p q Np Nq : Nat} {xs ys : List Nat} (hx : zar h p Np xs) (hy : zar h q Nq ys) (hp : 16 ≤ p) (hpq : p ≠ q) (hl : ys.length ≤ xs.length) : zMt g mX11_adds (zR 0 0 0) [.ref (p), .int (nI (xs.length)), .ref (q), .int (nI (ys.length))] h n (fun v h' n' => v = none ∧ n' = n ∧ zsm h h' (zon p) ∧ zsh h h' ∧ zar h' p Np (zplus xs (zval ys))) := by
  refine zMt.of [some (.ref (p)), some (.int (nI (xs.length))), some (.ref (q)), some (.int (nI (ys.length))), none, none, none] (by decide) rfl (Nat.le_of_ble_eq_true rfl) ?_
  obtain ⟨Qf, hQ⟩ : ∃ Qf : ZQ, Qf = (fun v h' n' => v = none ∧ n' = n ∧ zsm h h' (zon p) ∧ zsh h h' ∧ zar h' p Np (zplus xs (zval ys))) := ⟨_, rfl⟩
  rw [← hQ]
  obtain ⟨x1, x2, x3, fx, x4, x5⟩ := id hx
  obtain ⟨y1, y2, y3, fy, y4, y5⟩ := id hy
  refine zp_iconst (v := nI (0)) dX11_adds_0 (by decide) ?_
  refine zp_istore (ls' := [some (.ref (p)), some (.int (nI (xs.length))), some (.ref (q)), some (.int (nI (ys.length))), some (.int (nI (0))), none, none]) dX11_adds_1 (by decide) rfl ?_
  refine zp_iconst (v := nI (0)) dX11_adds_3 (by decide) ?_
  refine zp_istore (ls' := [some (.ref (p)), some (.int (nI (xs.length))), some (.ref (q)), some (.int (nI (ys.length))), some (.int (nI (0))), some (.int (nI (0))), none]) dX11_adds_4 (by decide) rfl ?_
  refine zp_pc (pc' := 6) rfl ?_
  refine zp_ls (ls' := [some (.ref (p)), some (.int (nI (xs.length))), some (.ref (q)), some (.int (nI (ys.length))), some (.int (nI (zca (zval xs) (zval ys) 0))), some (.int (nI (0))), none]) (by rw [zca_0]) ?_
  have lp : ∀ (m : Nat) (k : Nat) (h1 : ZH) (f1 : Nat → Int32), m = xs.length - k → k ≤ xs.length → zsm h h1 (zon p) → h1 p = some (.inr (Np, .inl f1)) → (∀ j, j + k < xs.length → f1 j = fx j) → (∀ j, xs.length ≤ j + k → j < xs.length → f1 j = nI (zdig ((zval xs) + (zval ys)) (xs.length - 1 - j))) → zP g mX11_adds (zR 0 0 0) Qf 0 0 6 [some (.ref (p)), some (.int (nI (xs.length))), some (.ref (q)), some (.int (nI (ys.length))), some (.int (nI (zca (zval xs) (zval ys) k))), some (.int (nI (k))), none] [] h1 n := by
    intro m
    induction m using Nat.strongRecOn with
    | _ m ih =>
      intro k h1 f1 hm hk s1 e1 lo hi
      have q1 : h1 q = some (.inr (Nq, .inl fy)) := (s1 _ (by unfold zon; omega)).trans y4
      have c1 := zca_le (zval xs) (zval ys) k
      refine zp_iload dX11_adds_6 rfl ?_
      refine zp_iload_n dX11_adds_8 rfl ?_
      refine zp_pc (pc' := 9) rfl ?_
      refine zn_icmp_ge (tgt := 71) dX11_adds_9 (by decide) (by omega) (by omega) (fun c9 => ?_) (fun c9 => ?_)
      · have e : k = xs.length := by omega
        refine zp_pc (pc' := 71) rfl ?_
        refine zp_ret (v := none) dX11_adds_71 ⟨rfl, rfl⟩ (by decide) (by decide) ?_
        rw [hQ]
        exact ⟨rfl, rfl, s1, zsh.of s1 (fun i hi => by unfold zon at hi; subst hi; exact ⟨_, _, _, x4, e1⟩), zar.mk (L := xs.length) e1 (zplus_len ..) x1 x2 (znum_lt _ _) (fun j hj => by unfold zplus; rw [znum_getD _ hj]; exact hi j (by omega) hj)⟩
      · have dx : xs.getD (xs.length - 1 - k) 0 = zdig (zval xs) k := by rw [zdig_get x3 (by omega), show xs.length - 1 - (xs.length - 1 - k) = k by omega]
        have dl := zdig_lt (zval xs) k
        have dm := zdig_lt (zval ys) k
        refine zp_aload_n dX11_adds_12 rfl ?_
        refine zp_iload_n dX11_adds_13 rfl ?_
        refine zp_iconst (v := nI (1)) dX11_adds_14 (by decide) ?_
        refine zn_isub dX11_adds_15 (by omega) ?_
        refine zp_iload dX11_adds_16 rfl ?_
        refine zn_isub dX11_adds_18 (by omega) ?_
        refine zp_pc (pc' := 19) rfl ?_
        refine zn_iald (j := ((xs.length) - (1)) - (k)) dX11_adds_19 e1 (by omega) (by omega) ?_
        refine zp_i (y := nI (zdig (zval xs) k)) (by rw [lo _ (by omega), x5 _ (by omega), dx]) ?_
        refine zp_iload dX11_adds_20 rfl ?_
        refine zp_iload_n dX11_adds_22 rfl ?_
        refine zp_pc (pc' := 23) rfl ?_
        have jn101 : zP g mX11_adds (zR 0 0 0) Qf 0 0 38 [some (.ref (p)), some (.int (nI (xs.length))), some (.ref (q)), some (.int (nI (ys.length))), some (.int (nI (zca (zval xs) (zval ys) k))), some (.int (nI (k))), none] [.int (nI (zdig (zval ys) k)), .int (nI (zdig (zval xs) k))] h1 n → zP g mX11_adds (zR 0 0 0) Qf 0 0 23 [some (.ref (p)), some (.int (nI (xs.length))), some (.ref (q)), some (.int (nI (ys.length))), some (.int (nI (zca (zval xs) (zval ys) k))), some (.int (nI (k))), none] [.int (nI (ys.length)), .int (nI (k)), .int (nI (zdig (zval xs) k))] h1 n := by
          intro jk101
          refine zn_icmp_ge (tgt := 37) dX11_adds_23 (by decide) (by omega) (by omega) (fun c23 => ?_) (fun c23 => ?_)
          · refine zp_iconst (v := nI (0)) dX11_adds_37 (by decide) ?_
            refine zp_pc (pc' := 38) rfl ?_
            refine zp_i (y := nI (zdig (zval ys) k)) (by rw [zdig_big y3 c23]) ?_
            exact jk101
          · have dy : ys.getD (ys.length - 1 - k) 0 = zdig (zval ys) k := by rw [zdig_get y3 (by omega), show ys.length - 1 - (ys.length - 1 - k) = k by omega]
            refine zp_aload_n dX11_adds_26 rfl ?_
            refine zp_iload_n dX11_adds_27 rfl ?_
            refine zp_iconst (v := nI (1)) dX11_adds_28 (by decide) ?_
            refine zn_isub dX11_adds_29 (by omega) ?_
            refine zp_iload dX11_adds_30 rfl ?_
            refine zn_isub dX11_adds_32 (by omega) ?_
            refine zp_pc (pc' := 33) rfl ?_
            refine zn_iald (j := ((ys.length) - (1)) - (k)) dX11_adds_33 q1 (by omega) (by omega) ?_
            refine zp_i (y := nI (zdig (zval ys) k)) (by rw [y5 _ (by omega), dy]) ?_
            refine zp_goto (tgt := 38) dX11_adds_34 (by decide) ?_
            refine zp_pc (pc' := 38) rfl ?_
            exact jk101
        refine jn101 ?_
        refine zn_iadd dX11_adds_38 ?_
        refine zp_iload dX11_adds_39 rfl ?_
        refine zp_pc (pc' := 41) rfl ?_
        refine zn_iadd dX11_adds_41 ?_
        refine zp_i (y := nI (zca (zval xs) (zval ys) k + zdig (zval xs) k + zdig (zval ys) k)) (by congr 1; omega) ?_
        refine zp_istore (ls' := [some (.ref (p)), some (.int (nI (xs.length))), some (.ref (q)), some (.int (nI (ys.length))), some (.int (nI (zca (zval xs) (zval ys) k))), some (.int (nI (k))), some (.int (nI (zca (zval xs) (zval ys) k + zdig (zval xs) k + zdig (zval ys) k)))]) dX11_adds_42 (by decide) rfl ?_
        refine zp_aload_n dX11_adds_44 rfl ?_
        refine zp_iload_n dX11_adds_45 rfl ?_
        refine zp_iconst (v := nI (1)) dX11_adds_46 (by decide) ?_
        refine zn_isub dX11_adds_47 (by omega) ?_
        refine zp_iload dX11_adds_48 rfl ?_
        refine zn_isub dX11_adds_50 (by omega) ?_
        refine zp_iload dX11_adds_51 rfl ?_
        refine zp_sipush (v := nI (255)) dX11_adds_53 (by decide) ?_
        refine zp_pc (pc' := 56) rfl ?_
        refine zp_iand dX11_adds_56 ?_
        refine zp_i (y := nI (zdig ((zval xs) + (zval ys)) k)) (by rw [zandN (by omega), zca_dig]) ?_
        refine zn_iast dX11_adds_57 (by omega) e1 (by omega) (by omega) ?_
        refine zp_nh (fun h102x eh102x => ?_)
        have k102_0 := (congrFun eh102x (q)).trans ((va_up_ne _ _ (by omega)).trans q1)
        have k102_1 : h102x (p) = some (.inr (Np, .inl (va_up f1 (((xs.length) - (1)) - (k)) (nI (zdig ((zval xs) + (zval ys)) k))))) := by rw [eh102x]; exact va_up_self _ _ _
        have sw103 : zsm h1 h102x (zon (p)) := zsm.rf.up eh102x rfl
        have zw103 : zsh h1 h102x := zsh.fill eh102x e1
        refine zp_iload dX11_adds_58 rfl ?_
        refine zp_bipush (v := nI (8)) dX11_adds_60 (by decide) ?_
        refine zp_pc (pc' := 62) rfl ?_
        refine zp_ishr dX11_adds_62 ?_
        refine zp_i (y := nI (zca (zval xs) (zval ys) (k + 1))) (by rw [zca_succ]; exact pk_shrN (by omega) _ 8 (by decide)) ?_
        refine zp_istore (ls' := [some (.ref (p)), some (.int (nI (xs.length))), some (.ref (q)), some (.int (nI (ys.length))), some (.int (nI (zca (zval xs) (zval ys) (k + 1)))), some (.int (nI (k))), some (.int (nI (zca (zval xs) (zval ys) k + zdig (zval xs) k + zdig (zval ys) k)))]) dX11_adds_63 (by decide) rfl ?_
        refine zn_iinc 1 (ls' := [some (.ref (p)), some (.int (nI (xs.length))), some (.ref (q)), some (.int (nI (ys.length))), some (.int (nI (zca (zval xs) (zval ys) (k + 1)))), some (.int (nI (k + 1))), some (.int (nI (zca (zval xs) (zval ys) k + zdig (zval xs) k + zdig (zval ys) k)))]) dX11_adds_65 (by decide) (by decide) rfl rfl ?_
        refine zp_goto (tgt := 6) dX11_adds_68 (by decide) ?_
        refine zp_pc (pc' := 6) rfl ?_
        refine zp_drop (ls' := [some (.ref (p)), some (.int (nI (xs.length))), some (.ref (q)), some (.int (nI (ys.length))), some (.int (nI (zca (zval xs) (zval ys) (k + 1)))), some (.int (nI (k + 1))), none]) (fun i v hv => ?_) ?_
        · rcases i with _ | _ | _ | _ | _ | _ | _ | i <;> simp at hv ⊢ <;> exact hv
        refine ih (xs.length - (k + 1)) (by omega) (k + 1) h102x _ rfl (by omega) (s1.trans ((sw103).mono (fun i hi => by unfold zon; unfold zon at hi; omega))) k102_1 (fun j hj => by rw [va_up_ne _ _ (by omega)]; exact lo j (by omega)) (fun j hj hj2 => ?_)
        by_cases e : j = xs.length - 1 - k
        · subst e; rw [va_up_self, show xs.length - 1 - (xs.length - 1 - k) = k by omega]
        · rw [va_up_ne _ _ e]; exact hi j (by omega) hj2
  exact lp _ 0 h _ rfl (Nat.zero_le _) zsm.rf x4 (fun j _ => rfl) (fun j h1 h2 => absurd h2 (by omega))
set_option maxRecDepth 10000 in
set_option maxHeartbeats 2000000 in
theorem e_maddsN {g : ZG} {h : ZH} {n : Nat} {p Np x : Nat} {xs : List Nat} {th : Int32} {wt : Nat} {un : Bool} {rp wi pa be ru sa me se ta fa : Int32} {mn tp ou : Nat} (ho : h 64 = some (.inl (10, [.int (th), .ref (65), .ref (66), .ref (67), .ref (68), .ref (69), .ref (70), .ref (71), .ref (72), .ref (73), .ref (74), .ref (75), .ref (76), .ref (77), .ref (78), .ref (79), .ref (80), .ref (81), .ref (82), .ref (83), .ref (84), .int (nI (wt)), .int (nI (zbi un)), .int (rp), .int (wi), .int (pa), .int (be), .int (ru), .int (sa), .int (me), .int (se), .int (ta), .int (fa), .ref (85), .ref (86), .ref (87), .int (nI (mn)), .ref (88), .ref (89), .ref (90), .ref (91), .ref (92), .ref (93), .int (nI (tp)), .ref (94), .int (nI (ou))]))) (h88 : zia h 88 4) (hx : zar h p Np xs) (hp : 64 < p) (hp8 : p ≠ 88) (hl : 4 ≤ xs.length) (hx2 : x < 2 ^ 31) : zMt g mX11_addsNumber (zR 1 0 0) [.ref (64), .ref (p), .int (nI (xs.length)), .int (nI (x))] h n (fun v h' n' => v = none ∧ n' = n ∧ zsm h h' (zsa p) ∧ zsh h h' ∧ zar h' p Np (zplus xs x)) := by
  refine zMt.of [some (.ref (64)), some (.ref (p)), some (.int (nI (xs.length))), some (.int (nI (x)))] (by decide) rfl (Nat.le_of_ble_eq_true rfl) ?_
  obtain ⟨Qf, hQ⟩ : ∃ Qf : ZQ, Qf = (fun v h' n' => v = none ∧ n' = n ∧ zsm h h' (zsa p) ∧ zsh h h' ∧ zar h' p Np (zplus xs x)) := ⟨_, rfl⟩
  rw [← hQ]
  obtain ⟨if101, ih101⟩ := id (h88)
  obtain ⟨la102, lb102, lc102, lf102, ld102, le102⟩ := id hx
  refine zp_aload_n dX11_addsNumber_0 rfl ?_
  refine zp_get dX11_addsNumber_1 gX11_99_10 ho rfl ?_
  refine zp_iconst (v := nI (0)) dX11_addsNumber_4 (by decide) ?_
  refine zp_iload_n dX11_addsNumber_5 rfl ?_
  refine zp_iconst (v := nI (4)) dX11_addsNumber_6 (by decide) ?_
  refine zp_pc (pc' := 7) rfl ?_
  refine zp_callS (As := [.ref (88), .int (nI (0)), .int (nI (x)), .int (nI (4))]) (st := []) dX11_addsNumber_7 cX11_174 rfl (e_number (p := 88) (N := 4) (at_ := 0) (v0 := nI x) (by decide) ih101 (by decide) (by decide)) (by decide) (by decide) (Nat.le_of_ble_eq_true rfl) (fun v103 h103 n103 q103 => ?_)
  obtain ⟨rfl, N103, E103⟩ := q103
  rw [N103]
  refine zp_nrm (cells' := 0) (slots' := 0) (st' := []) rfl rfl rfl ?_
  have s103 := zsm.fill E103
  have z103 := zsh.fill E103 ih101
  have n88 := congrFun E103 88
  rw [va_up_self, zn4_nI (by omega)] at n88
  have m104 : h103 (64) = some (.inl (10, [.int (th), .ref (65), .ref (66), .ref (67), .ref (68), .ref (69), .ref (70), .ref (71), .ref (72), .ref (73), .ref (74), .ref (75), .ref (76), .ref (77), .ref (78), .ref (79), .ref (80), .ref (81), .ref (82), .ref (83), .ref (84), .int (nI (wt)), .int (nI (zbi un)), .int (rp), .int (wi), .int (pa), .int (be), .int (ru), .int (sa), .int (me), .int (se), .int (ta), .int (fa), .ref (85), .ref (86), .ref (87), .int (nI (mn)), .ref (88), .ref (89), .ref (90), .ref (91), .ref (92), .ref (93), .int (nI (tp)), .ref (94), .int (nI (ou))])) := (s103 _ (by unfold zon; omega)).trans ho
  have m105 : h103 (p) = some (.inr (Np, .inl lf102)) := (s103 _ (by unfold zon; omega)).trans ld102
  have a8 : zar h103 88 4 (znum x 4) := zar.mk (L := 4) n88 (znum_len ..) (by decide) (by decide) (znum_lt _ _) (fun j hj => zfl_in0 hj)
  have ax := hx.keep (s103 p (by unfold zon; omega))
  refine zp_aload_n dX11_addsNumber_10 rfl ?_
  refine zp_iload_n dX11_addsNumber_11 rfl ?_
  refine zp_aload_n dX11_addsNumber_12 rfl ?_
  refine zp_get dX11_addsNumber_13 gX11_99_10 m104 rfl ?_
  refine zp_iconst (v := nI (4)) dX11_addsNumber_16 (by decide) ?_
  refine zp_pc (pc' := 17) rfl ?_
  refine zp_i (y := nI ((znum x 4).length)) (by rw [znum_len]) ?_
  refine zp_callS (As := [.ref (p), .int (nI (xs.length)), .ref (88), .int (nI ((znum x 4).length))]) (st := []) dX11_addsNumber_17 cX11_219 rfl (e_madds ax a8 (by omega) (by omega) (by rw [znum_len]; exact hl)) (by decide) (by decide) (Nat.le_of_ble_eq_true rfl) (fun v106 h106 n106 q106 => ?_)
  obtain ⟨rfl, N106, s106, z106, d106⟩ := q106
  rw [N106]
  refine zp_nrm (cells' := 0) (slots' := 0) (st' := []) rfl rfl rfl ?_
  have m107 : h106 (64) = some (.inl (10, [.int (th), .ref (65), .ref (66), .ref (67), .ref (68), .ref (69), .ref (70), .ref (71), .ref (72), .ref (73), .ref (74), .ref (75), .ref (76), .ref (77), .ref (78), .ref (79), .ref (80), .ref (81), .ref (82), .ref (83), .ref (84), .int (nI (wt)), .int (nI (zbi un)), .int (rp), .int (wi), .int (pa), .int (be), .int (ru), .int (sa), .int (me), .int (se), .int (ta), .int (fa), .ref (85), .ref (86), .ref (87), .int (nI (mn)), .ref (88), .ref (89), .ref (90), .ref (91), .ref (92), .ref (93), .int (nI (tp)), .ref (94), .int (nI (ou))])) := (s106 _ (by unfold zon; omega)).trans m104
  have m108 : h106 (88) = some (.inr (4, .inl (zfl if101 0 4 (fun i => nI ((znum x 4).getD i 0))))) := (s106 _ (by unfold zon; omega)).trans n88
  rw [zval_num, Nat.mod_eq_of_lt (show x < 256 ^ 4 by omega)] at d106
  refine zp_pc (pc' := 20) rfl ?_
  refine zp_ret (v := none) dX11_addsNumber_20 ⟨rfl, rfl⟩ (by decide) (by decide) ?_
  rw [hQ]
  exact ⟨rfl, rfl, ((s103).mono (fun i hi => by unfold zsa; unfold zon at hi; omega)).trans ((s106).mono (fun i hi => by unfold zsa; unfold zon at hi; omega)), (z103).trans z106, d106⟩
set_option maxRecDepth 10000 in
set_option maxHeartbeats 2000000 in
theorem e_mtake {g : ZG} {h : ZH} {n : Nat} {k : Nat} {xs : List Nat} {th : Int32} {un : Bool} {rp wi pa be ru sa me se ta fa : Int32} {mn tp ou : Nat} (ho : h 64 = some (.inl (10, [.int (th), .ref (65), .ref (66), .ref (67), .ref (68), .ref (69), .ref (70), .ref (71), .ref (72), .ref (73), .ref (74), .ref (75), .ref (76), .ref (77), .ref (78), .ref (79), .ref (80), .ref (81), .ref (82), .ref (83), .ref (84), .int (nI (xs.length)), .int (nI (zbi un)), .int (rp), .int (wi), .int (pa), .int (be), .int (ru), .int (sa), .int (me), .int (se), .int (ta), .int (fa), .ref (85), .ref (86), .ref (87), .int (nI (mn)), .ref (88), .ref (89), .ref (90), .ref (91), .ref (92), .ref (93), .int (nI (tp)), .ref (94), .int (nI (ou))]))) (hx : zar h 84 1000 xs) (h85 : zia h 85 100) (hk : k ≤ xs.length) (hk2 : k ≤ 100) : zMt g mX11_take (zR 0 0 0) [.ref (64), .int (nI (k))] h n (fun v h' n' => v = none ∧ n' = n ∧ zsm h h' zst3 ∧ zsh h h' ∧ h' 64 = some (.inl (10, [.int (th), .ref (65), .ref (66), .ref (67), .ref (68), .ref (69), .ref (70), .ref (71), .ref (72), .ref (73), .ref (74), .ref (75), .ref (76), .ref (77), .ref (78), .ref (79), .ref (80), .ref (81), .ref (82), .ref (83), .ref (84), .int (nI ((xs.drop k).length)), .int (nI (zbi un)), .int (rp), .int (wi), .int (pa), .int (be), .int (ru), .int (sa), .int (me), .int (se), .int (ta + nI k), .int (fa), .ref (85), .ref (86), .ref (87), .int (nI (mn)), .ref (88), .ref (89), .ref (90), .ref (91), .ref (92), .ref (93), .int (nI (tp)), .ref (94), .int (nI (ou))])) ∧ zar h' 85 100 (xs.take k) ∧ zar h' 84 1000 (xs.drop k)) := by
  refine zMt.of [some (.ref (64)), some (.int (nI (k))), none] (by decide) rfl (Nat.le_of_ble_eq_true rfl) ?_
  obtain ⟨Qf, hQ⟩ : ∃ Qf : ZQ, Qf = (fun v h' n' => v = none ∧ n' = n ∧ zsm h h' zst3 ∧ zsh h h' ∧ h' 64 = some (.inl (10, [.int (th), .ref (65), .ref (66), .ref (67), .ref (68), .ref (69), .ref (70), .ref (71), .ref (72), .ref (73), .ref (74), .ref (75), .ref (76), .ref (77), .ref (78), .ref (79), .ref (80), .ref (81), .ref (82), .ref (83), .ref (84), .int (nI ((xs.drop k).length)), .int (nI (zbi un)), .int (rp), .int (wi), .int (pa), .int (be), .int (ru), .int (sa), .int (me), .int (se), .int (ta + nI k), .int (fa), .ref (85), .ref (86), .ref (87), .int (nI (mn)), .ref (88), .ref (89), .ref (90), .ref (91), .ref (92), .ref (93), .int (nI (tp)), .ref (94), .int (nI (ou))])) ∧ zar h' 85 100 (xs.take k) ∧ zar h' 84 1000 (xs.drop k)) := ⟨_, rfl⟩
  rw [← hQ]
  obtain ⟨la101, lb101, lc101, lf101, ld101, le101⟩ := id hx
  obtain ⟨if102, ih102⟩ := id (h85)
  refine zp_iconst (v := nI (0)) dX11_take_0 (by decide) ?_
  refine zp_istore_n (ls' := [some (.ref (64)), some (.int (nI (k))), some (.int (nI (0)))]) dX11_take_1 (by decide) rfl ?_
  refine zp_pc (pc' := 2) rfl ?_
  have lp103 : zP g mX11_take (zR 0 0 0) Qf 0 0 25 [some (.ref (64)), some (.int (nI (k))), some (.int (nI (k)))] [] (va_up h (85) (some (.inr (100, .inl (zfl if102 (0) (k) (fun i => nI (xs.getD i 0))))))) n → ∀ (m k103 : Nat), m = (k) - k103 → k103 ≤ (k) → zP g mX11_take (zR 0 0 0) Qf 0 0 2 [some (.ref (64)), some (.int (nI (k))), some (.int (nI (k103)))] [] (va_up h (85) (some (.inr (100, .inl (zfl if102 (0) (k103) (fun i => nI (xs.getD i 0))))))) n := by
    intro kk m
    induction m using Nat.strongRecOn with
    | _ m ih =>
      intro k103 hm103 hk103
      refine zp_nh (fun hX103 eX103 => ?_)
      have k104_0 := (congrFun eX103 (64)).trans ((va_up_ne _ _ (by omega)).trans ho)
      have k104_1 := (congrFun eX103 (84)).trans ((va_up_ne _ _ (by omega)).trans ld101)
      have k104_2 : hX103 (85) = some (.inr (100, .inl (zfl if102 (0) (k103) (fun i => nI (xs.getD i 0))))) := by rw [eX103]; exact va_up_self _ _ _
      refine zp_iload_n dX11_take_2 rfl ?_
      refine zp_iload_n dX11_take_3 rfl ?_
      refine zp_pc (pc' := 4) rfl ?_
      refine zn_icmp_ge (tgt := 25) dX11_take_4 (by decide) (by omega) (by omega) (fun c4 => ?_) (fun c4 => ?_)
      · have e103 : k103 = (k) := by omega
        subst e103
        rw [eX103]
        exact kk
      · refine zp_aload_n dX11_take_7 rfl ?_
        refine zp_get dX11_take_8 gX11_87_10 k104_0 rfl ?_
        refine zp_iload_n dX11_take_11 rfl ?_
        refine zp_aload_n dX11_take_12 rfl ?_
        refine zp_get dX11_take_13 gX11_68_10 k104_0 rfl ?_
        refine zp_iload_n dX11_take_16 rfl ?_
        refine zp_pc (pc' := 17) rfl ?_
        refine zn_iald (j := k103) dX11_take_17 k104_1 (by omega) (by omega) ?_
        refine zp_i (y := nI (xs.getD k103 0)) (le101 _ (by omega)) ?_
        refine zn_iast dX11_take_18 (by omega) k104_2 (by omega) (by omega) ?_
        refine zp_nh (fun h105x eh105x => ?_)
        have k105_0 := (congrFun eh105x (64)).trans ((va_up_ne _ _ (by omega)).trans k104_0)
        have k105_1 := (congrFun eh105x (84)).trans ((va_up_ne _ _ (by omega)).trans k104_1)
        have k105_2 : h105x (85) = some (.inr (100, .inl (va_up (zfl if102 (0) (k103) (fun i => nI (xs.getD i 0))) (k103) (nI (xs.getD k103 0))))) := by rw [eh105x]; exact va_up_self _ _ _
        have sw106 : zsm hX103 h105x (zon (85)) := zsm.rf.up eh105x rfl
        have zw106 : zsh hX103 h105x := zsh.fill eh105x k104_2
        refine zp_pc (pc' := 19) rfl ?_
        refine zn_iinc 1 (ls' := [some (.ref (64)), some (.int (nI (k))), some (.int (nI (k103 + 1)))]) dX11_take_19 (by decide) (by decide) rfl rfl ?_
        refine zp_goto (tgt := 2) dX11_take_22 (by decide) ?_
        refine zp_pc (pc' := 2) rfl ?_
        rw [zfl_step eX103 eh105x (by omega) rfl]
        exact ih ((k) - (k103 + 1)) (by omega) (k103 + 1) rfl (by omega)
  suffices K103 : zP g mX11_take (zR 0 0 0) Qf 0 0 25 [some (.ref (64)), some (.int (nI (k))), some (.int (nI (k)))] [] (va_up h (85) (some (.inr (100, .inl (zfl if102 (0) (k) (fun i => nI (xs.getD i 0))))))) n by
    have q := lp103 K103 ((k) - 0) 0 rfl (Nat.zero_le _)
    rw [zfl_0, zup_same ih102] at q
    exact q
  refine zp_nh (fun hY103 eY103 => ?_)
  have k107_0 := (congrFun eY103 (64)).trans ((va_up_ne _ _ (by omega)).trans ho)
  have k107_1 := (congrFun eY103 (84)).trans ((va_up_ne _ _ (by omega)).trans ld101)
  have k107_2 : hY103 (85) = some (.inr (100, .inl (zfl if102 (0) (k) (fun i => nI (xs.getD i 0))))) := by rw [eY103]; exact va_up_self _ _ _
  have sf108 := (zsm.fill eY103)
  have zf108 := zsh.fill eY103 ih102
  refine zp_iload_n dX11_take_25 rfl ?_
  refine zp_istore_n (ls' := [some (.ref (64)), some (.int (nI (k))), some (.int (nI (k)))]) dX11_take_26 (by decide) rfl ?_
  refine zp_pc (pc' := 27) rfl ?_
  refine zp_ls (ls' := [some (.ref (64)), some (.int (nI (k))), some (.int (nI (k + (0))))]) rfl ?_
  have lp109 : zP g mX11_take (zR 0 0 0) Qf 0 0 55 [some (.ref (64)), some (.int (nI (k))), some (.int (nI (k + (xs.length - k))))] [] (va_up hY103 (84) (some (.inr (1000, .inl (zfl lf101 (0) (xs.length - k) (fun i => nI ((xs.drop k).getD i 0))))))) n → ∀ (m k109 : Nat), m = (xs.length - k) - k109 → k109 ≤ (xs.length - k) → zP g mX11_take (zR 0 0 0) Qf 0 0 27 [some (.ref (64)), some (.int (nI (k))), some (.int (nI (k + (k109))))] [] (va_up hY103 (84) (some (.inr (1000, .inl (zfl lf101 (0) (k109) (fun i => nI ((xs.drop k).getD i 0))))))) n := by
    intro kk m
    induction m using Nat.strongRecOn with
    | _ m ih =>
      intro k109 hm109 hk109
      refine zp_nh (fun hX109 eX109 => ?_)
      have k110_0 := (congrFun eX109 (64)).trans ((va_up_ne _ _ (by omega)).trans k107_0)
      have k110_1 : hX109 (84) = some (.inr (1000, .inl (zfl lf101 (0) (k109) (fun i => nI ((xs.drop k).getD i 0))))) := by rw [eX109]; exact va_up_self _ _ _
      have k110_2 := (congrFun eX109 (85)).trans ((va_up_ne _ _ (by omega)).trans k107_2)
      refine zp_iload_n dX11_take_27 rfl ?_
      refine zp_aload_n dX11_take_28 rfl ?_
      refine zp_get dX11_take_29 gX11_206_10 k110_0 rfl ?_
      refine zp_pc (pc' := 32) rfl ?_
      refine zn_icmp_ge (tgt := 55) dX11_take_32 (by decide) (by omega) (by omega) (fun c32 => ?_) (fun c32 => ?_)
      · have e109 : k109 = (xs.length - k) := by omega
        subst e109
        rw [eX109]
        exact kk
      · refine zp_aload_n dX11_take_35 rfl ?_
        refine zp_get dX11_take_36 gX11_68_10 k110_0 rfl ?_
        refine zp_iload_n dX11_take_39 rfl ?_
        refine zp_iload_n dX11_take_40 rfl ?_
        refine zn_isub dX11_take_41 (by omega) ?_
        refine zp_aload_n dX11_take_42 rfl ?_
        refine zp_get dX11_take_43 gX11_68_10 k110_0 rfl ?_
        refine zp_iload_n dX11_take_46 rfl ?_
        refine zp_pc (pc' := 47) rfl ?_
        refine zn_iald (j := k + (k109)) dX11_take_47 k110_1 (by omega) (by omega) ?_
        refine zp_i (y := nI ((xs.drop k).getD k109 0)) (by rw [zget_drop]; by_cases q : k = 0 ∧ True; rw [zfl_out (Or.inr (by omega))]; exact le101 _ (by omega); rw [zfl_out (Or.inr (by omega))]; exact le101 _ (by omega)) ?_
        refine zn_iast dX11_take_48 (by omega) k110_1 (by omega) (by omega) ?_
        refine zp_nh (fun h111x eh111x => ?_)
        have k111_0 := (congrFun eh111x (64)).trans ((va_up_ne _ _ (by omega)).trans k110_0)
        have k111_1 : h111x (84) = some (.inr (1000, .inl (va_up (zfl lf101 (0) (k109) (fun i => nI ((xs.drop k).getD i 0))) ((k + (k109)) - (k)) (nI ((xs.drop k).getD k109 0))))) := by rw [eh111x]; exact va_up_self _ _ _
        have k111_2 := (congrFun eh111x (85)).trans ((va_up_ne _ _ (by omega)).trans k110_2)
        have sw112 : zsm hX109 h111x (zon (84)) := zsm.rf.up eh111x rfl
        have zw112 : zsh hX109 h111x := zsh.fill eh111x k110_1
        refine zp_pc (pc' := 49) rfl ?_
        refine zn_iinc 1 (ls' := [some (.ref (64)), some (.int (nI (k))), some (.int (nI (k + (k109) + 1)))]) dX11_take_49 (by decide) (by decide) rfl rfl ?_
        refine zp_goto (tgt := 27) dX11_take_52 (by decide) ?_
        refine zp_pc (pc' := 27) rfl ?_
        refine zp_ls (ls' := [some (.ref (64)), some (.int (nI (k))), some (.int (nI (k + ((k109 + 1)))))]) rfl ?_
        rw [zfl_step eX109 eh111x (by omega) rfl]
        exact ih ((xs.length - k) - (k109 + 1)) (by omega) (k109 + 1) rfl (by omega)
  suffices K109 : zP g mX11_take (zR 0 0 0) Qf 0 0 55 [some (.ref (64)), some (.int (nI (k))), some (.int (nI (k + (xs.length - k))))] [] (va_up hY103 (84) (some (.inr (1000, .inl (zfl lf101 (0) (xs.length - k) (fun i => nI ((xs.drop k).getD i 0))))))) n by
    have q := lp109 K109 ((xs.length - k) - 0) 0 rfl (Nat.zero_le _)
    rw [zfl_0, zup_same k107_1] at q
    exact q
  refine zp_nh (fun hY109 eY109 => ?_)
  have k113_0 := (congrFun eY109 (64)).trans ((va_up_ne _ _ (by omega)).trans k107_0)
  have k113_1 : hY109 (84) = some (.inr (1000, .inl (zfl lf101 (0) (xs.length - k) (fun i => nI ((xs.drop k).getD i 0))))) := by rw [eY109]; exact va_up_self _ _ _
  have k113_2 := (congrFun eY109 (85)).trans ((va_up_ne _ _ (by omega)).trans k107_2)
  have sf114 := (zsm.fill eY109)
  have zf114 := zsh.fill eY109 k107_1
  have hd : (xs.drop k).length = xs.length - k := List.length_drop
  refine zp_aload_n dX11_take_55 rfl ?_
  refine zp_dup dX11_take_56 rfl ?_
  refine zp_get dX11_take_57 gX11_206_10 k113_0 rfl ?_
  refine zp_iload_n dX11_take_60 rfl ?_
  refine zp_pc (pc' := 61) rfl ?_
  refine zn_isub dX11_take_61 (by omega) ?_
  refine zp_i (y := nI ((xs.drop k).length)) (by rw [hd]) ?_
  refine zp_put (fs' := [.int (th), .ref (65), .ref (66), .ref (67), .ref (68), .ref (69), .ref (70), .ref (71), .ref (72), .ref (73), .ref (74), .ref (75), .ref (76), .ref (77), .ref (78), .ref (79), .ref (80), .ref (81), .ref (82), .ref (83), .ref (84), .int (nI ((xs.drop k).length)), .int (nI (zbi un)), .int (rp), .int (wi), .int (pa), .int (be), .int (ru), .int (sa), .int (me), .int (se), .int (ta), .int (fa), .ref (85), .ref (86), .ref (87), .int (nI (mn)), .ref (88), .ref (89), .ref (90), .ref (91), .ref (92), .ref (93), .int (nI (tp)), .ref (94), .int (nI (ou))]) dX11_take_62 pX11_206_10 (by omega) k113_0 (Nat.le_of_ble_eq_true rfl) (zfit_i _) rfl ?_
  refine zp_nh (fun h115x eh115x => ?_)
  have k115_0 : h115x (64) = some (.inl (10, [.int (th), .ref (65), .ref (66), .ref (67), .ref (68), .ref (69), .ref (70), .ref (71), .ref (72), .ref (73), .ref (74), .ref (75), .ref (76), .ref (77), .ref (78), .ref (79), .ref (80), .ref (81), .ref (82), .ref (83), .ref (84), .int (nI ((xs.drop k).length)), .int (nI (zbi un)), .int (rp), .int (wi), .int (pa), .int (be), .int (ru), .int (sa), .int (me), .int (se), .int (ta), .int (fa), .ref (85), .ref (86), .ref (87), .int (nI (mn)), .ref (88), .ref (89), .ref (90), .ref (91), .ref (92), .ref (93), .int (nI (tp)), .ref (94), .int (nI (ou))])) := by rw [eh115x]; exact va_up_self _ _ _
  have k115_1 := (congrFun eh115x (84)).trans ((va_up_ne _ _ (by omega)).trans k113_1)
  have k115_2 := (congrFun eh115x (85)).trans ((va_up_ne _ _ (by omega)).trans k113_2)
  have sw116 : zsm hY109 h115x (zon (64)) := zsm.rf.up eh115x rfl
  have zw116 : zsh hY109 h115x := zsh.obj eh115x k113_0
  refine zp_aload_n dX11_take_65 rfl ?_
  refine zp_dup dX11_take_66 rfl ?_
  refine zp_get dX11_take_67 gX11_209_10 k115_0 rfl ?_
  refine zp_iload_n dX11_take_70 rfl ?_
  refine zp_iadd dX11_take_71 ?_
  refine zp_put (fs' := [.int (th), .ref (65), .ref (66), .ref (67), .ref (68), .ref (69), .ref (70), .ref (71), .ref (72), .ref (73), .ref (74), .ref (75), .ref (76), .ref (77), .ref (78), .ref (79), .ref (80), .ref (81), .ref (82), .ref (83), .ref (84), .int (nI ((xs.drop k).length)), .int (nI (zbi un)), .int (rp), .int (wi), .int (pa), .int (be), .int (ru), .int (sa), .int (me), .int (se), .int ((ta) + (nI (k))), .int (fa), .ref (85), .ref (86), .ref (87), .int (nI (mn)), .ref (88), .ref (89), .ref (90), .ref (91), .ref (92), .ref (93), .int (nI (tp)), .ref (94), .int (nI (ou))]) dX11_take_72 pX11_209_10 (by omega) k115_0 (Nat.le_of_ble_eq_true rfl) (zfit_i _) rfl ?_
  refine zp_nh (fun h117x eh117x => ?_)
  have k117_0 : h117x (64) = some (.inl (10, [.int (th), .ref (65), .ref (66), .ref (67), .ref (68), .ref (69), .ref (70), .ref (71), .ref (72), .ref (73), .ref (74), .ref (75), .ref (76), .ref (77), .ref (78), .ref (79), .ref (80), .ref (81), .ref (82), .ref (83), .ref (84), .int (nI ((xs.drop k).length)), .int (nI (zbi un)), .int (rp), .int (wi), .int (pa), .int (be), .int (ru), .int (sa), .int (me), .int (se), .int ((ta) + (nI (k))), .int (fa), .ref (85), .ref (86), .ref (87), .int (nI (mn)), .ref (88), .ref (89), .ref (90), .ref (91), .ref (92), .ref (93), .int (nI (tp)), .ref (94), .int (nI (ou))])) := by rw [eh117x]; exact va_up_self _ _ _
  have k117_1 := (congrFun eh117x (84)).trans ((va_up_ne _ _ (by omega)).trans k115_1)
  have k117_2 := (congrFun eh117x (85)).trans ((va_up_ne _ _ (by omega)).trans k115_2)
  have sw118 : zsm h115x h117x (zon (64)) := zsm.rf.up eh117x rfl
  have zw118 : zsh h115x h117x := zsh.obj eh117x k115_0
  refine zp_pc (pc' := 75) rfl ?_
  refine zp_ret (v := none) dX11_take_75 ⟨rfl, rfl⟩ (by decide) (by decide) ?_
  rw [hQ]
  exact ⟨rfl, rfl, ((((sf108).mono (fun i hi => by unfold zst3; unfold zon at hi; omega)).trans ((sf114).mono (fun i hi => by unfold zst3; unfold zon at hi; omega))).trans ((sw116).mono (fun i hi => by unfold zst3; unfold zon at hi; omega))).trans ((sw118).mono (fun i hi => by unfold zst3; unfold zon at hi; omega)), (((zf108).trans zf114).trans zw116).trans zw118, k117_0, zar.mk (L := k) k117_2 (by rw [List.length_take]; omega) hk2 (by decide) (fun y hy => lc101 y (List.mem_of_mem_take hy)) (fun j hj => by rw [zfl_in0 hj, ztake_get hj]), zar.mk (L := xs.length - k) k117_1 hd (by have := hx.1; omega) (by decide) (fun y hy => lc101 y (List.mem_of_mem_drop hy)) (fun j hj => zfl_in0 hj)⟩
