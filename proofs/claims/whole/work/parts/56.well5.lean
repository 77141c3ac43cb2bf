theorem zfree_le (Gs : Nat → Option ZGn) : zfree Gs ≤ 4 := by unfold zfree; split <;> (try split) <;> (try split) <;> (try split) <;> decide
set_option maxRecDepth 10000 in
set_option maxHeartbeats 2000000 in
theorem e_freeNumber {g : ZG} {h : ZH} {n : Nat} {lo t : Nat} {A : Nat → Option Nat} {T O : List Nat} {S : ZSup} {Gs : Nat → Option ZGn} (H : zBA lo t h n A (T, O, S, Gs)) : zMt g mX9_freeNumber (zR 0 0 0) [.ref (16)] h n (fun v h' n' => v = some (.int (if zfree Gs = 4 then -1 else nI (zfree Gs))) ∧ h' = h ∧ n' = n) := by
  refine zMt.of [some (.ref (16)), none] (by decide) rfl (Nat.le_of_ble_eq_true rfl) ?_
  obtain ⟨Qf, hQ⟩ : ∃ Qf : ZQ, Qf = (fun v h' n' => v = some (.int (if zfree Gs = 4 then -1 else nI (zfree Gs))) ∧ h' = h ∧ n' = n) := ⟨_, rfl⟩
  rw [← hQ]
  obtain ⟨w0, w1, w2, w3, w4, w5, w6, w7, w8⟩ := id H
  have lT := w1.len
  have lO := w2.len
  have G0 : A 0 ≠ none → Gs 0 ≠ none := fun q => by
    cases hA : A 0 with
    | none => exact absurd hA q
    | some a => obtain ⟨G, eG, -⟩ := H.ge (by decide : 0 < 4) hA; rw [eG]; exact fun q => by cases q
  have G1 : A 1 ≠ none → Gs 1 ≠ none := fun q => by
    cases hA : A 1 with
    | none => exact absurd hA q
    | some a => obtain ⟨G, eG, -⟩ := H.ge (by decide : 1 < 4) hA; rw [eG]; exact fun q => by cases q
  have G2 : A 2 ≠ none → Gs 2 ≠ none := fun q => by
    cases hA : A 2 with
    | none => exact absurd hA q
    | some a => obtain ⟨G, eG, -⟩ := H.ge (by decide : 2 < 4) hA; rw [eG]; exact fun q => by cases q
  have G3 : A 3 ≠ none → Gs 3 ≠ none := fun q => by
    cases hA : A 3 with
    | none => exact absurd hA q
    | some a => obtain ⟨G, eG, -⟩ := H.ge (by decide : 3 < 4) hA; rw [eG]; exact fun q => by cases q
  refine zp_iconst (v := nI (0)) dX9_freeNumber_0 (by decide) ?_
  refine zp_istore_n (ls' := [some (.ref (16)), some (.int (nI (0)))]) dX9_freeNumber_1 (by decide) rfl ?_
  refine zp_pc (pc' := 2) rfl ?_
  refine zp_ls (ls' := [some (.ref (16)), some (.int (nI (0)))]) rfl ?_
  refine zp_iload_n dX9_freeNumber_2 rfl ?_
  refine zp_iconst (v := nI (4)) dX9_freeNumber_3 (by decide) ?_
  refine zp_pc (pc' := 4) rfl ?_
  refine zn_icmp_ge (tgt := 24) dX9_freeNumber_4 (by decide) (by omega) (by omega) (fun c4 => ?_) (fun c4 => ?_)
  · omega
  · refine zp_aload_n dX9_freeNumber_7 rfl ?_
    refine zp_get dX9_freeNumber_8 gX9_37_8 w0 rfl ?_
    refine zp_iload_n dX9_freeNumber_11 rfl ?_
    refine zp_pc (pc' := 12) rfl ?_
    cases hA0 : A 0 with
    | none =>
      have e0 := H.no (by decide : 0 < 4) hA0
      refine zp_aald (v := .null) dX9_freeNumber_12 w6 (by unfold vp_in; decide) (by rw [nI_clamp (by decide), hA0]) ?_
      refine zp_ifnonnullN dX9_freeNumber_13 ?_
      refine zp_iload_n dX9_freeNumber_16 rfl ?_
      refine zp_pc (pc' := 17) rfl ?_
      have ef : zfree Gs = 0 := by unfold zfree; rw [if_pos e0]
      refine zp_ret (v := (some (.int (nI (0))))) dX9_freeNumber_17 ⟨⟨_, rfl, rfl⟩, rfl⟩ (by decide) (by decide) ?_
      rw [hQ]
      exact ⟨by rw [ef]; rfl, rfl, rfl⟩
    | some a =>
      have e0 := G0 (by rw [hA0]; exact fun q => by cases q)
      refine zp_aald (v := .ref (a)) dX9_freeNumber_12 w6 (by unfold vp_in; decide) (by rw [nI_clamp (by decide), hA0]) ?_
      refine zp_ifnonnull (tgt := 18) dX9_freeNumber_13 (by decide) ?_
      refine zp_pc (pc' := 18) rfl ?_
      refine zn_iinc 1 (ls' := [some (.ref (16)), some (.int (nI (0 + 1)))]) dX9_freeNumber_18 (by decide) (by decide) rfl rfl ?_
      refine zp_goto (tgt := 2) dX9_freeNumber_21 (by decide) ?_
      refine zp_pc (pc' := 2) rfl ?_
      refine zp_ls (ls' := [some (.ref (16)), some (.int (nI (1)))]) rfl ?_
      refine zp_iload_n dX9_freeNumber_2 rfl ?_
      refine zp_iconst (v := nI (4)) dX9_freeNumber_3 (by decide) ?_
      refine zp_pc (pc' := 4) rfl ?_
      refine zn_icmp_ge (tgt := 24) dX9_freeNumber_4 (by decide) (by omega) (by omega) (fun c4 => ?_) (fun c4 => ?_)
      · omega
      · refine zp_aload_n dX9_freeNumber_7 rfl ?_
        refine zp_get dX9_freeNumber_8 gX9_37_8 w0 rfl ?_
        refine zp_iload_n dX9_freeNumber_11 rfl ?_
        refine zp_pc (pc' := 12) rfl ?_
        cases hA1 : A 1 with
        | none =>
          have e1 := H.no (by decide : 1 < 4) hA1
          refine zp_aald (v := .null) dX9_freeNumber_12 w6 (by unfold vp_in; decide) (by rw [nI_clamp (by decide), hA1]) ?_
          refine zp_ifnonnullN dX9_freeNumber_13 ?_
          refine zp_iload_n dX9_freeNumber_16 rfl ?_
          refine zp_pc (pc' := 17) rfl ?_
          have ef : zfree Gs = 1 := by unfold zfree; rw [if_neg e0, if_pos e1]
          refine zp_ret (v := (some (.int (nI (1))))) dX9_freeNumber_17 ⟨⟨_, rfl, rfl⟩, rfl⟩ (by decide) (by decide) ?_
          rw [hQ]
          exact ⟨by rw [ef]; rfl, rfl, rfl⟩
        | some a =>
          have e1 := G1 (by rw [hA1]; exact fun q => by cases q)
          refine zp_aald (v := .ref (a)) dX9_freeNumber_12 w6 (by unfold vp_in; decide) (by rw [nI_clamp (by decide), hA1]) ?_
          refine zp_ifnonnull (tgt := 18) dX9_freeNumber_13 (by decide) ?_
          refine zp_pc (pc' := 18) rfl ?_
          refine zn_iinc 1 (ls' := [some (.ref (16)), some (.int (nI (1 + 1)))]) dX9_freeNumber_18 (by decide) (by decide) rfl rfl ?_
          refine zp_goto (tgt := 2) dX9_freeNumber_21 (by decide) ?_
          refine zp_pc (pc' := 2) rfl ?_
          refine zp_ls (ls' := [some (.ref (16)), some (.int (nI (2)))]) rfl ?_
          refine zp_iload_n dX9_freeNumber_2 rfl ?_
          refine zp_iconst (v := nI (4)) dX9_freeNumber_3 (by decide) ?_
          refine zp_pc (pc' := 4) rfl ?_
          refine zn_icmp_ge (tgt := 24) dX9_freeNumber_4 (by decide) (by omega) (by omega) (fun c4 => ?_) (fun c4 => ?_)
          · omega
          · refine zp_aload_n dX9_freeNumber_7 rfl ?_
            refine zp_get dX9_freeNumber_8 gX9_37_8 w0 rfl ?_
            refine zp_iload_n dX9_freeNumber_11 rfl ?_
            refine zp_pc (pc' := 12) rfl ?_
            cases hA2 : A 2 with
            | none =>
              have e2 := H.no (by decide : 2 < 4) hA2
              refine zp_aald (v := .null) dX9_freeNumber_12 w6 (by unfold vp_in; decide) (by rw [nI_clamp (by decide), hA2]) ?_
              refine zp_ifnonnullN dX9_freeNumber_13 ?_
              refine zp_iload_n dX9_freeNumber_16 rfl ?_
              refine zp_pc (pc' := 17) rfl ?_
              have ef : zfree Gs = 2 := by unfold zfree; rw [if_neg e0, if_neg e1, if_pos e2]
              refine zp_ret (v := (some (.int (nI (2))))) dX9_freeNumber_17 ⟨⟨_, rfl, rfl⟩, rfl⟩ (by decide) (by decide) ?_
              rw [hQ]
              exact ⟨by rw [ef]; rfl, rfl, rfl⟩
            | some a =>
              have e2 := G2 (by rw [hA2]; exact fun q => by cases q)
              refine zp_aald (v := .ref (a)) dX9_freeNumber_12 w6 (by unfold vp_in; decide) (by rw [nI_clamp (by decide), hA2]) ?_
              refine zp_ifnonnull (tgt := 18) dX9_freeNumber_13 (by decide) ?_
              refine zp_pc (pc' := 18) rfl ?_
              refine zn_iinc 1 (ls' := [some (.ref (16)), some (.int (nI (2 + 1)))]) dX9_freeNumber_18 (by decide) (by decide) rfl rfl ?_
              refine zp_goto (tgt := 2) dX9_freeNumber_21 (by decide) ?_
              refine zp_pc (pc' := 2) rfl ?_
              refine zp_ls (ls' := [some (.ref (16)), some (.int (nI (3)))]) rfl ?_
              refine zp_iload_n dX9_freeNumber_2 rfl ?_
              refine zp_iconst (v := nI (4)) dX9_freeNumber_3 (by decide) ?_
              refine zp_pc (pc' := 4) rfl ?_
              refine zn_icmp_ge (tgt := 24) dX9_freeNumber_4 (by decide) (by omega) (by omega) (fun c4 => ?_) (fun c4 => ?_)
              · omega
              · refine zp_aload_n dX9_freeNumber_7 rfl ?_
                refine zp_get dX9_freeNumber_8 gX9_37_8 w0 rfl ?_
                refine zp_iload_n dX9_freeNumber_11 rfl ?_
                refine zp_pc (pc' := 12) rfl ?_
                cases hA3 : A 3 with
                | none =>
                  have e3 := H.no (by decide : 3 < 4) hA3
                  refine zp_aald (v := .null) dX9_freeNumber_12 w6 (by unfold vp_in; decide) (by rw [nI_clamp (by decide), hA3]) ?_
                  refine zp_ifnonnullN dX9_freeNumber_13 ?_
                  refine zp_iload_n dX9_freeNumber_16 rfl ?_
                  refine zp_pc (pc' := 17) rfl ?_
                  have ef : zfree Gs = 3 := by unfold zfree; rw [if_neg e0, if_neg e1, if_neg e2, if_pos e3]
                  refine zp_ret (v := (some (.int (nI (3))))) dX9_freeNumber_17 ⟨⟨_, rfl, rfl⟩, rfl⟩ (by decide) (by decide) ?_
                  rw [hQ]
                  exact ⟨by rw [ef]; rfl, rfl, rfl⟩
                | some a =>
                  have e3 := G3 (by rw [hA3]; exact fun q => by cases q)
                  refine zp_aald (v := .ref (a)) dX9_freeNumber_12 w6 (by unfold vp_in; decide) (by rw [nI_clamp (by decide), hA3]) ?_
                  refine zp_ifnonnull (tgt := 18) dX9_freeNumber_13 (by decide) ?_
                  refine zp_pc (pc' := 18) rfl ?_
                  refine zn_iinc 1 (ls' := [some (.ref (16)), some (.int (nI (3 + 1)))]) dX9_freeNumber_18 (by decide) (by decide) rfl rfl ?_
                  refine zp_goto (tgt := 2) dX9_freeNumber_21 (by decide) ?_
                  refine zp_pc (pc' := 2) rfl ?_
                  refine zp_ls (ls' := [some (.ref (16)), some (.int (nI (4)))]) rfl ?_
                  refine zp_iload_n dX9_freeNumber_2 rfl ?_
                  refine zp_iconst (v := nI (4)) dX9_freeNumber_3 (by decide) ?_
                  refine zp_pc (pc' := 4) rfl ?_
                  refine zn_icmp_ge (tgt := 24) dX9_freeNumber_4 (by decide) (by omega) (by omega) (fun c4 => ?_) (fun c4 => ?_)
                  · refine zp_iconst (v := (-1)) dX9_freeNumber_24 (by decide) ?_
                    refine zp_pc (pc' := 25) rfl ?_
                    have ef : zfree Gs = 4 := by unfold zfree; rw [if_neg e0, if_neg e1, if_neg e2, if_neg e3]
                    refine zp_ret (v := (some (.int ((-1))))) dX9_freeNumber_25 ⟨⟨_, rfl, rfl⟩, rfl⟩ (by decide) (by decide) ?_
                    rw [hQ]
                    exact ⟨by rw [ef]; rfl, rfl, rfl⟩
                  · omega
set_option maxRecDepth 10000 in
set_option maxHeartbeats 2000000 in
theorem e_strongest {g : ZG} {h : ZH} {n : Nat} {kd : Nat} (ht : ztab h) (hk : kd < 8) : zMt g mX5_strongest (zR 0 0 0) [.int (nI (kd))] h n (fun v h' n' => v = some (.int (nI (zstrong kd))) ∧ h' = h ∧ n' = n) := by
  refine zMt.of [some (.int (nI (kd)))] (by decide) rfl (Nat.le_of_ble_eq_true rfl) ?_
  refine zp_iload_n dX5_strongest_0 rfl ?_
  refine zp_pc (pc' := 1) rfl ?_
  refine zn_if_lt (tgt := 18) dX5_strongest_1 (by decide) (by omega) ?_
  refine zp_iload_n dX5_strongest_4 rfl ?_
  refine zp_bipush (v := nI (8)) dX5_strongest_5 (by decide) ?_
  refine zp_pc (pc' := 7) rfl ?_
  refine zn_icmp_ge (tgt := 18) dX5_strongest_7 (by decide) (by omega) (by omega) (fun c7 => ?_) (fun c7 => ?_)
  · exact absurd c7 (by omega)
  · refine zp_gets dX5_strongest_10 sX5_59 ?_
    refine zp_iload_n dX5_strongest_13 rfl ?_
    refine zp_pc (pc' := 14) rfl ?_
    refine zn_iald (j := kd) dX5_strongest_14 ht.2.2.2.2.2.2.1 (by omega) (by omega) ?_
    refine zp_i (y := nI (zstrong kd)) (zstrong_tab hk) ?_
    refine zp_goto (tgt := 19) dX5_strongest_15 (by decide) ?_
    refine zp_pc (pc' := 19) rfl ?_
    refine zp_ret (v := (some (.int (nI (zstrong kd))))) dX5_strongest_19 ⟨⟨_, rfl, rfl⟩, rfl⟩ (by decide) (by decide) ?_
    exact ⟨rfl, rfl, rfl⟩
set_option maxRecDepth 10000 in
set_option maxHeartbeats 2000000 in
theorem e_least {g : ZG} {h : ZH} {n : Nat} {s : Nat} (ht : ztab h) (hs : s ≤ 256) : zMt g mX5_leastStrength (zR 0 0 0) [.int (nI (s))] h n (fun v h' n' => v = some (.int (nI (zleast s))) ∧ h' = h ∧ n' = n) := by
  refine zMt.of [some (.int (nI (s))), none] (by decide) rfl (Nat.le_of_ble_eq_true rfl) ?_
  refine zp_iconst (v := nI (0)) dX5_leastStrength_0 (by decide) ?_
  refine zp_istore_n (ls' := [some (.int (nI (s))), some (.int (nI (0)))]) dX5_leastStrength_1 (by decide) rfl ?_
  refine zp_pc (pc' := 2) rfl ?_
  refine zp_ls (ls' := [some (.int (nI (s))), some (.int (nI (0)))]) rfl ?_
  refine zp_iload_n dX5_leastStrength_2 rfl ?_
  refine zp_gets dX5_leastStrength_3 sX5_63 ?_
  refine zp_ilen dX5_leastStrength_6 ht.2.2.2.2.2.1 ?_
  refine zp_pc (pc' := 7) rfl ?_
  refine zn_icmp_ge (tgt := 31) dX5_leastStrength_7 (by decide) (by omega) (by omega) (fun c7 => ?_) (fun c7 => ?_)
  · omega
  · refine zp_gets dX5_leastStrength_10 sX5_63 ?_
    refine zp_iload_n dX5_leastStrength_13 rfl ?_
    refine zp_pc (pc' := 14) rfl ?_
    refine zn_iald (j := 0) dX5_leastStrength_14 ht.2.2.2.2.2.1 (by omega) (by omega) ?_
    refine zp_i (y := nI (112)) rfl ?_
    refine zp_iload_n dX5_leastStrength_15 rfl ?_
    refine zp_pc (pc' := 16) rfl ?_
    refine zn_icmp_lt (tgt := 25) dX5_leastStrength_16 (by decide) (by omega) (by omega) (fun c16 => ?_) (fun c16 => ?_)
    · refine zp_pc (pc' := 25) rfl ?_
      refine zn_iinc 1 (ls' := [some (.int (nI (s))), some (.int (nI (0 + 1)))]) dX5_leastStrength_25 (by decide) (by decide) rfl rfl ?_
      refine zp_goto (tgt := 2) dX5_leastStrength_28 (by decide) ?_
      refine zp_pc (pc' := 2) rfl ?_
      refine zp_ls (ls' := [some (.int (nI (s))), some (.int (nI (1)))]) rfl ?_
      refine zp_iload_n dX5_leastStrength_2 rfl ?_
      refine zp_gets dX5_leastStrength_3 sX5_63 ?_
      refine zp_ilen dX5_leastStrength_6 ht.2.2.2.2.2.1 ?_
      refine zp_pc (pc' := 7) rfl ?_
      refine zn_icmp_ge (tgt := 31) dX5_leastStrength_7 (by decide) (by omega) (by omega) (fun c7 => ?_) (fun c7 => ?_)
      · omega
      · refine zp_gets dX5_leastStrength_10 sX5_63 ?_
        refine zp_iload_n dX5_leastStrength_13 rfl ?_
        refine zp_pc (pc' := 14) rfl ?_
        refine zn_iald (j := 1) dX5_leastStrength_14 ht.2.2.2.2.2.1 (by omega) (by omega) ?_
        refine zp_i (y := nI (128)) rfl ?_
        refine zp_iload_n dX5_leastStrength_15 rfl ?_
        refine zp_pc (pc' := 16) rfl ?_
        refine zn_icmp_lt (tgt := 25) dX5_leastStrength_16 (by decide) (by omega) (by omega) (fun c16 => ?_) (fun c16 => ?_)
        · refine zp_pc (pc' := 25) rfl ?_
          refine zn_iinc 1 (ls' := [some (.int (nI (s))), some (.int (nI (1 + 1)))]) dX5_leastStrength_25 (by decide) (by decide) rfl rfl ?_
          refine zp_goto (tgt := 2) dX5_leastStrength_28 (by decide) ?_
          refine zp_pc (pc' := 2) rfl ?_
          refine zp_ls (ls' := [some (.int (nI (s))), some (.int (nI (2)))]) rfl ?_
          refine zp_iload_n dX5_leastStrength_2 rfl ?_
          refine zp_gets dX5_leastStrength_3 sX5_63 ?_
          refine zp_ilen dX5_leastStrength_6 ht.2.2.2.2.2.1 ?_
          refine zp_pc (pc' := 7) rfl ?_
          refine zn_icmp_ge (tgt := 31) dX5_leastStrength_7 (by decide) (by omega) (by omega) (fun c7 => ?_) (fun c7 => ?_)
          · omega
          · refine zp_gets dX5_leastStrength_10 sX5_63 ?_
            refine zp_iload_n dX5_leastStrength_13 rfl ?_
            refine zp_pc (pc' := 14) rfl ?_
            refine zn_iald (j := 2) dX5_leastStrength_14 ht.2.2.2.2.2.1 (by omega) (by omega) ?_
            refine zp_i (y := nI (192)) rfl ?_
            refine zp_iload_n dX5_leastStrength_15 rfl ?_
            refine zp_pc (pc' := 16) rfl ?_
            refine zn_icmp_lt (tgt := 25) dX5_leastStrength_16 (by decide) (by omega) (by omega) (fun c16 => ?_) (fun c16 => ?_)
            · refine zp_pc (pc' := 25) rfl ?_
              refine zn_iinc 1 (ls' := [some (.int (nI (s))), some (.int (nI (2 + 1)))]) dX5_leastStrength_25 (by decide) (by decide) rfl rfl ?_
              refine zp_goto (tgt := 2) dX5_leastStrength_28 (by decide) ?_
              refine zp_pc (pc' := 2) rfl ?_
              refine zp_ls (ls' := [some (.int (nI (s))), some (.int (nI (3)))]) rfl ?_
              refine zp_iload_n dX5_leastStrength_2 rfl ?_
              refine zp_gets dX5_leastStrength_3 sX5_63 ?_
              refine zp_ilen dX5_leastStrength_6 ht.2.2.2.2.2.1 ?_
              refine zp_pc (pc' := 7) rfl ?_
              refine zn_icmp_ge (tgt := 31) dX5_leastStrength_7 (by decide) (by omega) (by omega) (fun c7 => ?_) (fun c7 => ?_)
              · omega
              · refine zp_gets dX5_leastStrength_10 sX5_63 ?_
                refine zp_iload_n dX5_leastStrength_13 rfl ?_
                refine zp_pc (pc' := 14) rfl ?_
                refine zn_iald (j := 3) dX5_leastStrength_14 ht.2.2.2.2.2.1 (by omega) (by omega) ?_
                refine zp_i (y := nI (256)) rfl ?_
                refine zp_iload_n dX5_leastStrength_15 rfl ?_
                refine zp_pc (pc' := 16) rfl ?_
                refine zn_icmp_lt (tgt := 25) dX5_leastStrength_16 (by decide) (by omega) (by omega) (fun c16 => ?_) (fun c16 => ?_)
                · omega
                · refine zp_gets dX5_leastStrength_19 sX5_63 ?_
                  refine zp_iload_n dX5_leastStrength_22 rfl ?_
                  refine zp_pc (pc' := 23) rfl ?_
                  refine zn_iald (j := 3) dX5_leastStrength_23 ht.2.2.2.2.2.1 (by omega) (by omega) ?_
                  refine zp_i (y := nI (256)) rfl ?_
                  have e : zleast s = 256 := by unfold zleast; rw [if_neg (by omega), if_neg (by omega), if_neg (by omega)]
                  refine zp_ret (v := (some (.int (nI (256))))) dX5_leastStrength_24 ⟨⟨_, rfl, rfl⟩, rfl⟩ (by decide) (by decide) ?_
                  exact ⟨by rw [e], rfl, rfl⟩
            · refine zp_gets dX5_leastStrength_19 sX5_63 ?_
              refine zp_iload_n dX5_leastStrength_22 rfl ?_
              refine zp_pc (pc' := 23) rfl ?_
              refine zn_iald (j := 2) dX5_leastStrength_23 ht.2.2.2.2.2.1 (by omega) (by omega) ?_
              refine zp_i (y := nI (192)) rfl ?_
              have e : zleast s = 192 := by unfold zleast; rw [if_neg (by omega), if_neg (by omega), if_pos (by omega)]
              refine zp_ret (v := (some (.int (nI (192))))) dX5_leastStrength_24 ⟨⟨_, rfl, rfl⟩, rfl⟩ (by decide) (by decide) ?_
              exact ⟨by rw [e], rfl, rfl⟩
        · refine zp_gets dX5_leastStrength_19 sX5_63 ?_
          refine zp_iload_n dX5_leastStrength_22 rfl ?_
          refine zp_pc (pc' := 23) rfl ?_
          refine zn_iald (j := 1) dX5_leastStrength_23 ht.2.2.2.2.2.1 (by omega) (by omega) ?_
          refine zp_i (y := nI (128)) rfl ?_
          have e : zleast s = 128 := by unfold zleast; rw [if_neg (by omega), if_pos (by omega)]
          refine zp_ret (v := (some (.int (nI (128))))) dX5_leastStrength_24 ⟨⟨_, rfl, rfl⟩, rfl⟩ (by decide) (by decide) ?_
          exact ⟨by rw [e], rfl, rfl⟩
    · refine zp_gets dX5_leastStrength_19 sX5_63 ?_
      refine zp_iload_n dX5_leastStrength_22 rfl ?_
      refine zp_pc (pc' := 23) rfl ?_
      refine zn_iald (j := 0) dX5_leastStrength_23 ht.2.2.2.2.2.1 (by omega) (by omega) ?_
      refine zp_i (y := nI (112)) rfl ?_
      have e : zleast s = 112 := by unfold zleast; rw [if_pos (by omega)]
      refine zp_ret (v := (some (.int (nI (112))))) dX5_leastStrength_24 ⟨⟨_, rfl, rfl⟩, rfl⟩ (by decide) (by decide) ?_
      exact ⟨by rw [e], rfl, rfl⟩
set_option maxRecDepth 10000 in
set_option maxHeartbeats 2000000 in
theorem e_make {g : ZG} {h : ZH} {n : Nat} {kd sg : Nat} {r : Bool} {iv : Nat} (w0 : h 16 = some zwc) (w4 : zdk h) (hn : 64 ≤ n) (hk : kd < 8) (b3 : sg ≤ 256) (b4 : iv ≤ 100000) : zMt g mX9_makeGenerator (zR 4 5 239) [.ref (16), .int (nI (kd)), .int (nI (sg)), .int (nI (zbi r)), .int (nI (iv))] h n (fun v h' n' => v = some (.ref n) ∧ n' = n + 5 ∧ zsm h h' (zbt n (n + 4)) ∧ zgen h' n 0 (kd, sg, r, iv, 0, nI 0, 0, [], [])) := by
  refine zMt.of [some (.ref (16)), some (.int (nI (kd))), some (.int (nI (sg))), some (.int (nI (zbi r))), some (.int (nI (iv)))] (by decide) rfl (Nat.le_of_ble_eq_true rfl) ?_
  obtain ⟨Qf, hQ⟩ : ∃ Qf : ZQ, Qf = (fun v h' n' => v = some (.ref n) ∧ n' = n + 5 ∧ zsm h h' (zbt n (n + 4)) ∧ zgen h' n 0 (kd, sg, r, iv, 0, nI 0, 0, [], [])) := ⟨_, rfl⟩
  rw [← hQ]
  refine zp_iload_n dX9_makeGenerator_0 rfl ?_
  refine zp_iconst (v := nI (2)) dX9_makeGenerator_1 (by decide) ?_
  refine zp_pc (pc' := 2) rfl ?_
  refine zn_icmp_ge (tgt := 22) dX9_makeGenerator_2 (by decide) (by omega) (by omega) (fun c2 => ?_) (fun c2 => ?_)
  · refine zp_iload_n dX9_makeGenerator_22 rfl ?_
    refine zp_iconst (v := nI (4)) dX9_makeGenerator_23 (by decide) ?_
    refine zp_pc (pc' := 24) rfl ?_
    refine zn_icmp_ge (tgt := 44) dX9_makeGenerator_24 (by decide) (by omega) (by omega) (fun c24 => ?_) (fun c24 => ?_)
    · refine zp_pc (pc' := 44) rfl ?_
      refine zp_new dX9_makeGenerator_44 nX9_191 (Nat.le_of_ble_eq_true rfl) (Nat.le_of_ble_eq_true rfl) ?_
      refine zp_nn (cells' := 1) (slots' := 13) (n' := n + 1) (st' := [.ref (n)]) rfl rfl rfl rfl ?_
      refine zp_nh (fun h1x eh1x => ?_)
      have k1_0 := (congrFun eh1x (16)).trans ((va_up_ne _ _ (by omega)).trans w0)
      have k1_1 : h1x (n) = some (.inl (1, [.int (0), .int (0), .int (0), .null, .null, .null, .int (0), .int (0), .int (0), .int (0), .int (0), .null, .int (0)])) := by rw [eh1x]; exact va_up_self _ _ _
      have sw2 : zsm h h1x (zon (n)) := zsm.rf.up eh1x rfl
      have y3_0 : zdk h1x := w4.off sw2 (fun i hi => by unfold zon at hi; omega)
      refine zp_dup dX9_makeGenerator_47 rfl ?_
      refine zp_iload_n dX9_makeGenerator_48 rfl ?_
      refine zp_iload_n dX9_makeGenerator_49 rfl ?_
      refine zp_iload_n dX9_makeGenerator_50 rfl ?_
      refine zp_iload dX9_makeGenerator_51 rfl ?_
      refine zp_aload_n dX9_makeGenerator_53 rfl ?_
      refine zp_get dX9_makeGenerator_54 gX9_31_8 k1_0 rfl ?_
      refine zp_pc (pc' := 57) rfl ?_
      refine zp_callI (As := [.int (nI (kd)), .int (nI (sg)), .int (nI (zbi r)), .int (nI (iv)), .ref (26)]) (k := n) (st := [.ref (n)]) dX9_makeGenerator_57 cX9_193 rfl (e_gnew1 rfl hn (by omega) b3 b4 y3_0 k1_1) (by decide) (by decide) (Nat.le_of_ble_eq_true rfl) (fun v4 h4 n4 q4 => ?_)
      obtain ⟨rfl, N4, s4, g4⟩ := q4
      rw [N4]
      refine zp_nn (cells' := 5) (slots' := 239) (n' := n + 5) (st' := [.ref (n)]) rfl rfl rfl rfl ?_
      refine zp_ret (v := (some (.ref (n)))) dX9_makeGenerator_60 ⟨⟨_, rfl⟩, rfl⟩ (Nat.le_of_ble_eq_true rfl) (Nat.le_of_ble_eq_true rfl) ?_
      rw [hQ]
      exact ⟨rfl, rfl, ((sw2).mono (fun i hi => by unfold zbt; unfold zon at hi; omega)).trans ((s4).mono (fun i hi => by unfold zbt; unfold zbt at hi; omega)), g4⟩
    · refine zp_pc (pc' := 27) rfl ?_
      refine zp_new dX9_makeGenerator_27 nX9_188 (Nat.le_of_ble_eq_true rfl) (Nat.le_of_ble_eq_true rfl) ?_
      refine zp_nn (cells' := 1) (slots' := 12) (n' := n + 1) (st' := [.ref (n)]) rfl rfl rfl rfl ?_
      refine zp_nh (fun h5x eh5x => ?_)
      have k5_0 := (congrFun eh5x (16)).trans ((va_up_ne _ _ (by omega)).trans w0)
      have k5_1 : h5x (n) = some (.inl (5, [.int (0), .int (0), .int (0), .null, .null, .null, .int (0), .int (0), .int (0), .int (0), .int (0), .null])) := by rw [eh5x]; exact va_up_self _ _ _
      have sw6 : zsm h h5x (zon (n)) := zsm.rf.up eh5x rfl
      have y7_0 : zdk h5x := w4.off sw6 (fun i hi => by unfold zon at hi; omega)
      refine zp_dup dX9_makeGenerator_30 rfl ?_
      refine zp_iload_n dX9_makeGenerator_31 rfl ?_
      refine zp_iload_n dX9_makeGenerator_32 rfl ?_
      refine zp_iload_n dX9_makeGenerator_33 rfl ?_
      refine zp_iload dX9_makeGenerator_34 rfl ?_
      refine zp_aload_n dX9_makeGenerator_36 rfl ?_
      refine zp_get dX9_makeGenerator_37 gX9_31_8 k5_0 rfl ?_
      refine zp_pc (pc' := 40) rfl ?_
      refine zp_callI (As := [.int (nI (kd)), .int (nI (sg)), .int (nI (zbi r)), .int (nI (iv)), .ref (26)]) (k := n) (st := [.ref (n)]) dX9_makeGenerator_40 cX9_190 rfl (e_gnew5 rfl hn (by omega) b3 b4 y7_0 k5_1) (by decide) (by decide) (Nat.le_of_ble_eq_true rfl) (fun v8 h8 n8 q8 => ?_)
      obtain ⟨rfl, N8, s8, g8⟩ := q8
      rw [N8]
      refine zp_nn (cells' := 5) (slots' := 238) (n' := n + 5) (st' := [.ref (n)]) rfl rfl rfl rfl ?_
      refine zp_ret (v := (some (.ref (n)))) dX9_makeGenerator_43 ⟨⟨_, rfl⟩, rfl⟩ (Nat.le_of_ble_eq_true rfl) (Nat.le_of_ble_eq_true rfl) ?_
      rw [hQ]
      exact ⟨rfl, rfl, ((sw6).mono (fun i hi => by unfold zbt; unfold zon at hi; omega)).trans ((s8).mono (fun i hi => by unfold zbt; unfold zbt at hi; omega)), g8⟩
  · refine zp_pc (pc' := 5) rfl ?_
    refine zp_new dX9_makeGenerator_5 nX9_183 (Nat.le_of_ble_eq_true rfl) (Nat.le_of_ble_eq_true rfl) ?_
    refine zp_nn (cells' := 1) (slots' := 12) (n' := n + 1) (st' := [.ref (n)]) rfl rfl rfl rfl ?_
    refine zp_nh (fun h9x eh9x => ?_)
    have k9_0 := (congrFun eh9x (16)).trans ((va_up_ne _ _ (by omega)).trans w0)
    have k9_1 : h9x (n) = some (.inl (4, [.int (0), .int (0), .int (0), .null, .null, .null, .int (0), .int (0), .int (0), .int (0), .int (0), .null])) := by rw [eh9x]; exact va_up_self _ _ _
    have sw10 : zsm h h9x (zon (n)) := zsm.rf.up eh9x rfl
    have y11_0 : zdk h9x := w4.off sw10 (fun i hi => by unfold zon at hi; omega)
    refine zp_dup dX9_makeGenerator_8 rfl ?_
    refine zp_iload_n dX9_makeGenerator_9 rfl ?_
    refine zp_iload_n dX9_makeGenerator_10 rfl ?_
    refine zp_iload_n dX9_makeGenerator_11 rfl ?_
    refine zp_iload dX9_makeGenerator_12 rfl ?_
    refine zp_aload_n dX9_makeGenerator_14 rfl ?_
    refine zp_get dX9_makeGenerator_15 gX9_31_8 k9_0 rfl ?_
    refine zp_pc (pc' := 18) rfl ?_
    refine zp_callI (As := [.int (nI (kd)), .int (nI (sg)), .int (nI (zbi r)), .int (nI (iv)), .ref (26)]) (k := n) (st := [.ref (n)]) dX9_makeGenerator_18 cX9_185 rfl (e_gnew4 rfl hn (by omega) b3 b4 y11_0 k9_1) (by decide) (by decide) (Nat.le_of_ble_eq_true rfl) (fun v12 h12 n12 q12 => ?_)
    obtain ⟨rfl, N12, s12, g12⟩ := q12
    rw [N12]
    refine zp_nn (cells' := 5) (slots' := 238) (n' := n + 5) (st' := [.ref (n)]) rfl rfl rfl rfl ?_
    refine zp_ret (v := (some (.ref (n)))) dX9_makeGenerator_21 ⟨⟨_, rfl⟩, rfl⟩ (Nat.le_of_ble_eq_true rfl) (Nat.le_of_ble_eq_true rfl) ?_
    rw [hQ]
    exact ⟨rfl, rfl, ((sw10).mono (fun i hi => by unfold zbt; unfold zon at hi; omega)).trans ((s12).mono (fun i hi => by unfold zbt; unfold zbt at hi; omega)), g12⟩
