set_option maxRecDepth 10000 in
set_option maxHeartbeats 2000000 in
theorem e_openNone {g : ZG} {h : ZH} {n : Nat} {lo t : Nat} {A : Nat → Option Nat} {T O : List Nat} {S : ZSup} {Gs : Nat → Option ZGn} {x : Int32} (H : zBA lo t h n A (T, O, S, Gs)) (hz : zat4 A x = none) : zMt g mX9_openOne (zR 0 0 0) [.ref (16), .int (x)] h n (fun v h' n' => v = some .null ∧ h' = h ∧ n' = n) := by
  refine zMt.of [some (.ref (16)), some (.int (x))] (by decide) rfl (Nat.le_of_ble_eq_true rfl) ?_
  obtain ⟨Qf, hQ⟩ : ∃ Qf : ZQ, Qf = (fun v h' n' => v = some .null ∧ h' = h ∧ n' = n) := ⟨_, rfl⟩
  rw [← hQ]
  obtain ⟨w0, w1, w2, w3, w4, w5, w6, w7, w8⟩ := id H
  have lT := w1.len
  have lO := w2.len
  refine zp_iload_n dX9_openOne_0 rfl ?_
  refine zp_pc (pc' := 1) rfl ?_
  refine zp_if_lt (tgt := 18) dX9_openOne_1 (by decide) (fun c1 => ?_) (fun c1 => ?_)
  · refine zp_null dX9_openOne_18 ?_
    refine zp_pc (pc' := 19) rfl ?_
    refine zp_ret (v := (some (.null))) dX9_openOne_19 ⟨⟨_, rfl⟩, rfl⟩ (by decide) (by decide) ?_
    rw [hQ]
    exact ⟨rfl, rfl, rfl⟩
  · refine zp_iload_n dX9_openOne_4 rfl ?_
    refine zp_iconst (v := nI (4)) dX9_openOne_5 (by decide) ?_
    refine zp_pc (pc' := 6) rfl ?_
    refine zp_icmp_ge (tgt := 18) dX9_openOne_6 (by decide) (fun c6 => ?_) (fun c6 => ?_)
    · refine zp_null dX9_openOne_18 ?_
      refine zp_pc (pc' := 19) rfl ?_
      refine zp_ret (v := (some (.null))) dX9_openOne_19 ⟨⟨_, rfl⟩, rfl⟩ (by decide) (by decide) ?_
      rw [hQ]
      exact ⟨rfl, rfl, rfl⟩
    · obtain ⟨j, j31, rfl⟩ := nI_of c1
      have hj : j < 4 := Nat.not_le.mp (fun q => c6 (nI_le q j31))
      rw [zat4_nI hj] at hz
      refine zp_aload_n dX9_openOne_9 rfl ?_
      refine zp_get dX9_openOne_10 gX9_37_8 w0 rfl ?_
      refine zp_iload_n dX9_openOne_13 rfl ?_
      refine zp_pc (pc' := 14) rfl ?_
      refine zp_aald (v := .null) dX9_openOne_14 w6 (by unfold vp_in; rw [nI_clamp (by omega)]; exact fun q => q.elim (nI_pos (by omega)) (fun q => by omega)) (by rw [nI_clamp j31, hz]) ?_
      refine zp_goto (tgt := 19) dX9_openOne_15 (by decide) ?_
      refine zp_pc (pc' := 19) rfl ?_
      refine zp_ret (v := (some (.null))) dX9_openOne_19 ⟨⟨_, rfl⟩, rfl⟩ (by decide) (by decide) ?_
      rw [hQ]
      exact ⟨rfl, rfl, rfl⟩
set_option maxRecDepth 10000 in
set_option maxHeartbeats 2000000 in
theorem e_openSome {g : ZG} {h : ZH} {n : Nat} {lo t : Nat} {A : Nat → Option Nat} {T O : List Nat} {S : ZSup} {Gs : Nat → Option ZGn} {j a : Nat} (H : zBA lo t h n A (T, O, S, Gs)) (hj : j < 4) (hz : A j = some a) : zMt g mX9_openOne (zR 0 0 0) [.ref (16), .int (nI (j))] h n (fun v h' n' => v = some (.ref a) ∧ h' = h ∧ n' = n) := by
  refine zMt.of [some (.ref (16)), some (.int (nI (j)))] (by decide) rfl (Nat.le_of_ble_eq_true rfl) ?_
  obtain ⟨Qf, hQ⟩ : ∃ Qf : ZQ, Qf = (fun v h' n' => v = some (.ref a) ∧ h' = h ∧ n' = n) := ⟨_, rfl⟩
  rw [← hQ]
  obtain ⟨w0, w1, w2, w3, w4, w5, w6, w7, w8⟩ := id H
  have lT := w1.len
  have lO := w2.len
  refine zp_iload_n dX9_openOne_0 rfl ?_
  refine zp_pc (pc' := 1) rfl ?_
  refine zn_if_lt (tgt := 18) dX9_openOne_1 (by decide) (by omega) ?_
  refine zp_iload_n dX9_openOne_4 rfl ?_
  refine zp_iconst (v := nI (4)) dX9_openOne_5 (by decide) ?_
  refine zp_pc (pc' := 6) rfl ?_
  refine zn_icmp_ge (tgt := 18) dX9_openOne_6 (by decide) (by omega) (by omega) (fun c6 => ?_) (fun c6 => ?_)
  · omega
  · refine zp_aload_n dX9_openOne_9 rfl ?_
    refine zp_get dX9_openOne_10 gX9_37_8 w0 rfl ?_
    refine zp_iload_n dX9_openOne_13 rfl ?_
    refine zp_pc (pc' := 14) rfl ?_
    refine zp_aald (v := .ref (a)) dX9_openOne_14 w6 (by unfold vp_in; rw [nI_clamp (by omega)]; exact fun q => q.elim (nI_pos (by omega)) (fun q => by omega)) (by rw [nI_clamp (by omega), hz]) ?_
    refine zp_goto (tgt := 19) dX9_openOne_15 (by decide) ?_
    refine zp_pc (pc' := 19) rfl ?_
    refine zp_ret (v := (some (.ref (a)))) dX9_openOne_19 ⟨⟨_, rfl⟩, rfl⟩ (by decide) (by decide) ?_
    rw [hQ]
    exact ⟨rfl, rfl, rfl⟩
set_option maxRecDepth 10000 in
set_option maxHeartbeats 2000000 in
theorem e_generator {g : ZG} {h : ZH} {n : Nat} {lo t : Nat} {A : Nat → Option Nat} {T O : List Nat} {S : ZSup} {Gs : Nat → Option ZGn} {x y : Int32} (H : zBA lo t h n A (T, O, S, Gs)) : zMt g mX9_generator (zR 3 0 0) [.ref (16), .int (x), .int (y)] h n (fun v h' n' => v = some (.int (zqgen x y (T, O, S, Gs))) ∧ h' = h ∧ n' = n) := by
  refine zMt.of [some (.ref (16)), some (.int (x)), some (.int (y)), none] (by decide) rfl (Nat.le_of_ble_eq_true rfl) ?_
  obtain ⟨Qf, hQ⟩ : ∃ Qf : ZQ, Qf = (fun v h' n' => v = some (.int (zqgen x y (T, O, S, Gs))) ∧ h' = h ∧ n' = n) := ⟨_, rfl⟩
  rw [← hQ]
  obtain ⟨w0, w1, w2, w3, w4, w5, w6, w7, w8⟩ := id H
  have lT := w1.len
  have lO := w2.len
  refine zp_aload_n dX9_generator_0 rfl ?_
  refine zp_iload_n dX9_generator_1 rfl ?_
  refine zp_pc (pc' := 2) rfl ?_
  cases hz : zat4 A x with
  | none =>
    have hzG := H.none hz
    refine zp_callV (As := [.int (x)]) (k := 16) (st := []) (ci := 8) dX9_generator_2 cX9_103 rfl w0 rfl rfl (e_openNone H hz) (by decide) (by decide) (Nat.le_of_ble_eq_true rfl) (fun v1 h1 n1 q1 => ?_)
    obtain ⟨rfl, H1, N1⟩ := q1
    rw [N1, H1]
    refine zp_nrm (cells' := 0) (slots' := 0) (st' := [.null]) rfl rfl rfl ?_
    refine zp_astore_nN (ls' := [some (.ref (16)), some (.int (x)), some (.int (y)), some (.null)]) dX9_generator_5 (by decide) rfl ?_
    refine zp_aload_nN dX9_generator_6 rfl ?_
    refine zp_ifnonnullN dX9_generator_7 ?_
    refine zp_iconst (v := (-1)) dX9_generator_10 (by decide) ?_
    refine zp_goto (tgt := 19) dX9_generator_11 (by decide) ?_
    refine zp_pc (pc' := 19) rfl ?_
    refine zp_ret (v := (some (.int ((-1))))) dX9_generator_19 ⟨⟨_, rfl, rfl⟩, rfl⟩ (by decide) (by decide) ?_
    rw [hQ]
    exact ⟨by unfold zqgen; simp only [hzG], rfl, rfl⟩
  | some a =>
    obtain ⟨j, hj, rfl, hA⟩ := zat4_some hz
    obtain ⟨⟨kd, sg, rs, iv, ct, dr, sd, V, C⟩, eG, l64, la, la5, hG, hsd⟩ := H.ge hj hA
    have hzG : zat4 Gs (nI j) = _ := (zat4_nI hj).trans eG
    refine zp_callV (As := [.int (nI (j))]) (k := 16) (st := []) (ci := 8) dX9_generator_2 cX9_103 rfl w0 rfl rfl (e_openSome H hj hA) (by decide) (by decide) (Nat.le_of_ble_eq_true rfl) (fun v2 h2 n2 q2 => ?_)
    obtain ⟨rfl, H2, N2⟩ := q2
    rw [N2, H2]
    refine zp_nrm (cells' := 0) (slots' := 0) (st' := [.ref (a)]) rfl rfl rfl ?_
    refine zp_astore_n (ls' := [some (.ref (16)), some (.int (nI (j))), some (.int (y)), some (.ref (a))]) dX9_generator_5 (by decide) rfl ?_
    refine zp_aload_n dX9_generator_6 rfl ?_
    refine zp_ifnonnull (tgt := 14) dX9_generator_7 (by decide) ?_
    refine zp_aload_n dX9_generator_14 rfl ?_
    refine zp_iload_n dX9_generator_15 rfl ?_
    refine zp_pc (pc' := 16) rfl ?_
    refine zp_gcall (As := [.int (y)]) (a := a) (st := []) dX9_generator_16 cX9_128_4 cX9_128_5 cX9_128_1 rfl hG (fun _ => (e_glook hG)) (fun _ _ => (e_glook hG)) (fun _ _ => (e_glook hG)) (by decide) (by decide) (by decide) (by decide) (Nat.le_of_ble_eq_true rfl) (fun v3 h3 n3 q3 => ?_)
    obtain ⟨rfl, H3, N3⟩ := q3
    rw [N3, H3]
    refine zp_nrm (cells' := 0) (slots' := 0) (st' := [.int (zglook kd sg ct iv rs (zsd kd) dr sd y)]) rfl rfl rfl ?_
    refine zp_ret (v := (some (.int (zglook kd sg ct iv rs (zsd kd) dr sd y)))) dX9_generator_19 ⟨⟨_, rfl, rfl⟩, rfl⟩ (by decide) (by decide) ?_
    rw [hQ]
    exact ⟨by unfold zqgen; simp only [hzG], rfl, rfl⟩
theorem zqstate_at {T O : List Nat} {S : ZSup} {Gs : Nat → Option ZGn} {x p k : Int32} {kd sg : Nat} {rs : Bool} {iv ct : Nat} {dr : Int32} {sd : Nat} {V C : List Nat} (hz : zat4 Gs x = some (kd, sg, rs, iv, ct, dr, sd, V, C)) : zqstate x p k (T, O, S, Gs) = if p = nI 0 then zat V k else if p = nI 1 then zat C k else -1 := by
  unfold zqstate; simp only [hz]
set_option maxRecDepth 10000 in
set_option maxHeartbeats 2000000 in
theorem e_state {g : ZG} {h : ZH} {n : Nat} {lo t : Nat} {A : Nat → Option Nat} {T O : List Nat} {S : ZSup} {Gs : Nat → Option ZGn} {x p k : Int32} (H : zBA lo t h n A (T, O, S, Gs)) : zMt g mX9_state (zR 3 0 0) [.ref (16), .int (x), .int (p), .int (k)] h n (fun v h' n' => v = some (.int (zqstate x p k (T, O, S, Gs))) ∧ h' = h ∧ n' = n) := by
  refine zMt.of [some (.ref (16)), some (.int (x)), some (.int (p)), some (.int (k)), none] (by decide) rfl (Nat.le_of_ble_eq_true rfl) ?_
  obtain ⟨Qf, hQ⟩ : ∃ Qf : ZQ, Qf = (fun v h' n' => v = some (.int (zqstate x p k (T, O, S, Gs))) ∧ h' = h ∧ n' = n) := ⟨_, rfl⟩
  rw [← hQ]
  obtain ⟨w0, w1, w2, w3, w4, w5, w6, w7, w8⟩ := id H
  have lT := w1.len
  have lO := w2.len
  refine zp_aload_n dX9_state_0 rfl ?_
  refine zp_iload_n dX9_state_1 rfl ?_
  refine zp_pc (pc' := 2) rfl ?_
  cases hz : zat4 A x with
  | none =>
    have hzG := H.none hz
    refine zp_callV (As := [.int (x)]) (k := 16) (st := []) (ci := 8) dX9_state_2 cX9_103 rfl w0 rfl rfl (e_openNone H hz) (by decide) (by decide) (Nat.le_of_ble_eq_true rfl) (fun v1 h1 n1 q1 => ?_)
    obtain ⟨rfl, H1, N1⟩ := q1
    rw [N1, H1]
    refine zp_nrm (cells' := 0) (slots' := 0) (st' := [.null]) rfl rfl rfl ?_
    refine zp_astoreN (ls' := [some (.ref (16)), some (.int (x)), some (.int (p)), some (.int (k)), some (.null)]) dX9_state_5 (by decide) rfl ?_
    refine zp_aloadN dX9_state_7 rfl ?_
    refine zp_ifnullN (tgt := 21) dX9_state_9 (by decide) ?_
    refine zp_iconst (v := (-1)) dX9_state_21 (by decide) ?_
    refine zp_pc (pc' := 22) rfl ?_
    refine zp_ret (v := (some (.int ((-1))))) dX9_state_22 ⟨⟨_, rfl, rfl⟩, rfl⟩ (by decide) (by decide) ?_
    rw [hQ]
    exact ⟨by unfold zqstate; simp only [hzG], rfl, rfl⟩
  | some a =>
    obtain ⟨j, hj, rfl, hA⟩ := zat4_some hz
    obtain ⟨⟨kd, sg, rs, iv, ct, dr, sd, V, C⟩, eG, l64, la, la5, hG, hsd⟩ := H.ge hj hA
    have hzG : zat4 Gs (nI j) = _ := (zat4_nI hj).trans eG
    refine zp_callV (As := [.int (nI (j))]) (k := 16) (st := []) (ci := 8) dX9_state_2 cX9_103 rfl w0 rfl rfl (e_openSome H hj hA) (by decide) (by decide) (Nat.le_of_ble_eq_true rfl) (fun v2 h2 n2 q2 => ?_)
    obtain ⟨rfl, H2, N2⟩ := q2
    rw [N2, H2]
    refine zp_nrm (cells' := 0) (slots' := 0) (st' := [.ref (a)]) rfl rfl rfl ?_
    have hGr := id hG
    obtain ⟨-, k8, -, -, -, -, -, hv, hc, -⟩ := hGr
    refine zp_astore (ls' := [some (.ref (16)), some (.int (nI (j))), some (.int (p)), some (.int (k)), some (.ref (a))]) dX9_state_5 (by decide) rfl ?_
    refine zp_aload dX9_state_7 rfl ?_
    refine zp_ifnull dX9_state_9 ?_
    refine zp_iload_n dX9_state_12 rfl ?_
    refine zp_pc (pc' := 13) rfl ?_
    refine zp_if_lt (tgt := 21) dX9_state_13 (by decide) (fun c13 => ?_) (fun c13 => ?_)
    · refine zp_iconst (v := (-1)) dX9_state_21 (by decide) ?_
      refine zp_pc (pc' := 22) rfl ?_
      refine zp_ret (v := (some (.int ((-1))))) dX9_state_22 ⟨⟨_, rfl, rfl⟩, rfl⟩ (by decide) (by decide) ?_
      rw [hQ]
      exact ⟨by rw [(zqstate_at hzG).trans ((if_neg (fun q => by rw [q] at c13; exact absurd c13 (by decide))).trans (if_neg (fun q => by rw [q] at c13; exact absurd c13 (by decide))))], rfl, rfl⟩
    · refine zp_iload_n dX9_state_16 rfl ?_
      refine zp_iconst (v := nI (1)) dX9_state_17 (by decide) ?_
      refine zp_pc (pc' := 18) rfl ?_
      refine zp_icmp_le (tgt := 23) dX9_state_18 (by decide) (fun c18 => ?_) (fun c18 => ?_)
      · obtain ⟨m, m31, rfl⟩ := nI_of c13
        have hm := (nI_leI m31 (by decide)).mp c18
        refine zp_iload_n dX9_state_23 rfl ?_
        refine zp_pc (pc' := 24) rfl ?_
        refine zn_if_ne (tgt := 39) dX9_state_24 (by decide) (by omega) (fun c24 => ?_) (fun c24 => ?_)
        · have e1 : m = 1 := by omega
          subst e1
          refine zp_aload dX9_state_39 rfl ?_
          refine zp_pc (pc' := 41) rfl ?_
          refine zp_gget (v := .ref (a + 3)) dX9_state_41 gX9_132_4 gX9_132_5 gX9_132_1 hG rfl ?_
          refine zp_iload_n dX9_state_44 rfl ?_
          refine zp_pc (pc' := 45) rfl ?_
          refine zp_callV (As := [.int (k)]) (k := a + 3) (st := []) (ci := 6) dX9_state_45 cX9_125 rfl hc.2.1 rfl rfl (e_at (N := zcN kd) hc) (by decide) (by decide) (Nat.le_of_ble_eq_true rfl) (fun v3 h3 n3 q3 => ?_)
          obtain ⟨rfl, H3, N3⟩ := q3
          rw [N3, H3]
          refine zp_nrm (cells' := 0) (slots' := 0) (st' := [.int (zat C k)]) rfl rfl rfl ?_
          refine zp_ret (v := (some (.int (zat C k)))) dX9_state_48 ⟨⟨_, rfl, rfl⟩, rfl⟩ (by decide) (by decide) ?_
          rw [hQ]
          exact ⟨by rw [(zqstate_at hzG).trans ((if_neg (by decide)).trans (if_pos rfl))], rfl, rfl⟩
        · have e1 : m = 0 := by omega
          subst e1
          refine zp_aload dX9_state_27 rfl ?_
          refine zp_pc (pc' := 29) rfl ?_
          refine zp_gget (v := .ref (a + 1)) dX9_state_29 gX9_129_4 gX9_129_5 gX9_129_1 hG rfl ?_
          refine zp_iload_n dX9_state_32 rfl ?_
          refine zp_pc (pc' := 33) rfl ?_
          refine zp_callV (As := [.int (k)]) (k := a + 1) (st := []) (ci := 6) dX9_state_33 cX9_125 rfl hv.2.1 rfl rfl (e_at (N := zvN kd) hv) (by decide) (by decide) (Nat.le_of_ble_eq_true rfl) (fun v4 h4 n4 q4 => ?_)
          obtain ⟨rfl, H4, N4⟩ := q4
          rw [N4, H4]
          refine zp_nrm (cells' := 0) (slots' := 0) (st' := [.int (zat V k)]) rfl rfl rfl ?_
          refine zp_goto (tgt := 48) dX9_state_36 (by decide) ?_
          refine zp_pc (pc' := 48) rfl ?_
          refine zp_ret (v := (some (.int (zat V k)))) dX9_state_48 ⟨⟨_, rfl, rfl⟩, rfl⟩ (by decide) (by decide) ?_
          rw [hQ]
          exact ⟨by rw [(zqstate_at hzG).trans (if_pos rfl)], rfl, rfl⟩
      · refine zp_iconst (v := (-1)) dX9_state_21 (by decide) ?_
        refine zp_pc (pc' := 22) rfl ?_
        refine zp_ret (v := (some (.int ((-1))))) dX9_state_22 ⟨⟨_, rfl, rfl⟩, rfl⟩ (by decide) (by decide) ?_
        rw [hQ]
        exact ⟨by rw [(zqstate_at hzG).trans ((if_neg (fun q => c18 (by rw [q]; decide))).trans (if_neg (fun q => c18 (by rw [q]; decide))))], rfl, rfl⟩
set_option maxRecDepth 10000 in
set_option maxHeartbeats 2000000 in
theorem e_close {g : ZG} {h : ZH} {n : Nat} {lo t : Nat} {A : Nat → Option Nat} {T O : List Nat} {S : ZSup} {Gs : Nat → Option ZGn} {x : Int32} (H : zBA lo t h n A (T, O, S, Gs)) : zMt g mX9_close (zR 3 0 0) [.ref (16), .int (x)] h n (fun v h' n' => v = some (.int (nI (zbi (zqclose x (T, O, S, Gs)).1))) ∧ n' = n ∧ zsm h h' (zxs lo) ∧ zBW lo (t + 2) h' n' (zqclose x (T, O, S, Gs)).2) := by
  refine zMt.of [some (.ref (16)), some (.int (x)), none] (by decide) rfl (Nat.le_of_ble_eq_true rfl) ?_
  obtain ⟨Qf, hQ⟩ : ∃ Qf : ZQ, Qf = (fun v h' n' => v = some (.int (nI (zbi (zqclose x (T, O, S, Gs)).1))) ∧ n' = n ∧ zsm h h' (zxs lo) ∧ zBW lo (t + 2) h' n' (zqclose x (T, O, S, Gs)).2) := ⟨_, rfl⟩
  rw [← hQ]
  obtain ⟨w0, w1, w2, w3, w4, w5, w6, w7, w8⟩ := id H
  have lT := w1.len
  have lO := w2.len
  refine zp_aload_n dX9_close_0 rfl ?_
  refine zp_iload_n dX9_close_1 rfl ?_
  refine zp_pc (pc' := 2) rfl ?_
  cases hz : zat4 A x with
  | none =>
    have hzG := H.none hz
    refine zp_callV (As := [.int (x)]) (k := 16) (st := []) (ci := 8) dX9_close_2 cX9_103 rfl w0 rfl rfl (e_openNone H hz) (by decide) (by decide) (Nat.le_of_ble_eq_true rfl) (fun v1 h1 n1 q1 => ?_)
    obtain ⟨rfl, H1, N1⟩ := q1
    rw [N1, H1]
    refine zp_nrm (cells' := 0) (slots' := 0) (st' := [.null]) rfl rfl rfl ?_
    have eq : zqclose x (T, O, S, Gs) = (false, T, O, S, Gs) := by unfold zqclose; simp only [hzG]
    refine zp_astore_nN (ls' := [some (.ref (16)), some (.int (x)), some (.null)]) dX9_close_5 (by decide) rfl ?_
    refine zp_aload_nN dX9_close_6 rfl ?_
    refine zp_ifnonnullN dX9_close_7 ?_
    refine zp_iconst (v := nI (0)) dX9_close_10 (by decide) ?_
    refine zp_pc (pc' := 11) rfl ?_
    refine zp_ret (v := (some (.int (nI (0))))) dX9_close_11 ⟨⟨_, rfl, rfl⟩, rfl⟩ (by decide) (by decide) ?_
    rw [hQ]
    rw [eq]; exact ⟨rfl, rfl, zsm.rf, H.rf (by omega)⟩
  | some a =>
    obtain ⟨j, hj, rfl, hA⟩ := zat4_some hz
    obtain ⟨⟨kd, sg, rs, iv, ct, dr, sd, V, C⟩, eG, l64, la, la5, hG, hsd⟩ := H.ge hj hA
    have hzG : zat4 Gs (nI j) = _ := (zat4_nI hj).trans eG
    refine zp_callV (As := [.int (nI (j))]) (k := 16) (st := []) (ci := 8) dX9_close_2 cX9_103 rfl w0 rfl rfl (e_openSome H hj hA) (by decide) (by decide) (Nat.le_of_ble_eq_true rfl) (fun v2 h2 n2 q2 => ?_)
    obtain ⟨rfl, H2, N2⟩ := q2
    rw [N2, H2]
    refine zp_nrm (cells' := 0) (slots' := 0) (st' := [.ref (a)]) rfl rfl rfl ?_
    have eq : zqclose (nI j) (T, O, S, Gs) = (true, T, O, S, va_up Gs j none) := by unfold zqclose; simp only [hzG]; rw [nI_clamp (by omega)]
    refine zp_astore_n (ls' := [some (.ref (16)), some (.int (nI (j))), some (.ref (a))]) dX9_close_5 (by decide) rfl ?_
    refine zp_aload_n dX9_close_6 rfl ?_
    refine zp_ifnonnull (tgt := 12) dX9_close_7 (by decide) ?_
    refine zp_aload_n dX9_close_12 rfl ?_
    refine zp_pc (pc' := 13) rfl ?_
    refine zp_gcall (As := []) (a := a) (st := []) dX9_close_13 cX9_107_4 cX9_107_5 cX9_107_1 rfl hG (fun _ => (e_gwipe hG)) (fun _ _ => (e_gwipe hG)) (fun _ _ => (e_gwipe hG)) (by decide) (by decide) (by decide) (by decide) (Nat.le_of_ble_eq_true rfl) (fun v3 h3 n3 q3 => ?_)
    obtain ⟨rfl, N3, s3⟩ := q3
    rw [N3]
    refine zp_nrm (cells' := 0) (slots' := 0) (st' := []) rfl rfl rfl ?_
    have y4_0 := w1.keep (s3 _ (by unfold zbt; omega)) (s3 _ (by unfold zbt; omega))
    have y4_1 := w2.keep (s3 _ (by unfold zbt; omega)) (s3 _ (by unfold zbt; omega))
    have y4_2 : zsup h3 21 S := w3.off (fun i h1 h2 => s3 i (by unfold zbt; omega))
    have y4_3 : zdk h3 := w4.off s3 (fun i hi => by unfold zbt at hi; omega)
    have y4_4 : h3 (16) = some zwc := (s3 _ (by unfold zbt; omega)).trans w0
    have g63 : h3 63 = _ := (s3 _ (by unfold zbt; omega)).trans w6
    refine zp_aload_n dX9_close_16 rfl ?_
    refine zp_get dX9_close_17 gX9_37_8 y4_4 rfl ?_
    refine zp_iload_n dX9_close_20 rfl ?_
    refine zp_null dX9_close_21 ?_
    refine zp_pc (pc' := 22) rfl ?_
    refine zp_aastN dX9_close_22 (by decide) g63 (by unfold vp_in; rw [nI_clamp (by omega)]; exact fun q => q.elim (nI_pos (by omega)) (fun q => by omega)) ?_
    rw [nI_clamp (by omega)]
    refine zp_nh (fun h9 e9 => ?_)
    have k9 : h9 63 = some (.inr (4, .inr (.inr (false, va_up A j none)))) := by rw [e9]; exact va_up_self _ _ _
    have sA : zsm h h9 (fun i => i = 63 ∨ zbt a (a + 4) i) := (s3.mono (fun i hi => Or.inr (by unfold zbt at *; omega))).trans (zsm.mono (zsm.rf.up (S := zon 63) e9 rfl) (fun i hi => Or.inl hi))
    refine zp_iconst (v := nI (1)) dX9_close_23 (by decide) ?_
    refine zp_pc (pc' := 24) rfl ?_
    refine zp_ret (v := (some (.int (nI (1))))) dX9_close_24 ⟨⟨_, rfl, rfl⟩, rfl⟩ (by decide) (by decide) ?_
    rw [hQ]
    rw [eq]; exact ⟨rfl, rfl, sA.mono (fun i hi => by unfold zbt at hi; unfold zxs; omega), _, (H.shut hj hA sA k9).same (P := fun _ => False) zsm.rf (fun _ q => q.elim) (Nat.le_refl _) (by omega)⟩
set_option maxRecDepth 10000 in
set_option maxHeartbeats 2000000 in
theorem e_refusal {g : ZG} {h : ZH} {n : Nat} {lo t : Nat} {A : Nat → Option Nat} {T O : List Nat} {S : ZSup} {Gs : Nat → Option ZGn} {a u : Nat} {r : Bool} {kd sg : Nat} {rs : Bool} {iv ct : Nat} {dr : Int32} {sd : Nat} {V C : List Nat} (H : zBA lo t h n A (T, O, S, Gs)) (hG : zgen h a u (kd, sg, rs, iv, ct, dr, sd, V, C)) (hu : u < 90000) : zMt g mX9_refusalToSeed (zR 2 0 0) [.ref (16), .ref (a), .int (nI (zbi r))] h n (fun v h' n' => v = some (.int (nI (zrefuse r T S (kd, sg, rs, iv, ct, dr, sd, V, C)))) ∧ h' = h ∧ n' = n) := by
  refine zMt.of [some (.ref (16)), some (.ref (a)), some (.int (nI (zbi r)))] (by decide) rfl (Nat.le_of_ble_eq_true rfl) ?_
  obtain ⟨Qf, hQ⟩ : ∃ Qf : ZQ, Qf = (fun v h' n' => v = some (.int (nI (zrefuse r T S (kd, sg, rs, iv, ct, dr, sd, V, C)))) ∧ h' = h ∧ n' = n) := ⟨_, rfl⟩
  rw [← hQ]
  obtain ⟨w, rp, wi, pa, un, la, ru, sa, me, se, ta, fa⟩ := S
  obtain ⟨w0, w1, w2, w3, w4, w5, w6, w7, w8⟩ := id H
  have lT := w1.len
  have lO := w2.len
  have lW := w3.2.2.1.len
  obtain ⟨-, k8, b2, -⟩ := id hG
  have hd48 := zdem_le (sd := sd) k8 b2
  have hr := zbi_lt r
  have hrs := zbi_lt rs
  refine zp_aload_n dX9_refusalToSeed_0 rfl ?_
  refine zp_aload_n dX9_refusalToSeed_1 rfl ?_
  refine zp_get dX9_refusalToSeed_2 gX9_14_8 w0 rfl ?_
  refine zp_pc (pc' := 5) rfl ?_
  refine zp_gcall (As := [.ref (17)]) (a := a) (st := []) dX9_refusalToSeed_5 cX9_117_4 cX9_117_5 cX9_117_1 rfl hG (fun _ => (e_gisTooLong hG hu w1)) (fun _ _ => (e_gisTooLong hG hu w1)) (fun _ _ => (e_gisTooLong hG hu w1)) (by decide) (by decide) (by decide) (by decide) (Nat.le_of_ble_eq_true rfl) (fun v1 h1 n1 q1 => ?_)
  obtain ⟨rfl, H1, N1⟩ := q1
  rw [N1, H1]
  refine zp_nrm (cells' := 0) (slots' := 0) (st' := [.int (nI (zbi (decide (6 ≤ kd ∧ zsd kd < T.length))))]) rfl rfl rfl ?_
  have h1t := zbi_lt (decide (6 ≤ kd ∧ zsd kd < T.length))
  refine zp_pc (pc' := 8) rfl ?_
  refine zn_if_eq (tgt := 13) dX9_refusalToSeed_8 (by decide) (by omega) (fun c8 => ?_) (fun c8 => ?_)
  · have q1 : ¬ (6 ≤ kd ∧ zsd kd < T.length) := fun q => by rw [decide_eq_true q] at c8; exact absurd c8 (by decide)
    refine zp_iload_n dX9_refusalToSeed_13 rfl ?_
    refine zp_pc (pc' := 14) rfl ?_
    refine zn_if_eq (tgt := 26) dX9_refusalToSeed_14 (by decide) (by omega) (fun c14 => ?_) (fun c14 => ?_)
    · have r0 : r = false := by cases r; rfl; exact absurd c14 (by decide)
      refine zp_aload_n dX9_refusalToSeed_26 rfl ?_
      refine zp_pc (pc' := 27) rfl ?_
      refine zp_gcall (As := []) (a := a) (st := []) dX9_refusalToSeed_27 cX9_92_4 cX9_92_5 cX9_92_1 rfl hG (fun _ => (e_gdemand hG hu)) (fun _ _ => (e_gdemand hG hu)) (fun _ _ => (e_gdemand hG hu)) (by decide) (by decide) (by decide) (by decide) (Nat.le_of_ble_eq_true rfl) (fun v2 h2 n2 q2 => ?_)
      obtain ⟨rfl, H2, N2⟩ := q2
      rw [N2, H2]
      refine zp_nrm (cells' := 0) (slots' := 0) (st' := [.int (nI (zdem kd sg (zsd kd) sd))]) rfl rfl rfl ?_
      refine zp_aload_n dX9_refusalToSeed_30 rfl ?_
      refine zp_get dX9_refusalToSeed_31 gX9_24_8 w0 rfl ?_
      refine zp_pc (pc' := 34) rfl ?_
      refine zp_callV (As := []) (k := 21) (st := [.int (nI (zdem kd sg (zsd kd) sd))]) (ci := 7) dX9_refusalToSeed_34 cX9_56 rfl w3.2.1 rfl rfl (e_waiting w3) (by decide) (by decide) (Nat.le_of_ble_eq_true rfl) (fun v3 h3 n3 q3 => ?_)
      obtain ⟨rfl, H3, N3⟩ := q3
      rw [N3, H3]
      refine zp_nrm (cells' := 0) (slots' := 0) (st' := [.int (nI (w.length)), .int (nI (zdem kd sg (zsd kd) sd))]) rfl rfl rfl ?_
      refine zp_pc (pc' := 37) rfl ?_
      refine zn_icmp_le (tgt := 45) dX9_refusalToSeed_37 (by decide) (by omega) (by omega) (fun c37 => ?_) (fun c37 => ?_)
      · refine zp_iconst (v := nI (0)) dX9_refusalToSeed_45 (by decide) ?_
        refine zp_pc (pc' := 46) rfl ?_
        have er : zrefuse r T (w, rp, wi, pa, un, la, ru, sa, me, se, ta, fa) (kd, sg, rs, iv, ct, dr, sd, V, C) = 0 := (if_neg q1).trans ((if_neg (by rw [r0]; exact fun q => absurd q.1 (by decide))).trans (if_neg (by show ¬ w.length < _; omega)))
        refine zp_ret (v := (some (.int (nI (0))))) dX9_refusalToSeed_46 ⟨⟨_, rfl, rfl⟩, rfl⟩ (by decide) (by decide) ?_
        rw [hQ]
        exact ⟨by rw [er], rfl, rfl⟩
      · refine zp_bipush (v := nI (6)) dX9_refusalToSeed_40 (by decide) ?_
        refine zp_goto (tgt := 46) dX9_refusalToSeed_42 (by decide) ?_
        refine zp_pc (pc' := 46) rfl ?_
        have er : zrefuse r T (w, rp, wi, pa, un, la, ru, sa, me, se, ta, fa) (kd, sg, rs, iv, ct, dr, sd, V, C) = 6 := (if_neg q1).trans ((if_neg (by rw [r0]; exact fun q => absurd q.1 (by decide))).trans (if_pos (by show w.length < _; omega)))
        refine zp_ret (v := (some (.int (nI (6))))) dX9_refusalToSeed_46 ⟨⟨_, rfl, rfl⟩, rfl⟩ (by decide) (by decide) ?_
        rw [hQ]
        exact ⟨by rw [er], rfl, rfl⟩
    · have r0 : r = true := by cases r; exact absurd rfl c14; rfl
      refine zp_aload_n dX9_refusalToSeed_17 rfl ?_
      refine zp_pc (pc' := 18) rfl ?_
      refine zp_gget (v := .int (nI (zbi rs))) dX9_refusalToSeed_18 gX9_194_4 gX9_194_5 gX9_194_1 hG rfl ?_
      refine zp_pc (pc' := 21) rfl ?_
      refine zn_if_ne (tgt := 26) dX9_refusalToSeed_21 (by decide) (by omega) (fun c21 => ?_) (fun c21 => ?_)
      · have rs0 : rs = true := by cases rs; exact absurd rfl c21; rfl
        refine zp_aload_n dX9_refusalToSeed_26 rfl ?_
        refine zp_pc (pc' := 27) rfl ?_
        refine zp_gcall (As := []) (a := a) (st := []) dX9_refusalToSeed_27 cX9_92_4 cX9_92_5 cX9_92_1 rfl hG (fun _ => (e_gdemand hG hu)) (fun _ _ => (e_gdemand hG hu)) (fun _ _ => (e_gdemand hG hu)) (by decide) (by decide) (by decide) (by decide) (Nat.le_of_ble_eq_true rfl) (fun v4 h4 n4 q4 => ?_)
        obtain ⟨rfl, H4, N4⟩ := q4
        rw [N4, H4]
        refine zp_nrm (cells' := 0) (slots' := 0) (st' := [.int (nI (zdem kd sg (zsd kd) sd))]) rfl rfl rfl ?_
        refine zp_aload_n dX9_refusalToSeed_30 rfl ?_
        refine zp_get dX9_refusalToSeed_31 gX9_24_8 w0 rfl ?_
        refine zp_pc (pc' := 34) rfl ?_
        refine zp_callV (As := []) (k := 21) (st := [.int (nI (zdem kd sg (zsd kd) sd))]) (ci := 7) dX9_refusalToSeed_34 cX9_56 rfl w3.2.1 rfl rfl (e_waiting w3) (by decide) (by decide) (Nat.le_of_ble_eq_true rfl) (fun v5 h5 n5 q5 => ?_)
        obtain ⟨rfl, H5, N5⟩ := q5
        rw [N5, H5]
        refine zp_nrm (cells' := 0) (slots' := 0) (st' := [.int (nI (w.length)), .int (nI (zdem kd sg (zsd kd) sd))]) rfl rfl rfl ?_
        refine zp_pc (pc' := 37) rfl ?_
        refine zn_icmp_le (tgt := 45) dX9_refusalToSeed_37 (by decide) (by omega) (by omega) (fun c37 => ?_) (fun c37 => ?_)
        · refine zp_iconst (v := nI (0)) dX9_refusalToSeed_45 (by decide) ?_
          refine zp_pc (pc' := 46) rfl ?_
          have er : zrefuse r T (w, rp, wi, pa, un, la, ru, sa, me, se, ta, fa) (kd, sg, rs, iv, ct, dr, sd, V, C) = 0 := (if_neg q1).trans ((if_neg (by rw [rs0]; exact fun q => absurd q.2 (by decide))).trans (if_neg (by show ¬ w.length < _; omega)))
          refine zp_ret (v := (some (.int (nI (0))))) dX9_refusalToSeed_46 ⟨⟨_, rfl, rfl⟩, rfl⟩ (by decide) (by decide) ?_
          rw [hQ]
          exact ⟨by rw [er], rfl, rfl⟩
        · refine zp_bipush (v := nI (6)) dX9_refusalToSeed_40 (by decide) ?_
          refine zp_goto (tgt := 46) dX9_refusalToSeed_42 (by decide) ?_
          refine zp_pc (pc' := 46) rfl ?_
          have er : zrefuse r T (w, rp, wi, pa, un, la, ru, sa, me, se, ta, fa) (kd, sg, rs, iv, ct, dr, sd, V, C) = 6 := (if_neg q1).trans ((if_neg (by rw [rs0]; exact fun q => absurd q.2 (by decide))).trans (if_pos (by show w.length < _; omega)))
          refine zp_ret (v := (some (.int (nI (6))))) dX9_refusalToSeed_46 ⟨⟨_, rfl, rfl⟩, rfl⟩ (by decide) (by decide) ?_
          rw [hQ]
          exact ⟨by rw [er], rfl, rfl⟩
      · have rs0 : rs = false := by cases rs; rfl; exact absurd c21 (by decide)
        refine zp_iconst (v := nI (5)) dX9_refusalToSeed_24 (by decide) ?_
        refine zp_pc (pc' := 25) rfl ?_
        have er : zrefuse r T (w, rp, wi, pa, un, la, ru, sa, me, se, ta, fa) (kd, sg, rs, iv, ct, dr, sd, V, C) = 5 := (if_neg q1).trans (if_pos ⟨r0, rs0⟩)
        refine zp_ret (v := (some (.int (nI (5))))) dX9_refusalToSeed_25 ⟨⟨_, rfl, rfl⟩, rfl⟩ (by decide) (by decide) ?_
        rw [hQ]
        exact ⟨by rw [er], rfl, rfl⟩
  · have q1 : 6 ≤ kd ∧ zsd kd < T.length := by
      by_cases q : 6 ≤ kd ∧ zsd kd < T.length
      · exact q
      · rw [decide_eq_false q] at c8; exact absurd rfl c8
    refine zp_iconst (v := nI (4)) dX9_refusalToSeed_11 (by decide) ?_
    refine zp_pc (pc' := 12) rfl ?_
    have er : zrefuse r T (w, rp, wi, pa, un, la, ru, sa, me, se, ta, fa) (kd, sg, rs, iv, ct, dr, sd, V, C) = 4 := if_pos q1
    refine zp_ret (v := (some (.int (nI (4))))) dX9_refusalToSeed_12 ⟨⟨_, rfl, rfl⟩, rfl⟩ (by decide) (by decide) ?_
    rw [hQ]
    exact ⟨by rw [er], rfl, rfl⟩
