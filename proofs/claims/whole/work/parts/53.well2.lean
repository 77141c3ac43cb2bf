set_option maxRecDepth 10000 in
set_option maxHeartbeats 2000000 in
theorem e_cipher {g : ZG} {h : ZH} {n : Nat} {lo t : Nat} {A : Nat → Option Nat} {T O : List Nat} {S : ZSup} {Gs : Nat → Option ZGn} {b : Bool} (H : zBA lo t h n A (T, O, S, Gs)) : zMt g mX9_cipher (zR 4 0 0) [.ref (16), .int (nI (zbi b))] h n (fun v h' n' => v = some (.int (nI (zbi (zqcipher b (T, O, S, Gs)).1))) ∧ n' = n ∧ zsm h h' (zxs lo) ∧ zBW lo (t + 2) h' n' (zqcipher b (T, O, S, Gs)).2) := by
  refine zMt.of [some (.ref (16)), some (.int (nI (zbi b))), none] (by decide) rfl (Nat.le_of_ble_eq_true rfl) ?_
  obtain ⟨Qf, hQ⟩ : ∃ Qf : ZQ, Qf = (fun v h' n' => v = some (.int (nI (zbi (zqcipher b (T, O, S, Gs)).1))) ∧ n' = n ∧ zsm h h' (zxs lo) ∧ zBW lo (t + 2) h' n' (zqcipher b (T, O, S, Gs)).2) := ⟨_, rfl⟩
  rw [← hQ]
  obtain ⟨w0, w1, w2, w3, w4, w5, w6, w7, w8⟩ := id H
  have lT := w1.len
  have lO := w2.len
  obtain ⟨e1, e2, e3, ⟨x4, e4⟩, ⟨x5, e5⟩, ⟨x6, e6⟩, ⟨x7, e7⟩, e8, e9⟩ := id w4
  have hz := zkl_or b
  have ez : zbi b = (if b then 1 else 0) := by cases b <;> rfl
  refine zp_iload_n dX9_cipher_0 rfl ?_
  refine zp_pc (pc' := 1) rfl ?_
  refine zp_i (y := nI ((if b then 1 else 0))) (by rw [ez]) ?_
  refine zp_callS (As := [.int (nI ((if b then 1 else 0)))]) (st := []) dX9_cipher_1 cX9_144 rfl (e_keyLength (b := b)) (by decide) (by decide) (Nat.le_of_ble_eq_true rfl) (fun v1 h1 n1 q1 => ?_)
  obtain ⟨rfl, H1, N1⟩ := q1
  rw [N1, H1]
  refine zp_nrm (cells' := 0) (slots' := 0) (st' := [.int (nI (zkl b))]) rfl rfl rfl ?_
  refine zp_istore_n (ls' := [some (.ref (16)), some (.int (nI (zbi b))), some (.int (nI (zkl b)))]) dX9_cipher_4 (by decide) rfl ?_
  refine zp_aload_n dX9_cipher_5 rfl ?_
  refine zp_get dX9_cipher_6 gX9_14_8 w0 rfl ?_
  refine zp_pc (pc' := 9) rfl ?_
  refine zp_callV (As := []) (k := 17) (st := []) (ci := 6) dX9_cipher_9 cX9_41 rfl w1.2.1 rfl rfl (e_length (N := 240) w1) (by decide) (by decide) (Nat.le_of_ble_eq_true rfl) (fun v2 h2 n2 q2 => ?_)
  obtain ⟨rfl, H2, N2⟩ := q2
  rw [N2, H2]
  refine zp_nrm (cells' := 0) (slots' := 0) (st' := [.int (nI (T.length))]) rfl rfl rfl ?_
  refine zp_iload_n dX9_cipher_12 rfl ?_
  refine zp_bipush (v := nI (16)) dX9_cipher_13 (by decide) ?_
  refine zn_iadd dX9_cipher_15 ?_
  refine zp_pc (pc' := 16) rfl ?_
  refine zn_icmp_eq (tgt := 21) dX9_cipher_16 (by decide) (by omega) (by omega) (fun c16 => ?_) (fun c16 => ?_)
  · have eq : zqcipher b (T, O, S, Gs) = (true, T, zenc b (T.take (zkl b)) (T.drop (zkl b)), S, Gs) := if_pos c16
    refine zp_aload_n dX9_cipher_21 rfl ?_
    refine zp_get dX9_cipher_22 gX9_31_8 w0 rfl ?_
    refine zp_aload_n dX9_cipher_25 rfl ?_
    refine zp_get dX9_cipher_26 gX9_14_8 w0 rfl ?_
    refine zp_iload_n dX9_cipher_29 rfl ?_
    refine zp_pc (pc' := 30) rfl ?_
    refine zp_callV (As := [.ref (17), .int (nI (zkl b))]) (k := 26) (st := []) (ci := 2) dX9_cipher_30 cX9_150 rfl e2 rfl rfl (e_divide (N := 240) (k := zkl b) e2 w1 e4 e5 (by omega) (by omega) (by omega)) (by decide) (by decide) (Nat.le_of_ble_eq_true rfl) (fun v3 h3 n3 q3 => ?_)
    obtain ⟨rfl, N3, s3, k3, m3⟩ := q3
    rw [N3]
    refine zp_nrm (cells' := 0) (slots' := 0) (st' := []) rfl rfl rfl ?_
    have s3 : zsm _ _ (zbt 39 42) := s3.mono (fun i hi => by unfold zbt; omega)
    have y4_0 := w1.keep (s3 _ (by unfold zbt; omega)) (s3 _ (by unfold zbt; omega))
    have y4_1 := w2.keep (s3 _ (by unfold zbt; omega)) (s3 _ (by unfold zbt; omega))
    have y4_2 : zsup h3 21 S := w3.off (fun i h1 h2 => s3 i (by unfold zbt; omega))
    have y4_3 : h3 (16) = some zwc := (s3 _ (by unfold zbt; omega)).trans w0
    have y4_4 := e1.sm s3 (fun i hi => by unfold zbt at hi; omega)
    have y4_5 : h3 (26) = some zdkc := (s3 _ (by unfold zbt; omega)).trans e2
    have y4_6 := e6.keep (s3 _ (by unfold zbt; omega)) (s3 _ (by unfold zbt; omega))
    have y4_7 := e7.keep (s3 _ (by unfold zbt; omega)) (s3 _ (by unfold zbt; omega))
    have y4_8 : zcy h3 27 := e3.off (fun i h1 h2 => s3 i (by unfold zbt; omega))
    have y4_9 : zdg h3 false 47 := e8.off (fun i h1 h2 => s3 i (by unfold zbt; omega))
    have y4_10 : zdg h3 true 55 := e9.off (fun i h1 h2 => s3 i (by unfold zbt; omega))
    refine zp_aload_n dX9_cipher_33 rfl ?_
    refine zp_get dX9_cipher_34 gX9_31_8 y4_3 rfl ?_
    refine zp_get dX9_cipher_37 gX9_154_2 y4_5 rfl ?_
    refine zp_aload_n dX9_cipher_40 rfl ?_
    refine zp_get dX9_cipher_41 gX9_31_8 y4_3 rfl ?_
    refine zp_get dX9_cipher_44 gX9_158_2 y4_5 rfl ?_
    refine zp_pc (pc' := 47) rfl ?_
    obtain ⟨⟨rd9, f9, cc9⟩, rw9⟩ := id y4_8
    refine zp_callV (As := [.ref (39)]) (k := 27) (st := []) (ci := 0) dX9_cipher_47 cX9_161 rfl cc9.2.1 rfl rfl (e_useKey (b := b) (c := 27) (N := 64) y4_4 cc9 k3 (by rw [List.length_take]; omega) (by omega)) (by decide) (by decide) (Nat.le_of_ble_eq_true rfl) (fun v5 h5 n5 q5 => ?_)
    obtain ⟨rfl, N5, s5, k5⟩ := q5
    rw [N5]
    refine zp_nrm (cells' := 0) (slots' := 0) (st' := []) rfl rfl rfl ?_
    have s5 : zsm _ _ (zbt 27 28) := s5.mono (fun i hi => by unfold zbt; omega)
    have rr5 : zcrows h5 27 := rw9.off (fun i h1 h2 => s5 i (by unfold zbt; omega))
    have y6_0 := y4_0.keep (s5 _ (by unfold zbt; omega)) (s5 _ (by unfold zbt; omega))
    have y6_1 := y4_1.keep (s5 _ (by unfold zbt; omega)) (s5 _ (by unfold zbt; omega))
    have y6_2 : zsup h5 21 S := y4_2.off (fun i h1 h2 => s5 i (by unfold zbt; omega))
    have y6_3 : h5 (16) = some zwc := (s5 _ (by unfold zbt; omega)).trans y4_3
    have y6_4 := y4_4.sm s5 (fun i hi => by unfold zbt at hi; omega)
    have y6_5 : h5 (26) = some zdkc := (s5 _ (by unfold zbt; omega)).trans y4_5
    have y6_6 := k3.keep (s5 _ (by unfold zbt; omega)) (s5 _ (by unfold zbt; omega))
    have y6_7 := m3.keep (s5 _ (by unfold zbt; omega)) (s5 _ (by unfold zbt; omega))
    have y6_8 := y4_6.keep (s5 _ (by unfold zbt; omega)) (s5 _ (by unfold zbt; omega))
    have y6_9 := y4_7.keep (s5 _ (by unfold zbt; omega)) (s5 _ (by unfold zbt; omega))
    have y6_10 : zdg h5 false 47 := y4_9.off (fun i h1 h2 => s5 i (by unfold zbt; omega))
    have y6_11 : zdg h5 true 55 := y4_10.off (fun i h1 h2 => s5 i (by unfold zbt; omega))
    refine zp_aload_n dX9_cipher_50 rfl ?_
    refine zp_get dX9_cipher_51 gX9_31_8 y6_3 rfl ?_
    refine zp_get dX9_cipher_54 gX9_154_2 y6_5 rfl ?_
    refine zp_aload_n dX9_cipher_57 rfl ?_
    refine zp_get dX9_cipher_58 gX9_31_8 y6_3 rfl ?_
    refine zp_get dX9_cipher_61 gX9_164_2 y6_5 rfl ?_
    refine zp_aload_n dX9_cipher_64 rfl ?_
    refine zp_get dX9_cipher_65 gX9_18_8 y6_3 rfl ?_
    refine zp_pc (pc' := 68) rfl ?_
    refine zp_callV (As := [.ref (41), .ref (19)]) (k := 27) (st := []) (ci := 0) dX9_cipher_68 cX9_167 rfl k5.obj rfl rfl (e_encrypt (b := b) (c := 27) (N := 512) (K := 4096) y6_4 k5 y6_7 y6_1 (by rw [List.length_drop]; omega) (by omega) (by omega) (by decide)) (by decide) (by decide) (Nat.le_of_ble_eq_true rfl) (fun v7 h7 n7 q7 => ?_)
    obtain ⟨rfl, N7, s7, r7, k7⟩ := q7
    rw [N7]
    refine zp_nrm (cells' := 0) (slots' := 0) (st' := []) rfl rfl rfl ?_
    have y8_0 := y6_0.keep (s7 _ (by unfold zes; omega)) (s7 _ (by unfold zes; omega))
    have y8_1 : zsup h7 21 S := y6_2.off (fun i h1 h2 => s7 i (by unfold zes; omega))
    have y8_2 : h7 (16) = some zwc := (s7 _ (by unfold zes; omega)).trans y6_3
    have y8_3 := y6_4.sm s7 (fun i hi => by unfold zes at hi; omega)
    have y8_4 : h7 (26) = some zdkc := (s7 _ (by unfold zes; omega)).trans y6_5
    have y8_5 := y6_6.keep (s7 _ (by unfold zes; omega)) (s7 _ (by unfold zes; omega))
    have y8_6 := y6_7.keep (s7 _ (by unfold zes; omega)) (s7 _ (by unfold zes; omega))
    have y8_7 := y6_8.keep (s7 _ (by unfold zes; omega)) (s7 _ (by unfold zes; omega))
    have y8_8 := y6_9.keep (s7 _ (by unfold zes; omega)) (s7 _ (by unfold zes; omega))
    have y8_9 : zdg h7 false 47 := y6_10.off (fun i h1 h2 => s7 i (by unfold zes; omega))
    have y8_10 : zdg h7 true 55 := y6_11.off (fun i h1 h2 => s7 i (by unfold zes; omega))
    have y8_11 : zcrows h7 27 := rr5.off (fun i h1 h2 => s7 i (by unfold zes; omega))
    have zk : zdk h7 := ⟨y8_3, y8_4, zcy.of k7 y8_11, ⟨_, y8_5⟩, ⟨_, y8_6⟩, ⟨_, y8_7⟩, ⟨_, y8_8⟩, y8_9, y8_10⟩
    refine zp_iconst (v := nI (1)) dX9_cipher_71 (by decide) ?_
    refine zp_pc (pc' := 72) rfl ?_
    have sA : zsm h h7 (zbt 17 62) := (((s3).mono (fun i hi => by unfold zbt; unfold zbt at hi; omega)).trans ((s5).mono (fun i hi => by unfold zbt; unfold zbt at hi; omega))).trans ((s7).mono (fun i hi => by unfold zbt; unfold zes at hi; omega))
    refine zp_ret (v := (some (.int (nI (1))))) dX9_cipher_72 ⟨⟨_, rfl, rfl⟩, rfl⟩ (by decide) (by decide) ?_
    rw [hQ]
    rw [eq]; exact ⟨rfl, rfl, sA.mono (fun i hi => by unfold zbt at hi; unfold zxs; omega), A, H.upd sA y8_0 r7 y8_1 zk (Nat.le_refl _) (by omega)⟩
  · have eq : zqcipher b (T, O, S, Gs) = (false, T, O, S, Gs) := if_neg c16
    refine zp_iconst (v := nI (0)) dX9_cipher_19 (by decide) ?_
    refine zp_pc (pc' := 20) rfl ?_
    refine zp_ret (v := (some (.int (nI (0))))) dX9_cipher_20 ⟨⟨_, rfl, rfl⟩, rfl⟩ (by decide) (by decide) ?_
    rw [hQ]
    rw [eq]; exact ⟨rfl, rfl, zsm.rf, H.rf (by omega)⟩
set_option maxRecDepth 10000 in
set_option maxHeartbeats 2000000 in
theorem e_macq {g : ZG} {h : ZH} {n : Nat} {lo t : Nat} {A : Nat → Option Nat} {T O : List Nat} {S : ZSup} {Gs : Nat → Option ZGn} {b : Bool} (H : zBA lo t h n A (T, O, S, Gs)) : zMt g mX9_mac (zR 4 0 0) [.ref (16), .int (nI (zbi b))] h n (fun v h' n' => v = some (.int (nI (zbi (zqmac b (T, O, S, Gs)).1))) ∧ n' = n ∧ zsm h h' (zxs lo) ∧ zBW lo (t + 2) h' n' (zqmac b (T, O, S, Gs)).2) := by
  refine zMt.of [some (.ref (16)), some (.int (nI (zbi b))), none] (by decide) rfl (Nat.le_of_ble_eq_true rfl) ?_
  obtain ⟨Qf, hQ⟩ : ∃ Qf : ZQ, Qf = (fun v h' n' => v = some (.int (nI (zbi (zqmac b (T, O, S, Gs)).1))) ∧ n' = n ∧ zsm h h' (zxs lo) ∧ zBW lo (t + 2) h' n' (zqmac b (T, O, S, Gs)).2) := ⟨_, rfl⟩
  rw [← hQ]
  obtain ⟨w0, w1, w2, w3, w4, w5, w6, w7, w8⟩ := id H
  have lT := w1.len
  have lO := w2.len
  obtain ⟨e1, e2, e3, ⟨x4, e4⟩, ⟨x5, e5⟩, ⟨x6, e6⟩, ⟨x7, e7⟩, e8, e9⟩ := w4.parts b
  have hz := zwb_or b
  have hd := zdid2 b
  refine zp_aload_n dX9_mac_0 rfl ?_
  refine zp_get dX9_mac_1 gX9_31_8 w0 rfl ?_
  refine zp_iload_n dX9_mac_4 rfl ?_
  refine zp_pc (pc' := 5) rfl ?_
  refine zp_callV (As := [.int (nI (zbi b))]) (k := 26) (st := []) (ci := 2) dX9_mac_5 cX9_135 rfl e2 rfl rfl (e_digestOf (b := b) e2) (by decide) (by decide) (Nat.le_of_ble_eq_true rfl) (fun v1 h1 n1 q1 => ?_)
  obtain ⟨rfl, H1, N1⟩ := q1
  rw [N1, H1]
  refine zp_nrm (cells' := 0) (slots' := 0) (st' := [.ref (zdid b)]) rfl rfl rfl ?_
  refine zp_astore_n (ls' := [some (.ref (16)), some (.int (nI (zbi b))), some (.ref (zdid b))]) dX9_mac_8 (by decide) rfl ?_
  refine zp_aload_n dX9_mac_9 rfl ?_
  refine zp_get dX9_mac_10 gX9_14_8 w0 rfl ?_
  refine zp_pc (pc' := 13) rfl ?_
  refine zp_callV (As := []) (k := 17) (st := []) (ci := 6) dX9_mac_13 cX9_41 rfl w1.2.1 rfl rfl (e_length (N := 240) w1) (by decide) (by decide) (Nat.le_of_ble_eq_true rfl) (fun v2 h2 n2 q2 => ?_)
  obtain ⟨rfl, H2, N2⟩ := q2
  rw [N2, H2]
  refine zp_nrm (cells' := 0) (slots' := 0) (st' := [.int (nI (T.length))]) rfl rfl rfl ?_
  refine zp_aload_n dX9_mac_16 rfl ?_
  refine zp_get dX9_mac_17 gX9_170_3 e8.2.1 rfl ?_
  refine zp_pc (pc' := 20) rfl ?_
  refine zn_icmp_ge (tgt := 25) dX9_mac_20 (by decide) (by omega) (by omega) (fun c20 => ?_) (fun c20 => ?_)
  · have eq : zqmac b (T, O, S, Gs) = (true, T, zmac b (T.take (8 * zwb b)) (T.drop (8 * zwb b)), S, Gs) := if_neg (by omega)
    refine zp_aload_n dX9_mac_25 rfl ?_
    refine zp_get dX9_mac_26 gX9_31_8 w0 rfl ?_
    refine zp_aload_n dX9_mac_29 rfl ?_
    refine zp_get dX9_mac_30 gX9_14_8 w0 rfl ?_
    refine zp_aload_n dX9_mac_33 rfl ?_
    refine zp_get dX9_mac_34 gX9_170_3 e8.2.1 rfl ?_
    refine zp_pc (pc' := 37) rfl ?_
    refine zp_callV (As := [.ref (17), .int (nI (8 * zwb b))]) (k := 26) (st := []) (ci := 2) dX9_mac_37 cX9_150 rfl e2 rfl rfl (e_divide (N := 240) (k := 8 * zwb b) e2 w1 e4 e5 (by omega) (by omega) (by omega)) (by decide) (by decide) (Nat.le_of_ble_eq_true rfl) (fun v3 h3 n3 q3 => ?_)
    obtain ⟨rfl, N3, s3, k3, m3⟩ := q3
    rw [N3]
    refine zp_nrm (cells' := 0) (slots' := 0) (st' := []) rfl rfl rfl ?_
    have s3 : zsm _ _ (zbt 39 42) := s3.mono (fun i hi => by unfold zbt; omega)
    have y4_0 := w1.keep (s3 _ (by unfold zbt; omega)) (s3 _ (by unfold zbt; omega))
    have y4_1 := w2.keep (s3 _ (by unfold zbt; omega)) (s3 _ (by unfold zbt; omega))
    have y4_2 : zsup h3 21 S := w3.off (fun i h1 h2 => s3 i (by unfold zbt; omega))
    have y4_3 : h3 (16) = some zwc := (s3 _ (by unfold zbt; omega)).trans w0
    have y4_4 := e1.sm s3 (fun i hi => by unfold zbt at hi; omega)
    have y4_5 : h3 (26) = some zdkc := (s3 _ (by unfold zbt; omega)).trans e2
    have y4_6 : zcy h3 27 := e3.off (fun i h1 h2 => s3 i (by unfold zbt; omega))
    have y4_7 := e6.keep (s3 _ (by unfold zbt; omega)) (s3 _ (by unfold zbt; omega))
    have y4_8 := e7.keep (s3 _ (by unfold zbt; omega)) (s3 _ (by unfold zbt; omega))
    have y4_9 : zdg h3 b (zdid b) := e8.off (fun i h1 h2 => s3 i (by unfold zbt; omega))
    have y4_10 : zdg h3 (!b) (zdid (!b)) := e9.off (fun i h1 h2 => s3 i (by unfold zbt; omega))
    refine zp_aload_n dX9_mac_40 rfl ?_
    refine zp_aload_n dX9_mac_41 rfl ?_
    refine zp_get dX9_mac_42 gX9_31_8 y4_3 rfl ?_
    refine zp_get dX9_mac_45 gX9_158_2 y4_5 rfl ?_
    refine zp_aload_n dX9_mac_48 rfl ?_
    refine zp_get dX9_mac_49 gX9_31_8 y4_3 rfl ?_
    refine zp_get dX9_mac_52 gX9_164_2 y4_5 rfl ?_
    refine zp_aload_n dX9_mac_55 rfl ?_
    refine zp_get dX9_mac_56 gX9_18_8 y4_3 rfl ?_
    refine zp_pc (pc' := 59) rfl ?_
    refine zp_callV (As := [.ref (39), .ref (41), .ref (19)]) (k := zdid b) (st := []) (ci := 3) dX9_mac_59 cX9_172 rfl y4_9.2.1 rfl rfl (e_keyed (N := 64) (L := 512) (K := 4096) y4_9 y4_4 k3 m3 y4_1 (by omega) (by omega) (by rw [List.length_drop]; omega) (by omega) (by omega)) (by decide) (by decide) (Nat.le_of_ble_eq_true rfl) (fun v5 h5 n5 q5 => ?_)
    obtain ⟨rfl, N5, s5, r5, k5⟩ := q5
    rw [N5]
    refine zp_nrm (cells' := 0) (slots' := 0) (st' := []) rfl rfl rfl ?_
    have y6_0 := y4_0.keep (s5 _ (by unfold zks; omega)) (s5 _ (by unfold zks; omega))
    have y6_1 : zsup h5 21 S := y4_2.off (fun i h1 h2 => s5 i (by unfold zks; omega))
    have y6_2 : h5 (16) = some zwc := (s5 _ (by unfold zks; omega)).trans y4_3
    have y6_3 := y4_4.sm s5 (fun i hi => by unfold zks at hi; omega)
    have y6_4 : h5 (26) = some zdkc := (s5 _ (by unfold zks; omega)).trans y4_5
    have y6_5 : zcy h5 27 := y4_6.off (fun i h1 h2 => s5 i (by unfold zks; omega))
    have y6_6 := y4_7.keep (s5 _ (by unfold zks; omega)) (s5 _ (by unfold zks; omega))
    have y6_7 := y4_8.keep (s5 _ (by unfold zks; omega)) (s5 _ (by unfold zks; omega))
    have y6_8 : zdg h5 (!b) (zdid (!b)) := y4_10.off (fun i h1 h2 => s5 i (by unfold zks; omega))
    have y6_9 := k3.keep (s5 _ (by unfold zks; omega)) (s5 _ (by unfold zks; omega))
    have y6_10 := m3.keep (s5 _ (by unfold zks; omega)) (s5 _ (by unfold zks; omega))
    have zk : zdk h5 := zdk.of b ⟨y6_3, y6_4, y6_5, ⟨_, y6_9⟩, ⟨_, y6_10⟩, ⟨_, y6_6⟩, ⟨_, y6_7⟩, k5, y6_8⟩
    refine zp_iconst (v := nI (1)) dX9_mac_62 (by decide) ?_
    refine zp_pc (pc' := 63) rfl ?_
    have sA : zsm h h5 (zbt 17 62) := ((s3).mono (fun i hi => by unfold zbt; unfold zbt at hi; omega)).trans ((s5).mono (fun i hi => by unfold zbt; unfold zks at hi; omega))
    refine zp_ret (v := (some (.int (nI (1))))) dX9_mac_63 ⟨⟨_, rfl, rfl⟩, rfl⟩ (by decide) (by decide) ?_
    rw [hQ]
    rw [eq]; exact ⟨rfl, rfl, sA.mono (fun i hi => by unfold zbt at hi; unfold zxs; omega), A, H.upd sA y6_0 r5 y6_1 zk (Nat.le_refl _) (by omega)⟩
  · have eq : zqmac b (T, O, S, Gs) = (false, T, O, S, Gs) := if_pos (by omega)
    refine zp_iconst (v := nI (0)) dX9_mac_23 (by decide) ?_
    refine zp_pc (pc' := 24) rfl ?_
    refine zp_ret (v := (some (.int (nI (0))))) dX9_mac_24 ⟨⟨_, rfl, rfl⟩, rfl⟩ (by decide) (by decide) ?_
    rw [hQ]
    rw [eq]; exact ⟨rfl, rfl, zsm.rf, H.rf (by omega)⟩
set_option maxRecDepth 10000 in
set_option maxHeartbeats 2000000 in
theorem e_derive {g : ZG} {h : ZH} {n : Nat} {lo t : Nat} {A : Nat → Option Nat} {T O : List Nat} {S : ZSup} {Gs : Nat → Option ZGn} {x k : Int32} (H : zBA lo t h n A (T, O, S, Gs)) : zMt g mX9_derive (zR 6 0 0) [.ref (16), .int (x), .int (k)] h n (fun v h' n' => v = some (.int (nI (zbi (zqderive x k (T, O, S, Gs)).1))) ∧ n' = n ∧ zsm h h' (zxs lo) ∧ zBW lo (t + 2) h' n' (zqderive x k (T, O, S, Gs)).2) := by
  refine zMt.of [some (.ref (16)), some (.int (x)), some (.int (k)), none] (by decide) rfl (Nat.le_of_ble_eq_true rfl) ?_
  obtain ⟨Qf, hQ⟩ : ∃ Qf : ZQ, Qf = (fun v h' n' => v = some (.int (nI (zbi (zqderive x k (T, O, S, Gs)).1))) ∧ n' = n ∧ zsm h h' (zxs lo) ∧ zBW lo (t + 2) h' n' (zqderive x k (T, O, S, Gs)).2) := ⟨_, rfl⟩
  rw [← hQ]
  obtain ⟨w0, w1, w2, w3, w4, w5, w6, w7, w8⟩ := id H
  have lT := w1.len
  have lO := w2.len
  refine zp_iload_n dX9_derive_0 rfl ?_
  refine zp_pc (pc' := 1) rfl ?_
  refine zp_if_lt (tgt := 21) dX9_derive_1 (by decide) (fun c1 => ?_) (fun c1 => ?_)
  · have eq : zqderive x k (T, O, S, Gs) = (false, T, O, S, Gs) := if_pos (Or.inl c1)
    refine zp_iconst (v := nI (0)) dX9_derive_21 (by decide) ?_
    refine zp_pc (pc' := 22) rfl ?_
    refine zp_ret (v := (some (.int (nI (0))))) dX9_derive_22 ⟨⟨_, rfl, rfl⟩, rfl⟩ (by decide) (by decide) ?_
    rw [hQ]
    rw [eq]; exact ⟨rfl, rfl, zsm.rf, H.rf (by omega)⟩
  · refine zp_iload_n dX9_derive_4 rfl ?_
    refine zp_iconst (v := nI (3)) dX9_derive_5 (by decide) ?_
    refine zp_pc (pc' := 6) rfl ?_
    refine zp_icmp_gt (tgt := 21) dX9_derive_6 (by decide) (fun c6 => ?_) (fun c6 => ?_)
    · have eq : zqderive x k (T, O, S, Gs) = (false, T, O, S, Gs) := if_pos (Or.inr (Or.inl c6))
      refine zp_iconst (v := nI (0)) dX9_derive_21 (by decide) ?_
      refine zp_pc (pc' := 22) rfl ?_
      refine zp_ret (v := (some (.int (nI (0))))) dX9_derive_22 ⟨⟨_, rfl, rfl⟩, rfl⟩ (by decide) (by decide) ?_
      rw [hQ]
      rw [eq]; exact ⟨rfl, rfl, zsm.rf, H.rf (by omega)⟩
    · refine zp_iload_n dX9_derive_9 rfl ?_
      refine zp_iconst (v := nI (1)) dX9_derive_10 (by decide) ?_
      refine zp_pc (pc' := 11) rfl ?_
      refine zp_icmp_lt (tgt := 21) dX9_derive_11 (by decide) (fun c11 => ?_) (fun c11 => ?_)
      · have eq : zqderive x k (T, O, S, Gs) = (false, T, O, S, Gs) := if_pos (Or.inr (Or.inr (Or.inl c11)))
        refine zp_iconst (v := nI (0)) dX9_derive_21 (by decide) ?_
        refine zp_pc (pc' := 22) rfl ?_
        refine zp_ret (v := (some (.int (nI (0))))) dX9_derive_22 ⟨⟨_, rfl, rfl⟩, rfl⟩ (by decide) (by decide) ?_
        rw [hQ]
        rw [eq]; exact ⟨rfl, rfl, zsm.rf, H.rf (by omega)⟩
      · refine zp_iload_n dX9_derive_14 rfl ?_
        refine zp_sipush (v := nI (200)) dX9_derive_15 (by decide) ?_
        refine zp_pc (pc' := 18) rfl ?_
        refine zp_icmp_le (tgt := 23) dX9_derive_18 (by decide) (fun c18 => ?_) (fun c18 => ?_)
        · have cn : ¬ (x < 0 ∨ nI 3 < x ∨ k < nI 1 ∨ nI 200 < k) := fun q => by
            rcases q with q | q | q | q
            · exact c1 q
            · exact c6 q
            · exact c11 q
            · exact Int32.not_le.mpr q c18
          have eq0 : zqderive x k (T, O, S, Gs) = _ := if_neg cn
          obtain ⟨j, j31, rfl⟩ := nI_of c1
          have hj : j ≤ 3 := by rcases Nat.lt_or_ge 3 j with q | q; exact absurd (nI_lt q j31) c6; exact q
          have k0 : ¬ k < 0 := fun q => c11 (Int32.lt_trans q (by decide))
          obtain ⟨m, m31, rfl⟩ := nI_of k0
          have hm := (nI_leI m31 (by decide)).mp c18
          rw [nI_clamp j31, nI_clamp m31] at eq0
          refine zp_iload_n dX9_derive_23 rfl ?_
          refine zp_iconst (v := nI (1)) dX9_derive_24 (by decide) ?_
          refine zp_pc (pc' := 25) rfl ?_
          refine zp_iand dX9_derive_25 ?_
          refine zp_i (y := nI (j % 2)) (pk_andN (by omega) 1 (by decide)) ?_
          refine zp_iconst (v := nI (1)) dX9_derive_26 (by decide) ?_
          refine zp_pc (pc' := 27) rfl ?_
          have cont : ∀ b, zod j = b → zP g mX9_derive (zR 6 0 0) Qf 0 0 36 [some (.ref (16)), some (.int (nI (j))), some (.int (nI (m))), some (.int (nI (zbi b)))] [] h n := by
            intro b hb
            rw [hb] at eq0
            have hz := zwb_or b
            have hz2 := zkl_or b
            have hd := zdid2 b
            obtain ⟨e1, e2, e3, ⟨x4, e4⟩, ⟨x5, e5⟩, ⟨x6, e6⟩, ⟨x7, e7⟩, e8, e9⟩ := w4.parts b
            refine zp_iload_n dX9_derive_36 rfl ?_
            refine zp_iconst (v := nI (2)) dX9_derive_37 (by decide) ?_
            refine zp_pc (pc' := 38) rfl ?_
            refine zn_icmp_ge (tgt := 64) dX9_derive_38 (by decide) (by omega) (by omega) (fun c38 => ?_) (fun c38 => ?_)
            · have eq : zqderive (nI j) (nI m) (T, O, S, Gs) = (true, T, zdce b T m, S, Gs) := by rw [eq0, if_neg (fun q => absurd ((nI_ltI j31 (by decide)).mp q) (by omega))]
              have ez : zbi b = (if b then 1 else 0) := by cases b <;> rfl
              refine zp_aload_n dX9_derive_64 rfl ?_
              refine zp_get dX9_derive_65 gX9_31_8 w0 rfl ?_
              refine zp_get dX9_derive_68 gX9_154_2 w4.2.1 rfl ?_
              refine zp_iload_n dX9_derive_71 rfl ?_
              refine zp_pc (pc' := 72) rfl ?_
              refine zp_i (y := nI ((if b then 1 else 0))) (by rw [ez]) ?_
              refine zp_callS (As := [.int (nI ((if b then 1 else 0)))]) (st := [.ref (27)]) dX9_derive_72 cX9_144 rfl (e_keyLength (b := b)) (by decide) (by decide) (Nat.le_of_ble_eq_true rfl) (fun v1 h1 n1 q1 => ?_)
              obtain ⟨rfl, H1, N1⟩ := q1
              rw [N1, H1]
              refine zp_nrm (cells' := 0) (slots' := 0) (st' := [.int (nI (zkl b)), .ref (27)]) rfl rfl rfl ?_
              refine zp_aload_n dX9_derive_75 rfl ?_
              refine zp_get dX9_derive_76 gX9_14_8 w0 rfl ?_
              refine zp_iload_n dX9_derive_79 rfl ?_
              refine zp_aload_n dX9_derive_80 rfl ?_
              refine zp_get dX9_derive_81 gX9_18_8 w0 rfl ?_
              refine zp_pc (pc' := 84) rfl ?_
              obtain ⟨rd9, f9, cc9⟩ := e3.1
              refine zp_callV (As := [.int (nI (zkl b)), .ref (17), .int (nI (m)), .ref (19)]) (k := 27) (st := []) (ci := 0) dX9_derive_84 cX9_180 rfl cc9.2.1 rfl rfl (e_stretchE (b := b) (c := 27) (N := 240) (K := 4096) (k := m) e1 e3 w1 w2 (by omega) (by omega) (by omega) (by omega) (by omega)) (by decide) (by decide) (Nat.le_of_ble_eq_true rfl) (fun v2 h2 n2 q2 => ?_)
              obtain ⟨rfl, N2, s2, r2, y2⟩ := q2
              rw [N2]
              refine zp_nrm (cells' := 0) (slots' := 0) (st' := []) rfl rfl rfl ?_
              have y3_0 := w1.keep (s2 _ (by unfold zcs; omega)) (s2 _ (by unfold zcs; omega))
              have y3_1 : zsup h2 21 S := w3.off (fun i h1 h2 => s2 i (by unfold zcs; omega))
              have y3_2 : h2 (16) = some zwc := (s2 _ (by unfold zcs; omega)).trans w0
              have zk : zdk h2 := zdk.of b ⟨e1.sm s2 (fun i hi => by unfold zcs at hi; omega), (s2 _ (by unfold zcs; omega)).trans e2, y2, ⟨_, e4.keep (s2 _ (by unfold zcs; omega)) (s2 _ (by unfold zcs; omega))⟩, ⟨_, e5.keep (s2 _ (by unfold zcs; omega)) (s2 _ (by unfold zcs; omega))⟩, ⟨_, e6.keep (s2 _ (by unfold zcs; omega)) (s2 _ (by unfold zcs; omega))⟩, ⟨_, e7.keep (s2 _ (by unfold zcs; omega)) (s2 _ (by unfold zcs; omega))⟩, e8.off (fun i h1 h2 => s2 i (by unfold zcs; omega)), e9.off (fun i h1 h2 => s2 i (by unfold zcs; omega))⟩
              refine zp_iconst (v := nI (1)) dX9_derive_87 (by decide) ?_
              refine zp_pc (pc' := 88) rfl ?_
              have sA : zsm h h2 (zbt 17 62) := (s2).mono (fun i hi => by unfold zbt; unfold zcs at hi; omega)
              refine zp_ret (v := (some (.int (nI (1))))) dX9_derive_88 ⟨⟨_, rfl, rfl⟩, rfl⟩ (by decide) (by decide) ?_
              rw [hQ]
              rw [eq]; exact ⟨rfl, rfl, sA.mono (fun i hi => by unfold zbt at hi; unfold zxs; omega), A, H.upd sA y3_0 r2 y3_1 zk (Nat.le_refl _) (by omega)⟩
            · have eq : zqderive (nI j) (nI m) (T, O, S, Gs) = (true, T, zder b T m, S, Gs) := by rw [eq0, if_pos (nI_lt (by omega) (by decide))]
              refine zp_aload_n dX9_derive_41 rfl ?_
              refine zp_get dX9_derive_42 gX9_31_8 w0 rfl ?_
              refine zp_iload_n dX9_derive_45 rfl ?_
              refine zp_pc (pc' := 46) rfl ?_
              refine zp_callV (As := [.int (nI (zbi b))]) (k := 26) (st := []) (ci := 2) dX9_derive_46 cX9_135 rfl e2 rfl rfl (e_digestOf (b := b) e2) (by decide) (by decide) (Nat.le_of_ble_eq_true rfl) (fun v4 h4 n4 q4 => ?_)
              obtain ⟨rfl, H4, N4⟩ := q4
              rw [N4, H4]
              refine zp_nrm (cells' := 0) (slots' := 0) (st' := [.ref (zdid b)]) rfl rfl rfl ?_
              refine zp_aload_n dX9_derive_49 rfl ?_
              refine zp_get dX9_derive_50 gX9_14_8 w0 rfl ?_
              refine zp_iload_n dX9_derive_53 rfl ?_
              refine zp_aload_n dX9_derive_54 rfl ?_
              refine zp_get dX9_derive_55 gX9_18_8 w0 rfl ?_
              refine zp_pc (pc' := 58) rfl ?_
              refine zp_callV (As := [.ref (17), .int (nI (m)), .ref (19)]) (k := zdid b) (st := []) (ci := 3) dX9_derive_58 cX9_176 rfl e8.2.1 rfl rfl (e_stretch (N := 240) (K := 4096) (k := m) e8 e1 w1 w2 (by omega) (by omega) (by omega) (by omega) (by omega)) (by decide) (by decide) (Nat.le_of_ble_eq_true rfl) (fun v5 h5 n5 q5 => ?_)
              obtain ⟨rfl, N5, s5, r5, k5⟩ := q5
              rw [N5]
              refine zp_nrm (cells' := 0) (slots' := 0) (st' := []) rfl rfl rfl ?_
              have y6_0 := w1.keep (s5 _ (by unfold zks; omega)) (s5 _ (by unfold zks; omega))
              have y6_1 : zsup h5 21 S := w3.off (fun i h1 h2 => s5 i (by unfold zks; omega))
              have y6_2 : h5 (16) = some zwc := (s5 _ (by unfold zks; omega)).trans w0
              have zk : zdk h5 := zdk.of b ⟨e1.sm s5 (fun i hi => by unfold zks at hi; omega), (s5 _ (by unfold zks; omega)).trans e2, e3.off (fun i h1 h2 => s5 i (by unfold zks; omega)), ⟨_, e4.keep (s5 _ (by unfold zks; omega)) (s5 _ (by unfold zks; omega))⟩, ⟨_, e5.keep (s5 _ (by unfold zks; omega)) (s5 _ (by unfold zks; omega))⟩, ⟨_, e6.keep (s5 _ (by unfold zks; omega)) (s5 _ (by unfold zks; omega))⟩, ⟨_, e7.keep (s5 _ (by unfold zks; omega)) (s5 _ (by unfold zks; omega))⟩, k5, e9.off (fun i h1 h2 => s5 i (by unfold zks; omega))⟩
              refine zp_goto (tgt := 87) dX9_derive_61 (by decide) ?_
              refine zp_iconst (v := nI (1)) dX9_derive_87 (by decide) ?_
              refine zp_pc (pc' := 88) rfl ?_
              have sA : zsm h h5 (zbt 17 62) := (s5).mono (fun i hi => by unfold zbt; unfold zks at hi; omega)
              refine zp_ret (v := (some (.int (nI (1))))) dX9_derive_88 ⟨⟨_, rfl, rfl⟩, rfl⟩ (by decide) (by decide) ?_
              rw [hQ]
              rw [eq]; exact ⟨rfl, rfl, sA.mono (fun i hi => by unfold zbt at hi; unfold zxs; omega), A, H.upd sA y6_0 r5 y6_1 zk (Nat.le_refl _) (by omega)⟩
          refine zn_icmp_ne (tgt := 34) dX9_derive_27 (by decide) (by omega) (by omega) (fun c27 => ?_) (fun c27 => ?_)
          · refine zp_iconst (v := nI (0)) dX9_derive_34 (by decide) ?_
            refine zp_istore_n (ls' := [some (.ref (16)), some (.int (nI (j))), some (.int (nI (m))), some (.int (nI (0)))]) dX9_derive_35 (by decide) rfl ?_
            refine zp_pc (pc' := 36) rfl ?_
            exact cont false (by unfold zod; exact decide_eq_false c27)
          · refine zp_iconst (v := nI (1)) dX9_derive_30 (by decide) ?_
            refine zp_goto (tgt := 35) dX9_derive_31 (by decide) ?_
            refine zp_istore_n (ls' := [some (.ref (16)), some (.int (nI (j))), some (.int (nI (m))), some (.int (nI (1)))]) dX9_derive_35 (by decide) rfl ?_
            refine zp_pc (pc' := 36) rfl ?_
            exact cont true (by unfold zod; exact decide_eq_true (by omega))
        · have eq : zqderive x k (T, O, S, Gs) = (false, T, O, S, Gs) := if_pos (Or.inr (Or.inr (Or.inr (Int32.not_le.mp c18))))
          refine zp_iconst (v := nI (0)) dX9_derive_21 (by decide) ?_
          refine zp_pc (pc' := 22) rfl ?_
          refine zp_ret (v := (some (.int (nI (0))))) dX9_derive_22 ⟨⟨_, rfl, rfl⟩, rfl⟩ (by decide) (by decide) ?_
          rw [hQ]
          rw [eq]; exact ⟨rfl, rfl, zsm.rf, H.rf (by omega)⟩
