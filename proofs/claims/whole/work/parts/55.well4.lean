theorem zqreseed_at {T O : List Nat} {S : ZSup} {Gs : Nat → Option ZGn} {x : Int32} {r : Bool} {G : ZGn} (hz : zat4 Gs x = some G) : zqreseed x r (T, O, S, Gs) = if zrefuse r T S G = 0 then (nI 0, [], O, zgivS (zgdem G) S, va_up Gs x.toNatClampNeg (some (zgplant (S.1.take (zgdem G)) T G))) else (nI (zrefuse r T S G), T, O, S, Gs) := by
  unfold zqreseed; simp only [hz]
theorem zqdraw_at {T O : List Nat} {S : ZSup} {Gs : Nat → Option ZGn} {x k s : Int32} {r : Bool} {G : ZGn} (hz : zat4 Gs x = some G) : zqdraw x k s r (T, O, S, Gs) = if k < 0 ∨ nI 4096 < k then (nI 2, T, O, S, Gs) else if nI (zgst G) < s then (nI 3, T, O, S, Gs)
      else if r = true ∨ zgdue G = true then
        (if zrefuse r T S G = 0 then (nI 0, [], zgout k.toNatClampNeg [] (zgplant (S.1.take (zgdem G)) T G), zgivS (zgdem G) S, va_up Gs x.toNatClampNeg (some (zgprod k.toNatClampNeg [] (zgplant (S.1.take (zgdem G)) T G)))) else (nI (zrefuse r T S G), T, O, S, Gs))
      else if zgtoo T G = true then (nI 4, T, O, S, Gs)
      else (nI 0, [], zgout k.toNatClampNeg T G, S, va_up Gs x.toNatClampNeg (some (zgprod k.toNatClampNeg T G))) := by
  unfold zqdraw; simp only [hz]
theorem zrefuse_lt {r : Bool} {T : List Nat} {S : ZSup} {G : ZGn} : zrefuse r T S G < 8 := by
  obtain ⟨kd, sg, rs, iv, ct, dr, sd, V, C⟩ := G
  show (if _ then _ else _) < 8
  split
  · decide
  · split
    · decide
    · split <;> decide
theorem zrefuse_0 {r : Bool} {T : List Nat} {S : ZSup} {G : ZGn} (h : zrefuse r T S G = 0) : zgdem G ≤ S.1.length := by
  obtain ⟨kd, sg, rs, iv, ct, dr, sd, V, C⟩ := G
  rcases Nat.lt_or_ge S.1.length (zgdem (kd, sg, rs, iv, ct, dr, sd, V, C)) with q | q
  · exfalso
    have h2 : (if 6 ≤ kd ∧ zsd kd < T.length then 4 else if r = true ∧ rs = false then 5 else if S.1.length < zdem kd sg (zsd kd) sd then 6 else 0) = 0 := h
    split at h2
    · omega
    · split at h2
      · omega
      · rw [if_pos (show S.1.length < zdem kd sg (zsd kd) sd from q)] at h2; omega
  · exact q
set_option maxRecDepth 10000 in
set_option maxHeartbeats 2000000 in
theorem e_reseed {g : ZG} {h : ZH} {n : Nat} {lo t : Nat} {A : Nat → Option Nat} {T O : List Nat} {S : ZSup} {Gs : Nat → Option ZGn} {x : Int32} {r : Bool} (H : zBA lo t h n A (T, O, S, Gs)) (hu : t < 90000) : zMt g mX9_reseed (zR 8 0 0) [.ref (16), .int (x), .int (nI (zbi r))] h n (fun v h' n' => v = some (.int (zqreseed x r (T, O, S, Gs)).1) ∧ n' = n ∧ zsm h h' (zxs lo) ∧ zBW lo (t + 2) h' n' (zqreseed x r (T, O, S, Gs)).2) := by
  refine zMt.of [some (.ref (16)), some (.int (x)), some (.int (nI (zbi r))), none, none] (by decide) rfl (Nat.le_of_ble_eq_true rfl) ?_
  obtain ⟨Qf, hQ⟩ : ∃ Qf : ZQ, Qf = (fun v h' n' => v = some (.int (zqreseed x r (T, O, S, Gs)).1) ∧ n' = n ∧ zsm h h' (zxs lo) ∧ zBW lo (t + 2) h' n' (zqreseed x r (T, O, S, Gs)).2) := ⟨_, rfl⟩
  rw [← hQ]
  obtain ⟨w, rp, wi, pa, un, la, ru, sa, me, se, ta, fa⟩ := S
  obtain ⟨w0, w1, w2, w3, w4, w5, w6, w7, w8⟩ := id H
  have lT := w1.len
  have lO := w2.len
  refine zp_aload_n dX9_reseed_0 rfl ?_
  refine zp_iload_n dX9_reseed_1 rfl ?_
  refine zp_pc (pc' := 2) rfl ?_
  cases hz : zat4 A x with
  | none =>
    have hzG := H.none hz
    refine zp_callV (As := [.int (x)]) (k := 16) (st := []) (ci := 8) dX9_reseed_2 cX9_103 rfl w0 rfl rfl (e_openNone H hz) (by decide) (by decide) (Nat.le_of_ble_eq_true rfl) (fun v1 h1 n1 q1 => ?_)
    obtain ⟨rfl, H1, N1⟩ := q1
    rw [N1, H1]
    refine zp_nrm (cells' := 0) (slots' := 0) (st' := [.null]) rfl rfl rfl ?_
    have eq : zqreseed x r (T, O, (w, rp, wi, pa, un, la, ru, sa, me, se, ta, fa), Gs) = (nI 1, T, O, (w, rp, wi, pa, un, la, ru, sa, me, se, ta, fa), Gs) := by unfold zqreseed; simp only [hzG]
    refine zp_astore_nN (ls' := [some (.ref (16)), some (.int (x)), some (.int (nI (zbi r))), some (.null), none]) dX9_reseed_5 (by decide) rfl ?_
    refine zp_aload_nN dX9_reseed_6 rfl ?_
    refine zp_ifnonnullN dX9_reseed_7 ?_
    refine zp_iconst (v := nI (1)) dX9_reseed_10 (by decide) ?_
    refine zp_pc (pc' := 11) rfl ?_
    refine zp_ret (v := (some (.int (nI (1))))) dX9_reseed_11 ⟨⟨_, rfl, rfl⟩, rfl⟩ (by decide) (by decide) ?_
    rw [hQ]
    rw [eq]; exact ⟨rfl, rfl, zsm.rf, H.rf (by omega)⟩
  | some a =>
    obtain ⟨j, hj, rfl, hA⟩ := zat4_some hz
    obtain ⟨⟨kd, sg, rs, iv, ct, dr, sd, V, C⟩, eG, l64, loa, lo5, hG, hsd⟩ := H.ge hj hA
    have hzG : zat4 Gs (nI j) = _ := (zat4_nI hj).trans eG
    refine zp_callV (As := [.int (nI (j))]) (k := 16) (st := []) (ci := 8) dX9_reseed_2 cX9_103 rfl w0 rfl rfl (e_openSome H hj hA) (by decide) (by decide) (Nat.le_of_ble_eq_true rfl) (fun v2 h2 n2 q2 => ?_)
    obtain ⟨rfl, H2, N2⟩ := q2
    rw [N2, H2]
    refine zp_nrm (cells' := 0) (slots' := 0) (st' := [.ref (a)]) rfl rfl rfl ?_
    obtain ⟨a64, k8, b2, -⟩ := id hG
    have hd48 := zdem_le (sd := sd) k8 b2
    refine zp_astore_n (ls' := [some (.ref (16)), some (.int (nI (j))), some (.int (nI (zbi r))), some (.ref (a)), none]) dX9_reseed_5 (by decide) rfl ?_
    refine zp_aload_n dX9_reseed_6 rfl ?_
    refine zp_ifnonnull (tgt := 12) dX9_reseed_7 (by decide) ?_
    refine zp_aload_n dX9_reseed_12 rfl ?_
    refine zp_aload_n dX9_reseed_13 rfl ?_
    refine zp_iload_n dX9_reseed_14 rfl ?_
    refine zp_pc (pc' := 15) rfl ?_
    refine zp_callV (As := [.ref (a), .int (nI (zbi r))]) (k := 16) (st := []) (ci := 8) dX9_reseed_15 cX9_88 rfl w0 rfl rfl (e_refusal (r := r) H hG hu) (by decide) (by decide) (Nat.le_of_ble_eq_true rfl) (fun v3 h3 n3 q3 => ?_)
    obtain ⟨rfl, H3, N3⟩ := q3
    rw [N3, H3]
    refine zp_nrm (cells' := 0) (slots' := 0) (st' := [.int (nI (zrefuse r T (w, rp, wi, pa, un, la, ru, sa, me, se, ta, fa) (kd, sg, rs, iv, ct, dr, sd, V, C)))]) rfl rfl rfl ?_
    have hrl := zrefuse_lt (r := r) (T := T) (S := (w, rp, wi, pa, un, la, ru, sa, me, se, ta, fa)) (G := (kd, sg, rs, iv, ct, dr, sd, V, C))
    refine zp_istore (ls' := [some (.ref (16)), some (.int (nI (j))), some (.int (nI (zbi r))), some (.ref (a)), some (.int (nI (zrefuse r T (w, rp, wi, pa, un, la, ru, sa, me, se, ta, fa) (kd, sg, rs, iv, ct, dr, sd, V, C))))]) dX9_reseed_18 (by decide) rfl ?_
    refine zp_iload dX9_reseed_20 rfl ?_
    refine zp_pc (pc' := 22) rfl ?_
    refine zn_if_eq (tgt := 28) dX9_reseed_22 (by decide) (by omega) (fun c22 => ?_) (fun c22 => ?_)
    · have hd0 := zrefuse_0 c22
      have hd0 : zdem kd sg (zsd kd) sd ≤ w.length := hd0
      have eq : zqreseed (nI j) r (T, O, (w, rp, wi, pa, un, la, ru, sa, me, se, ta, fa), Gs) = (nI 0, [], O, zgivS (zdem kd sg (zsd kd) sd) (w, rp, wi, pa, un, la, ru, sa, me, se, ta, fa), va_up Gs j (some (zgplant (w.take (zdem kd sg (zsd kd) sd)) T (kd, sg, rs, iv, ct, dr, sd, V, C)))) := (zqreseed_at hzG).trans ((if_pos c22).trans (by rw [nI_clamp (by omega)]; rfl))
      refine zp_aload_n dX9_reseed_28 rfl ?_
      refine zp_aload_n dX9_reseed_29 rfl ?_
      refine zp_get dX9_reseed_30 gX9_24_8 w0 rfl ?_
      refine zp_aload_n dX9_reseed_33 rfl ?_
      refine zp_pc (pc' := 34) rfl ?_
      refine zp_gcall (As := []) (a := a) (st := [.ref (21), .ref (a)]) dX9_reseed_34 cX9_92_4 cX9_92_5 cX9_92_1 rfl hG (fun _ => (e_gdemand hG hu)) (fun _ _ => (e_gdemand hG hu)) (fun _ _ => (e_gdemand hG hu)) (by decide) (by decide) (by decide) (by decide) (Nat.le_of_ble_eq_true rfl) (fun v4 h4 n4 q4 => ?_)
      obtain ⟨rfl, H4, N4⟩ := q4
      rw [N4, H4]
      refine zp_nrm (cells' := 0) (slots' := 0) (st' := [.int (nI (zdem kd sg (zsd kd) sd)), .ref (21), .ref (a)]) rfl rfl rfl ?_
      refine zp_callV (As := [.int (nI (zdem kd sg (zsd kd) sd))]) (k := 21) (st := [.ref (a)]) (ci := 7) dX9_reseed_37 cX9_95 rfl w3.2.1 rfl rfl (e_give (k := zdem kd sg (zsd kd) sd) w3 hd0 hd48) (by decide) (by decide) (Nat.le_of_ble_eq_true rfl) (fun v5 h5 n5 q5 => ?_)
      obtain ⟨rfl, N5, s5, k5, r5⟩ := q5
      rw [N5]
      refine zp_nrm (cells' := 0) (slots' := 0) (st' := [.ref (24), .ref (a)]) rfl rfl rfl ?_
      have g5 : zgen h5 a t (kd, sg, rs, iv, ct, dr, sd, V, C) := hG.off (fun i h1 h2 => s5 i (by unfold zss; omega))
      have y6_0 := w1.keep (s5 _ (by unfold zss; omega)) (s5 _ (by unfold zss; omega))
      have y6_1 := w2.keep (s5 _ (by unfold zss; omega)) (s5 _ (by unfold zss; omega))
      have y6_2 : zdk h5 := w4.off s5 (fun i hi => by unfold zss at hi; omega)
      have y6_3 : h5 (16) = some zwc := (s5 _ (by unfold zss; omega)).trans w0
      refine zp_aload_n dX9_reseed_40 rfl ?_
      refine zp_get dX9_reseed_41 gX9_14_8 y6_3 rfl ?_
      refine zp_pc (pc' := 44) rfl ?_
      refine zp_gcall (As := [.ref (24), .ref (17)]) (a := a) (st := []) dX9_reseed_44 cX9_99_4 cX9_99_5 cX9_99_1 rfl g5 (e_gplant4 g5 hu y6_2 r5 y6_0) (e_gplant5 g5 hu y6_2 r5 y6_0) (e_gplant1 g5 hu y6_2 r5 y6_0) (by decide) (by decide) (by decide) (by decide) (Nat.le_of_ble_eq_true rfl) (fun v7 h7 n7 q7 => ?_)
      obtain ⟨rfl, N7, s7, k7, g7⟩ := q7
      rw [N7]
      refine zp_nrm (cells' := 0) (slots' := 0) (st' := []) rfl rfl rfl ?_
      have y8_0 := y6_0.keep (s7 _ (by unfold zgs; omega)) (s7 _ (by unfold zgs; omega))
      have y8_1 := y6_1.keep (s7 _ (by unfold zgs; omega)) (s7 _ (by unfold zgs; omega))
      have y8_2 : zsup h7 21 (zgivS (zdem kd sg (zsd kd) sd) (w, rp, wi, pa, un, la, ru, sa, me, se, ta, fa)) := k5.off (fun i h1 h2 => s7 i (by unfold zgs; omega))
      have y8_3 : h7 (16) = some zwc := (s7 _ (by unfold zgs; omega)).trans y6_3
      refine zp_aload_n dX9_reseed_47 rfl ?_
      refine zp_get dX9_reseed_48 gX9_14_8 y8_3 rfl ?_
      refine zp_pc (pc' := 51) rfl ?_
      refine zp_callV (As := []) (k := 17) (st := []) (ci := 6) dX9_reseed_51 cX9_63 rfl y8_0.2.1 rfl rfl (e_clear (N := 240) y8_0) (by decide) (by decide) (Nat.le_of_ble_eq_true rfl) (fun v9 h9 n9 q9 => ?_)
      obtain ⟨rfl, N9, s9, r9⟩ := q9
      rw [N9]
      refine zp_nrm (cells' := 0) (slots' := 0) (st' := []) rfl rfl rfl ?_
      have y10_0 := y8_1.keep (s9 _ (by unfold zrs; omega)) (s9 _ (by unfold zrs; omega))
      have y10_1 : zsup h9 21 (zgivS (zdem kd sg (zsd kd) sd) (w, rp, wi, pa, un, la, ru, sa, me, se, ta, fa)) := y8_2.off (fun i h1 h2 => s9 i (by unfold zrs; omega))
      have y10_2 : zdk h9 := k7.off s9 (fun i hi => by unfold zrs at hi; omega)
      have y10_3 : h9 (16) = some zwc := (s9 _ (by unfold zrs; omega)).trans y8_3
      have gg : zgen h9 a (t + 1) (zgplant (w.take (zdem kd sg (zsd kd) sd)) T (kd, sg, rs, iv, ct, dr, sd, V, C)) := g7.off (fun i h1 h2 => s9 i (by unfold zrs; omega))
      have sA : zsm h h9 (fun i => zbt 17 62 i ∨ zbt a (a + 4) i) := (((s5).mono (fun i hi => by unfold zss at hi; unfold zbt; omega)).trans ((s7).mono (fun i hi => by unfold zgs at hi; unfold zbt; omega))).trans ((s9).mono (fun i hi => by unfold zrs at hi; unfold zbt; omega))
      refine zp_iconst (v := nI (0)) dX9_reseed_54 (by decide) ?_
      refine zp_pc (pc' := 55) rfl ?_
      refine zp_ret (v := (some (.int (nI (0))))) dX9_reseed_55 ⟨⟨_, rfl, rfl⟩, rfl⟩ (by decide) (by decide) ?_
      rw [hQ]
      rw [eq]; exact ⟨rfl, rfl, sA.mono (fun i hi => by unfold zbt at hi; unfold zxs; omega), A, H.gen hj hA sA r9 y10_0 y10_1 y10_2 (gg.more (by omega)) (Nat.succ_ne_zero _) (Nat.le_refl _) (by omega)⟩
    · have eq : zqreseed (nI j) r (T, O, (w, rp, wi, pa, un, la, ru, sa, me, se, ta, fa), Gs) = (nI (zrefuse r T (w, rp, wi, pa, un, la, ru, sa, me, se, ta, fa) (kd, sg, rs, iv, ct, dr, sd, V, C)), T, O, (w, rp, wi, pa, un, la, ru, sa, me, se, ta, fa), Gs) := (zqreseed_at hzG).trans (if_neg c22)
      refine zp_iload dX9_reseed_25 rfl ?_
      refine zp_pc (pc' := 27) rfl ?_
      refine zp_ret (v := (some (.int (nI (zrefuse r T (w, rp, wi, pa, un, la, ru, sa, me, se, ta, fa) (kd, sg, rs, iv, ct, dr, sd, V, C)))))) dX9_reseed_27 ⟨⟨_, rfl, rfl⟩, rfl⟩ (by decide) (by decide) ?_
      rw [hQ]
      rw [eq]; exact ⟨rfl, rfl, zsm.rf, H.rf (by omega)⟩
set_option maxRecDepth 10000 in
set_option maxHeartbeats 2000000 in
theorem e_draw {g : ZG} {h : ZH} {n : Nat} {lo t : Nat} {A : Nat → Option Nat} {T O : List Nat} {S : ZSup} {Gs : Nat → Option ZGn} {x k s : Int32} {r : Bool} (H : zBA lo t h n A (T, O, S, Gs)) (hu : t < 80000) : zMt g mX9_draw (zR 8 0 0) [.ref (16), .int (x), .int (k), .int (s), .int (nI (zbi r))] h n (fun v h' n' => v = some (.int (zqdraw x k s r (T, O, S, Gs)).1) ∧ n' = n ∧ zsm h h' (zxs lo) ∧ zBW lo (t + 2) h' n' (zqdraw x k s r (T, O, S, Gs)).2) := by
  refine zMt.of [some (.ref (16)), some (.int (x)), some (.int (k)), some (.int (s)), some (.int (nI (zbi r))), none, none] (by decide) rfl (Nat.le_of_ble_eq_true rfl) ?_
  obtain ⟨Qf, hQ⟩ : ∃ Qf : ZQ, Qf = (fun v h' n' => v = some (.int (zqdraw x k s r (T, O, S, Gs)).1) ∧ n' = n ∧ zsm h h' (zxs lo) ∧ zBW lo (t + 2) h' n' (zqdraw x k s r (T, O, S, Gs)).2) := ⟨_, rfl⟩
  rw [← hQ]
  obtain ⟨w, rp, wi, pa, un, la, ru, sa, me, se, ta, fa⟩ := S
  obtain ⟨w0, w1, w2, w3, w4, w5, w6, w7, w8⟩ := id H
  have lT := w1.len
  have lO := w2.len
  refine zp_aload_n dX9_draw_0 rfl ?_
  refine zp_iload_n dX9_draw_1 rfl ?_
  refine zp_pc (pc' := 2) rfl ?_
  cases hz : zat4 A x with
  | none =>
    have hzG := H.none hz
    refine zp_callV (As := [.int (x)]) (k := 16) (st := []) (ci := 8) dX9_draw_2 cX9_103 rfl w0 rfl rfl (e_openNone H hz) (by decide) (by decide) (Nat.le_of_ble_eq_true rfl) (fun v1 h1 n1 q1 => ?_)
    obtain ⟨rfl, H1, N1⟩ := q1
    rw [N1, H1]
    refine zp_nrm (cells' := 0) (slots' := 0) (st' := [.null]) rfl rfl rfl ?_
    have eq : zqdraw x k s r (T, O, (w, rp, wi, pa, un, la, ru, sa, me, se, ta, fa), Gs) = (nI 1, T, O, (w, rp, wi, pa, un, la, ru, sa, me, se, ta, fa), Gs) := by unfold zqdraw; simp only [hzG]
    refine zp_astoreN (ls' := [some (.ref (16)), some (.int (x)), some (.int (k)), some (.int (s)), some (.int (nI (zbi r))), some (.null), none]) dX9_draw_5 (by decide) rfl ?_
    refine zp_aloadN dX9_draw_7 rfl ?_
    refine zp_ifnonnullN dX9_draw_9 ?_
    refine zp_iconst (v := nI (1)) dX9_draw_12 (by decide) ?_
    refine zp_pc (pc' := 13) rfl ?_
    refine zp_ret (v := (some (.int (nI (1))))) dX9_draw_13 ⟨⟨_, rfl, rfl⟩, rfl⟩ (by decide) (by decide) ?_
    rw [hQ]
    rw [eq]; exact ⟨rfl, rfl, zsm.rf, H.rf (by omega)⟩
  | some a =>
    obtain ⟨j, hj, rfl, hA⟩ := zat4_some hz
    obtain ⟨⟨kd, sg, rs, iv, ct, dr, sd, V, C⟩, eG, l64, loa, lo5, hG, hsd⟩ := H.ge hj hA
    have hzG : zat4 Gs (nI j) = _ := (zat4_nI hj).trans eG
    refine zp_callV (As := [.int (nI (j))]) (k := 16) (st := []) (ci := 8) dX9_draw_2 cX9_103 rfl w0 rfl rfl (e_openSome H hj hA) (by decide) (by decide) (Nat.le_of_ble_eq_true rfl) (fun v2 h2 n2 q2 => ?_)
    obtain ⟨rfl, H2, N2⟩ := q2
    rw [N2, H2]
    refine zp_nrm (cells' := 0) (slots' := 0) (st' := [.ref (a)]) rfl rfl rfl ?_
    obtain ⟨a64, k8, b2, -⟩ := id hG
    have hd48 := zdem_le (sd := sd) k8 b2
    have hr := zbi_lt r
    refine zp_astore (ls' := [some (.ref (16)), some (.int (nI (j))), some (.int (k)), some (.int (s)), some (.int (nI (zbi r))), some (.ref (a)), none]) dX9_draw_5 (by decide) rfl ?_
    refine zp_aload dX9_draw_7 rfl ?_
    refine zp_ifnonnull (tgt := 14) dX9_draw_9 (by decide) ?_
    refine zp_iload_n dX9_draw_14 rfl ?_
    refine zp_pc (pc' := 15) rfl ?_
    refine zp_if_lt (tgt := 25) dX9_draw_15 (by decide) (fun c15 => ?_) (fun c15 => ?_)
    · have eq : zqdraw (nI j) k s r (T, O, (w, rp, wi, pa, un, la, ru, sa, me, se, ta, fa), Gs) = (nI 2, T, O, (w, rp, wi, pa, un, la, ru, sa, me, se, ta, fa), Gs) := (zqdraw_at hzG).trans (if_pos (Or.inl c15))
      refine zp_iconst (v := nI (2)) dX9_draw_25 (by decide) ?_
      refine zp_pc (pc' := 26) rfl ?_
      refine zp_ret (v := (some (.int (nI (2))))) dX9_draw_26 ⟨⟨_, rfl, rfl⟩, rfl⟩ (by decide) (by decide) ?_
      rw [hQ]
      rw [eq]; exact ⟨rfl, rfl, zsm.rf, H.rf (by omega)⟩
    · refine zp_iload_n dX9_draw_18 rfl ?_
      refine zp_sipush (v := nI (4096)) dX9_draw_19 (by decide) ?_
      refine zp_pc (pc' := 22) rfl ?_
      refine zp_icmp_le (tgt := 27) dX9_draw_22 (by decide) (fun c22 => ?_) (fun c22 => ?_)
      · have cn : ¬ (k < 0 ∨ nI 4096 < k) := fun q => q.elim c15 (fun q => Int32.not_le.mpr q c22)
        have eq1 := (zqdraw_at (T := T) (O := O) (S := (w, rp, wi, pa, un, la, ru, sa, me, se, ta, fa)) (s := s) (r := r) hzG).trans (if_neg cn)
        obtain ⟨m, m31, rfl⟩ := nI_of c15
        have hm := (nI_leI m31 (by decide)).mp c22
        rw [nI_clamp m31, nI_clamp (by omega)] at eq1
        refine zp_iload_n dX9_draw_27 rfl ?_
        refine zp_aload dX9_draw_28 rfl ?_
        refine zp_pc (pc' := 30) rfl ?_
        refine zp_gget (v := .int (nI (sg))) dX9_draw_30 gX9_110_4 gX9_110_5 gX9_110_1 hG rfl ?_
        refine zp_pc (pc' := 33) rfl ?_
        refine zp_icmp_le (tgt := 38) dX9_draw_33 (by decide) (fun c33 => ?_) (fun c33 => ?_)
        · have eq2 := eq1.trans (if_neg (fun q => Int32.not_le.mpr q c33))
          have prod : ∀ (h1 : ZH) (T1 O1 : List Nat) (S1 : ZSup) (ct1 sd1 : Nat) (V1 C1 : List Nat), sd1 ≠ 0 → zqdraw (nI j) (nI m) s r (T, O, (w, rp, wi, pa, un, la, ru, sa, me, se, ta, fa), Gs) = (nI 0, [], zgout m T1 (kd, sg, rs, iv, ct1, dr, sd1, V1, C1), S1, va_up Gs j (some (zgprod m T1 (kd, sg, rs, iv, ct1, dr, sd1, V1, C1)))) → zsm h h1 (fun i => zbt 17 62 i ∨ zbt a (a + 4) i) → h1 16 = some zwc → zrow h1 17 240 T1 → zrow h1 19 4096 O1 → zsup h1 21 S1 → zdk h1 → zgen h1 a (t + 1) (kd, sg, rs, iv, ct1, dr, sd1, V1, C1) → zP g mX9_draw (zR 8 0 0) Qf 0 0 114 [some (.ref (16)), some (.int (nI (j))), some (.int (nI (m))), some (.int (s)), some (.int (nI (zbi r))), some (.ref (a)), none] [] h1 n := by
            intro h1 T1 O1 S1 ct1 sd1 V1 C1 sd0 eq sm1 w0 w1 w2 w3 w4 hG
            refine zp_aload_n dX9_draw_114 rfl ?_
            refine zp_get dX9_draw_115 gX9_18_8 w0 rfl ?_
            refine zp_pc (pc' := 118) rfl ?_
            refine zp_callV (As := []) (k := 19) (st := []) (ci := 6) dX9_draw_118 cX9_63 rfl w2.2.1 rfl rfl (e_clear (N := 4096) w2) (by decide) (by decide) (Nat.le_of_ble_eq_true rfl) (fun v3 h3 n3 q3 => ?_)
            obtain ⟨rfl, N3, s3, r3⟩ := q3
            rw [N3]
            refine zp_nrm (cells' := 0) (slots' := 0) (st' := []) rfl rfl rfl ?_
            have y4_0 := w1.keep (s3 _ (by unfold zrs; omega)) (s3 _ (by unfold zrs; omega))
            have y4_1 : zsup h3 21 S1 := w3.off (fun i h1 h2 => s3 i (by unfold zrs; omega))
            have y4_2 : zdk h3 := w4.off s3 (fun i hi => by unfold zrs at hi; omega)
            have y4_3 : h3 (16) = some zwc := (s3 _ (by unfold zrs; omega)).trans w0
            have g1 := hG.off (h' := h3) (fun i h1 h2 => s3 i (by unfold zrs; omega))
            refine zp_aload dX9_draw_121 rfl ?_
            refine zp_iload_n dX9_draw_123 rfl ?_
            refine zp_aload_n dX9_draw_124 rfl ?_
            refine zp_get dX9_draw_125 gX9_14_8 y4_3 rfl ?_
            refine zp_aload_n dX9_draw_128 rfl ?_
            refine zp_get dX9_draw_129 gX9_18_8 y4_3 rfl ?_
            refine zp_pc (pc' := 132) rfl ?_
            refine zp_gcall (As := [.int (nI (m)), .ref (17), .ref (19)]) (a := a) (st := []) dX9_draw_132 cX9_121_4 cX9_121_5 cX9_121_1 rfl g1 (e_gprod4 (k := m) g1 (by omega) y4_2 y4_0 r3 hm sd0) (e_gprod5 (k := m) g1 (by omega) y4_2 y4_0 r3 hm sd0) (e_gprod1 (k := m) g1 (by omega) y4_2 y4_0 r3 hm sd0) (by decide) (by decide) (by decide) (by decide) (Nat.le_of_ble_eq_true rfl) (fun v5 h5 n5 q5 => ?_)
            obtain ⟨rfl, N5, s5, k5, r5, g5⟩ := q5
            rw [N5]
            refine zp_nrm (cells' := 0) (slots' := 0) (st' := []) rfl rfl rfl ?_
            have y6_0 := y4_0.keep (s5 _ (by unfold zgo; omega)) (s5 _ (by unfold zgo; omega))
            have y6_1 : zsup h5 21 S1 := y4_1.off (fun i h1 h2 => s5 i (by unfold zgo; omega))
            have y6_2 : h5 (16) = some zwc := (s5 _ (by unfold zgo; omega)).trans y4_3
            refine zp_aload_n dX9_draw_135 rfl ?_
            refine zp_get dX9_draw_136 gX9_14_8 y6_2 rfl ?_
            refine zp_pc (pc' := 139) rfl ?_
            refine zp_callV (As := []) (k := 17) (st := []) (ci := 6) dX9_draw_139 cX9_63 rfl y6_0.2.1 rfl rfl (e_clear (N := 240) y6_0) (by decide) (by decide) (Nat.le_of_ble_eq_true rfl) (fun v7 h7 n7 q7 => ?_)
            obtain ⟨rfl, N7, s7, r7⟩ := q7
            rw [N7]
            refine zp_nrm (cells' := 0) (slots' := 0) (st' := []) rfl rfl rfl ?_
            have y8_0 := r5.keep (s7 _ (by unfold zrs; omega)) (s7 _ (by unfold zrs; omega))
            have y8_1 : zsup h7 21 S1 := y6_1.off (fun i h1 h2 => s7 i (by unfold zrs; omega))
            have y8_2 : zdk h7 := k5.off s7 (fun i hi => by unfold zrs at hi; omega)
            have y8_3 : h7 (16) = some zwc := (s7 _ (by unfold zrs; omega)).trans y6_2
            have gg := g5.off (h' := h7) (fun i h1 h2 => s7 i (by unfold zrs; omega))
            have sA : zsm h h7 (fun i => zbt 17 62 i ∨ zbt a (a + 4) i) := ((((sm1).mono (fun i hi => by unfold zbt at *; omega)).trans ((s3).mono (fun i hi => by unfold zrs at hi; unfold zbt at *; omega))).trans ((s5).mono (fun i hi => by unfold zgo at hi; unfold zbt at *; omega))).trans ((s7).mono (fun i hi => by unfold zrs at hi; unfold zbt at *; omega))
            refine zp_iconst (v := nI (0)) dX9_draw_142 (by decide) ?_
            refine zp_pc (pc' := 143) rfl ?_
            refine zp_ret (v := (some (.int (nI (0))))) dX9_draw_143 ⟨⟨_, rfl, rfl⟩, rfl⟩ (by decide) (by decide) ?_
            rw [hQ]
            rw [eq]; exact ⟨rfl, rfl, sA.mono (fun i hi => by unfold zbt at hi; unfold zxs; omega), A, H.gen hj hA sA r7 y8_0 y8_1 y8_2 (gg.more (by omega)) sd0 (Nat.le_refl _) (by omega)⟩
          have anew : (r = true ∨ decide (iv < ct) = true) → zP g mX9_draw (zR 8 0 0) Qf 0 0 51 [some (.ref (16)), some (.int (nI (j))), some (.int (nI (m))), some (.int (s)), some (.int (nI (zbi r))), some (.ref (a)), none] [] h n := by
            intro hdue
            have eq3 := eq2.trans (if_pos hdue)
            refine zp_aload_n dX9_draw_51 rfl ?_
            refine zp_aload dX9_draw_52 rfl ?_
            refine zp_iload dX9_draw_54 rfl ?_
            refine zp_pc (pc' := 56) rfl ?_
            refine zp_callV (As := [.ref (a), .int (nI (zbi r))]) (k := 16) (st := []) (ci := 8) dX9_draw_56 cX9_88 rfl w0 rfl rfl (e_refusal (r := r) H hG (by omega)) (by decide) (by decide) (Nat.le_of_ble_eq_true rfl) (fun v9 h9 n9 q9 => ?_)
            obtain ⟨rfl, H9, N9⟩ := q9
            rw [N9, H9]
            refine zp_nrm (cells' := 0) (slots' := 0) (st' := [.int (nI (zrefuse r T (w, rp, wi, pa, un, la, ru, sa, me, se, ta, fa) (kd, sg, rs, iv, ct, dr, sd, V, C)))]) rfl rfl rfl ?_
            have hrl := zrefuse_lt (r := r) (T := T) (S := (w, rp, wi, pa, un, la, ru, sa, me, se, ta, fa)) (G := (kd, sg, rs, iv, ct, dr, sd, V, C))
            refine zp_istore (ls' := [some (.ref (16)), some (.int (nI (j))), some (.int (nI (m))), some (.int (s)), some (.int (nI (zbi r))), some (.ref (a)), some (.int (nI (zrefuse r T (w, rp, wi, pa, un, la, ru, sa, me, se, ta, fa) (kd, sg, rs, iv, ct, dr, sd, V, C))))]) dX9_draw_59 (by decide) rfl ?_
            refine zp_iload dX9_draw_61 rfl ?_
            refine zp_pc (pc' := 63) rfl ?_
            refine zn_if_eq (tgt := 69) dX9_draw_63 (by decide) (by omega) (fun c63 => ?_) (fun c63 => ?_)
            · have hd0 := zrefuse_0 c63
              have hd0 : zdem kd sg (zsd kd) sd ≤ w.length := hd0
              have eq4 := eq3.trans (if_pos c63)
              have hu9 := hu
              have hu : t < 90000 := by omega
              refine zp_aload dX9_draw_69 rfl ?_
              refine zp_aload_n dX9_draw_71 rfl ?_
              refine zp_get dX9_draw_72 gX9_24_8 w0 rfl ?_
              refine zp_aload dX9_draw_75 rfl ?_
              refine zp_pc (pc' := 77) rfl ?_
              refine zp_gcall (As := []) (a := a) (st := [.ref (21), .ref (a)]) dX9_draw_77 cX9_92_4 cX9_92_5 cX9_92_1 rfl hG (fun _ => (e_gdemand hG hu)) (fun _ _ => (e_gdemand hG hu)) (fun _ _ => (e_gdemand hG hu)) (by decide) (by decide) (by decide) (by decide) (Nat.le_of_ble_eq_true rfl) (fun v10 h10 n10 q10 => ?_)
              obtain ⟨rfl, H10, N10⟩ := q10
              rw [N10, H10]
              refine zp_nrm (cells' := 0) (slots' := 0) (st' := [.int (nI (zdem kd sg (zsd kd) sd)), .ref (21), .ref (a)]) rfl rfl rfl ?_
              refine zp_callV (As := [.int (nI (zdem kd sg (zsd kd) sd))]) (k := 21) (st := [.ref (a)]) (ci := 7) dX9_draw_80 cX9_95 rfl w3.2.1 rfl rfl (e_give (k := zdem kd sg (zsd kd) sd) w3 hd0 hd48) (by decide) (by decide) (Nat.le_of_ble_eq_true rfl) (fun v11 h11 n11 q11 => ?_)
              obtain ⟨rfl, N11, s11, k11, r11⟩ := q11
              rw [N11]
              refine zp_nrm (cells' := 0) (slots' := 0) (st' := [.ref (24), .ref (a)]) rfl rfl rfl ?_
              have g11 : zgen h11 a t (kd, sg, rs, iv, ct, dr, sd, V, C) := hG.off (fun i h1 h2 => s11 i (by unfold zss; omega))
              have y12_0 := w1.keep (s11 _ (by unfold zss; omega)) (s11 _ (by unfold zss; omega))
              have y12_1 := w2.keep (s11 _ (by unfold zss; omega)) (s11 _ (by unfold zss; omega))
              have y12_2 : zdk h11 := w4.off s11 (fun i hi => by unfold zss at hi; omega)
              have y12_3 : h11 (16) = some zwc := (s11 _ (by unfold zss; omega)).trans w0
              refine zp_aload_n dX9_draw_83 rfl ?_
              refine zp_get dX9_draw_84 gX9_14_8 y12_3 rfl ?_
              refine zp_pc (pc' := 87) rfl ?_
              refine zp_gcall (As := [.ref (24), .ref (17)]) (a := a) (st := []) dX9_draw_87 cX9_99_4 cX9_99_5 cX9_99_1 rfl g11 (e_gplant4 g11 hu y12_2 r11 y12_0) (e_gplant5 g11 hu y12_2 r11 y12_0) (e_gplant1 g11 hu y12_2 r11 y12_0) (by decide) (by decide) (by decide) (by decide) (Nat.le_of_ble_eq_true rfl) (fun v13 h13 n13 q13 => ?_)
              obtain ⟨rfl, N13, s13, k13, g13⟩ := q13
              rw [N13]
              refine zp_nrm (cells' := 0) (slots' := 0) (st' := []) rfl rfl rfl ?_
              have y14_0 := y12_0.keep (s13 _ (by unfold zgs; omega)) (s13 _ (by unfold zgs; omega))
              have y14_1 := y12_1.keep (s13 _ (by unfold zgs; omega)) (s13 _ (by unfold zgs; omega))
              have y14_2 : zsup h13 21 (zgivS (zdem kd sg (zsd kd) sd) (w, rp, wi, pa, un, la, ru, sa, me, se, ta, fa)) := k11.off (fun i h1 h2 => s13 i (by unfold zgs; omega))
              have y14_3 : h13 (16) = some zwc := (s13 _ (by unfold zgs; omega)).trans y12_3
              refine zp_aload_n dX9_draw_90 rfl ?_
              refine zp_get dX9_draw_91 gX9_14_8 y14_3 rfl ?_
              refine zp_pc (pc' := 94) rfl ?_
              refine zp_callV (As := []) (k := 17) (st := []) (ci := 6) dX9_draw_94 cX9_63 rfl y14_0.2.1 rfl rfl (e_clear (N := 240) y14_0) (by decide) (by decide) (Nat.le_of_ble_eq_true rfl) (fun v15 h15 n15 q15 => ?_)
              obtain ⟨rfl, N15, s15, r15⟩ := q15
              rw [N15]
              refine zp_nrm (cells' := 0) (slots' := 0) (st' := []) rfl rfl rfl ?_
              have y16_0 := y14_1.keep (s15 _ (by unfold zrs; omega)) (s15 _ (by unfold zrs; omega))
              have y16_1 : zsup h15 21 (zgivS (zdem kd sg (zsd kd) sd) (w, rp, wi, pa, un, la, ru, sa, me, se, ta, fa)) := y14_2.off (fun i h1 h2 => s15 i (by unfold zrs; omega))
              have y16_2 : zdk h15 := k13.off s15 (fun i hi => by unfold zrs at hi; omega)
              have y16_3 : h15 (16) = some zwc := (s15 _ (by unfold zrs; omega)).trans y14_3
              have gg : zgen h15 a (t + 1) (zgplant (w.take (zdem kd sg (zsd kd) sd)) T (kd, sg, rs, iv, ct, dr, sd, V, C)) := g13.off (fun i h1 h2 => s15 i (by unfold zrs; omega))
              refine zp_goto (tgt := 114) dX9_draw_97 (by decide) ?_
              refine zp_pc (pc' := 114) rfl ?_
              refine zp_drop (ls' := [some (.ref (16)), some (.int (nI (j))), some (.int (nI (m))), some (.int (s)), some (.int (nI (zbi r))), some (.ref (a)), none]) (fun i v hv => ?_) ?_
              · rcases i with _ | _ | _ | _ | _ | _ | _ | i <;> simp at hv ⊢ <;> exact hv
              have sA : zsm h h15 (fun i => zbt 17 62 i ∨ zbt a (a + 4) i) := (((s11).mono (fun i hi => by unfold zss at hi; unfold zbt at *; omega)).trans ((s13).mono (fun i hi => by unfold zgs at hi; unfold zbt at *; omega))).trans ((s15).mono (fun i hi => by unfold zrs at hi; unfold zbt at *; omega))
              exact prod h15 [] O _ _ _ _ _ (Nat.succ_ne_zero _) eq4 sA y16_3 r15 y16_0 y16_1 y16_2 gg
            · have eq := eq3.trans (if_neg c63)
              refine zp_iload dX9_draw_66 rfl ?_
              refine zp_pc (pc' := 68) rfl ?_
              refine zp_ret (v := (some (.int (nI (zrefuse r T (w, rp, wi, pa, un, la, ru, sa, me, se, ta, fa) (kd, sg, rs, iv, ct, dr, sd, V, C)))))) dX9_draw_68 ⟨⟨_, rfl, rfl⟩, rfl⟩ (by decide) (by decide) ?_
              rw [hQ]
              rw [eq]; exact ⟨rfl, rfl, zsm.rf, H.rf (by omega)⟩
          refine zp_iload dX9_draw_38 rfl ?_
          refine zp_pc (pc' := 40) rfl ?_
          refine zn_if_ne (tgt := 51) dX9_draw_40 (by decide) (by omega) (fun c40 => ?_) (fun c40 => ?_)
          · exact anew (Or.inl (by cases r; exact absurd rfl c40; rfl))
          · have r0 : r = false := by cases r; rfl; exact absurd c40 (by decide)
            refine zp_aload dX9_draw_43 rfl ?_
            refine zp_pc (pc' := 45) rfl ?_
            refine zp_gcall (As := []) (a := a) (st := []) dX9_draw_45 cX9_114_4 cX9_114_5 cX9_114_1 rfl hG (fun _ => (e_gisDue hG (by omega))) (fun _ _ => (e_gisDue hG (by omega))) (fun _ _ => (e_gisDue hG (by omega))) (by decide) (by decide) (by decide) (by decide) (Nat.le_of_ble_eq_true rfl) (fun v17 h17 n17 q17 => ?_)
            obtain ⟨rfl, H17, N17⟩ := q17
            rw [N17, H17]
            refine zp_nrm (cells' := 0) (slots' := 0) (st' := [.int (nI (zbi (decide (iv < ct))))]) rfl rfl rfl ?_
            have hdl := zbi_lt (decide (iv < ct))
            refine zp_pc (pc' := 48) rfl ?_
            refine zn_if_eq (tgt := 100) dX9_draw_48 (by decide) (by omega) (fun c48 => ?_) (fun c48 => ?_)
            · have d0 : decide (iv < ct) = false := by cases hq : decide (iv < ct); rfl; rw [hq] at c48; exact absurd c48 (by decide)
              have eq3 := eq2.trans (if_neg (fun q => q.elim (fun q => by rw [r0] at q; cases q) (fun q => by rw [show zgdue (kd, sg, rs, iv, ct, dr, sd, V, C) = decide (iv < ct) from rfl, d0] at q; cases q)))
              refine zp_aload dX9_draw_100 rfl ?_
              refine zp_aload_n dX9_draw_102 rfl ?_
              refine zp_get dX9_draw_103 gX9_14_8 w0 rfl ?_
              refine zp_pc (pc' := 106) rfl ?_
              refine zp_gcall (As := [.ref (17)]) (a := a) (st := []) dX9_draw_106 cX9_117_4 cX9_117_5 cX9_117_1 rfl hG (fun _ => (e_gisTooLong hG (by omega) w1)) (fun _ _ => (e_gisTooLong hG (by omega) w1)) (fun _ _ => (e_gisTooLong hG (by omega) w1)) (by decide) (by decide) (by decide) (by decide) (Nat.le_of_ble_eq_true rfl) (fun v18 h18 n18 q18 => ?_)
              obtain ⟨rfl, H18, N18⟩ := q18
              rw [N18, H18]
              refine zp_nrm (cells' := 0) (slots' := 0) (st' := [.int (nI (zbi (decide (6 ≤ kd ∧ zsd kd < T.length))))]) rfl rfl rfl ?_
              have htl := zbi_lt (decide (6 ≤ kd ∧ zsd kd < T.length))
              refine zp_pc (pc' := 109) rfl ?_
              refine zn_if_eq (tgt := 114) dX9_draw_109 (by decide) (by omega) (fun c109 => ?_) (fun c109 => ?_)
              · have d1 : decide (6 ≤ kd ∧ zsd kd < T.length) = false := by cases hq : decide (6 ≤ kd ∧ zsd kd < T.length); rfl; rw [hq] at c109; exact absurd c109 (by decide)
                have eq4 := eq3.trans (if_neg (fun q => by rw [show zgtoo T (kd, sg, rs, iv, ct, dr, sd, V, C) = decide (6 ≤ kd ∧ zsd kd < T.length) from rfl, d1] at q; cases q))
                exact prod h T O _ _ _ _ _ hsd eq4 zsm.rf w0 w1 w2 w3 w4 (hG.more (by omega))
              · have d1 : decide (6 ≤ kd ∧ zsd kd < T.length) = true := by cases hq : decide (6 ≤ kd ∧ zsd kd < T.length); rw [hq] at c109; exact absurd rfl c109; rfl
                have eq := eq3.trans (if_pos d1)
                refine zp_iconst (v := nI (4)) dX9_draw_112 (by decide) ?_
                refine zp_pc (pc' := 113) rfl ?_
                refine zp_ret (v := (some (.int (nI (4))))) dX9_draw_113 ⟨⟨_, rfl, rfl⟩, rfl⟩ (by decide) (by decide) ?_
                rw [hQ]
                rw [eq]; exact ⟨rfl, rfl, zsm.rf, H.rf (by omega)⟩
            · exact anew (Or.inr (by cases hq : decide (iv < ct); rw [hq] at c48; exact absurd rfl c48; rfl))
        · have eq := eq1.trans (if_pos (Int32.not_le.mp c33))
          refine zp_iconst (v := nI (3)) dX9_draw_36 (by decide) ?_
          refine zp_pc (pc' := 37) rfl ?_
          refine zp_ret (v := (some (.int (nI (3))))) dX9_draw_37 ⟨⟨_, rfl, rfl⟩, rfl⟩ (by decide) (by decide) ?_
          rw [hQ]
          rw [eq]; exact ⟨rfl, rfl, zsm.rf, H.rf (by omega)⟩
      · have eq : zqdraw (nI j) k s r (T, O, (w, rp, wi, pa, un, la, ru, sa, me, se, ta, fa), Gs) = (nI 2, T, O, (w, rp, wi, pa, un, la, ru, sa, me, se, ta, fa), Gs) := (zqdraw_at hzG).trans (if_pos (Or.inr (Int32.not_le.mp c22)))
        refine zp_iconst (v := nI (2)) dX9_draw_25 (by decide) ?_
        refine zp_pc (pc' := 26) rfl ?_
        refine zp_ret (v := (some (.int (nI (2))))) dX9_draw_26 ⟨⟨_, rfl, rfl⟩, rfl⟩ (by decide) (by decide) ?_
        rw [hQ]
        rw [eq]; exact ⟨rfl, rfl, zsm.rf, H.rf (by omega)⟩
