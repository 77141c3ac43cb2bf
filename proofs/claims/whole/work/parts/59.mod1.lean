theorem zushrN {x : Int32} {j : Nat} (hj : j < 4) : (((x : Int32)).toUInt32 >>> (((nI (8 * j) : Int32)).toUInt32 &&& Int32.toUInt32 31)).toInt32 &&& nI 255 = nI (zdig x.toBitVec.toNat j) := by
  have e : (((x : Int32)).toUInt32 >>> (((nI (8 * j) : Int32)).toUInt32 &&& Int32.toUInt32 31)).toInt32 = nI (x.toBitVec.toNat / 2 ^ (8 * j)) := by
    have := pk_ushrN (n := x.toBitVec.toNat) x.toBitVec.isLt (nI (8 * j)) (8 * j) (by
      have : j = 0 ∨ j = 1 ∨ j = 2 ∨ j = 3 := by omega
      rcases this with rfl | rfl | rfl | rfl <;> decide)
    rw [← this]
    congr 1; congr 1
    rw [show (nI x.toBitVec.toNat) = x by unfold nI; exact Int32.toBitVec_inj.mp (by simp)]
  rw [e, zandN (by have := x.toBitVec.isLt; have := Nat.div_le_self x.toBitVec.toNat (2 ^ (8 * j)); omega)]
  unfold zdig
  rw [show (256 : Nat) ^ j = 2 ^ (8 * j) by rw [Nat.pow_mul]]
set_option maxRecDepth 10000 in
set_option maxHeartbeats 2000000 in
theorem e_number {g : ZG} {h : ZH} {n : Nat} {p N at_ : Nat} {f : Nat → Int32} {v0 : Int32} (hp : 16 ≤ p) (hh : h p = some (.inr (N, .inl f))) (hN : N < 1000000) (ha : at_ + 4 ≤ N) : zMt g mX11_number (zR 0 0 0) [.ref (p), .int (nI (at_)), .int (v0), .int (nI (4))] h n (fun v h' n' => v = none ∧ n' = n ∧ h' = va_up h p (some (.inr (N, .inl (zfl f at_ 4 (fun i => nI ((zn4 v0).getD i 0))))))) := by
  refine zMt.of [some (.ref (p)), some (.int (nI (at_))), some (.int (v0)), some (.int (nI (4))), none] (by decide) rfl (Nat.le_of_ble_eq_true rfl) ?_
  obtain ⟨Qf, hQ⟩ : ∃ Qf : ZQ, Qf = (fun v h' n' => v = none ∧ n' = n ∧ h' = va_up h p (some (.inr (N, .inl (zfl f at_ 4 (fun i => nI ((zn4 v0).getD i 0))))))) := ⟨_, rfl⟩
  rw [← hQ]
  refine zp_iconst (v := nI (0)) dX11_number_0 (by decide) ?_
  refine zp_istore (ls' := [some (.ref (p)), some (.int (nI (at_))), some (.int (v0)), some (.int (nI (4))), some (.int (nI (0)))]) dX11_number_1 (by decide) rfl ?_
  refine zp_pc (pc' := 3) rfl ?_
  have lp1 : zP g mX11_number (zR 0 0 0) Qf 0 0 36 [some (.ref (p)), some (.int (nI (at_))), some (.int (v0)), some (.int (nI (4))), some (.int (nI (4)))] [] (va_up h (p) (some (.inr (N, .inl (zfl f (at_) (4) (fun i => nI ((zn4 v0).getD i 0))))))) n → ∀ (m k1 : Nat), m = (4) - k1 → k1 ≤ (4) → zP g mX11_number (zR 0 0 0) Qf 0 0 3 [some (.ref (p)), some (.int (nI (at_))), some (.int (v0)), some (.int (nI (4))), some (.int (nI (k1)))] [] (va_up h (p) (some (.inr (N, .inl (zfl f (at_) (k1) (fun i => nI ((zn4 v0).getD i 0))))))) n := by
    intro kk m
    induction m using Nat.strongRecOn with
    | _ m ih =>
      intro k1 hm1 hk1
      refine zp_nh (fun hX1 eX1 => ?_)
      have k2_0 : hX1 (p) = some (.inr (N, .inl (zfl f (at_) (k1) (fun i => nI ((zn4 v0).getD i 0))))) := by rw [eX1]; exact va_up_self _ _ _
      refine zp_iload dX11_number_3 rfl ?_
      refine zp_iload_n dX11_number_5 rfl ?_
      refine zp_pc (pc' := 6) rfl ?_
      refine zn_icmp_ge (tgt := 36) dX11_number_6 (by decide) (by omega) (by omega) (fun c6 => ?_) (fun c6 => ?_)
      · have e1 : k1 = (4) := by omega
        subst e1
        rw [eX1]
        exact kk
      · refine zp_aload_n dX11_number_9 rfl ?_
        refine zp_iload_n dX11_number_10 rfl ?_
        refine zp_iload dX11_number_11 rfl ?_
        refine zn_iadd dX11_number_13 ?_
        refine zp_iload_n dX11_number_14 rfl ?_
        refine zp_bipush (v := nI (8)) dX11_number_15 (by decide) ?_
        refine zp_iload_n dX11_number_17 rfl ?_
        refine zp_iconst (v := nI (1)) dX11_number_18 (by decide) ?_
        refine zn_isub dX11_number_19 (by omega) ?_
        refine zp_iload dX11_number_20 rfl ?_
        refine zn_isub dX11_number_22 (by omega) ?_
        refine zn_imul dX11_number_23 ?_
        refine zp_pc (pc' := 24) rfl ?_
        refine zp_iushr dX11_number_24 ?_
        refine zp_sipush (v := nI (255)) dX11_number_25 (by decide) ?_
        refine zp_pc (pc' := 28) rfl ?_
        refine zp_iand dX11_number_28 ?_
        refine zp_i (y := nI ((zn4 v0).getD k1 0)) (by rw [zushrN (by omega), zn4, znum_getD _ (by omega)]) ?_
        refine zn_iast dX11_number_29 (by omega) k2_0 (by omega) (by omega) ?_
        refine zp_nh (fun h3x eh3x => ?_)
        have k3_0 : h3x (p) = some (.inr (N, .inl (va_up (zfl f (at_) (k1) (fun i => nI ((zn4 v0).getD i 0))) ((at_) + (k1)) (nI ((zn4 v0).getD k1 0))))) := by rw [eh3x]; exact va_up_self _ _ _
        refine zn_iinc 1 (ls' := [some (.ref (p)), some (.int (nI (at_))), some (.int (v0)), some (.int (nI (4))), some (.int (nI (k1 + 1)))]) dX11_number_30 (by decide) (by decide) rfl rfl ?_
        refine zp_goto (tgt := 3) dX11_number_33 (by decide) ?_
        refine zp_pc (pc' := 3) rfl ?_
        rw [zfl_step eX1 eh3x (by omega) rfl]
        exact ih ((4) - (k1 + 1)) (by omega) (k1 + 1) rfl (by omega)
  suffices K1 : zP g mX11_number (zR 0 0 0) Qf 0 0 36 [some (.ref (p)), some (.int (nI (at_))), some (.int (v0)), some (.int (nI (4))), some (.int (nI (4)))] [] (va_up h (p) (some (.inr (N, .inl (zfl f (at_) (4) (fun i => nI ((zn4 v0).getD i 0))))))) n by
    have q := lp1 K1 ((4) - 0) 0 rfl (Nat.zero_le _)
    rw [zfl_0, zup_same hh] at q
    exact q
  refine zp_nh (fun hY1 eY1 => ?_)
  have k4_0 : hY1 (p) = some (.inr (N, .inl (zfl f (at_) (4) (fun i => nI ((zn4 v0).getD i 0))))) := by rw [eY1]; exact va_up_self _ _ _
  refine zp_ret (v := none) dX11_number_36 ⟨rfl, rfl⟩ (by decide) (by decide) ?_
  rw [hQ]
  exact ⟨rfl, rfl, eY1⟩
set_option maxRecDepth 10000 in
set_option maxHeartbeats 2000000 in
theorem e_in {g : ZG} {h : ZH} {n : Nat} {x a b : Int32}  : zMt g mX11_in (zR 0 0 0) [.int (x), .int (a), .int (b)] h n (fun v h' n' => v = some (.int (nI (zbi (decide (a ≤ x ∧ x ≤ b))))) ∧ h' = h ∧ n' = n) := by
  refine zMt.of [some (.int (x)), some (.int (a)), some (.int (b))] (by decide) rfl (Nat.le_of_ble_eq_true rfl) ?_
  refine zp_iload_n dX11_in_0 rfl ?_
  refine zp_iload_n dX11_in_1 rfl ?_
  refine zp_pc (pc' := 2) rfl ?_
  refine zp_icmp_lt (tgt := 14) dX11_in_2 (by decide) (fun c2 => ?_) (fun c2 => ?_)
  · refine zp_iconst (v := nI (0)) dX11_in_14 (by decide) ?_
    refine zp_pc (pc' := 15) rfl ?_
    refine zp_ret (v := (some (.int (nI (0))))) dX11_in_15 ⟨⟨_, rfl, rfl⟩, rfl⟩ (by decide) (by decide) ?_
    exact ⟨by rw [decide_eq_false (fun q => Int32.not_le.mpr c2 q.1)]; rfl, rfl, rfl⟩
  · refine zp_iload_n dX11_in_5 rfl ?_
    refine zp_iload_n dX11_in_6 rfl ?_
    refine zp_pc (pc' := 7) rfl ?_
    refine zp_icmp_gt (tgt := 14) dX11_in_7 (by decide) (fun c7 => ?_) (fun c7 => ?_)
    · refine zp_iconst (v := nI (0)) dX11_in_14 (by decide) ?_
      refine zp_pc (pc' := 15) rfl ?_
      refine zp_ret (v := (some (.int (nI (0))))) dX11_in_15 ⟨⟨_, rfl, rfl⟩, rfl⟩ (by decide) (by decide) ?_
      exact ⟨by rw [decide_eq_false (fun q => Int32.not_le.mpr c7 q.2)]; rfl, rfl, rfl⟩
    · refine zp_iconst (v := nI (1)) dX11_in_10 (by decide) ?_
      refine zp_goto (tgt := 15) dX11_in_11 (by decide) ?_
      refine zp_pc (pc' := 15) rfl ?_
      refine zp_ret (v := (some (.int (nI (1))))) dX11_in_15 ⟨⟨_, rfl, rfl⟩, rfl⟩ (by decide) (by decide) ?_
      exact ⟨by rw [decide_eq_true ⟨Int32.not_lt.mp c2, Int32.not_lt.mp c7⟩]; rfl, rfl, rfl⟩
set_option maxRecDepth 10000 in
set_option maxHeartbeats 2000000 in
theorem e_sizeOf {g : ZG} {h : ZH} {n : Nat} {b : Bool}  : zMt g mX11_sizeOf (zR 0 0 0) [.int (nI (zbi b))] h n (fun v h' n' => v = some (.int (nI (8 * zwb b))) ∧ h' = h ∧ n' = n) := by
  refine zMt.of [some (.int (nI (zbi b)))] (by decide) rfl (Nat.le_of_ble_eq_true rfl) ?_
  have hb := zbi_lt b
  refine zp_iload_n dX11_sizeOf_0 rfl ?_
  refine zp_pc (pc' := 1) rfl ?_
  refine zn_if_eq (tgt := 9) dX11_sizeOf_1 (by decide) (by omega) (fun c1 => ?_) (fun c1 => ?_)
  · refine zp_bipush (v := nI (32)) dX11_sizeOf_9 (by decide) ?_
    refine zp_pc (pc' := 11) rfl ?_
    refine zp_ret (v := (some (.int (nI (32))))) dX11_sizeOf_11 ⟨⟨_, rfl, rfl⟩, rfl⟩ (by decide) (by decide) ?_
    exact ⟨by cases b; rfl; exact absurd c1 (by decide), rfl, rfl⟩
  · refine zp_bipush (v := nI (64)) dX11_sizeOf_4 (by decide) ?_
    refine zp_goto (tgt := 11) dX11_sizeOf_6 (by decide) ?_
    refine zp_pc (pc' := 11) rfl ?_
    refine zp_ret (v := (some (.int (nI (64))))) dX11_sizeOf_11 ⟨⟨_, rfl, rfl⟩, rfl⟩ (by decide) (by decide) ?_
    exact ⟨by cases b; exact absurd rfl c1; rfl, rfl, rfl⟩
theorem zand_m1 (x : Int64) : x &&& zmask true = x := Int64.toBitVec_inj.mp (by show x.toBitVec &&& BitVec.allOnes 64 = x.toBitVec; exact BitVec.and_allOnes)
set_option maxRecDepth 10000 in
set_option maxHeartbeats 2000000 in
theorem e_mcut {g : ZG} {h : ZH} {n : Nat} {b : Bool} {x : Int64}  : zMt g mX11_cut (zR 0 0 0) [.long (x), .int (nI (8 * zwb b))] h n (fun v h' n' => v = some (.long (x &&& zmask b)) ∧ h' = h ∧ n' = n) := by
  refine zMt.of [some (.long (x)), none, some (.int (nI (8 * zwb b)))] (by decide) rfl (Nat.le_of_ble_eq_true rfl) ?_
  have hz := zwb_or b
  refine zp_iload_n dX11_cut_0 rfl ?_
  refine zp_bipush (v := nI (64)) dX11_cut_1 (by decide) ?_
  refine zp_pc (pc' := 3) rfl ?_
  refine zn_icmp_ne (tgt := 10) dX11_cut_3 (by decide) (by omega) (by omega) (fun c3 => ?_) (fun c3 => ?_)
  · refine zp_lload_n dX11_cut_10 rfl ?_
    refine zp_ldc2 dX11_cut_11 kcX11_142 ?_
    refine zp_land dX11_cut_14 ?_
    refine zp_pc (pc' := 15) rfl ?_
    refine zp_ret (v := (some (.long ((x) &&& ((4294967295)))))) dX11_cut_15 ⟨rfl, rfl⟩ (by decide) (by decide) ?_
    exact ⟨by cases b; rfl; exact absurd rfl c3, rfl, rfl⟩
  · refine zp_lload_n dX11_cut_6 rfl ?_
    refine zp_goto (tgt := 15) dX11_cut_7 (by decide) ?_
    refine zp_pc (pc' := 15) rfl ?_
    refine zp_ret (v := (some (.long (x)))) dX11_cut_15 ⟨rfl, rfl⟩ (by decide) (by decide) ?_
    exact ⟨by cases b; exact absurd c3 (by decide); exact congrArg (fun q => some (Value.long q)) (zand_m1 x).symm, rfl, rfl⟩
set_option maxRecDepth 10000 in
set_option maxHeartbeats 2000000 in
theorem e_mturned {g : ZG} {h : ZH} {n : Nat} {b : Bool} {x : Int64} {k : Int32}  : zMt g mX11_turned (zR 0 0 0) [.long (x), .int (k), .int (nI (8 * zwb b))] h n (fun v h' n' => v = some (.long (ztn b x k)) ∧ h' = h ∧ n' = n) := by
  refine zMt.of [some (.long (x)), none, some (.int (k)), some (.int (nI (8 * zwb b)))] (by decide) rfl (Nat.le_of_ble_eq_true rfl) ?_
  have hz := zwb_or b
  refine zp_iload_n dX11_turned_0 rfl ?_
  refine zp_bipush (v := nI (64)) dX11_turned_1 (by decide) ?_
  refine zp_pc (pc' := 3) rfl ?_
  refine zn_icmp_ne (tgt := 19) dX11_turned_3 (by decide) (by omega) (by omega) (fun c3 => ?_) (fun c3 => ?_)
  · refine zp_lload_n dX11_turned_19 rfl ?_
    refine zp_iload_n dX11_turned_20 rfl ?_
    refine zp_lushr dX11_turned_21 ?_
    refine zp_lload_n dX11_turned_22 rfl ?_
    refine zp_bipush (v := nI (32)) dX11_turned_23 (by decide) ?_
    refine zp_iload_n dX11_turned_25 rfl ?_
    refine zp_isub dX11_turned_26 ?_
    refine zp_lshl dX11_turned_27 ?_
    refine zp_lor dX11_turned_28 ?_
    refine zp_ldc2 dX11_turned_29 kcX11_142 ?_
    refine zp_land dX11_turned_32 ?_
    refine zp_pc (pc' := 33) rfl ?_
    refine zp_ret (v := (some (.long ((((((x : Int64)).toUInt64 >>> (((k : Int32)).toInt64.toUInt64 &&& Int64.toUInt64 63)).toInt64) ||| ((x) <<< ((((nI (32)) - (k) : Int32)).toInt64 &&& 63))) &&& ((4294967295)))))) dX11_turned_33 ⟨rfl, rfl⟩ (by decide) (by decide) ?_
    exact ⟨by cases b; rfl; exact absurd rfl c3, rfl, rfl⟩
  · refine zp_lload_n dX11_turned_6 rfl ?_
    refine zp_iload_n dX11_turned_7 rfl ?_
    refine zp_lushr dX11_turned_8 ?_
    refine zp_lload_n dX11_turned_9 rfl ?_
    refine zp_bipush (v := nI (64)) dX11_turned_10 (by decide) ?_
    refine zp_iload_n dX11_turned_12 rfl ?_
    refine zp_isub dX11_turned_13 ?_
    refine zp_lshl dX11_turned_14 ?_
    refine zp_lor dX11_turned_15 ?_
    refine zp_goto (tgt := 33) dX11_turned_16 (by decide) ?_
    refine zp_pc (pc' := 33) rfl ?_
    refine zp_ret (v := (some (.long (((((x : Int64)).toUInt64 >>> (((k : Int32)).toInt64.toUInt64 &&& Int64.toUInt64 63)).toInt64) ||| ((x) <<< ((((nI (64)) - (k) : Int32)).toInt64 &&& 63)))))) dX11_turned_33 ⟨rfl, rfl⟩ (by decide) (by decide) ?_
    exact ⟨by cases b; exact absurd c3 (by decide); unfold ztn; rw [zand_m1]; rfl, rfl, rfl⟩
/-- where the turns of a sum stand in the class -/
def zmi4 : Nat → Nat
  | 0 => 9
  | 1 => 6
  | 2 => 0
  | _ => 3
def zmxd (b : Bool) (x : Int64) (q : Nat) : Int64 := ztn b x (ztu b (zmi4 q)) ^^^ ztn b x (ztu b (zmi4 q + 1)) ^^^ (if q < 2 then ztn b x (ztu b (zmi4 q + 2)) else (x.toUInt64 >>> ((ztu b (zmi4 q + 2)).toInt64.toUInt64 &&& Int64.toUInt64 63)).toInt64)
theorem zturns (b : Bool) (q i : Nat) (hq : q < 4) (hi : i < 3) : zt_TURNS.getD ((if b then 12 else 0) + 3 * q + i) 0 = ztu b (zmi4 q + i) := by
  have h1 : q = 0 ∨ q = 1 ∨ q = 2 ∨ q = 3 := by omega
  have h2 : i = 0 ∨ i = 1 ∨ i = 2 := by omega
  rcases h1 with rfl | rfl | rfl | rfl <;> rcases h2 with rfl | rfl | rfl <;> cases b <;> rfl
set_option maxRecDepth 10000 in
set_option maxHeartbeats 2000000 in
theorem e_mixed {g : ZG} {h : ZH} {n : Nat} {b : Bool} {x : Int64} {q : Nat} (ht : ztab h) (hq : q < 4) : zMt g mX11_mixed (zR 1 0 0) [.long (x), .int (nI (q)), .int (nI (8 * zwb b))] h n (fun v h' n' => v = some (.long (zmxd b x q)) ∧ h' = h ∧ n' = n) := by
  refine zMt.of [some (.long (x)), none, some (.int (nI (q))), some (.int (nI (8 * zwb b))), none, none, none] (by decide) rfl (Nat.le_of_ble_eq_true rfl) ?_
  obtain ⟨Qf, hQ⟩ : ∃ Qf : ZQ, Qf = (fun v h' n' => v = some (.long (zmxd b x q)) ∧ h' = h ∧ n' = n) := ⟨_, rfl⟩
  rw [← hQ]
  have hz := zwb_or b
  refine zp_iload_n dX11_mixed_0 rfl ?_
  refine zp_bipush (v := nI (64)) dX11_mixed_1 (by decide) ?_
  refine zp_pc (pc' := 3) rfl ?_
  refine zn_icmp_ne (tgt := 11) dX11_mixed_3 (by decide) (by omega) (by omega) (fun c3 => ?_) (fun c3 => ?_)
  · have bb : b = false := by cases b; rfl; exact absurd rfl c3
    have eb : (0 : Nat) = (if b then 12 else 0) := by rw [bb]; rfl
    refine zp_iconst (v := nI (0)) dX11_mixed_11 (by decide) ?_
    refine zp_iconst (v := nI (3)) dX11_mixed_12 (by decide) ?_
    refine zp_iload_n dX11_mixed_13 rfl ?_
    refine zn_imul dX11_mixed_14 ?_
    refine zn_iadd dX11_mixed_15 ?_
    refine zp_pc (pc' := 16) rfl ?_
    refine zp_istore (ls' := [some (.long (x)), none, some (.int (nI (q))), some (.int (nI (8 * zwb b))), some (.int (nI ((0) + ((3) * (q))))), none, none]) dX11_mixed_16 (by decide) rfl ?_
    refine zp_iload_n dX11_mixed_18 rfl ?_
    refine zp_iconst (v := nI (2)) dX11_mixed_19 (by decide) ?_
    refine zp_pc (pc' := 20) rfl ?_
    refine zn_icmp_ge (tgt := 39) dX11_mixed_20 (by decide) (by omega) (by omega) (fun c20 => ?_) (fun c20 => ?_)
    · refine zp_lload_n dX11_mixed_39 rfl ?_
      refine zp_gets dX11_mixed_40 sX11_144 ?_
      refine zp_iload dX11_mixed_43 rfl ?_
      refine zp_iconst (v := nI (2)) dX11_mixed_45 (by decide) ?_
      refine zn_iadd dX11_mixed_46 ?_
      refine zp_pc (pc' := 47) rfl ?_
      refine zn_iald (j := ((0) + ((3) * (q))) + (2)) dX11_mixed_47 ht.2.2.2.2.2.2.2.2 (by omega) (by omega) ?_
      refine zp_i (y := ztu b (zmi4 q + 2)) (by show zt_TURNS.getD _ 0 = _; rw [eb]; exact zturns b q 2 hq (by decide)) ?_
      refine zp_lushr dX11_mixed_48 ?_
      refine zp_pc (pc' := 49) rfl ?_
      refine zp_lstore (ls' := [some (.long (x)), none, some (.int (nI (q))), some (.int (nI (8 * zwb b))), some (.int (nI ((0) + ((3) * (q))))), some (.long ((((x : Int64)).toUInt64 >>> (((ztu b (zmi4 q + 2) : Int32)).toInt64.toUInt64 &&& Int64.toUInt64 63)).toInt64)), none]) dX11_mixed_49 (by decide) rfl ?_
      refine zp_lload_n dX11_mixed_51 rfl ?_
      refine zp_gets dX11_mixed_52 sX11_144 ?_
      refine zp_iload dX11_mixed_55 rfl ?_
      refine zp_pc (pc' := 57) rfl ?_
      refine zn_iald (j := (0) + ((3) * (q))) dX11_mixed_57 ht.2.2.2.2.2.2.2.2 (by omega) (by omega) ?_
      refine zp_i (y := ztu b (zmi4 q)) (by show zt_TURNS.getD _ 0 = _; rw [eb]; exact zturns b q 0 hq (by decide)) ?_
      refine zp_iload_n dX11_mixed_58 rfl ?_
      refine zp_pc (pc' := 59) rfl ?_
      refine zp_callS (As := [.long (x), .int (ztu b (zmi4 q)), .int (nI (8 * zwb b))]) (st := []) dX11_mixed_59 cX11_147 rfl (e_mturned (b := b)) (by decide) (by decide) (Nat.le_of_ble_eq_true rfl) (fun v1 h1 n1 q1 => ?_)
      obtain ⟨rfl, H1, N1⟩ := q1
      rw [N1, H1]
      refine zp_nrm (cells' := 0) (slots' := 0) (st' := [.long (ztn b x (ztu b (zmi4 q)))]) rfl rfl rfl ?_
      refine zp_lload_n dX11_mixed_62 rfl ?_
      refine zp_gets dX11_mixed_63 sX11_144 ?_
      refine zp_iload dX11_mixed_66 rfl ?_
      refine zp_iconst (v := nI (1)) dX11_mixed_68 (by decide) ?_
      refine zn_iadd dX11_mixed_69 ?_
      refine zp_pc (pc' := 70) rfl ?_
      refine zn_iald (j := ((0) + ((3) * (q))) + (1)) dX11_mixed_70 ht.2.2.2.2.2.2.2.2 (by omega) (by omega) ?_
      refine zp_i (y := ztu b (zmi4 q + 1)) (by show zt_TURNS.getD _ 0 = _; rw [eb]; exact zturns b q 1 hq (by decide)) ?_
      refine zp_iload_n dX11_mixed_71 rfl ?_
      refine zp_pc (pc' := 72) rfl ?_
      refine zp_callS (As := [.long (x), .int (ztu b (zmi4 q + 1)), .int (nI (8 * zwb b))]) (st := [.long (ztn b x (ztu b (zmi4 q)))]) dX11_mixed_72 cX11_147 rfl (e_mturned (b := b)) (by decide) (by decide) (Nat.le_of_ble_eq_true rfl) (fun v2 h2 n2 q2 => ?_)
      obtain ⟨rfl, H2, N2⟩ := q2
      rw [N2, H2]
      refine zp_nrm (cells' := 0) (slots' := 0) (st' := [.long (ztn b x (ztu b (zmi4 q + 1))), .long (ztn b x (ztu b (zmi4 q)))]) rfl rfl rfl ?_
      refine zp_lxor dX11_mixed_75 ?_
      refine zp_lload dX11_mixed_76 rfl ?_
      refine zp_lxor dX11_mixed_78 ?_
      refine zp_pc (pc' := 79) rfl ?_
      refine zp_ret (v := (some (.long (((ztn b x (ztu b (zmi4 q))) ^^^ (ztn b x (ztu b (zmi4 q + 1)))) ^^^ ((((x : Int64)).toUInt64 >>> (((ztu b (zmi4 q + 2) : Int32)).toInt64.toUInt64 &&& Int64.toUInt64 63)).toInt64))))) dX11_mixed_79 ⟨rfl, rfl⟩ (by decide) (by decide) ?_
      rw [hQ]
      exact ⟨by unfold zmxd; rw [if_neg (by omega)], rfl, rfl⟩
    · refine zp_lload_n dX11_mixed_23 rfl ?_
      refine zp_gets dX11_mixed_24 sX11_144 ?_
      refine zp_iload dX11_mixed_27 rfl ?_
      refine zp_iconst (v := nI (2)) dX11_mixed_29 (by decide) ?_
      refine zn_iadd dX11_mixed_30 ?_
      refine zp_pc (pc' := 31) rfl ?_
      refine zn_iald (j := ((0) + ((3) * (q))) + (2)) dX11_mixed_31 ht.2.2.2.2.2.2.2.2 (by omega) (by omega) ?_
      refine zp_i (y := ztu b (zmi4 q + 2)) (by show zt_TURNS.getD _ 0 = _; rw [eb]; exact zturns b q 2 hq (by decide)) ?_
      refine zp_iload_n dX11_mixed_32 rfl ?_
      refine zp_pc (pc' := 33) rfl ?_
      refine zp_callS (As := [.long (x), .int (ztu b (zmi4 q + 2)), .int (nI (8 * zwb b))]) (st := []) dX11_mixed_33 cX11_147 rfl (e_mturned (b := b)) (by decide) (by decide) (Nat.le_of_ble_eq_true rfl) (fun v3 h3 n3 q3 => ?_)
      obtain ⟨rfl, H3, N3⟩ := q3
      rw [N3, H3]
      refine zp_nrm (cells' := 0) (slots' := 0) (st' := [.long (ztn b x (ztu b (zmi4 q + 2)))]) rfl rfl rfl ?_
      refine zp_goto (tgt := 49) dX11_mixed_36 (by decide) ?_
      refine zp_pc (pc' := 49) rfl ?_
      refine zp_lstore (ls' := [some (.long (x)), none, some (.int (nI (q))), some (.int (nI (8 * zwb b))), some (.int (nI ((0) + ((3) * (q))))), some (.long (ztn b x (ztu b (zmi4 q + 2)))), none]) dX11_mixed_49 (by decide) rfl ?_
      refine zp_lload_n dX11_mixed_51 rfl ?_
      refine zp_gets dX11_mixed_52 sX11_144 ?_
      refine zp_iload dX11_mixed_55 rfl ?_
      refine zp_pc (pc' := 57) rfl ?_
      refine zn_iald (j := (0) + ((3) * (q))) dX11_mixed_57 ht.2.2.2.2.2.2.2.2 (by omega) (by omega) ?_
      refine zp_i (y := ztu b (zmi4 q)) (by show zt_TURNS.getD _ 0 = _; rw [eb]; exact zturns b q 0 hq (by decide)) ?_
      refine zp_iload_n dX11_mixed_58 rfl ?_
      refine zp_pc (pc' := 59) rfl ?_
      refine zp_callS (As := [.long (x), .int (ztu b (zmi4 q)), .int (nI (8 * zwb b))]) (st := []) dX11_mixed_59 cX11_147 rfl (e_mturned (b := b)) (by decide) (by decide) (Nat.le_of_ble_eq_true rfl) (fun v4 h4 n4 q4 => ?_)
      obtain ⟨rfl, H4, N4⟩ := q4
      rw [N4, H4]
      refine zp_nrm (cells' := 0) (slots' := 0) (st' := [.long (ztn b x (ztu b (zmi4 q)))]) rfl rfl rfl ?_
      refine zp_lload_n dX11_mixed_62 rfl ?_
      refine zp_gets dX11_mixed_63 sX11_144 ?_
      refine zp_iload dX11_mixed_66 rfl ?_
      refine zp_iconst (v := nI (1)) dX11_mixed_68 (by decide) ?_
      refine zn_iadd dX11_mixed_69 ?_
      refine zp_pc (pc' := 70) rfl ?_
      refine zn_iald (j := ((0) + ((3) * (q))) + (1)) dX11_mixed_70 ht.2.2.2.2.2.2.2.2 (by omega) (by omega) ?_
      refine zp_i (y := ztu b (zmi4 q + 1)) (by show zt_TURNS.getD _ 0 = _; rw [eb]; exact zturns b q 1 hq (by decide)) ?_
      refine zp_iload_n dX11_mixed_71 rfl ?_
      refine zp_pc (pc' := 72) rfl ?_
      refine zp_callS (As := [.long (x), .int (ztu b (zmi4 q + 1)), .int (nI (8 * zwb b))]) (st := [.long (ztn b x (ztu b (zmi4 q)))]) dX11_mixed_72 cX11_147 rfl (e_mturned (b := b)) (by decide) (by decide) (Nat.le_of_ble_eq_true rfl) (fun v5 h5 n5 q5 => ?_)
      obtain ⟨rfl, H5, N5⟩ := q5
      rw [N5, H5]
      refine zp_nrm (cells' := 0) (slots' := 0) (st' := [.long (ztn b x (ztu b (zmi4 q + 1))), .long (ztn b x (ztu b (zmi4 q)))]) rfl rfl rfl ?_
      refine zp_lxor dX11_mixed_75 ?_
      refine zp_lload dX11_mixed_76 rfl ?_
      refine zp_lxor dX11_mixed_78 ?_
      refine zp_pc (pc' := 79) rfl ?_
      refine zp_ret (v := (some (.long (((ztn b x (ztu b (zmi4 q))) ^^^ (ztn b x (ztu b (zmi4 q + 1)))) ^^^ (ztn b x (ztu b (zmi4 q + 2))))))) dX11_mixed_79 ⟨rfl, rfl⟩ (by decide) (by decide) ?_
      rw [hQ]
      exact ⟨by unfold zmxd; rw [if_pos (by omega)], rfl, rfl⟩
  · have bb : b = true := by cases b; exact absurd c3 (by decide); rfl
    have eb : (12 : Nat) = (if b then 12 else 0) := by rw [bb]; rfl
    refine zp_bipush (v := nI (12)) dX11_mixed_6 (by decide) ?_
    refine zp_goto (tgt := 12) dX11_mixed_8 (by decide) ?_
    refine zp_iconst (v := nI (3)) dX11_mixed_12 (by decide) ?_
    refine zp_iload_n dX11_mixed_13 rfl ?_
    refine zn_imul dX11_mixed_14 ?_
    refine zn_iadd dX11_mixed_15 ?_
    refine zp_pc (pc' := 16) rfl ?_
    refine zp_istore (ls' := [some (.long (x)), none, some (.int (nI (q))), some (.int (nI (8 * zwb b))), some (.int (nI ((12) + ((3) * (q))))), none, none]) dX11_mixed_16 (by decide) rfl ?_
    refine zp_iload_n dX11_mixed_18 rfl ?_
    refine zp_iconst (v := nI (2)) dX11_mixed_19 (by decide) ?_
    refine zp_pc (pc' := 20) rfl ?_
    refine zn_icmp_ge (tgt := 39) dX11_mixed_20 (by decide) (by omega) (by omega) (fun c20 => ?_) (fun c20 => ?_)
    · refine zp_lload_n dX11_mixed_39 rfl ?_
      refine zp_gets dX11_mixed_40 sX11_144 ?_
      refine zp_iload dX11_mixed_43 rfl ?_
      refine zp_iconst (v := nI (2)) dX11_mixed_45 (by decide) ?_
      refine zn_iadd dX11_mixed_46 ?_
      refine zp_pc (pc' := 47) rfl ?_
      refine zn_iald (j := ((12) + ((3) * (q))) + (2)) dX11_mixed_47 ht.2.2.2.2.2.2.2.2 (by omega) (by omega) ?_
      refine zp_i (y := ztu b (zmi4 q + 2)) (by show zt_TURNS.getD _ 0 = _; rw [eb]; exact zturns b q 2 hq (by decide)) ?_
      refine zp_lushr dX11_mixed_48 ?_
      refine zp_pc (pc' := 49) rfl ?_
      refine zp_lstore (ls' := [some (.long (x)), none, some (.int (nI (q))), some (.int (nI (8 * zwb b))), some (.int (nI ((12) + ((3) * (q))))), some (.long ((((x : Int64)).toUInt64 >>> (((ztu b (zmi4 q + 2) : Int32)).toInt64.toUInt64 &&& Int64.toUInt64 63)).toInt64)), none]) dX11_mixed_49 (by decide) rfl ?_
      refine zp_lload_n dX11_mixed_51 rfl ?_
      refine zp_gets dX11_mixed_52 sX11_144 ?_
      refine zp_iload dX11_mixed_55 rfl ?_
      refine zp_pc (pc' := 57) rfl ?_
      refine zn_iald (j := (12) + ((3) * (q))) dX11_mixed_57 ht.2.2.2.2.2.2.2.2 (by omega) (by omega) ?_
      refine zp_i (y := ztu b (zmi4 q)) (by show zt_TURNS.getD _ 0 = _; rw [eb]; exact zturns b q 0 hq (by decide)) ?_
      refine zp_iload_n dX11_mixed_58 rfl ?_
      refine zp_pc (pc' := 59) rfl ?_
      refine zp_callS (As := [.long (x), .int (ztu b (zmi4 q)), .int (nI (8 * zwb b))]) (st := []) dX11_mixed_59 cX11_147 rfl (e_mturned (b := b)) (by decide) (by decide) (Nat.le_of_ble_eq_true rfl) (fun v6 h6 n6 q6 => ?_)
      obtain ⟨rfl, H6, N6⟩ := q6
      rw [N6, H6]
      refine zp_nrm (cells' := 0) (slots' := 0) (st' := [.long (ztn b x (ztu b (zmi4 q)))]) rfl rfl rfl ?_
      refine zp_lload_n dX11_mixed_62 rfl ?_
      refine zp_gets dX11_mixed_63 sX11_144 ?_
      refine zp_iload dX11_mixed_66 rfl ?_
      refine zp_iconst (v := nI (1)) dX11_mixed_68 (by decide) ?_
      refine zn_iadd dX11_mixed_69 ?_
      refine zp_pc (pc' := 70) rfl ?_
      refine zn_iald (j := ((12) + ((3) * (q))) + (1)) dX11_mixed_70 ht.2.2.2.2.2.2.2.2 (by omega) (by omega) ?_
      refine zp_i (y := ztu b (zmi4 q + 1)) (by show zt_TURNS.getD _ 0 = _; rw [eb]; exact zturns b q 1 hq (by decide)) ?_
      refine zp_iload_n dX11_mixed_71 rfl ?_
      refine zp_pc (pc' := 72) rfl ?_
      refine zp_callS (As := [.long (x), .int (ztu b (zmi4 q + 1)), .int (nI (8 * zwb b))]) (st := [.long (ztn b x (ztu b (zmi4 q)))]) dX11_mixed_72 cX11_147 rfl (e_mturned (b := b)) (by decide) (by decide) (Nat.le_of_ble_eq_true rfl) (fun v7 h7 n7 q7 => ?_)
      obtain ⟨rfl, H7, N7⟩ := q7
      rw [N7, H7]
      refine zp_nrm (cells' := 0) (slots' := 0) (st' := [.long (ztn b x (ztu b (zmi4 q + 1))), .long (ztn b x (ztu b (zmi4 q)))]) rfl rfl rfl ?_
      refine zp_lxor dX11_mixed_75 ?_
      refine zp_lload dX11_mixed_76 rfl ?_
      refine zp_lxor dX11_mixed_78 ?_
      refine zp_pc (pc' := 79) rfl ?_
      refine zp_ret (v := (some (.long (((ztn b x (ztu b (zmi4 q))) ^^^ (ztn b x (ztu b (zmi4 q + 1)))) ^^^ ((((x : Int64)).toUInt64 >>> (((ztu b (zmi4 q + 2) : Int32)).toInt64.toUInt64 &&& Int64.toUInt64 63)).toInt64))))) dX11_mixed_79 ⟨rfl, rfl⟩ (by decide) (by decide) ?_
      rw [hQ]
      exact ⟨by unfold zmxd; rw [if_neg (by omega)], rfl, rfl⟩
    · refine zp_lload_n dX11_mixed_23 rfl ?_
      refine zp_gets dX11_mixed_24 sX11_144 ?_
      refine zp_iload dX11_mixed_27 rfl ?_
      refine zp_iconst (v := nI (2)) dX11_mixed_29 (by decide) ?_
      refine zn_iadd dX11_mixed_30 ?_
      refine zp_pc (pc' := 31) rfl ?_
      refine zn_iald (j := ((12) + ((3) * (q))) + (2)) dX11_mixed_31 ht.2.2.2.2.2.2.2.2 (by omega) (by omega) ?_
      refine zp_i (y := ztu b (zmi4 q + 2)) (by show zt_TURNS.getD _ 0 = _; rw [eb]; exact zturns b q 2 hq (by decide)) ?_
      refine zp_iload_n dX11_mixed_32 rfl ?_
      refine zp_pc (pc' := 33) rfl ?_
      refine zp_callS (As := [.long (x), .int (ztu b (zmi4 q + 2)), .int (nI (8 * zwb b))]) (st := []) dX11_mixed_33 cX11_147 rfl (e_mturned (b := b)) (by decide) (by decide) (Nat.le_of_ble_eq_true rfl) (fun v8 h8 n8 q8 => ?_)
      obtain ⟨rfl, H8, N8⟩ := q8
      rw [N8, H8]
      refine zp_nrm (cells' := 0) (slots' := 0) (st' := [.long (ztn b x (ztu b (zmi4 q + 2)))]) rfl rfl rfl ?_
      refine zp_goto (tgt := 49) dX11_mixed_36 (by decide) ?_
      refine zp_pc (pc' := 49) rfl ?_
      refine zp_lstore (ls' := [some (.long (x)), none, some (.int (nI (q))), some (.int (nI (8 * zwb b))), some (.int (nI ((12) + ((3) * (q))))), some (.long (ztn b x (ztu b (zmi4 q + 2)))), none]) dX11_mixed_49 (by decide) rfl ?_
      refine zp_lload_n dX11_mixed_51 rfl ?_
      refine zp_gets dX11_mixed_52 sX11_144 ?_
      refine zp_iload dX11_mixed_55 rfl ?_
      refine zp_pc (pc' := 57) rfl ?_
      refine zn_iald (j := (12) + ((3) * (q))) dX11_mixed_57 ht.2.2.2.2.2.2.2.2 (by omega) (by omega) ?_
      refine zp_i (y := ztu b (zmi4 q)) (by show zt_TURNS.getD _ 0 = _; rw [eb]; exact zturns b q 0 hq (by decide)) ?_
      refine zp_iload_n dX11_mixed_58 rfl ?_
      refine zp_pc (pc' := 59) rfl ?_
      refine zp_callS (As := [.long (x), .int (ztu b (zmi4 q)), .int (nI (8 * zwb b))]) (st := []) dX11_mixed_59 cX11_147 rfl (e_mturned (b := b)) (by decide) (by decide) (Nat.le_of_ble_eq_true rfl) (fun v9 h9 n9 q9 => ?_)
      obtain ⟨rfl, H9, N9⟩ := q9
      rw [N9, H9]
      refine zp_nrm (cells' := 0) (slots' := 0) (st' := [.long (ztn b x (ztu b (zmi4 q)))]) rfl rfl rfl ?_
      refine zp_lload_n dX11_mixed_62 rfl ?_
      refine zp_gets dX11_mixed_63 sX11_144 ?_
      refine zp_iload dX11_mixed_66 rfl ?_
      refine zp_iconst (v := nI (1)) dX11_mixed_68 (by decide) ?_
      refine zn_iadd dX11_mixed_69 ?_
      refine zp_pc (pc' := 70) rfl ?_
      refine zn_iald (j := ((12) + ((3) * (q))) + (1)) dX11_mixed_70 ht.2.2.2.2.2.2.2.2 (by omega) (by omega) ?_
      refine zp_i (y := ztu b (zmi4 q + 1)) (by show zt_TURNS.getD _ 0 = _; rw [eb]; exact zturns b q 1 hq (by decide)) ?_
      refine zp_iload_n dX11_mixed_71 rfl ?_
      refine zp_pc (pc' := 72) rfl ?_
      refine zp_callS (As := [.long (x), .int (ztu b (zmi4 q + 1)), .int (nI (8 * zwb b))]) (st := [.long (ztn b x (ztu b (zmi4 q)))]) dX11_mixed_72 cX11_147 rfl (e_mturned (b := b)) (by decide) (by decide) (Nat.le_of_ble_eq_true rfl) (fun v10 h10 n10 q10 => ?_)
      obtain ⟨rfl, H10, N10⟩ := q10
      rw [N10, H10]
      refine zp_nrm (cells' := 0) (slots' := 0) (st' := [.long (ztn b x (ztu b (zmi4 q + 1))), .long (ztn b x (ztu b (zmi4 q)))]) rfl rfl rfl ?_
      refine zp_lxor dX11_mixed_75 ?_
      refine zp_lload dX11_mixed_76 rfl ?_
      refine zp_lxor dX11_mixed_78 ?_
      refine zp_pc (pc' := 79) rfl ?_
      refine zp_ret (v := (some (.long (((ztn b x (ztu b (zmi4 q))) ^^^ (ztn b x (ztu b (zmi4 q + 1)))) ^^^ (ztn b x (ztu b (zmi4 q + 2))))))) dX11_mixed_79 ⟨rfl, rfl⟩ (by decide) (by decide) ?_
      rw [hQ]
      exact ⟨by unfold zmxd; rw [if_pos (by omega)], rfl, rfl⟩
