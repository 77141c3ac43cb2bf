/-! the reference's tables: roots, by bits -/
def zq16 (X k : Nat) : Nat := X / 65536 ^ k % 65536
theorem zq16_lt (X k : Nat) : zq16 X k < 65536 := Nat.mod_lt _ (by decide)
theorem zq16_mod (X k : Nat) : X % 65536 ^ (k + 1) = X % 65536 ^ k + 65536 ^ k * zq16 X k := by
  rw [Nat.pow_succ, Nat.mod_mul]; rfl
theorem zq16_big {X k : Nat} (h : X < 65536 ^ k) : zq16 X k = 0 := by
  unfold zq16; rw [Nat.div_eq_of_lt h]
theorem zq16_0 (k : Nat) : zq16 0 k = 0 := by unfold zq16; rw [Nat.zero_div]
theorem zp16_pos (k : Nat) : 0 < 65536 ^ k := Nat.pow_pos (by decide)
def zB (A t P i j : Nat) : Nat := A + t * (P % 65536 ^ j) * 65536 ^ i
theorem zB_0 (A t P i : Nat) : zB A t P i 0 = A := by unfold zB; rw [Nat.pow_zero, Nat.mod_one, Nat.mul_zero, Nat.zero_mul, Nat.add_zero]
theorem zB_succ (A t P i j : Nat) : zB A t P i (j + 1) = zB A t P i j + t * zq16 P j * 65536 ^ (i + j) := by
  unfold zB
  rw [zq16_mod, Nat.mul_add, Nat.add_mul, ← Nat.add_assoc, Nat.pow_add]
  congr 1
  rw [Nat.mul_comm (65536 ^ j) (zq16 P j), ← Nat.mul_assoc, Nat.mul_assoc, Nat.mul_comm (65536 ^ j)]
def zcr (A t P i j : Nat) : Nat := zB A t P i j / 65536 ^ (i + j) - A / 65536 ^ (i + j)
theorem zcr_eq (A t P i j : Nat) : zB A t P i j / 65536 ^ (i + j) = A / 65536 ^ (i + j) + zcr A t P i j := by
  have : A / 65536 ^ (i + j) ≤ zB A t P i j / 65536 ^ (i + j) := Nat.div_le_div_right (by unfold zB; omega)
  unfold zcr; omega
theorem zcr_0 (A t P i : Nat) : zcr A t P i 0 = 0 := by unfold zcr; rw [zB_0]; omega
theorem zcr_le (A t P i j : Nat) : zcr A t P i j ≤ t := by
  have hM := zp16_pos (i + j)
  have h1 : zB A t P i j ≤ A + t * 65536 ^ (i + j) := by
    unfold zB
    have h2 : P % 65536 ^ j ≤ 65536 ^ j := Nat.le_of_lt (Nat.mod_lt _ (zp16_pos j))
    have h3 := Nat.mul_le_mul_right (65536 ^ i) (Nat.mul_le_mul_left t h2)
    rw [Nat.pow_add, Nat.mul_comm (65536 ^ i), ← Nat.mul_assoc]
    omega
  have h4 := Nat.div_le_div_right (c := 65536 ^ (i + j)) h1
  rw [Nat.add_mul_div_right _ _ hM] at h4
  unfold zcr; omega
theorem zB_high (A t P i j : Nat) : zB A t P i (j + 1) / 65536 ^ (i + j) = A / 65536 ^ (i + j) / 65536 * 65536 + (zq16 A (i + j) + t * zq16 P j + zcr A t P i j) := by
  have h := zcr_eq A t P i j
  rw [zB_succ, Nat.add_mul_div_right _ _ (zp16_pos _), h]
  unfold zq16
  have := Nat.div_add_mod (A / 65536 ^ (i + j)) 65536
  omega
theorem zB_dig (A t P i j : Nat) : zq16 (zB A t P i (j + 1)) (i + j) = (zq16 A (i + j) + t * zq16 P j + zcr A t P i j) % 65536 := by
  have h := zB_high A t P i j
  show zB A t P i (j + 1) / 65536 ^ (i + j) % 65536 = _
  rw [h]
  omega
theorem zcr_succ (A t P i j : Nat) : zcr A t P i (j + 1) = (zq16 A (i + j) + t * zq16 P j + zcr A t P i j) / 65536 := by
  have h := zB_high A t P i j
  unfold zcr
  rw [← Nat.add_assoc, Nat.pow_succ, ← Nat.div_div_eq_div_mul, ← Nat.div_div_eq_div_mul]
  rw [h]
  unfold zcr
  omega
theorem zB_low {A t P i j k : Nat} (hk : k < i + j) : zq16 (zB A t P i (j + 1)) k = zq16 (zB A t P i j) k := by
  rw [zB_succ]
  unfold zq16
  obtain ⟨d, hd⟩ := Nat.exists_eq_add_of_le (show k + 1 ≤ i + j by omega)
  rw [hd, Nat.pow_add, Nat.pow_succ, show t * (P / 65536 ^ j % 65536) * (65536 ^ k * 65536 * 65536 ^ d) = (t * (P / 65536 ^ j % 65536) * 65536 ^ d * 65536) * 65536 ^ k by simp only [Nat.mul_assoc, Nat.mul_comm, Nat.mul_left_comm], Nat.add_mul_div_right _ _ (zp16_pos k), Nat.add_mul_mod_self_right]
theorem zB_end {X P i : Nat} (hP : P < 65536 ^ 9) (hi : i < 5) : zB (X % 65536 ^ i * P) (zq16 X i) P i (16 - i) = X % 65536 ^ (i + 1) * P := by
  unfold zB
  rw [Nat.mod_eq_of_lt (Nat.lt_of_lt_of_le hP (Nat.pow_le_pow_right (by decide) (by omega))), zq16_mod, Nat.add_mul]
  congr 1
  rw [Nat.mul_comm (65536 ^ i), Nat.mul_assoc, Nat.mul_assoc, Nat.mul_comm P]
theorem zdiv16 (Y k : Nat) : Y / 65536 ^ (k + 1) * 65536 + zq16 Y k = Y / 65536 ^ k := by
  unfold zq16
  rw [Nat.pow_succ, ← Nat.div_div_eq_div_mul]
  omega
theorem lg_0 {a b : Nat} (ha : a < 2 ^ 31) (hb : b < 2 ^ 31) : lg_cmp (lN a) (lN b) = 0 ↔ a = b := by
  unfold lg_cmp
  by_cases h1 : b < a
  · rw [if_pos ((lN_lt hb ha).mpr h1)]; exact ⟨fun q => absurd q (by decide), fun q => by omega⟩
  · rw [if_neg (fun q => h1 ((lN_lt hb ha).mp q))]
    by_cases h2 : a = b
    · rw [if_pos (by rw [h2])]; exact ⟨fun _ => h2, fun _ => rfl⟩
    · rw [if_neg (fun q => h2 ((lN_eq ha hb).mp q))]; exact ⟨fun q => absurd q (by decide), fun q => absurd q h2⟩
theorem lg_le {a b : Nat} (ha : a < 2 ^ 31) (hb : b < 2 ^ 31) : lg_cmp (lN a) (lN b) ≤ 0 ↔ a ≤ b := by
  unfold lg_cmp
  by_cases h1 : b < a
  · rw [if_pos ((lN_lt hb ha).mpr h1)]; exact ⟨fun q => absurd q (by decide), fun q => by omega⟩
  · rw [if_neg (fun q => h1 ((lN_lt hb ha).mp q))]
    refine ⟨fun _ => by omega, fun _ => ?_⟩
    split <;> decide
theorem zby_nz (Y k : Nat) : (Y % 65536 ^ (k + 1) ≠ 0) ↔ (Y % 65536 ^ k ≠ 0 ∨ 0 < zq16 Y k) := by
  rw [zq16_mod]
  have hM := zp16_pos k
  constructor
  · intro h
    by_cases q : zq16 Y k = 0
    · rw [q, Nat.mul_zero] at h; exact Or.inl (by omega)
    · exact Or.inr (by omega)
  · intro h
    rcases h with h | h
    · omega
    · have := Nat.mul_le_mul hM h; omega
theorem zbyd {Y p B : Nat} (hB : 0 < B) : (p * B < Y) ↔ (p < Y / B ∨ (Y / B = p ∧ Y % B ≠ 0)) := by
  have h1 := Nat.div_add_mod Y B
  have h2 := Nat.mod_lt Y hB
  constructor
  · intro h
    rcases Nat.lt_trichotomy p (Y / B) with q | q | q
    · exact Or.inl q
    · refine Or.inr ⟨q.symm, fun e => ?_⟩
      rw [e, ← q, Nat.mul_comm] at h1; omega
    · have := Nat.mul_le_mul_left B (show Y / B + 1 ≤ p from q)
      rw [Nat.mul_add, Nat.mul_one] at this
      rw [Nat.mul_comm] at h; omega
  · intro h
    rcases h with q | ⟨q, e⟩
    · have := Nat.mul_le_mul_left B (show p + 1 ≤ Y / B from q)
      rw [Nat.mul_add, Nat.mul_one] at this
      rw [Nat.mul_comm]; omega
    · rw [← q, Nat.mul_comm]; omega
theorem zY_small {X pw : Nat} (hX : X < 2 ^ 70) (hp : pw = 2 ∨ pw = 3) : X ^ pw < 65536 ^ 16 ∧ X ^ pw / 65536 ^ (4 * pw) < 2 ^ 18 := by
  have h1 : X ^ pw < (2 ^ 70) ^ pw := Nat.pow_lt_pow_left hX (by omega)
  rcases hp with rfl | rfl
  · refine ⟨Nat.lt_trans h1 (by decide), Nat.div_lt_of_lt_mul (Nat.lt_of_lt_of_le h1 (by decide))⟩
  · refine ⟨Nat.lt_trans h1 (by decide), Nat.div_lt_of_lt_mul (Nat.lt_of_lt_of_le h1 (by decide))⟩
theorem zX5 {X : Nat} (hX : X < 2 ^ 70) : X % 65536 ^ 5 = X := Nat.mod_eq_of_lt (Nat.lt_trans hX (by decide))
theorem zXc {X c : Nat} (hX : X < 2 ^ 70) (hc : c ≤ 2) : X ^ c < 65536 ^ 9 := by
  have h0 : 65536 ^ 9 = 2 ^ 144 := by decide
  have : c = 0 ∨ c = 1 ∨ c = 2 := by omega
  rcases this with rfl | rfl | rfl
  · rw [Nat.pow_zero]; decide
  · rw [Nat.pow_one]; exact Nat.lt_trans hX (by decide)
  · exact Nat.lt_of_lt_of_le (Nat.pow_lt_pow_left hX (by decide)) (by decide)
abbrev zsr2 : Nat → Prop := fun i => i = 68 ∨ i = 69
abbrev zsr3 : Nat → Prop := fun i => i = 67 ∨ i = 68 ∨ i = 69
set_option maxRecDepth 10000 in
set_option maxHeartbeats 2000000 in
theorem e_beyond {g : ZG} {h : ZH} {n : Nat} {p pw X : Nat} {ft : Nat → Int32} {th : Int32} {wt : Nat} {un : Bool} {rp wi pa be ru sa me se ta fa : Int32} {mn tp ou : Nat} (ho : h 64 = some (.inl (10, [.int (th), .ref (65), .ref (66), .ref (67), .ref (68), .ref (69), .ref (70), .ref (71), .ref (72), .ref (73), .ref (74), .ref (75), .ref (76), .ref (77), .ref (78), .ref (79), .ref (80), .ref (81), .ref (82), .ref (83), .ref (84), .int (nI (wt)), .int (nI (zbi un)), .int (rp), .int (wi), .int (pa), .int (be), .int (ru), .int (sa), .int (me), .int (se), .int (ta), .int (fa), .ref (85), .ref (86), .ref (87), .int (nI (mn)), .ref (88), .ref (89), .ref (90), .ref (91), .ref (92), .ref (93), .int (nI (tp)), .ref (94), .int (nI (ou))]))) (h67 : h 67 = some (.inr (5, .inl ft))) (h68 : zia h 68 16) (h69 : zia h 69 16) (hX : X < 2 ^ 70) (hf : ∀ k, k < 5 → ft k = nI (zq16 X k)) (hpw : pw = 2 ∨ pw = 3) (hp : p < 1000) : zMt g mX11_isBeyond (zR 0 0 0) [.ref (64), .int (nI (p)), .int (nI (pw))] h n (fun v h' n' => v = some (.int (nI (zbi (decide (p * 65536 ^ (4 * pw) < X ^ pw))))) ∧ n' = n ∧ zsm h h' zsr2 ∧ zsh h h') := by
  refine zMt.of [some (.ref (64)), some (.int (nI (p))), some (.int (nI (pw))), none, none, none, none, none, none, none] (by decide) rfl (Nat.le_of_ble_eq_true rfl) ?_
  obtain ⟨Qf, hQ⟩ : ∃ Qf : ZQ, Qf = (fun v h' n' => v = some (.int (nI (zbi (decide (p * 65536 ^ (4 * pw) < X ^ pw))))) ∧ n' = n ∧ zsm h h' zsr2 ∧ zsh h h') := ⟨_, rfl⟩
  rw [← hQ]
  obtain ⟨if101, ih101⟩ := id (h68)
  obtain ⟨if102, ih102⟩ := id (h69)
  refine zp_iconst (v := nI (0)) dX11_isBeyond_0 (by decide) ?_
  refine zp_istore_n (ls' := [some (.ref (64)), some (.int (nI (p))), some (.int (nI (pw))), some (.int (nI (0))), none, none, none, none, none, none]) dX11_isBeyond_1 (by decide) rfl ?_
  refine zp_pc (pc' := 2) rfl ?_
  have lp103 : zP g mX11_isBeyond (zR 0 0 0) Qf 0 0 35 [some (.ref (64)), some (.int (nI (p))), some (.int (nI (pw))), some (.int (nI (16))), none, none, none, none, none, none] [] (va_up h (68) (some (.inr (16, .inl (zfl if101 (0) (16) (fun u => nI (zq16 X u))))))) n → ∀ (m k103 : Nat), m = (16) - k103 → k103 ≤ (16) → zP g mX11_isBeyond (zR 0 0 0) Qf 0 0 2 [some (.ref (64)), some (.int (nI (p))), some (.int (nI (pw))), some (.int (nI (k103))), none, none, none, none, none, none] [] (va_up h (68) (some (.inr (16, .inl (zfl if101 (0) (k103) (fun u => nI (zq16 X u))))))) n := by
    intro kk m
    induction m using Nat.strongRecOn with
    | _ m ih =>
      intro k103 hm103 hk103
      refine zp_nh (fun hX103 eX103 => ?_)
      have k104_0 := (congrFun eX103 (64)).trans ((va_up_ne _ _ (by omega)).trans ho)
      have k104_1 := (congrFun eX103 (67)).trans ((va_up_ne _ _ (by omega)).trans h67)
      have k104_2 : hX103 (68) = some (.inr (16, .inl (zfl if101 (0) (k103) (fun u => nI (zq16 X u))))) := by rw [eX103]; exact va_up_self _ _ _
      have k104_3 := (congrFun eX103 (69)).trans ((va_up_ne _ _ (by omega)).trans ih102)
      refine zp_iload_n dX11_isBeyond_2 rfl ?_
      refine zp_bipush (v := nI (16)) dX11_isBeyond_3 (by decide) ?_
      refine zp_pc (pc' := 5) rfl ?_
      refine zn_icmp_ge (tgt := 35) dX11_isBeyond_5 (by decide) (by omega) (by omega) (fun c5 => ?_) (fun c5 => ?_)
      · have e103 : k103 = (16) := by omega
        subst e103
        rw [eX103]
        exact kk
      · refine zp_aload_n dX11_isBeyond_8 rfl ?_
        refine zp_get dX11_isBeyond_9 gX11_20_10 k104_0 rfl ?_
        refine zp_iload_n dX11_isBeyond_12 rfl ?_
        refine zp_iload_n dX11_isBeyond_13 rfl ?_
        refine zp_iconst (v := nI (5)) dX11_isBeyond_14 (by decide) ?_
        refine zp_pc (pc' := 15) rfl ?_
        have jn105 : zP g mX11_isBeyond (zR 0 0 0) Qf 0 0 28 [some (.ref (64)), some (.int (nI (p))), some (.int (nI (pw))), some (.int (nI (k103))), none, none, none, none, none, none] [.int (nI (zq16 X k103)), .int (nI (k103)), .ref (68)] hX103 n → zP g mX11_isBeyond (zR 0 0 0) Qf 0 0 15 [some (.ref (64)), some (.int (nI (p))), some (.int (nI (pw))), some (.int (nI (k103))), none, none, none, none, none, none] [.int (nI (5)), .int (nI (k103)), .int (nI (k103)), .ref (68)] hX103 n := by
          intro jk105
          refine zn_icmp_ge (tgt := 27) dX11_isBeyond_15 (by decide) (by omega) (by omega) (fun c15 => ?_) (fun c15 => ?_)
          · refine zp_iconst (v := nI (0)) dX11_isBeyond_27 (by decide) ?_
            refine zp_pc (pc' := 28) rfl ?_
            refine zp_i (y := nI (zq16 X k103)) (by rw [zq16_big (Nat.lt_of_lt_of_le (Nat.lt_trans hX (show 2 ^ 70 < 65536 ^ 5 by decide)) (Nat.pow_le_pow_right (by decide) c15))]) ?_
            exact jk105
          · refine zp_aload_n dX11_isBeyond_18 rfl ?_
            refine zp_get dX11_isBeyond_19 gX11_16_10 k104_0 rfl ?_
            refine zp_iload_n dX11_isBeyond_22 rfl ?_
            refine zp_pc (pc' := 23) rfl ?_
            refine zn_iald (j := k103) dX11_isBeyond_23 k104_1 (by omega) (by omega) ?_
            refine zp_i (y := nI (zq16 X k103)) (hf _ c15) ?_
            refine zp_goto (tgt := 28) dX11_isBeyond_24 (by decide) ?_
            refine zp_pc (pc' := 28) rfl ?_
            exact jk105
        refine jn105 ?_
        refine zn_iast dX11_isBeyond_28 (by omega) k104_2 (by omega) (by omega) ?_
        refine zp_nh (fun h106x eh106x => ?_)
        have k106_0 := (congrFun eh106x (64)).trans ((va_up_ne _ _ (by omega)).trans k104_0)
        have k106_1 := (congrFun eh106x (67)).trans ((va_up_ne _ _ (by omega)).trans k104_1)
        have k106_2 : h106x (68) = some (.inr (16, .inl (va_up (zfl if101 (0) (k103) (fun u => nI (zq16 X u))) (k103) (nI (zq16 X k103))))) := by rw [eh106x]; exact va_up_self _ _ _
        have k106_3 := (congrFun eh106x (69)).trans ((va_up_ne _ _ (by omega)).trans k104_3)
        have sw107 : zsm hX103 h106x (zon (68)) := zsm.rf.up eh106x rfl
        have zw107 : zsh hX103 h106x := zsh.fill eh106x k104_2
        refine zp_pc (pc' := 29) rfl ?_
        refine zn_iinc 1 (ls' := [some (.ref (64)), some (.int (nI (p))), some (.int (nI (pw))), some (.int (nI (k103 + 1))), none, none, none, none, none, none]) dX11_isBeyond_29 (by decide) (by decide) rfl rfl ?_
        refine zp_goto (tgt := 2) dX11_isBeyond_32 (by decide) ?_
        refine zp_pc (pc' := 2) rfl ?_
        rw [zfl_step eX103 eh106x (by omega) rfl]
        exact ih ((16) - (k103 + 1)) (by omega) (k103 + 1) rfl (by omega)
  suffices K103 : zP g mX11_isBeyond (zR 0 0 0) Qf 0 0 35 [some (.ref (64)), some (.int (nI (p))), some (.int (nI (pw))), some (.int (nI (16))), none, none, none, none, none, none] [] (va_up h (68) (some (.inr (16, .inl (zfl if101 (0) (16) (fun u => nI (zq16 X u))))))) n by
    have q := lp103 K103 ((16) - 0) 0 rfl (Nat.zero_le _)
    rw [zfl_0, zup_same ih101] at q
    exact q
  refine zp_nh (fun hY103 eY103 => ?_)
  have k108_0 := (congrFun eY103 (64)).trans ((va_up_ne _ _ (by omega)).trans ho)
  have k108_1 := (congrFun eY103 (67)).trans ((va_up_ne _ _ (by omega)).trans h67)
  have k108_2 : hY103 (68) = some (.inr (16, .inl (zfl if101 (0) (16) (fun u => nI (zq16 X u))))) := by rw [eY103]; exact va_up_self _ _ _
  have k108_3 := (congrFun eY103 (69)).trans ((va_up_ne _ _ (by omega)).trans ih102)
  have sf109 := (zsm.fill eY103)
  have zf109 := zsh.fill eY103 ih101
  refine zp_iconst (v := nI (1)) dX11_isBeyond_35 (by decide) ?_
  refine zp_istore_n (ls' := [some (.ref (64)), some (.int (nI (p))), some (.int (nI (pw))), some (.int (nI (1))), none, none, none, none, none, none]) dX11_isBeyond_36 (by decide) rfl ?_
  refine zp_pc (pc' := 37) rfl ?_
  have sB : zsm h hY103 zsr2 := (sf109).mono (fun i hi => by unfold zsr2; unfold zon at hi; omega)
  have zB9 : zsh h hY103 := zf109
  have lp : ∀ (m : Nat) (c : Nat) (h1 : ZH) (g8 g9 : Nat → Int32), m = pw - c → 1 ≤ c → c ≤ pw → zsm h h1 zsr2 → zsh h h1 → h1 68 = some (.inr (16, .inl g8)) → h1 69 = some (.inr (16, .inl g9)) → (∀ k, k < 16 → g8 k = nI (zq16 (X ^ c) k)) → zP g mX11_isBeyond (zR 0 0 0) Qf 0 0 37 [some (.ref (64)), some (.int (nI (p))), some (.int (nI (pw))), some (.int (nI (c))), none, none, none, none, none, none] [] h1 n := by
    intro m
    induction m using Nat.strongRecOn with
    | _ m ih =>
      intro c h1 g8 g9 hm1 hc0 hc1 s1 z1 e8 e9 q8
      have o1 : h1 64 = some (.inl (10, [.int (th), .ref (65), .ref (66), .ref (67), .ref (68), .ref (69), .ref (70), .ref (71), .ref (72), .ref (73), .ref (74), .ref (75), .ref (76), .ref (77), .ref (78), .ref (79), .ref (80), .ref (81), .ref (82), .ref (83), .ref (84), .int (nI (wt)), .int (nI (zbi un)), .int (rp), .int (wi), .int (pa), .int (be), .int (ru), .int (sa), .int (me), .int (se), .int (ta), .int (fa), .ref (85), .ref (86), .ref (87), .int (nI (mn)), .ref (88), .ref (89), .ref (90), .ref (91), .ref (92), .ref (93), .int (nI (tp)), .ref (94), .int (nI (ou))])) := (s1 _ (by unfold zsr2; omega)).trans ho
      have t1 : h1 67 = some (.inr (5, .inl ft)) := (s1 _ (by unfold zsr2; omega)).trans h67
      refine zp_iload_n dX11_isBeyond_37 rfl ?_
      refine zp_iload_n dX11_isBeyond_38 rfl ?_
      refine zp_pc (pc' := 39) rfl ?_
      refine zn_icmp_ge (tgt := 197) dX11_isBeyond_39 (by decide) (by omega) (by omega) (fun c39 => ?_) (fun c39 => ?_)
      · have ec : c = pw := by omega
        rw [ec] at q8
        obtain ⟨y16, y18⟩ := zY_small hX hpw
        refine zp_iconst (v := nI (4)) dX11_isBeyond_197 (by decide) ?_
        refine zp_iload_n dX11_isBeyond_198 rfl ?_
        refine zn_imul dX11_isBeyond_199 ?_
        refine zp_istore_n (ls' := [some (.ref (64)), some (.int (nI (p))), some (.int (nI (pw))), some (.int (nI ((4) * (pw)))), none, none, none, none, none, none]) dX11_isBeyond_200 (by decide) rfl ?_
        refine zp_lconst (v := 0) dX11_isBeyond_201 (by decide) ?_
        refine zp_lstore (ls' := [some (.ref (64)), some (.int (nI (p))), some (.int (nI (pw))), some (.int (nI ((4) * (pw)))), some (.long (0)), none, none, none, none, none]) dX11_isBeyond_202 (by decide) rfl ?_
        refine zp_bipush (v := nI (15)) dX11_isBeyond_204 (by decide) ?_
        refine zp_istore (ls' := [some (.ref (64)), some (.int (nI (p))), some (.int (nI (pw))), some (.int (nI ((4) * (pw)))), some (.long (0)), none, some (.int (nI (15))), none, none, none]) dX11_isBeyond_206 (by decide) rfl ?_
        refine zp_pc (pc' := 208) rfl ?_
        refine zp_ls (ls' := [some (.ref (64)), some (.int (nI (p))), some (.int (nI (pw))), some (.int (nI ((4) * (pw)))), some (.long (lN ((X ^ pw) / 65536 ^ (15 + 1)))), none, some (.int (nI (15))), none, none, none]) (by rw [Nat.div_eq_of_lt y16]; rfl) ?_
        have l2 : ∀ (m : Nat) (kk : Nat), m = kk → 4 * pw ≤ kk + 1 → kk ≤ 15 → zP g mX11_isBeyond (zR 0 0 0) Qf 0 0 208 [some (.ref (64)), some (.int (nI (p))), some (.int (nI (pw))), some (.int (nI ((4) * (pw)))), some (.long (lN ((X ^ pw) / 65536 ^ (kk + 1)))), none, some (.int (nI (kk))), none, none, none] [] h1 n := by
          intro m
          induction m using Nat.strongRecOn with
          | _ m ih =>
            intro kk hm2 hk1 hk2
            refine zp_iload dX11_isBeyond_208 rfl ?_
            refine zp_iload_n dX11_isBeyond_210 rfl ?_
            refine zp_pc (pc' := 211) rfl ?_
            refine zn_icmp_lt (tgt := 236) dX11_isBeyond_211 (by decide) (by omega) (by omega) (fun c211 => ?_) (fun c211 => ?_)
            · have ek : kk + 1 = 4 * pw := by omega
              refine zp_ls (ls' := [some (.ref (64)), some (.int (nI (p))), some (.int (nI (pw))), some (.int (nI ((4) * (pw)))), some (.long (lN ((X ^ pw) / 65536 ^ (4 * pw)))), none, some (.int (nI (kk))), none, none, none]) (by rw [ek]) ?_
              refine zp_lload dX11_isBeyond_236 rfl ?_
              refine zp_iload_n dX11_isBeyond_238 rfl ?_
              refine zp_pc (pc' := 239) rfl ?_
              refine zp_i2l dX11_isBeyond_239 ?_
              refine zp_l (y := lN p) (nI_l (by omega)) ?_
              refine zp_lcmp dX11_isBeyond_240 ?_
              refine zp_pc (pc' := 241) rfl ?_
              have hB := zbyd (Y := (X ^ pw)) (p := p) (zp16_pos (4 * pw))
              refine zp_if_eq (tgt := 258) dX11_isBeyond_241 (by decide) (fun c241 => ?_) (fun c241 => ?_)
              · have eW : ((X ^ pw) / 65536 ^ (4 * pw)) = p := (lg_0 (by omega) (by omega)).mp c241
                refine zp_iconst (v := nI (0)) dX11_isBeyond_258 (by decide) ?_
                refine zp_istore (ls' := [some (.ref (64)), some (.int (nI (p))), some (.int (nI (pw))), some (.int (nI ((4) * (pw)))), some (.long (lN ((X ^ pw) / 65536 ^ (4 * pw)))), none, some (.int (nI (0))), none, none, none]) dX11_isBeyond_259 (by decide) rfl ?_
                refine zp_iconst (v := nI (0)) dX11_isBeyond_261 (by decide) ?_
                refine zp_istore (ls' := [some (.ref (64)), some (.int (nI (p))), some (.int (nI (pw))), some (.int (nI ((4) * (pw)))), some (.long (lN ((X ^ pw) / 65536 ^ (4 * pw)))), none, some (.int (nI (0))), some (.int (nI (0))), none, none]) dX11_isBeyond_262 (by decide) rfl ?_
                refine zp_pc (pc' := 264) rfl ?_
                refine zp_ls (ls' := [some (.ref (64)), some (.int (nI (p))), some (.int (nI (pw))), some (.int (nI ((4) * (pw)))), some (.long (lN ((X ^ pw) / 65536 ^ (4 * pw)))), none, some (.int (nI (zbi (decide ((X ^ pw) % 65536 ^ (0) ≠ 0))))), some (.int (nI (0))), none, none]) (by rw [show (decide ((X ^ pw) % 65536 ^ (0) ≠ 0)) = false from decide_eq_false (fun q => q (by rw [Nat.pow_zero]; exact Nat.mod_one _))]; rfl) ?_
                have l3 : ∀ (m : Nat) (k : Nat), m = 4 * pw - k → k ≤ 4 * pw → zP g mX11_isBeyond (zR 0 0 0) Qf 0 0 264 [some (.ref (64)), some (.int (nI (p))), some (.int (nI (pw))), some (.int (nI ((4) * (pw)))), some (.long (lN ((X ^ pw) / 65536 ^ (4 * pw)))), none, some (.int (nI (zbi (decide ((X ^ pw) % 65536 ^ (k) ≠ 0))))), some (.int (nI (k))), none, none] [] h1 n := by
                  intro m
                  induction m using Nat.strongRecOn with
                  | _ m ih =>
                    intro k hm3 hk3
                    refine zp_iload dX11_isBeyond_264 rfl ?_
                    refine zp_iload_n dX11_isBeyond_266 rfl ?_
                    refine zp_pc (pc' := 267) rfl ?_
                    refine zn_icmp_ge (tgt := 298) dX11_isBeyond_267 (by decide) (by omega) (by omega) (fun c267 => ?_) (fun c267 => ?_)
                    · have e4 : k = 4 * pw := by omega
                      refine zp_iload dX11_isBeyond_298 rfl ?_
                      refine zp_pc (pc' := 300) rfl ?_
                      refine zp_i (y := nI (zbi (decide (p * 65536 ^ (4 * pw) < X ^ pw)))) (by rw [show (decide (p * 65536 ^ (4 * pw) < X ^ pw)) = (decide ((X ^ pw) % 65536 ^ (k) ≠ 0)) from by rw [e4]; exact decide_eq_decide.mpr (hB.trans ⟨fun q => q.elim (fun q => absurd q (by omega)) (fun q => q.2), fun q => Or.inr ⟨eW, q⟩⟩)]) ?_
                      refine zp_ret (v := (some (.int (nI (zbi (decide (p * 65536 ^ (4 * pw) < X ^ pw))))))) dX11_isBeyond_300 ⟨⟨_, rfl, ((zfit_b _) g).1⟩, rfl⟩ (by decide) (by decide) ?_
                      rw [hQ]
                      exact ⟨rfl, rfl, s1, z1⟩
                    · refine zp_iload dX11_isBeyond_270 rfl ?_
                      refine zp_pc (pc' := 272) rfl ?_
                      have jn110 : zP g mX11_isBeyond (zR 0 0 0) Qf 0 0 290 [some (.ref (64)), some (.int (nI (p))), some (.int (nI (pw))), some (.int (nI ((4) * (pw)))), some (.long (lN ((X ^ pw) / 65536 ^ (4 * pw)))), none, some (.int (nI (zbi (decide ((X ^ pw) % 65536 ^ (k) ≠ 0))))), some (.int (nI (k))), none, none] [.int (nI (zbi (decide ((X ^ pw) % 65536 ^ (k + 1) ≠ 0))))] h1 n → zP g mX11_isBeyond (zR 0 0 0) Qf 0 0 272 [some (.ref (64)), some (.int (nI (p))), some (.int (nI (pw))), some (.int (nI ((4) * (pw)))), some (.long (lN ((X ^ pw) / 65536 ^ (4 * pw)))), none, some (.int (nI (zbi (decide ((X ^ pw) % 65536 ^ (k) ≠ 0))))), some (.int (nI (k))), none, none] [.int (nI (zbi (decide ((X ^ pw) % 65536 ^ (k) ≠ 0))))] h1 n := by
                        intro jk110
                        refine zn_if_ne (tgt := 285) dX11_isBeyond_272 (by decide) (by have := zbi_lt (decide ((X ^ pw) % 65536 ^ (k) ≠ 0)); omega) (fun c272 => ?_) (fun c272 => ?_)
                        · refine zp_iconst (v := nI (1)) dX11_isBeyond_285 (by decide) ?_
                          refine zp_goto (tgt := 290) dX11_isBeyond_286 (by decide) ?_
                          refine zp_pc (pc' := 290) rfl ?_
                          have dT : (decide ((X ^ pw) % 65536 ^ (k) ≠ 0)) = true := by rcases Bool.eq_false_or_eq_true (decide ((X ^ pw) % 65536 ^ (k) ≠ 0)) with q | q; exact q; rw [q] at c272; exact absurd rfl c272
                          refine zp_i (y := nI (zbi (decide ((X ^ pw) % 65536 ^ (k + 1) ≠ 0)))) (by rw [show (decide ((X ^ pw) % 65536 ^ (k + 1) ≠ 0)) = true from decide_eq_true ((zby_nz _ _).mpr (Or.inl (of_decide_eq_true dT)))]; rfl) ?_
                          exact jk110
                        · have dF : (decide ((X ^ pw) % 65536 ^ (k) ≠ 0)) = false := by rcases Bool.eq_false_or_eq_true (decide ((X ^ pw) % 65536 ^ (k) ≠ 0)) with q | q; rw [q] at c272; exact absurd c272 (by decide); exact q
                          refine zp_aload_n dX11_isBeyond_275 rfl ?_
                          refine zp_get dX11_isBeyond_276 gX11_20_10 o1 rfl ?_
                          refine zp_iload dX11_isBeyond_279 rfl ?_
                          refine zp_pc (pc' := 281) rfl ?_
                          refine zn_iald (j := k) dX11_isBeyond_281 e8 (by omega) (by omega) ?_
                          refine zp_i (y := nI (zq16 (X ^ pw) k)) (q8 _ (by omega)) ?_
                          refine zn_if_le (tgt := 289) dX11_isBeyond_282 (by decide) (by have := zq16_lt (X ^ pw) k; omega) (fun c282 => ?_) (fun c282 => ?_)
                          · refine zp_iconst (v := nI (0)) dX11_isBeyond_289 (by decide) ?_
                            refine zp_pc (pc' := 290) rfl ?_
                            refine zp_i (y := nI (zbi (decide ((X ^ pw) % 65536 ^ (k + 1) ≠ 0)))) (by rw [show (decide ((X ^ pw) % 65536 ^ (k + 1) ≠ 0)) = false from decide_eq_false (fun q => ((zby_nz _ _).mp q).elim (fun q => of_decide_eq_false dF q) (fun q => by omega))]; rfl) ?_
                            exact jk110
                          · refine zp_iconst (v := nI (1)) dX11_isBeyond_285 (by decide) ?_
                            refine zp_goto (tgt := 290) dX11_isBeyond_286 (by decide) ?_
                            refine zp_pc (pc' := 290) rfl ?_
                            refine zp_i (y := nI (zbi (decide ((X ^ pw) % 65536 ^ (k + 1) ≠ 0)))) (by rw [show (decide ((X ^ pw) % 65536 ^ (k + 1) ≠ 0)) = true from decide_eq_true ((zby_nz _ _).mpr (Or.inr c282))]; rfl) ?_
                            exact jk110
                      refine jn110 ?_
                      refine zp_istore (ls' := [some (.ref (64)), some (.int (nI (p))), some (.int (nI (pw))), some (.int (nI ((4) * (pw)))), some (.long (lN ((X ^ pw) / 65536 ^ (4 * pw)))), none, some (.int (nI (zbi (decide ((X ^ pw) % 65536 ^ (k + 1) ≠ 0))))), some (.int (nI (k))), none, none]) dX11_isBeyond_290 (by decide) rfl ?_
                      refine zn_iinc 1 (ls' := [some (.ref (64)), some (.int (nI (p))), some (.int (nI (pw))), some (.int (nI ((4) * (pw)))), some (.long (lN ((X ^ pw) / 65536 ^ (4 * pw)))), none, some (.int (nI (zbi (decide ((X ^ pw) % 65536 ^ (k + 1) ≠ 0))))), some (.int (nI (k + 1))), none, none]) dX11_isBeyond_292 (by decide) (by decide) rfl rfl ?_
                      refine zp_goto (tgt := 264) dX11_isBeyond_295 (by decide) ?_
                      refine zp_pc (pc' := 264) rfl ?_
                      exact ih (4 * pw - (k + 1)) (by omega) (k + 1) rfl (by omega)
                exact l3 _ 0 rfl (Nat.zero_le _)
              · have nW : ((X ^ pw) / 65536 ^ (4 * pw)) ≠ p := fun q => c241 ((lg_0 (by omega) (by omega)).mpr q)
                refine zp_lload dX11_isBeyond_244 rfl ?_
                refine zp_iload_n dX11_isBeyond_246 rfl ?_
                refine zp_pc (pc' := 247) rfl ?_
                refine zp_i2l dX11_isBeyond_247 ?_
                refine zp_l (y := lN p) (nI_l (by omega)) ?_
                refine zp_lcmp dX11_isBeyond_248 ?_
                refine zp_pc (pc' := 249) rfl ?_
                refine zp_if_le (tgt := 256) dX11_isBeyond_249 (by decide) (fun c249 => ?_) (fun c249 => ?_)
                · have lW := (lg_le (by omega) (by omega)).mp c249
                  refine zp_iconst (v := nI (0)) dX11_isBeyond_256 (by decide) ?_
                  refine zp_pc (pc' := 257) rfl ?_
                  refine zp_i (y := nI (zbi (decide (p * 65536 ^ (4 * pw) < X ^ pw)))) (by rw [show (decide (p * 65536 ^ (4 * pw) < X ^ pw)) = false from decide_eq_false (fun q => (hB.mp q).elim (fun q => by omega) (fun q => nW q.1))]; rfl) ?_
                  refine zp_ret (v := (some (.int (nI (zbi (decide (p * 65536 ^ (4 * pw) < X ^ pw))))))) dX11_isBeyond_257 ⟨⟨_, rfl, ((zfit_b _) g).1⟩, rfl⟩ (by decide) (by decide) ?_
                  rw [hQ]
                  exact ⟨rfl, rfl, s1, z1⟩
                · have lW : ¬ ((X ^ pw) / 65536 ^ (4 * pw)) ≤ p := fun q => c249 ((lg_le (by omega) (by omega)).mpr q)
                  refine zp_iconst (v := nI (1)) dX11_isBeyond_252 (by decide) ?_
                  refine zp_goto (tgt := 257) dX11_isBeyond_253 (by decide) ?_
                  refine zp_pc (pc' := 257) rfl ?_
                  refine zp_i (y := nI (zbi (decide (p * 65536 ^ (4 * pw) < X ^ pw)))) (by rw [show (decide (p * 65536 ^ (4 * pw) < X ^ pw)) = true from decide_eq_true (hB.mpr (Or.inl (by omega)))]; rfl) ?_
                  refine zp_ret (v := (some (.int (nI (zbi (decide (p * 65536 ^ (4 * pw) < X ^ pw))))))) dX11_isBeyond_257 ⟨⟨_, rfl, ((zfit_b _) g).1⟩, rfl⟩ (by decide) (by decide) ?_
                  rw [hQ]
                  exact ⟨rfl, rfl, s1, z1⟩
            · have dv := zdiv16 (X ^ pw) kk
              have dl : (X ^ pw) / 65536 ^ kk ≤ (X ^ pw) / 65536 ^ (4 * pw) := Nat.div_le_div_left (Nat.pow_le_pow_right (by decide) (by omega)) (zp16_pos _)
              have ql := zq16_lt (X ^ pw) kk
              refine zp_lload dX11_isBeyond_214 rfl ?_
              refine zp_bipush (v := nI (16)) dX11_isBeyond_216 (by decide) ?_
              refine zp_pc (pc' := 218) rfl ?_
              refine zp_lshl dX11_isBeyond_218 ?_
              refine zp_l (y := lN ((X ^ pw) / 65536 ^ (kk + 1) * 65536)) (wb_shl _ (k := 16) (by decide)) ?_
              refine zp_aload_n dX11_isBeyond_219 rfl ?_
              refine zp_get dX11_isBeyond_220 gX11_20_10 o1 rfl ?_
              refine zp_iload dX11_isBeyond_223 rfl ?_
              refine zp_pc (pc' := 225) rfl ?_
              refine zn_iald (j := kk) dX11_isBeyond_225 e8 (by omega) (by omega) ?_
              refine zp_i (y := nI (zq16 (X ^ pw) kk)) (q8 _ (by omega)) ?_
              refine zp_i2l dX11_isBeyond_226 ?_
              refine zp_l (y := lN (zq16 (X ^ pw) kk)) (nI_l (by omega)) ?_
              refine zp_lor dX11_isBeyond_227 ?_
              refine zp_l (y := lN ((X ^ pw) / 65536 ^ kk)) (by rw [g_or (k := 16) (p := 65536) rfl ql (by omega), dv]) ?_
              refine zp_lstore (ls' := [some (.ref (64)), some (.int (nI (p))), some (.int (nI (pw))), some (.int (nI ((4) * (pw)))), some (.long (lN ((X ^ pw) / 65536 ^ kk))), none, some (.int (nI (kk))), none, none, none]) dX11_isBeyond_228 (by decide) rfl ?_
              refine zp_pc (pc' := 230) rfl ?_
              refine zp_ls (ls' := [some (.ref (64)), some (.int (nI (p))), some (.int (nI (pw))), some (.int (nI ((4) * (pw)))), some (.long (lN ((X ^ pw) / 65536 ^ kk))), none, some (.int (nI (kk - 1 + 1))), none, none, none]) (by rw [Nat.sub_add_cancel (by omega)]) ?_
              refine zp_ls (ls' := [some (.ref (64)), some (.int (nI (p))), some (.int (nI (pw))), some (.int (nI ((4) * (pw)))), some (.long (lN ((X ^ pw) / 65536 ^ (kk - 1 + 1)))), none, some (.int (nI (kk - 1 + 1))), none, none, none]) (by rw [Nat.sub_add_cancel (by omega)]) ?_
              refine zn_idec (ls' := [some (.ref (64)), some (.int (nI (p))), some (.int (nI (pw))), some (.int (nI ((4) * (pw)))), some (.long (lN ((X ^ pw) / 65536 ^ (kk - 1 + 1)))), none, some (.int (nI (kk - 1))), none, none, none]) dX11_isBeyond_230 (by decide) rfl rfl ?_
              refine zp_goto (tgt := 208) dX11_isBeyond_233 (by decide) ?_
              refine zp_pc (pc' := 208) rfl ?_
              exact ih (kk - 1) (by omega) (kk - 1) rfl (by omega) (by omega)
        exact l2 _ 15 rfl (by omega) (by decide)
      · have hP := zXc hX (show c ≤ 2 by omega)
        refine zp_iconst (v := nI (0)) dX11_isBeyond_42 (by decide) ?_
        refine zp_istore (ls' := [some (.ref (64)), some (.int (nI (p))), some (.int (nI (pw))), some (.int (nI (c))), some (.int (nI (0))), none, none, none, none, none]) dX11_isBeyond_43 (by decide) rfl ?_
        refine zp_pc (pc' := 45) rfl ?_
        have lp111 : zP g mX11_isBeyond (zR 0 0 0) Qf 0 0 66 [some (.ref (64)), some (.int (nI (p))), some (.int (nI (pw))), some (.int (nI (c))), some (.int (nI (16))), none, none, none, none, none] [] (va_up h1 (69) (some (.inr (16, .inl (zfl g9 (0) (16) (fun _ => nI 0)))))) n → ∀ (m k111 : Nat), m = (16) - k111 → k111 ≤ (16) → zP g mX11_isBeyond (zR 0 0 0) Qf 0 0 45 [some (.ref (64)), some (.int (nI (p))), some (.int (nI (pw))), some (.int (nI (c))), some (.int (nI (k111))), none, none, none, none, none] [] (va_up h1 (69) (some (.inr (16, .inl (zfl g9 (0) (k111) (fun _ => nI 0)))))) n := by
          intro kk m
          induction m using Nat.strongRecOn with
          | _ m ih =>
            intro k111 hm111 hk111
            refine zp_nh (fun hX111 eX111 => ?_)
            have k112_0 := (congrFun eX111 (64)).trans ((va_up_ne _ _ (by omega)).trans o1)
            have k112_1 := (congrFun eX111 (67)).trans ((va_up_ne _ _ (by omega)).trans t1)
            have k112_2 := (congrFun eX111 (68)).trans ((va_up_ne _ _ (by omega)).trans e8)
            have k112_3 : hX111 (69) = some (.inr (16, .inl (zfl g9 (0) (k111) (fun _ => nI 0)))) := by rw [eX111]; exact va_up_self _ _ _
            refine zp_iload dX11_isBeyond_45 rfl ?_
            refine zp_bipush (v := nI (16)) dX11_isBeyond_47 (by decide) ?_
            refine zp_pc (pc' := 49) rfl ?_
            refine zn_icmp_ge (tgt := 66) dX11_isBeyond_49 (by decide) (by omega) (by omega) (fun c49 => ?_) (fun c49 => ?_)
            · have e111 : k111 = (16) := by omega
              subst e111
              rw [eX111]
              exact kk
            · refine zp_aload_n dX11_isBeyond_52 rfl ?_
              refine zp_get dX11_isBeyond_53 gX11_23_10 k112_0 rfl ?_
              refine zp_iload dX11_isBeyond_56 rfl ?_
              refine zp_iconst (v := nI (0)) dX11_isBeyond_58 (by decide) ?_
              refine zn_iast dX11_isBeyond_59 (by omega) k112_3 (by omega) (by omega) ?_
              refine zp_nh (fun h113x eh113x => ?_)
              have k113_0 := (congrFun eh113x (64)).trans ((va_up_ne _ _ (by omega)).trans k112_0)
              have k113_1 := (congrFun eh113x (67)).trans ((va_up_ne _ _ (by omega)).trans k112_1)
              have k113_2 := (congrFun eh113x (68)).trans ((va_up_ne _ _ (by omega)).trans k112_2)
              have k113_3 : h113x (69) = some (.inr (16, .inl (va_up (zfl g9 (0) (k111) (fun _ => nI 0)) (k111) (nI (0))))) := by rw [eh113x]; exact va_up_self _ _ _
              have sw114 : zsm hX111 h113x (zon (69)) := zsm.rf.up eh113x rfl
              have zw114 : zsh hX111 h113x := zsh.fill eh113x k112_3
              refine zp_pc (pc' := 60) rfl ?_
              refine zn_iinc 1 (ls' := [some (.ref (64)), some (.int (nI (p))), some (.int (nI (pw))), some (.int (nI (c))), some (.int (nI (k111 + 1))), none, none, none, none, none]) dX11_isBeyond_60 (by decide) (by decide) rfl rfl ?_
              refine zp_goto (tgt := 45) dX11_isBeyond_63 (by decide) ?_
              refine zp_pc (pc' := 45) rfl ?_
              rw [zfl_step eX111 eh113x (by omega) rfl]
              exact ih ((16) - (k111 + 1)) (by omega) (k111 + 1) rfl (by omega)
        suffices K111 : zP g mX11_isBeyond (zR 0 0 0) Qf 0 0 66 [some (.ref (64)), some (.int (nI (p))), some (.int (nI (pw))), some (.int (nI (c))), some (.int (nI (16))), none, none, none, none, none] [] (va_up h1 (69) (some (.inr (16, .inl (zfl g9 (0) (16) (fun _ => nI 0)))))) n by
          have q := lp111 K111 ((16) - 0) 0 rfl (Nat.zero_le _)
          rw [zfl_0, zup_same e9] at q
          exact q
        refine zp_nh (fun hY111 eY111 => ?_)
        have k115_0 := (congrFun eY111 (64)).trans ((va_up_ne _ _ (by omega)).trans o1)
        have k115_1 := (congrFun eY111 (67)).trans ((va_up_ne _ _ (by omega)).trans t1)
        have k115_2 := (congrFun eY111 (68)).trans ((va_up_ne _ _ (by omega)).trans e8)
        have k115_3 : hY111 (69) = some (.inr (16, .inl (zfl g9 (0) (16) (fun _ => nI 0)))) := by rw [eY111]; exact va_up_self _ _ _
        have sf116 := (zsm.fill eY111)
        have zf116 := zsh.fill eY111 e9
        refine zp_iconst (v := nI (0)) dX11_isBeyond_66 (by decide) ?_
        refine zp_istore (ls' := [some (.ref (64)), some (.int (nI (p))), some (.int (nI (pw))), some (.int (nI (c))), some (.int (nI (0))), none, none, none, none, none]) dX11_isBeyond_67 (by decide) rfl ?_
        refine zp_pc (pc' := 69) rfl ?_
        have sI : zsm h hY111 zsr2 := s1.trans ((sf116).mono (fun i hi => by unfold zsr2; unfold zon at hi; omega))
        have zI : zsh h hY111 := z1.trans (zf116)
        have ihc := ih
        have li : ∀ (m : Nat) (i : Nat) (h2 : ZH) (g2 : Nat → Int32), m = 5 - i → i ≤ 5 → zsm hY111 h2 (zon 69) → h2 69 = some (.inr (16, .inl g2)) → (∀ k, k < 16 → g2 k = nI (zq16 (X % 65536 ^ i * X ^ c) k)) → zP g mX11_isBeyond (zR 0 0 0) Qf 0 0 69 [some (.ref (64)), some (.int (nI (p))), some (.int (nI (pw))), some (.int (nI (c))), some (.int (nI (i))), none, none, none, none, none] [] h2 n := by
          intro m
          induction m using Nat.strongRecOn with
          | _ m ih =>
            intro i h2 g2 hm2 hi2 s2 e2 q2
            have o2 : h2 64 = some (.inl (10, [.int (th), .ref (65), .ref (66), .ref (67), .ref (68), .ref (69), .ref (70), .ref (71), .ref (72), .ref (73), .ref (74), .ref (75), .ref (76), .ref (77), .ref (78), .ref (79), .ref (80), .ref (81), .ref (82), .ref (83), .ref (84), .int (nI (wt)), .int (nI (zbi un)), .int (rp), .int (wi), .int (pa), .int (be), .int (ru), .int (sa), .int (me), .int (se), .int (ta), .int (fa), .ref (85), .ref (86), .ref (87), .int (nI (mn)), .ref (88), .ref (89), .ref (90), .ref (91), .ref (92), .ref (93), .int (nI (tp)), .ref (94), .int (nI (ou))])) := (s2 _ (by unfold zon; omega)).trans k115_0
            have t2 : h2 67 = some (.inr (5, .inl ft)) := (s2 _ (by unfold zon; omega)).trans k115_1
            have p2 : h2 68 = some (.inr (16, .inl g8)) := (s2 _ (by unfold zon; omega)).trans k115_2
            refine zp_iload dX11_isBeyond_69 rfl ?_
            refine zp_iconst (v := nI (5)) dX11_isBeyond_71 (by decide) ?_
            refine zp_pc (pc' := 72) rfl ?_
            refine zn_icmp_ge (tgt := 161) dX11_isBeyond_72 (by decide) (by omega) (by omega) (fun c72 => ?_) (fun c72 => ?_)
            · have ei : i = 5 := by omega
              rw [ei, zX5 hX] at q2
              refine zp_iconst (v := nI (0)) dX11_isBeyond_161 (by decide) ?_
              refine zp_istore (ls' := [some (.ref (64)), some (.int (nI (p))), some (.int (nI (pw))), some (.int (nI (c))), some (.int (nI (0))), none, none, none, none, none]) dX11_isBeyond_162 (by decide) rfl ?_
              refine zp_pc (pc' := 164) rfl ?_
              have s2F : zsm hY111 h2 zsr2 := s2.mono (fun i hi => by unfold zsr2; unfold zon at hi; omega)
              have z2F : zsh hY111 h2 := zsh.of s2 (fun k q => by unfold zon at q; subst q; exact ⟨_, _, _, k115_3, e2⟩)
              have lp117 : zP g mX11_isBeyond (zR 0 0 0) Qf 0 0 191 [some (.ref (64)), some (.int (nI (p))), some (.int (nI (pw))), some (.int (nI (c))), some (.int (nI (16))), none, none, none, none, none] [] (va_up h2 (68) (some (.inr (16, .inl (zfl g8 (0) (16) (fun u => nI (zq16 (X ^ (c + 1)) u))))))) n → ∀ (m k117 : Nat), m = (16) - k117 → k117 ≤ (16) → zP g mX11_isBeyond (zR 0 0 0) Qf 0 0 164 [some (.ref (64)), some (.int (nI (p))), some (.int (nI (pw))), some (.int (nI (c))), some (.int (nI (k117))), none, none, none, none, none] [] (va_up h2 (68) (some (.inr (16, .inl (zfl g8 (0) (k117) (fun u => nI (zq16 (X ^ (c + 1)) u))))))) n := by
                intro kk m
                induction m using Nat.strongRecOn with
                | _ m ih =>
                  intro k117 hm117 hk117
                  refine zp_nh (fun hX117 eX117 => ?_)
                  have k118_0 := (congrFun eX117 (64)).trans ((va_up_ne _ _ (by omega)).trans o2)
                  have k118_1 := (congrFun eX117 (67)).trans ((va_up_ne _ _ (by omega)).trans t2)
                  have k118_2 : hX117 (68) = some (.inr (16, .inl (zfl g8 (0) (k117) (fun u => nI (zq16 (X ^ (c + 1)) u))))) := by rw [eX117]; exact va_up_self _ _ _
                  have k118_3 := (congrFun eX117 (69)).trans ((va_up_ne _ _ (by omega)).trans e2)
                  refine zp_iload dX11_isBeyond_164 rfl ?_
                  refine zp_bipush (v := nI (16)) dX11_isBeyond_166 (by decide) ?_
                  refine zp_pc (pc' := 168) rfl ?_
                  refine zn_icmp_ge (tgt := 191) dX11_isBeyond_168 (by decide) (by omega) (by omega) (fun c168 => ?_) (fun c168 => ?_)
                  · have e117 : k117 = (16) := by omega
                    subst e117
                    rw [eX117]
                    exact kk
                  · refine zp_aload_n dX11_isBeyond_171 rfl ?_
                    refine zp_get dX11_isBeyond_172 gX11_20_10 k118_0 rfl ?_
                    refine zp_iload dX11_isBeyond_175 rfl ?_
                    refine zp_aload_n dX11_isBeyond_177 rfl ?_
                    refine zp_get dX11_isBeyond_178 gX11_23_10 k118_0 rfl ?_
                    refine zp_iload dX11_isBeyond_181 rfl ?_
                    refine zp_pc (pc' := 183) rfl ?_
                    refine zn_iald (j := k117) dX11_isBeyond_183 k118_3 (by omega) (by omega) ?_
                    refine zp_i (y := nI (zq16 (X ^ (c + 1)) k117)) (by rw [q2 _ (by omega), Nat.pow_succ, Nat.mul_comm]) ?_
                    refine zn_iast dX11_isBeyond_184 (by omega) k118_2 (by omega) (by omega) ?_
                    refine zp_nh (fun h119x eh119x => ?_)
                    have k119_0 := (congrFun eh119x (64)).trans ((va_up_ne _ _ (by omega)).trans k118_0)
                    have k119_1 := (congrFun eh119x (67)).trans ((va_up_ne _ _ (by omega)).trans k118_1)
                    have k119_2 : h119x (68) = some (.inr (16, .inl (va_up (zfl g8 (0) (k117) (fun u => nI (zq16 (X ^ (c + 1)) u))) (k117) (nI (zq16 (X ^ (c + 1)) k117))))) := by rw [eh119x]; exact va_up_self _ _ _
                    have k119_3 := (congrFun eh119x (69)).trans ((va_up_ne _ _ (by omega)).trans k118_3)
                    have sw120 : zsm hX117 h119x (zon (68)) := zsm.rf.up eh119x rfl
                    have zw120 : zsh hX117 h119x := zsh.fill eh119x k118_2
                    refine zp_pc (pc' := 185) rfl ?_
                    refine zn_iinc 1 (ls' := [some (.ref (64)), some (.int (nI (p))), some (.int (nI (pw))), some (.int (nI (c))), some (.int (nI (k117 + 1))), none, none, none, none, none]) dX11_isBeyond_185 (by decide) (by decide) rfl rfl ?_
                    refine zp_goto (tgt := 164) dX11_isBeyond_188 (by decide) ?_
                    refine zp_pc (pc' := 164) rfl ?_
                    rw [zfl_step eX117 eh119x (by omega) rfl]
                    exact ih ((16) - (k117 + 1)) (by omega) (k117 + 1) rfl (by omega)
              suffices K117 : zP g mX11_isBeyond (zR 0 0 0) Qf 0 0 191 [some (.ref (64)), some (.int (nI (p))), some (.int (nI (pw))), some (.int (nI (c))), some (.int (nI (16))), none, none, none, none, none] [] (va_up h2 (68) (some (.inr (16, .inl (zfl g8 (0) (16) (fun u => nI (zq16 (X ^ (c + 1)) u))))))) n by
                have q := lp117 K117 ((16) - 0) 0 rfl (Nat.zero_le _)
                rw [zfl_0, zup_same p2] at q
                exact q
              refine zp_nh (fun hY117 eY117 => ?_)
              have k121_0 := (congrFun eY117 (64)).trans ((va_up_ne _ _ (by omega)).trans o2)
              have k121_1 := (congrFun eY117 (67)).trans ((va_up_ne _ _ (by omega)).trans t2)
              have k121_2 : hY117 (68) = some (.inr (16, .inl (zfl g8 (0) (16) (fun u => nI (zq16 (X ^ (c + 1)) u))))) := by rw [eY117]; exact va_up_self _ _ _
              have k121_3 := (congrFun eY117 (69)).trans ((va_up_ne _ _ (by omega)).trans e2)
              have sf122 := (zsm.fill eY117)
              have zf122 := zsh.fill eY117 p2
              refine zn_iinc 1 (ls' := [some (.ref (64)), some (.int (nI (p))), some (.int (nI (pw))), some (.int (nI (c + 1))), some (.int (nI (16))), none, none, none, none, none]) dX11_isBeyond_191 (by decide) (by decide) rfl rfl ?_
              refine zp_goto (tgt := 37) dX11_isBeyond_194 (by decide) ?_
              refine zp_pc (pc' := 37) rfl ?_
              refine zp_drop (ls' := [some (.ref (64)), some (.int (nI (p))), some (.int (nI (pw))), some (.int (nI (c + 1))), none, none, none, none, none, none]) (fun i v hv => ?_) ?_
              · rcases i with _ | _ | _ | _ | _ | _ | _ | _ | _ | _ | i <;> simp at hv ⊢ <;> exact hv
              exact ihc (pw - (c + 1)) (by omega) (c + 1) hY117 _ _ rfl (by omega) (by omega) (sI.trans (s2F.trans ((sf122).mono (fun i hi => by unfold zsr2; unfold zon at hi; omega)))) (zI.trans (z2F.trans (zf122))) k121_2 k121_3 (fun k hk => zfl_in0 hk)
            · have tl := zq16_lt X i
              refine zp_lconst (v := 0) dX11_isBeyond_75 (by decide) ?_
              refine zp_lstore (ls' := [some (.ref (64)), some (.int (nI (p))), some (.int (nI (pw))), some (.int (nI (c))), some (.int (nI (i))), some (.long (0)), none, none, none, none]) dX11_isBeyond_76 (by decide) rfl ?_
              refine zp_iconst (v := nI (0)) dX11_isBeyond_78 (by decide) ?_
              refine zp_istore (ls' := [some (.ref (64)), some (.int (nI (p))), some (.int (nI (pw))), some (.int (nI (c))), some (.int (nI (i))), some (.long (0)), none, some (.int (nI (0))), none, none]) dX11_isBeyond_79 (by decide) rfl ?_
              refine zp_pc (pc' := 81) rfl ?_
              refine zp_ls (ls' := [some (.ref (64)), some (.int (nI (p))), some (.int (nI (pw))), some (.int (nI (c))), some (.int (nI (i))), some (.long (lN (zcr (X % 65536 ^ i * X ^ c) (zq16 X i) (X ^ c) i 0))), none, some (.int (nI (0))), none, none]) (by rw [zcr_0]; rfl) ?_
              have ihi := ih
              have lj : ∀ (m : Nat) (j : Nat) (h3 : ZH) (g3 : Nat → Int32), m = 16 - j → i + j ≤ 16 → zsm h2 h3 (zon 69) → h3 69 = some (.inr (16, .inl g3)) → (∀ k, k < i + j → k < 16 → g3 k = nI (zq16 (zB (X % 65536 ^ i * X ^ c) (zq16 X i) (X ^ c) i j) k)) → (∀ k, i + j ≤ k → k < 16 → g3 k = nI (zq16 (X % 65536 ^ i * X ^ c) k)) → zP g mX11_isBeyond (zR 0 0 0) Qf 0 0 81 [some (.ref (64)), some (.int (nI (p))), some (.int (nI (pw))), some (.int (nI (c))), some (.int (nI (i))), some (.long (lN (zcr (X % 65536 ^ i * X ^ c) (zq16 X i) (X ^ c) i j))), none, some (.int (nI (j))), none, none] [] h3 n := by
                intro m
                induction m using Nat.strongRecOn with
                | _ m ih =>
                  intro j h3 g3 hm3 hj3 s3 e3 ql qh
                  have o3 : h3 64 = some (.inl (10, [.int (th), .ref (65), .ref (66), .ref (67), .ref (68), .ref (69), .ref (70), .ref (71), .ref (72), .ref (73), .ref (74), .ref (75), .ref (76), .ref (77), .ref (78), .ref (79), .ref (80), .ref (81), .ref (82), .ref (83), .ref (84), .int (nI (wt)), .int (nI (zbi un)), .int (rp), .int (wi), .int (pa), .int (be), .int (ru), .int (sa), .int (me), .int (se), .int (ta), .int (fa), .ref (85), .ref (86), .ref (87), .int (nI (mn)), .ref (88), .ref (89), .ref (90), .ref (91), .ref (92), .ref (93), .int (nI (tp)), .ref (94), .int (nI (ou))])) := (s3 _ (by unfold zon; omega)).trans o2
                  have t3 : h3 67 = some (.inr (5, .inl ft)) := (s3 _ (by unfold zon; omega)).trans t2
                  have p3 : h3 68 = some (.inr (16, .inl g8)) := (s3 _ (by unfold zon; omega)).trans p2
                  refine zp_iload dX11_isBeyond_81 rfl ?_
                  refine zp_iload dX11_isBeyond_83 rfl ?_
                  refine zn_iadd dX11_isBeyond_85 ?_
                  refine zp_bipush (v := nI (16)) dX11_isBeyond_86 (by decide) ?_
                  refine zp_pc (pc' := 88) rfl ?_
                  refine zn_icmp_ge (tgt := 155) dX11_isBeyond_88 (by decide) (by omega) (by omega) (fun c88 => ?_) (fun c88 => ?_)
                  · have ej : j = 16 - i := by omega
                    refine zp_pc (pc' := 155) rfl ?_
                    refine zn_iinc 1 (ls' := [some (.ref (64)), some (.int (nI (p))), some (.int (nI (pw))), some (.int (nI (c))), some (.int (nI (i + 1))), some (.long (lN (zcr (X % 65536 ^ i * X ^ c) (zq16 X i) (X ^ c) i j))), none, some (.int (nI (j))), none, none]) dX11_isBeyond_155 (by decide) (by decide) rfl rfl ?_
                    refine zp_goto (tgt := 69) dX11_isBeyond_158 (by decide) ?_
                    refine zp_pc (pc' := 69) rfl ?_
                    refine zp_drop (ls' := [some (.ref (64)), some (.int (nI (p))), some (.int (nI (pw))), some (.int (nI (c))), some (.int (nI (i + 1))), none, none, none, none, none]) (fun i v hv => ?_) ?_
                    · rcases i with _ | _ | _ | _ | _ | _ | _ | _ | _ | _ | i <;> simp at hv ⊢ <;> exact hv
                    refine ihi (5 - (i + 1)) (by omega) (i + 1) h3 g3 rfl (by omega) (s2.trans s3) e3 (fun k hk => ?_)
                    rw [ql k (by omega) hk, ej, zB_end hP (by omega)]
                  · have cl := zcr_le (X % 65536 ^ i * X ^ c) (zq16 X i) (X ^ c) i j
                    have al := zq16_lt (X % 65536 ^ i * X ^ c) (i + j)
                    have pl := zq16_lt (X ^ c) j
                    have ml := Nat.mul_le_mul (Nat.le_of_lt tl) (Nat.le_of_lt pl)
                    refine zp_aload_n dX11_isBeyond_91 rfl ?_
                    refine zp_get dX11_isBeyond_92 gX11_23_10 o3 rfl ?_
                    refine zp_iload dX11_isBeyond_95 rfl ?_
                    refine zp_iload dX11_isBeyond_97 rfl ?_
                    refine zn_iadd dX11_isBeyond_99 ?_
                    refine zp_pc (pc' := 100) rfl ?_
                    refine zn_iald (j := (i) + (j)) dX11_isBeyond_100 e3 (by omega) (by omega) ?_
                    refine zp_i (y := nI (zq16 (X % 65536 ^ i * X ^ c) (i + j))) (qh _ (Nat.le_refl _) (by omega)) ?_
                    refine zp_i2l dX11_isBeyond_101 ?_
                    refine zp_l (y := lN (zq16 (X % 65536 ^ i * X ^ c) (i + j))) (nI_l (by omega)) ?_
                    refine zp_aload_n dX11_isBeyond_102 rfl ?_
                    refine zp_get dX11_isBeyond_103 gX11_16_10 o3 rfl ?_
                    refine zp_iload dX11_isBeyond_106 rfl ?_
                    refine zp_pc (pc' := 108) rfl ?_
                    refine zn_iald (j := i) dX11_isBeyond_108 t3 (by omega) (by omega) ?_
                    refine zp_i (y := nI ((zq16 X i))) (hf _ (by omega)) ?_
                    refine zp_i2l dX11_isBeyond_109 ?_
                    refine zp_l (y := lN (zq16 X i)) (nI_l (by omega)) ?_
                    refine zp_aload_n dX11_isBeyond_110 rfl ?_
                    refine zp_get dX11_isBeyond_111 gX11_20_10 o3 rfl ?_
                    refine zp_iload dX11_isBeyond_114 rfl ?_
                    refine zp_pc (pc' := 116) rfl ?_
                    refine zn_iald (j := j) dX11_isBeyond_116 p3 (by omega) (by omega) ?_
                    refine zp_i (y := nI (zq16 (X ^ c) j)) (q8 _ (by omega)) ?_
                    refine zp_i2l dX11_isBeyond_117 ?_
                    refine zp_l (y := lN (zq16 (X ^ c) j)) (nI_l (by omega)) ?_
                    refine zp_lmul dX11_isBeyond_118 ?_
                    refine zp_ladd dX11_isBeyond_119 ?_
                    refine zp_lload dX11_isBeyond_120 rfl ?_
                    refine zp_pc (pc' := 122) rfl ?_
                    refine zp_ladd dX11_isBeyond_122 ?_
                    refine zp_l (y := lN (zq16 (X % 65536 ^ i * X ^ c) (i + j) + (zq16 X i) * zq16 (X ^ c) j + zcr (X % 65536 ^ i * X ^ c) (zq16 X i) (X ^ c) i j)) (by rw [lN_mul, lN_add, lN_add]) ?_
                    refine zp_lstore (ls' := [some (.ref (64)), some (.int (nI (p))), some (.int (nI (pw))), some (.int (nI (c))), some (.int (nI (i))), some (.long (lN (zcr (X % 65536 ^ i * X ^ c) (zq16 X i) (X ^ c) i j))), none, some (.int (nI (j))), some (.long (lN (zq16 (X % 65536 ^ i * X ^ c) (i + j) + (zq16 X i) * zq16 (X ^ c) j + zcr (X % 65536 ^ i * X ^ c) (zq16 X i) (X ^ c) i j))), none]) dX11_isBeyond_123 (by decide) rfl ?_
                    refine zp_aload_n dX11_isBeyond_125 rfl ?_
                    refine zp_get dX11_isBeyond_126 gX11_23_10 o3 rfl ?_
                    refine zp_iload dX11_isBeyond_129 rfl ?_
                    refine zp_iload dX11_isBeyond_131 rfl ?_
                    refine zn_iadd dX11_isBeyond_133 ?_
                    refine zp_lload dX11_isBeyond_134 rfl ?_
                    refine zp_ldc2 dX11_isBeyond_136 kcX11_140 ?_
                    refine zp_pc (pc' := 139) rfl ?_
                    refine zp_land dX11_isBeyond_139 ?_
                    refine zp_l (y := lN ((zq16 (X % 65536 ^ i * X ^ c) (i + j) + (zq16 X i) * zq16 (X ^ c) j + zcr (X % 65536 ^ i * X ^ c) (zq16 X i) (X ^ c) i j) % 65536)) (g_mask (s := 16) (p := 65536) rfl (by decide) (by omega)) ?_
                    refine zp_l2i dX11_isBeyond_140 ?_
                    refine zp_i (y := nI (zq16 (zB (X % 65536 ^ i * X ^ c) (zq16 X i) (X ^ c) i (j + 1)) (i + j))) (by rw [lN_i, zB_dig]) ?_
                    refine zn_iast dX11_isBeyond_141 (by omega) e3 (by omega) (by omega) ?_
                    refine zp_nh (fun h123x eh123x => ?_)
                    have k123_0 := (congrFun eh123x (64)).trans ((va_up_ne _ _ (by omega)).trans o3)
                    have k123_1 := (congrFun eh123x (67)).trans ((va_up_ne _ _ (by omega)).trans t3)
                    have k123_2 := (congrFun eh123x (68)).trans ((va_up_ne _ _ (by omega)).trans p3)
                    have k123_3 : h123x (69) = some (.inr (16, .inl (va_up g3 ((i) + (j)) (nI (zq16 (zB (X % 65536 ^ i * X ^ c) (zq16 X i) (X ^ c) i (j + 1)) (i + j)))))) := by rw [eh123x]; exact va_up_self _ _ _
                    have sw124 : zsm h3 h123x (zon (69)) := zsm.rf.up eh123x rfl
                    have zw124 : zsh h3 h123x := zsh.fill eh123x e3
                    refine zp_lload dX11_isBeyond_142 rfl ?_
                    refine zp_bipush (v := nI (16)) dX11_isBeyond_144 (by decide) ?_
                    refine zp_pc (pc' := 146) rfl ?_
                    refine zp_lshr dX11_isBeyond_146 ?_
                    refine zp_l (y := lN (zcr (X % 65536 ^ i * X ^ c) (zq16 X i) (X ^ c) i (j + 1))) (by rw [zcr_succ]; exact pf_shr (d := 16) (by decide) (by omega)) ?_
                    refine zp_lstore (ls' := [some (.ref (64)), some (.int (nI (p))), some (.int (nI (pw))), some (.int (nI (c))), some (.int (nI (i))), some (.long (lN (zcr (X % 65536 ^ i * X ^ c) (zq16 X i) (X ^ c) i (j + 1)))), none, some (.int (nI (j))), some (.long (lN (zq16 (X % 65536 ^ i * X ^ c) (i + j) + (zq16 X i) * zq16 (X ^ c) j + zcr (X % 65536 ^ i * X ^ c) (zq16 X i) (X ^ c) i j))), none]) dX11_isBeyond_147 (by decide) rfl ?_
                    refine zn_iinc 1 (ls' := [some (.ref (64)), some (.int (nI (p))), some (.int (nI (pw))), some (.int (nI (c))), some (.int (nI (i))), some (.long (lN (zcr (X % 65536 ^ i * X ^ c) (zq16 X i) (X ^ c) i (j + 1)))), none, some (.int (nI (j + 1))), some (.long (lN (zq16 (X % 65536 ^ i * X ^ c) (i + j) + (zq16 X i) * zq16 (X ^ c) j + zcr (X % 65536 ^ i * X ^ c) (zq16 X i) (X ^ c) i j))), none]) dX11_isBeyond_149 (by decide) (by decide) rfl rfl ?_
                    refine zp_goto (tgt := 81) dX11_isBeyond_152 (by decide) ?_
                    refine zp_pc (pc' := 81) rfl ?_
                    refine zp_drop (ls' := [some (.ref (64)), some (.int (nI (p))), some (.int (nI (pw))), some (.int (nI (c))), some (.int (nI (i))), some (.long (lN (zcr (X % 65536 ^ i * X ^ c) (zq16 X i) (X ^ c) i (j + 1)))), none, some (.int (nI (j + 1))), none, none]) (fun i v hv => ?_) ?_
                    · rcases i with _ | _ | _ | _ | _ | _ | _ | _ | _ | _ | i <;> simp at hv ⊢ <;> exact hv
                    refine ih (16 - (j + 1)) (by omega) (j + 1) h123x _ rfl (by omega) (s3.trans ((sw124).mono (fun i hi => by unfold zon; unfold zon at hi; omega))) k123_3 (fun k hk hk2 => ?_) (fun k hk hk2 => ?_)
                    · by_cases q : k = i + j
                      · subst q; exact va_up_self _ _ _
                      · rw [va_up_ne _ _ q, zB_low (by omega)]; exact ql k (by omega) hk2
                    · rw [va_up_ne _ _ (by omega)]; exact qh k (by omega) hk2
              exact lj _ 0 h2 g2 rfl (by omega) zsm.rf e2 (fun k hk hk2 => by rw [zB_0]; exact q2 k hk2) (fun k hk hk2 => q2 k hk2)
        exact li _ 0 hY111 _ rfl (Nat.zero_le _) zsm.rf k115_3 (fun k hk => by rw [zfl_in0 hk, Nat.pow_zero, Nat.mod_one, Nat.zero_mul, zq16_0])
  exact lp _ 1 hY103 _ _ rfl (by decide) (by omega) sB zB9 k108_2 k108_3 (fun k hk => by rw [zfl_in0 hk, Nat.pow_one])
