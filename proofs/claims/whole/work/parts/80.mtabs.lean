def zstp (p pw X b : Nat) : Nat := if p * 65536 ^ (4 * pw) < (X + 2 ^ b) ^ pw then X else X + 2 ^ b
def zrbs (p pw : Nat) : Nat → Nat
  | 0 => 0
  | k + 1 => zstp p pw (zrbs p pw k) (69 - k)
def zrt (p pw : Nat) : Nat := zrbs p pw 70
theorem zrbs_mul (p pw : Nat) : ∀ k, k ≤ 70 → zrbs p pw k % 2 ^ (70 - k) = 0 ∧ zrbs p pw k + 2 ^ (70 - k) ≤ 2 ^ 70
  | 0, _ => ⟨Nat.zero_mod _, by show 0 + _ ≤ _; omega⟩
  | k + 1, h => by
    obtain ⟨h1, h2⟩ := zrbs_mul p pw k (by omega)
    have e : 2 ^ (70 - k) = 2 * 2 ^ (69 - k) := by rw [show 70 - k = 69 - k + 1 by omega, Nat.pow_succ, Nat.mul_comm]
    rw [e] at h1 h2
    have h3 : zrbs p pw k % 2 ^ (69 - k) = 0 := Nat.mod_eq_zero_of_dvd (Nat.dvd_trans ⟨2, Nat.mul_comm _ _⟩ (Nat.dvd_of_mod_eq_zero h1))
    rw [show 70 - (k + 1) = 69 - k by omega]
    show zstp p pw (zrbs p pw k) (69 - k) % _ = 0 ∧ zstp p pw (zrbs p pw k) (69 - k) + _ ≤ _
    unfold zstp
    split
    · exact ⟨h3, by omega⟩
    · exact ⟨by rw [Nat.add_mod, h3, Nat.mod_self, Nat.add_zero, Nat.zero_mod], by omega⟩
theorem zrbs_lt (p pw : Nat) {k : Nat} (h : k ≤ 70) : zrbs p pw k < 2 ^ 70 := by
  have := (zrbs_mul p pw k h).2
  have := Nat.pow_pos (n := 70 - k) (show 0 < 2 by decide)
  omega
theorem zp16 (k : Nat) : 65536 ^ k = 2 ^ (16 * k) := by rw [Nat.pow_mul]
/-- a bit set behind which there is nothing -/
theorem zbit_eq {X b k : Nat} (hX : X % 2 ^ (b + 1) = 0) : zq16 (X + 2 ^ b) k = if k = b / 16 then zq16 X k + 2 ^ (b % 16) else zq16 X k := by
  obtain ⟨Z, hZ⟩ := Nat.dvd_of_mod_eq_zero hX
  unfold zq16
  rw [zp16]
  by_cases hk : k = b / 16
  · rw [if_pos hk]
    have eb : b = 16 * k + b % 16 := by omega
    have e1 : 2 ^ b = 2 ^ (16 * k) * 2 ^ (b % 16) := by rw [← Nat.pow_add, ← eb]
    have e2 : X = 2 ^ (16 * k) * (2 ^ (b % 16) * (2 * Z)) := by rw [hZ, Nat.pow_succ, e1]; simp only [Nat.mul_assoc, Nat.mul_comm, Nat.mul_left_comm]
    have hp : 0 < 2 ^ (16 * k) := Nat.pow_pos (by decide)
    rw [e1, e2, ← Nat.mul_add, Nat.mul_div_cancel_left _ hp, Nat.mul_div_cancel_left _ hp]
    obtain ⟨r, hr⟩ : ∃ r, r = b % 16 := ⟨_, rfl⟩
    have hr16 : r < 16 := by omega
    rw [← hr]
    have e3 : 65536 = 2 ^ r * (2 * 2 ^ (15 - r)) := by rw [show 2 * 2 ^ (15 - r) = 2 ^ (16 - r) by rw [show 16 - r = 15 - r + 1 by omega, Nat.pow_succ, Nat.mul_comm], ← Nat.pow_add, show r + (16 - r) = 16 by omega]
    rw [e3, show 2 ^ r * (2 * Z) + 2 ^ r = 2 ^ r * (2 * Z + 1) by rw [Nat.mul_add, Nat.mul_one], Nat.mul_mod_mul_left, Nat.mul_mod_mul_left]
    have hq : 0 < 2 ^ (15 - r) := Nat.pow_pos (by decide)
    generalize 2 ^ (15 - r) = N at hq
    have e4 : (2 * Z + 1) % (2 * N) = 2 * Z % (2 * N) + 1 := by
      have h1 := Nat.mul_mod_mul_left 2 Z N
      have h2 := Nat.mod_lt Z hq
      rw [h1, Nat.add_mod, h1, Nat.mod_eq_of_lt (show 1 < 2 * N by omega), Nat.mod_eq_of_lt (show 2 * (Z % N) + 1 < 2 * N by omega)]
    rw [e4, Nat.mul_add, Nat.mul_one]
  · rw [if_neg hk]
    rcases Nat.lt_or_ge k (b / 16) with q | q
    · obtain ⟨d, hd⟩ := Nat.exists_eq_add_of_le (show 16 * k + 16 ≤ b by omega)
      have hp : 0 < 2 ^ (16 * k) := Nat.pow_pos (by decide)
      have e1 : 2 ^ b = 2 ^ (16 * k) * (65536 * 2 ^ d) := by rw [show (65536 : Nat) = 2 ^ 16 from rfl, ← Nat.mul_assoc, ← Nat.pow_add, ← Nat.pow_add, ← hd]
      have e2 : X = 2 ^ (16 * k) * (65536 * (2 ^ d * (2 * Z))) := by rw [hZ, Nat.pow_succ, e1]; simp only [Nat.mul_assoc, Nat.mul_comm, Nat.mul_left_comm]
      rw [e1, e2, ← Nat.mul_add, Nat.mul_div_cancel_left _ hp, Nat.mul_div_cancel_left _ hp, ← Nat.mul_add, Nat.mul_mod_right, Nat.mul_mod_right]
    · obtain ⟨d, hd⟩ := Nat.exists_eq_add_of_le (show b + 1 ≤ 16 * k by omega)
      have hp : 0 < 2 ^ (b + 1) := Nat.pow_pos (by decide)
      have hb : 2 ^ b < 2 ^ (b + 1) := by rw [Nat.pow_succ]; have := Nat.pow_pos (n := b) (show 0 < 2 by decide); omega
      rw [hd, Nat.pow_add, ← Nat.div_div_eq_div_mul, ← Nat.div_div_eq_div_mul, hZ, Nat.mul_add_div hp, Nat.div_eq_of_lt hb, Nat.add_zero, Nat.mul_div_cancel_left _ hp]
theorem zbit_low {X b : Nat} (hX : X % 2 ^ (b + 1) = 0) : zq16 X (b / 16) % 2 ^ (b % 16 + 1) = 0 := by
  obtain ⟨Z, hZ⟩ := Nat.dvd_of_mod_eq_zero hX
  unfold zq16
  rw [zp16]
  have e1 : 2 ^ (b + 1) = 2 ^ (16 * (b / 16)) * 2 ^ (b % 16 + 1) := by rw [← Nat.pow_add]; congr 1; omega
  have hp : 0 < 2 ^ (16 * (b / 16)) := Nat.pow_pos (by decide)
  rw [hZ, e1, Nat.mul_assoc, Nat.mul_div_cancel_left _ hp]
  have hr16 : b % 16 < 16 := by omega
  generalize b % 16 = r at hr16
  rw [show (65536 : Nat) = 2 ^ (r + 1) * 2 ^ (15 - r) by rw [← Nat.pow_add, show r + 1 + (15 - r) = 16 by omega], Nat.mul_mod_mul_left, Nat.mul_mod_right]
theorem nx_or (a b : Nat) : nI a ||| nI b = nI (a ||| b) := Int32.toBitVec_inj.mp (by
  show BitVec.ofNat 32 a ||| BitVec.ofNat 32 b = BitVec.ofNat 32 (a ||| b)
  exact (BitVec.ofNat_or ..).symm)
theorem zor_bit {d r : Nat} (h : d % 2 ^ (r + 1) = 0) : d ||| 2 ^ r = d + 2 ^ r := by
  obtain ⟨z, hz⟩ := Nat.dvd_of_mod_eq_zero h
  have h1 : 2 ^ r < 2 ^ (r + 1) := by rw [Nat.pow_succ]; have := Nat.pow_pos (n := r) (show 0 < 2 by decide); omega
  rw [hz]
  exact (Nat.two_pow_add_eq_or_of_lt h1 z).symm
theorem zset_bit : ∀ r, r < 16 → nI 1 <<< (nI r &&& 31) = nI (2 ^ r) := by decide +kernel
theorem zclr_nat {d r : Nat} (hd : d < 65536) (hr : r < 16) (h : d % 2 ^ (r + 1) = 0) : (d + 2 ^ r) &&& (2 ^ r ^^^ (2 ^ 32 - 1)) = d := by
  rw [← zor_bit h]
  obtain ⟨z, hz⟩ := Nat.dvd_of_mod_eq_zero h
  apply Nat.eq_of_testBit_eq
  intro i
  rw [Nat.testBit_and, Nat.testBit_or, Nat.testBit_xor, Nat.testBit_two_pow_sub_one, Nat.testBit_two_pow]
  by_cases e : r = i
  · subst e
    have : d.testBit r = false := by rw [hz, Nat.testBit_two_pow_mul]; simp; omega
    rw [this]
    simp
    omega
  · rcases Nat.lt_or_ge i 32 with q | q
    · simp [e, q]
    · have : d.testBit i = false := Nat.testBit_lt_two_pow (Nat.lt_of_lt_of_le hd (Nat.le_trans (by decide) (Nat.pow_le_pow_right (show 0 < 2 by decide) q)))
      rw [this]
      simp [e]
theorem zclr_bit {d r : Nat} (hd : d < 65536) (hr : r < 16) (h : d % 2 ^ (r + 1) = 0) : nI (d + 2 ^ r) &&& (nI (2 ^ r) ^^^ (-1)) = nI d := by
  rw [show (-1 : Int32) = nI (2 ^ 32 - 1) from by decide, nx_xor, nx_and, zclr_nat hd hr h]
theorem zdec1 (b : Nat) : nI (b + 1) + (-1) = nI b := by
  rw [show (-1 : Int32) = nI (2 ^ 32 - 1) from by decide, nI_add]
  apply Int32.toBitVec_inj.mp
  show BitVec.ofNat 32 (b + 1 + (2 ^ 32 - 1)) = BitVec.ofNat 32 b
  apply BitVec.eq_of_toNat_eq
  rw [BitVec.toNat_ofNat, BitVec.toNat_ofNat]
  omega
theorem zlow64 (Z : Nat) : Z % 2 ^ 64 = ((zq16 Z 3 * 65536 + zq16 Z 2) * 65536 + zq16 Z 1) * 65536 + zq16 Z 0 := by
  have h3 := zq16_mod Z 3
  have h2 := zq16_mod Z 2
  have h1 := zq16_mod Z 1
  have h0 := zq16_mod Z 0
  rw [Nat.pow_zero, Nat.mod_one] at h0
  rw [show (2 : Nat) ^ 64 = 65536 ^ (3 + 1) from rfl, h3, h2, h1, h0]
  rw [show (65536 : Nat) ^ 1 = 65536 from rfl, show (65536 : Nat) ^ 2 = 65536 * 65536 from rfl, show (65536 : Nat) ^ 3 = 65536 * 65536 * 65536 from rfl]
  omega
def zPr : List Nat := [2, 3, 5, 7, 11, 13, 17, 19, 23, 29, 31, 37, 41, 43, 47, 53, 59, 61, 67, 71, 73, 79, 83, 89, 97, 101, 103, 107, 109, 113, 127, 131, 137, 139, 149, 151, 157, 163, 167, 173, 179, 181, 191, 193, 197, 199, 211, 223, 227, 229, 233, 239, 241, 251, 257, 263, 269, 271, 277, 281, 283, 293, 307, 311, 313, 317, 331, 337, 347, 349, 353, 359, 367, 373, 379, 383, 389, 397, 401, 409]
def zpk (p k : Nat) : Bool := (List.range k).all (fun q => decide (q < 2 ∨ 0 < p % q))
theorem zpk_succ (p k : Nat) : zpk p (k + 1) = (zpk p k && decide (k < 2 ∨ 0 < p % k)) := by
  unfold zpk; rw [List.range_succ, List.all_append]; simp
set_option maxRecDepth 100000 in
theorem zpk_chk : ∀ p, p < 410 → ∀ k, k < 23 → (p < 2 ∨ k < 2 ∨ k * k ≤ p ∨ (k ≠ 2 ∧ p < (k - 1) * (k - 1)) ∨ zpk p k = decide (p ∈ zPr)) := by decide +kernel
theorem zpk_tab (p : Nat) (hp : p < 410) (k : Nat) (hk : k < 23) (h1 : 2 ≤ p) (h2 : 2 ≤ k) (h3 : p < k * k) (h4 : k = 2 ∨ (k - 1) * (k - 1) ≤ p) : zpk p k = decide (p ∈ zPr) := by
  rcases zpk_chk p hp k hk with q | q | q | q | q
  · omega
  · omega
  · omega
  · omega
  · exact q
def zcnt (p : Nat) : Nat := (zPr.filter (fun q => decide (q < p))).length
set_option maxRecDepth 100000 in
theorem zcnt_tab : ∀ p, p < 410 → 2 ≤ p → zcnt p < 80 ∧ (p ∈ zPr → zPr.getD (zcnt p) 0 = p ∧ zcnt (p + 1) = zcnt p + 1) ∧ (p ∉ zPr → zcnt (p + 1) = zcnt p) := by decide +kernel
theorem zcnt_ends : zcnt 2 = 0 ∧ zcnt 410 = 80 := by decide +kernel
set_option maxRecDepth 100000 in
theorem zcube_tab : ∀ i, i < 80 → zt_ROUND.getD i 0 = lN (zrt (zPr.getD i 0) 3 % 2 ^ 64) := by decide +kernel
set_option maxRecDepth 100000 in
theorem zsqr_tab : ∀ i, i < 8 → zt_FIRST.getD i 0 = lN (zrt (zPr.getD i 0) 2 % 2 ^ 64) := by decide +kernel
def zbo (b : Nat) : Nat → Nat
  | 0 => 0
  | c + 1 => if c ≠ 0 ∧ ztm b c 8 = 1 then c else zbo b c
def zoth (b : Nat) : Nat := if b = 0 then 0 else zbo b 256
def zrl (x k : Nat) : Nat := (x * 2 ^ k ||| x / 2 ^ (8 - k)) % 256
def zaf (x : Nat) : Nat → Nat
  | 0 => 99
  | k + 1 => zaf x k ^^^ zrl x k
set_option maxRecDepth 100000 in
theorem zrl_tab : ∀ x, x < 256 → ∀ k, k < 5 → ((nI x <<< (nI k &&& 31)) ||| (nI x >>> (nI (8 - k) &&& 31))) &&& nI 255 = nI (zrl x k) := by decide +kernel
theorem zbo_lt (b : Nat) : ∀ c, zbo b c ≤ c
  | 0 => Nat.le_refl _
  | c + 1 => by
    show (if _ then c else zbo b c) ≤ c + 1
    split
    · omega
    · have := zbo_lt b c; omega
set_option maxRecDepth 100000 in
theorem zbo_lt2 {b : Nat} : ∀ c, 0 < c → zbo b c < c
  | c + 1, _ => by
    show (if _ then c else zbo b c) < c + 1
    split
    · omega
    · have := zbo_lt b c; omega
theorem zoth_lt (b : Nat) : zoth b < 256 := by unfold zoth; split; decide; exact zbo_lt2 256 (by decide)
set_option maxRecDepth 100000 in
theorem zaf_tab : ∀ b, b < 256 → zaf (zoth b) 5 = zbn b := by decide +kernel
