/-! DIGITS AND CARRIES -/
def zdig (A c : Nat) : Nat := A / 256 ^ c % 256
theorem zdig_lt (A c : Nat) : zdig A c < 256 := Nat.mod_lt _ (by decide)
theorem zpow8 (c : Nat) : 2 ^ (8 * c) = 256 ^ c := by rw [Nat.pow_mul]
theorem znum_getD (A : Nat) {k i : Nat} (hi : i < k) : (znum A k).getD i 0 = zdig A (k - 1 - i) := by
  rw [List.getD_eq_getElem?_getD, znum, List.getElem?_map, List.getElem?_range hi]
  show A / 2 ^ (8 * (k - 1 - i)) % 256 = _
  rw [zpow8]
  rfl
theorem zdig_get {xs : List Nat} (h : ∀ x ∈ xs, x < 256) {i : Nat} (hi : i < xs.length) : xs.getD i 0 = zdig (zval xs) (xs.length - 1 - i) := by
  conv => lhs; rw [← znum_zval h]
  exact znum_getD _ hi
theorem zdig_big {xs : List Nat} (h : ∀ x ∈ xs, x < 256) {c : Nat} (hc : xs.length ≤ c) : zdig (zval xs) c = 0 := by
  unfold zdig
  rw [Nat.div_eq_of_lt (Nat.lt_of_lt_of_le (zval_lt h) (Nat.pow_le_pow_right (by decide) hc))]
/-- the carry into digit c of A + B -/
def zca (A B c : Nat) : Nat := (A % 256 ^ c + B % 256 ^ c) / 256 ^ c
theorem zca_0 (A B : Nat) : zca A B 0 = 0 := by simp [zca, Nat.mod_one]
theorem zpow_pos (c : Nat) : 0 < 256 ^ c := Nat.pow_pos (by decide)
theorem zca_le (A B c : Nat) : zca A B c ≤ 1 := by
  have h1 := Nat.mod_lt A (zpow_pos c)
  have h2 := Nat.mod_lt B (zpow_pos c)
  unfold zca
  generalize 256 ^ c = P at h1 h2 ⊢
  have : (A % P + B % P) / P < 2 := Nat.div_lt_of_lt_mul (by omega)
  omega
theorem zmod_succ (A c : Nat) : A % 256 ^ (c + 1) = A % 256 ^ c + 256 ^ c * zdig A c := by
  rw [Nat.pow_succ, Nat.mod_mul]
  rfl
theorem zca_succ (A B c : Nat) : zca A B (c + 1) = (zca A B c + zdig A c + zdig B c) / 256 := by
  unfold zca
  rw [zmod_succ, zmod_succ, Nat.pow_succ]
  have hP := zpow_pos c
  generalize 256 ^ c = P at hP ⊢
  rw [← Nat.div_div_eq_div_mul]
  congr 1
  rw [show A % P + P * zdig A c + (B % P + P * zdig B c) = (A % P + B % P) + P * (zdig A c + zdig B c) by rw [Nat.mul_add]; omega, Nat.add_mul_div_left _ _ hP]
  omega
theorem zca_dig (A B c : Nat) : zdig (A + B) c = (zca A B c + zdig A c + zdig B c) % 256 := by
  unfold zca zdig
  have hP := zpow_pos c
  generalize 256 ^ c = P at hP ⊢
  have h1 : (A + B) / P = (A % P + B % P) / P + A / P + B / P := by
    have e1 := Nat.div_add_mod A P
    have e2 := Nat.div_add_mod B P
    have e3 : A + B = (A % P + B % P) + P * (A / P + B / P) := by rw [Nat.mul_add]; omega
    rw [e3, Nat.add_mul_div_left _ _ hP]
    omega
  rw [h1]
  omega
/-- the carry into digit c of A + K, K added at once -/
def zck (A K c : Nat) : Nat := (K + A % 256 ^ c) / 256 ^ c
theorem zck_0 (A K : Nat) : zck A K 0 = K := by simp [zck, Nat.mod_one]
theorem zck_succ (A K c : Nat) : zck A K (c + 1) = (zck A K c + zdig A c) / 256 := by
  unfold zck
  rw [zmod_succ, Nat.pow_succ]
  have hP := zpow_pos c
  generalize 256 ^ c = P at hP ⊢
  rw [← Nat.div_div_eq_div_mul, ← Nat.add_assoc, Nat.add_mul_div_left _ _ hP]
theorem zck_dig (A K c : Nat) : zdig (A + K) c = (zck A K c + zdig A c) % 256 := by
  unfold zck zdig
  have hP := zpow_pos c
  generalize 256 ^ c = P at hP ⊢
  have h1 : (A + K) / P = (K + A % P) / P + A / P := by
    have e1 := Nat.div_add_mod A P
    have e3 : A + K = (K + A % P) + P * (A / P) := by omega
    rw [e3, Nat.add_mul_div_left _ _ hP]
  rw [h1]
  omega
theorem zck_le (A K c : Nat) (hK : K < 2 ^ 20) : zck A K c < 2 ^ 21 := by
  induction c with
  | zero => rw [zck_0]; omega
  | succ c ih =>
    rw [zck_succ]
    have := zdig_lt A c
    omega
theorem zandN {m : Nat} (hm : m < 2 ^ 32) : nI m &&& nI 255 = nI (m % 256) := pk_andN hm 8 (by decide)
theorem zushr8 {m : Nat} (hm : m < 2 ^ 32) : (((nI m : Int32)).toUInt32 >>> (((nI 8 : Int32)).toUInt32 &&& Int32.toUInt32 31)).toInt32 = nI (m / 256) := pk_ushrN hm (nI 8) 8 (by decide)
theorem znum_mk {A L : Nat} {f : Nat → Int32} (hf : ∀ i, i < L → f i = nI (zdig A (L - 1 - i))) : ∀ i, i < L → f i = nI ((znum A L).getD i 0) := fun i hi => by rw [hf i hi, znum_getD A hi]
/-- by exclusive or with another row from a on -/
def zxor (xs ys : List Nat) (a : Nat) : List Nat := (List.range xs.length).map (fun k => xs.getD k 0 ^^^ ys.getD (a + k) 0)
theorem zxor_len (xs ys : List Nat) (a : Nat) : (zxor xs ys a).length = xs.length := by simp [zxor]
theorem zxor_get (xs ys : List Nat) (a : Nat) {k : Nat} (hk : k < xs.length) : (zxor xs ys a).getD k 0 = xs.getD k 0 ^^^ ys.getD (a + k) 0 := by
  rw [List.getD_eq_getElem?_getD, zxor, List.getElem?_map, List.getElem?_range hk]
  rfl
theorem zxor_lt {xs ys : List Nat} (hx : ∀ x ∈ xs, x < 256) (hy : ∀ x ∈ ys, x < 256) (a : Nat) : ∀ x ∈ zxor xs ys a, x < 256 := fun x h => by
  obtain ⟨k, -, rfl⟩ := List.mem_map.mp h
  exact Nat.xor_lt_two_pow (n := 8) (zget_lt hx (by decide) _) (zget_lt hy (by decide) _)
theorem zget_ge {ys : List Nat} {i : Nat} (h : ys.length ≤ i) : ys.getD i 0 = 0 := by rw [List.getD_eq_getElem?_getD, List.getElem?_eq_none h]; rfl
theorem zget_drop (xs : List Nat) (a i : Nat) : (xs.drop a).getD i 0 = xs.getD (a + i) 0 := by rw [List.getD_eq_getElem?_getD, List.getElem?_drop, List.getD_eq_getElem?_getD]
