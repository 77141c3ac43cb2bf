/-! NUMBERS AND BYTES -/
section ZK
variable {g : ZG} {M : ZM} {R : Room} {Qf : ZQ} {cells slots pc : Nat} {ls : List (Option Value)} {st : List Value} {h : ZH} {n : Nat}
theorem zp_nrm {cells' slots' : Nat} {st' : List Value} (h1 : cells = cells') (h2 : slots = slots') (h3 : st = st') (k : zP g M R Qf cells' slots' pc ls st' h n) : zP g M R Qf cells slots pc ls st h n := by
  subst h1; subst h2; subst h3; exact k
theorem zp_pc {pc' : Nat} (h1 : pc = pc') (k : zP g M R Qf cells slots pc' ls st h n) : zP g M R Qf cells slots pc ls st h n := by
  subst h1; exact k
end ZK
theorem zdec (x : Int32) : x + Int32.ofInt (-1) = x - 1 := by
  rw [Int32.sub_eq_add_neg]
  rfl
theorem zpred_lt {c : Nat} (hc : c < 2 ^ 31) : (nI c - 1 < 0) ↔ c = 0 := by
  cases c with
  | zero => exact ⟨fun _ => rfl, fun _ => by decide⟩
  | succ k =>
    rw [nI_pred]
    exact ⟨fun q => absurd q (nI_pos (by omega)), fun q => by omega⟩
theorem zl2i_nat (x : Int64) : x.toInt32.toBitVec.toNat = x.toBitVec.toNat % 4294967296 := by
  show (x.toBitVec.signExtend 32).toNat = _
  rw [BitVec.signExtend_eq_setWidth_of_le _ (by decide), BitVec.toNat_setWidth]
/-- byte number c of a long, from below -/
theorem zlbyte (v : Int64) {c : Nat} (hc : c < 8) : ((v.toUInt64 >>> ((nI (8 * c)).toInt64.toUInt64 &&& Int64.toUInt64 63)).toInt64).toInt32 &&& nI 255 = nI (v.toBitVec.toNat / 2 ^ (8 * c) % 256) := by
  rw [zand255, zl2i_nat]
  have h1 : uN ((v.toUInt64 >>> ((nI (8 * c)).toInt64.toUInt64 &&& Int64.toUInt64 63)).toInt64) = uN v / 2 ^ (8 * c) := uN_sk v (by omega)
  have h2 : ∀ x : Int64, uN x = x.toBitVec.toNat := fun x => rfl
  rw [h2, h2] at h1
  rw [h1]
  congr 1
  omega
/-- v as k bytes, the highest first -/
def znum (v k : Nat) : List Nat := (List.range k).map (fun i => v / 2 ^ (8 * (k - 1 - i)) % 256)
theorem znum_len (v k : Nat) : (znum v k).length = k := by simp [znum]
theorem znum_lt (v k : Nat) : ∀ x ∈ znum v k, x < 256 := fun x hx => by
  obtain ⟨i, -, rfl⟩ := List.mem_map.mp hx
  exact Nat.mod_lt _ (by decide)
theorem znum_take (v : Nat) {k c : Nat} (hc : c < k) : (znum v k).take (k - (c + 1)) ++ [v / 2 ^ (8 * c) % 256] = (znum v k).take (k - c) := by
  have e : k - c = (k - (c + 1)) + 1 := by omega
  rw [e, List.take_succ]
  congr 1
  have h1 : (znum v k)[k - (c + 1)]? = some (v / 2 ^ (8 * c) % 256) := by
    simp only [znum, List.getElem?_map, List.getElem?_range (show k - (c + 1) < k by omega), Option.map_some]
    rw [show k - 1 - (k - (c + 1)) = c by omega]
  rw [h1]
  rfl
theorem zrep (b : Nat) {k c : Nat} (hc : c < k) : List.replicate c b ++ [b] = List.replicate (c + 1) b := by
  rw [List.replicate_succ']
/-- a part of a row -/
def zpart (ys : List Nat) (a c : Nat) : List Nat := (ys.drop a).take c
theorem zpart_len (ys : List Nat) (a c : Nat) : (zpart ys a c).length = min c (ys.length - a) := by simp [zpart]
theorem zpart_lt {ys : List Nat} {B : Nat} (h : ∀ x ∈ ys, x < B) (a c : Nat) : ∀ x ∈ zpart ys a c, x < B := fun x hx => h x (List.mem_of_mem_drop (List.mem_of_mem_take hx))
theorem zpart_all (ys : List Nat) : zpart ys 0 ys.length = ys := by simp [zpart]
theorem zpart_nil (ys : List Nat) (a : Nat) : zpart ys a 0 = [] := by simp [zpart]
theorem zpart_step (ys : List Nat) (a : Nat) {k : Nat} (hk : a + k < ys.length) : zpart ys a k ++ [ys.getD (a + k) 0] = zpart ys a (k + 1) := by
  unfold zpart
  rw [List.take_succ]
  congr 1
  rw [List.getElem?_drop, List.getD_eq_getElem?_getD, List.getElem?_eq_getElem hk]
  rfl
theorem zpart_over (ys : List Nat) (a : Nat) {c : Nat} (hc : ys.length ≤ a + c) : zpart ys a c = zpart ys a (ys.length - a) := by
  unfold zpart
  rw [List.take_of_length_le (by rw [List.length_drop]; omega), List.take_of_length_le (by rw [List.length_drop]; omega)]
theorem zmin_nI {a b : Nat} (ha : a < 2 ^ 31) (hb : b < 2 ^ 31) : (if nI b < nI a then nI b else nI a) = nI (min a b) := by
  by_cases h : b < a
  · rw [if_pos ((nI_ltI hb ha).mpr h), show min a b = b by omega]
  · rw [if_neg (fun q => h ((nI_ltI hb ha).mp q)), show min a b = a by omega]
theorem zmax_nI {a b : Nat} (ha : a < 2 ^ 31) (hb : b < 2 ^ 31) : (if nI a < nI b then nI b else nI a) = nI (max a b) := by
  by_cases h : a < b
  · rw [if_pos ((nI_ltI ha hb).mpr h), show max a b = b by omega]
  · rw [if_neg (fun q => h ((nI_ltI ha hb).mp q)), show max a b = a by omega]
/-- a row as a number, the highest byte first -/
def zval (xs : List Nat) : Nat := xs.foldl (fun a x => a * 256 + x) 0
theorem zval_foldl (xs : List Nat) : ∀ a : Nat, xs.foldl (fun a x => a * 256 + x) a = a * 256 ^ xs.length + zval xs := by
  induction xs with
  | nil => intro a; simp [zval]
  | cons x xs ih =>
    intro a
    simp only [List.foldl_cons, List.length_cons]
    have e : zval (x :: xs) = x * 256 ^ xs.length + zval xs := by
      show List.foldl (fun a x => a * 256 + x) (0 * 256 + x) xs = _
      rw [ih, Nat.zero_mul, Nat.zero_add]
    rw [ih, e, Nat.pow_succ, Nat.add_mul, Nat.mul_assoc, Nat.add_assoc, Nat.mul_comm (256 ^ xs.length) 256]
theorem zval_nil : zval [] = 0 := rfl
theorem zval_cons (x : Nat) (xs : List Nat) : zval (x :: xs) = x * 256 ^ xs.length + zval xs := by
  rw [zval, List.foldl_cons, zval_foldl, Nat.zero_mul, Nat.zero_add]
theorem zval_append (xs ys : List Nat) : zval (xs ++ ys) = zval xs * 256 ^ ys.length + zval ys := by
  rw [zval, List.foldl_append, zval_foldl]
  rfl
theorem zval_lt {xs : List Nat} (h : ∀ x ∈ xs, x < 256) : zval xs < 256 ^ xs.length := by
  induction xs with
  | nil => simp [zval_nil]
  | cons x xs ih =>
    have h1 := ih (fun y hy => h y (List.mem_cons_of_mem _ hy))
    have h2 := h x List.mem_cons_self
    rw [zval_cons, List.length_cons, Nat.pow_succ]
    have h3 : x * 256 ^ xs.length ≤ 255 * 256 ^ xs.length := Nat.mul_le_mul_right _ (by omega)
    omega
theorem znum_zval {xs : List Nat} (h : ∀ x ∈ xs, x < 256) : znum (zval xs) xs.length = xs := by
  apply List.ext_getElem?
  intro i
  by_cases hi : i < xs.length
  · rw [znum, List.getElem?_map, List.getElem?_range hi, List.getElem?_eq_getElem hi, Option.map_some]
    congr 1
    have e : xs = xs.take i ++ (xs[i] :: xs.drop (i + 1)) := by
      rw [List.getElem_cons_drop, List.take_append_drop]
    have h1 : zval xs = zval (xs.take i) * 256 ^ (xs.length - i) + (xs[i] * 256 ^ (xs.length - 1 - i) + zval (xs.drop (i + 1))) := by
      conv => lhs; rw [e]
      rw [zval_append, zval_cons]
      simp only [List.length_cons, List.length_drop]
      rw [show xs.length - (i + 1) + 1 = xs.length - i by omega, show xs.length - (i + 1) = xs.length - 1 - i by omega]
    have h2 : zval (xs.drop (i + 1)) < 256 ^ (xs.length - 1 - i) := by
      have := zval_lt (xs := xs.drop (i + 1)) (fun y hy => h y (List.mem_of_mem_drop hy))
      rwa [List.length_drop, show xs.length - (i + 1) = xs.length - 1 - i by omega] at this
    have h3 : xs[i] < 256 := h _ (List.getElem_mem hi)
    have h4 : (2 : Nat) ^ (8 * (xs.length - 1 - i)) = 256 ^ (xs.length - 1 - i) := by rw [Nat.pow_mul]
    rw [h4, h1, show xs.length - i = (xs.length - 1 - i) + 1 by omega, Nat.pow_succ]
    generalize 256 ^ (xs.length - 1 - i) = P at h2 ⊢
    have hP : 0 < P := by omega
    rw [show zval (xs.take i) * (P * 256) + (xs[i] * P + zval (xs.drop (i + 1))) = zval (xs.drop (i + 1)) + P * (zval (xs.take i) * 256 + xs[i]) by
      rw [Nat.mul_add, Nat.mul_comm P (zval (xs.take i) * 256), Nat.mul_assoc, Nat.mul_comm 256 P, Nat.mul_comm xs[i] P]; omega]
    rw [Nat.add_mul_div_left _ _ hP, Nat.div_eq_of_lt h2]
    omega
  · rw [List.getElem?_eq_none (by rw [znum_len]; omega), List.getElem?_eq_none (by omega)]
theorem zset_at {xs : List Nat} {f : Nat → Int32} {j b : Nat} (hf : ∀ i, i < xs.length → f i = nI (xs.getD i 0)) (hj : j < xs.length) (i : Nat) (hi : i < xs.length) : va_up f j (nI b) i = nI ((xs.set j b).getD i 0) := by
  rw [List.getD_eq_getElem?_getD, List.getElem?_set]
  by_cases e : i = j
  · subst e
    rw [va_up_self, if_pos rfl, if_pos hj]
    rfl
  · rw [va_up_ne _ _ e, hf i hi, if_neg (Ne.symm e), List.getD_eq_getElem?_getD]
