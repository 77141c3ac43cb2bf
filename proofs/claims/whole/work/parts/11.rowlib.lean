/-! ROWS OF BYTES: what the walks of the methods of BitWell$Row need -/
theorem zsm.rf {h : ZH} {S : Nat → Prop} : zsm h h S := fun _ _ => rfl
theorem zsm.trans {h h1 h2 : ZH} {S : Nat → Prop} (a : zsm h h1 S) (b : zsm h1 h2 S) : zsm h h2 S := fun i hi => (b i hi).trans (a i hi)
theorem zsm.mono {h h1 : ZH} {S T : Nat → Prop} (a : zsm h h1 S) (b : ∀ i, S i → T i) : zsm h h1 T := fun i hi => a i (fun q => hi (b i q))
theorem zsm.up {h h1 h2 : ZH} {S : Nat → Prop} {k : Nat} {c : Option ZC} (a : zsm h h1 S) (e : h2 = va_up h1 k c) (hk : S k) : zsm h h2 S := fun i hi => by
  rw [e, va_up_ne _ _ (fun q => hi (by rw [q]; exact hk))]
  exact a i hi
abbrev zrs (r : Nat) : Nat → Prop := fun i => i = r ∨ i = r + 1
theorem zrow.sm {h h' : ZH} {r q N : Nat} {xs : List Nat} (hr : zrow h r N xs) (hs : zsm h h' (zrs q)) (h1 : r ≠ q) (h2 : r ≠ q + 1) (h3 : r + 1 ≠ q) : zrow h' r N xs := hr.keep (hs r (fun e => e.elim h1 h2)) (hs (r + 1) (fun e => e.elim h3 (fun e => h1 (by omega))))
theorem zrow.apart {h : ZH} {r q N K : Nat} {xs ys : List Nat} (hr : zrow h r N xs) (hq : zrow h q K ys) : r ≠ q + 1 ∧ r + 1 ≠ q := by
  obtain ⟨-, a1, -, -, -, f, a2, -⟩ := hr
  obtain ⟨-, b1, -, -, -, f2, b2, -⟩ := hq
  constructor
  · intro e
    subst e
    rw [a1] at b2
    cases b2
  · intro e
    subst e
    rw [a2] at b1
    cases b1
theorem zget_lt {xs : List Nat} {B : Nat} (h : ∀ x ∈ xs, x < B) (hB : 0 < B) (j : Nat) : xs.getD j 0 < B := by
  rw [List.getD_eq_getElem?_getD]
  cases e : xs[j]? with
  | none => exact hB
  | some x => exact h x (List.mem_of_getElem? e)
theorem zrow.len {h : ZH} {r N : Nat} {xs : List Nat} (hr : zrow h r N xs) : xs.length ≤ N ∧ N < 1000000 := ⟨hr.2.2.1, hr.2.2.2.1⟩
theorem zrow.bytes {h : ZH} {r N : Nat} {xs : List Nat} (hr : zrow h r N xs) : ∀ x ∈ xs, x < 256 := hr.2.2.2.2.1
/-- one byte more -/
theorem zrow.app {h : ZH} {r N x : Nat} {xs : List Nat} {f : Nat → Int32} (hr : 16 ≤ r) (h1 : h r = some (.inl (6, [.ref (r + 1), .int (nI (xs.length + 1))]))) (hl : xs.length < N) (hN : N < 1000000) (hb : ∀ x ∈ xs, x < 256) (hx : x < 256) (h2 : h (r + 1) = some (.inr (N, .inl (va_up f xs.length (nI x))))) (hf : ∀ j, j < xs.length → f j = nI (xs.getD j 0)) : zrow h r N (xs ++ [x]) := by
  refine ⟨hr, by rw [List.length_append, List.length_singleton]; exact h1, by rw [List.length_append, List.length_singleton]; omega, hN, ?_, _, h2, ?_⟩
  · intro y hy
    rcases List.mem_append.mp hy with q | q
    · exact hb y q
    · rw [List.mem_singleton.mp q]; exact hx
  · intro j hj
    rw [List.length_append, List.length_singleton] at hj
    by_cases e : j = xs.length
    · subst e
      rw [va_up_self, List.getD_eq_getElem?_getD, List.getElem?_append_right (Nat.le_refl _)]
      simp
    · rw [va_up_ne _ _ e, hf j (by omega), List.getD_eq_getElem?_getD, List.getD_eq_getElem?_getD, List.getElem?_append_left (by omega)]
/-- fewer bytes -/
theorem zrow.tk {h : ZH} {r N k : Nat} {xs : List Nat} {f : Nat → Int32} (hr : 16 ≤ r) (h1 : h r = some (.inl (6, [.ref (r + 1), .int (nI k)]))) (hk : k ≤ xs.length) (hl : xs.length ≤ N) (hN : N < 1000000) (hb : ∀ x ∈ xs, x < 256) (h2 : h (r + 1) = some (.inr (N, .inl f))) (hf : ∀ j, j < xs.length → f j = nI (xs.getD j 0)) : zrow h r N (xs.take k) := by
  have e : (xs.take k).length = k := by rw [List.length_take]; omega
  refine ⟨hr, by rw [e]; exact h1, by rw [e]; omega, hN, fun x hx => hb x (List.mem_of_mem_take hx), f, h2, fun j hj => ?_⟩
  rw [e] at hj
  rw [hf j (by omega), List.getD_eq_getElem?_getD, List.getD_eq_getElem?_getD, List.getElem?_take, if_pos hj]
/-- the same length, other bytes -/
theorem zrow.mk {h : ZH} {r N : Nat} {xs : List Nat} {f : Nat → Int32} {L : Nat} (hr : 16 ≤ r) (h1 : h r = some (.inl (6, [.ref (r + 1), .int (nI L)]))) (hL : xs.length = L) (hl : L ≤ N) (hN : N < 1000000) (hb : ∀ x ∈ xs, x < 256) (h2 : h (r + 1) = some (.inr (N, .inl f))) (hf : ∀ j, j < L → f j = nI (xs.getD j 0)) : zrow h r N xs := by
  subst hL
  exact ⟨hr, h1, hl, hN, hb, f, h2, hf⟩
theorem zand255 (x : Int32) : x &&& nI 255 = nI (x.toBitVec.toNat % 256) := pk_and x 8 (by decide)
def zat (xs : List Nat) (k : Int32) : Int32 := if k < 0 then -1 else if nI xs.length ≤ k then -1 else nI (xs.getD k.toNatClampNeg 0)
theorem zat_nI {xs : List Nat} {j : Nat} (h : j < xs.length) (hl : xs.length < 2 ^ 31) : zat xs (nI j) = nI (xs.getD j 0) := by
  unfold zat
  rw [if_neg (nI_pos (by omega)), if_neg (fun e => by have := (nI_leI hl (by omega)).mp e; omega), nI_clamp (by omega)]
