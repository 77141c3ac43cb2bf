/-! the reference: arrays that a loop fills, lists in arrays -/
def zfl {α : Type} (f : Nat → α) (off n : Nat) (V : Nat → α) : Nat → α := fun i => if off ≤ i ∧ i < off + n then V (i - off) else f i
theorem zfl_0 {α : Type} (f : Nat → α) (off : Nat) (V : Nat → α) : zfl f off 0 V = f := by
  funext i; unfold zfl; rw [if_neg (by omega)]
theorem zfl_up {α : Type} (f : Nat → α) (off k : Nat) (V : Nat → α) : va_up (zfl f off k V) (off + k) (V k) = zfl f off (k + 1) V := by
  funext i
  by_cases e : i = off + k
  · rw [e, va_up_self]; unfold zfl; rw [if_pos (by omega), show off + k - off = k by omega]
  · rw [va_up_ne _ _ e]
    unfold zfl
    by_cases q : off ≤ i ∧ i < off + k
    · rw [if_pos q, if_pos (by omega)]
    · rw [if_neg q, if_neg (by omega)]
theorem zfl_in {α : Type} {f : Nat → α} {off n i : Nat} {V : Nat → α} (h : i < n) : zfl f off n V (off + i) = V i := by
  unfold zfl; rw [if_pos (by omega), show off + i - off = i by omega]
theorem zfl_in0 {α : Type} {f : Nat → α} {n i : Nat} {V : Nat → α} (h : i < n) : zfl f 0 n V i = V i := by
  unfold zfl; rw [if_pos (by omega), Nat.sub_zero]
theorem zfl_out {α : Type} {f : Nat → α} {off n i : Nat} {V : Nat → α} (h : i < off ∨ off + n ≤ i) : zfl f off n V i = f i := by
  unfold zfl; rw [if_neg (by omega)]
theorem zup_same {h : ZH} {k : Nat} {c : Option ZC} (hk : h k = c) : va_up h k c = h := by
  funext i
  by_cases e : i = k
  · rw [e, va_up_self, hk]
  · rw [va_up_ne _ _ e]
theorem zup_up {α : Type} (h : Nat → α) (k : Nat) (c d : α) : va_up (va_up h k c) k d = va_up h k d := by
  funext i
  by_cases e : i = k
  · rw [e, va_up_self, va_up_self]
  · rw [va_up_ne _ _ e, va_up_ne _ _ e, va_up_ne _ _ e]
theorem zfl_step {h hX hY : ZH} {t N : Nat} {f : Nat → Int32} {off k idx : Nat} {V : Nat → Int32} {v : Int32} (eX : hX = va_up h t (some (.inr (N, .inl (zfl f off k V))))) (eY : hY = va_up hX t (some (.inr (N, .inl (va_up (zfl f off k V) idx v))))) (hi : idx = off + k) (hv : v = V k) : hY = va_up h t (some (.inr (N, .inl (zfl f off (k + 1) V)))) := by
  rw [eY, eX, zup_up, hi, hv, zfl_up]
theorem zfl_stepL {h hX hY : ZH} {t N : Nat} {f : Nat → Int64} {off k idx : Nat} {V : Nat → Int64} {v : Int64} (eX : hX = va_up h t (some (.inr (N, .inr (.inl (zfl f off k V)))))) (eY : hY = va_up hX t (some (.inr (N, .inr (.inl (va_up (zfl f off k V) idx v)))))) (hi : idx = off + k) (hv : v = V k) : hY = va_up h t (some (.inr (N, .inr (.inl (zfl f off (k + 1) V))))) := by
  rw [eY, eX, zup_up, hi, hv, zfl_up]
theorem zsm.fill {h h' : ZH} {t : Nat} {c : Option ZC} (e : h' = va_up h t c) : zsm h h' (zon t) := zsm.rf.up e rfl
/-- an array that begins with a list of bytes -/
def zar (h : ZH) (k N : Nat) (xs : List Nat) : Prop := xs.length ≤ N ∧ N < 1000000 ∧ (∀ x ∈ xs, x < 256) ∧ ∃ f : Nat → Int32, h k = some (.inr (N, .inl f)) ∧ ∀ j, j < xs.length → f j = nI (xs.getD j 0)
theorem zar.keep {h h' : ZH} {k N : Nat} {xs : List Nat} (H : zar h k N xs) (e : h' k = h k) : zar h' k N xs := by
  obtain ⟨h1, h2, h3, f, h4, h5⟩ := H
  exact ⟨h1, h2, h3, f, e.trans h4, h5⟩
theorem zar.len {h : ZH} {k N : Nat} {xs : List Nat} (H : zar h k N xs) : xs.length ≤ N ∧ N < 1000000 := ⟨H.1, H.2.1⟩
theorem zar.bytes {h : ZH} {k N : Nat} {xs : List Nat} (H : zar h k N xs) : ∀ x ∈ xs, x < 256 := H.2.2.1
theorem zar.mk {h : ZH} {k N L : Nat} {xs : List Nat} {f : Nat → Int32} (h1 : h k = some (.inr (N, .inl f))) (hL : xs.length = L) (hl : L ≤ N) (hN : N < 1000000) (hb : ∀ x ∈ xs, x < 256) (hf : ∀ j, j < L → f j = nI (xs.getD j 0)) : zar h k N xs := ⟨by omega, hN, hb, f, h1, fun j hj => hf j (by omega)⟩
/-- an array of numbers, whatever they are -/
def zia (h : ZH) (k N : Nat) : Prop := ∃ f : Nat → Int32, h k = some (.inr (N, .inl f))
def zla (h : ZH) (k N : Nat) : Prop := ∃ f : Nat → Int64, h k = some (.inr (N, .inr (.inl f)))
theorem zia.keep {h h' : ZH} {k N : Nat} (H : zia h k N) (e : h' k = h k) : zia h' k N := by obtain ⟨f, hf⟩ := H; exact ⟨f, e.trans hf⟩
theorem zla.keep {h h' : ZH} {k N : Nat} (H : zla h k N) (e : h' k = h k) : zla h' k N := by obtain ⟨f, hf⟩ := H; exact ⟨f, e.trans hf⟩
theorem zar.ia {h : ZH} {k N : Nat} {xs : List Nat} (H : zar h k N xs) : zia h k N := by obtain ⟨-, -, -, f, hf, -⟩ := H; exact ⟨f, hf⟩
theorem zgetD_lt {xs : List Nat} (hb : ∀ x ∈ xs, x < 256) (j : Nat) : xs.getD j 0 < 256 := by
  rw [List.getD_eq_getElem?_getD]
  cases hq : xs[j]? with
  | none => exact Nat.zero_lt_succ _
  | some v => exact hb v (List.mem_of_getElem? hq)
theorem zmap_getD {n i : Nat} {F : Nat → Nat} (h : i < n) : ((List.range n).map F).getD i 0 = F i := by
  rw [List.getD_eq_getElem?_getD, List.getElem?_map, List.getElem?_range h]; rfl
theorem zapp_getD1 {xs ys : List Nat} {i : Nat} (h : i < xs.length) : (xs ++ ys).getD i 0 = xs.getD i 0 := by
  rw [List.getD_eq_getElem?_getD, List.getElem?_append_left h, ← List.getD_eq_getElem?_getD]
theorem zapp_getD2 {xs ys : List Nat} {i : Nat} : (xs ++ ys).getD (xs.length + i) 0 = ys.getD i 0 := by
  rw [List.getD_eq_getElem?_getD, List.getElem?_append_right (by omega), show xs.length + i - xs.length = i by omega, ← List.getD_eq_getElem?_getD]
theorem zlist_eq {xs ys : List Nat} (h1 : xs.length = ys.length) (h2 : ∀ i, i < xs.length → xs.getD i 0 = ys.getD i 0) : xs = ys := by
  apply List.ext_getElem h1
  intro i a b
  have := h2 i a
  rw [List.getD_eq_getElem?_getD, List.getD_eq_getElem?_getD, List.getElem?_eq_getElem a, List.getElem?_eq_getElem b] at this
  exact this
