/-! MAC GENERATORS: what they compute -/
theorem zmac_len (b : Bool) (k m : List Nat) : (zmac b k m).length = 8 * zwb b := zhash_len _ _
def zmi (b : Bool) (m : List Nat) (s : List Nat × List Nat) : Nat → List Nat × List Nat
  | 0 => s
  | c + 1 => (zmac b (zmi b m s c).1 ((zmi b m s c).2 ++ [c] ++ m), zmac b (zmac b (zmi b m s c).1 ((zmi b m s c).2 ++ [c] ++ m)) (zmi b m s c).2)
def zmix (b : Bool) (m : List Nat) (s : List Nat × List Nat) : List Nat × List Nat := zmi b m s (if 0 < m.length then 2 else 1)
theorem zmi_len {b : Bool} {m : List Nat} {s : List Nat × List Nat} (h1 : s.1.length = 8 * zwb b) (h2 : s.2.length = 8 * zwb b) : ∀ c, (zmi b m s c).1.length = 8 * zwb b ∧ (zmi b m s c).2.length = 8 * zwb b
  | 0 => ⟨h1, h2⟩
  | _ + 1 => ⟨zmac_len _ _ _, zmac_len _ _ _⟩
def zmv (b : Bool) (K V : List Nat) : Nat → List Nat
  | 0 => V
  | i + 1 => zmac b K (zmv b K V i)
theorem zmv_len {b : Bool} {K V : List Nat} (h : V.length = 8 * zwb b) : ∀ i, (zmv b K V i).length = 8 * zwb b
  | 0 => h
  | _ + 1 => zmac_len _ _ _
def zmcat (b : Bool) (K V : List Nat) (c : Nat) : List Nat := (List.range c).flatMap (fun i => zmv b K V (i + 1))
theorem zmcat_len (b : Bool) (K V : List Nat) (c : Nat) : (zmcat b K V c).length = c * (8 * zwb b) := zflat_len _ _ (fun _ => zmac_len _ _ _) c
/-- how many blocks of s bytes give k bytes -/
def zcn (k s : Nat) : Nat := (k + s - 1) / s
theorem zcn_of {k s c : Nat} (hs : 0 < s) (h1 : k ≤ c * s) (h2 : c = 0 ∨ (c - 1) * s < k) : c = zcn k s := by
  unfold zcn
  rcases h2 with rfl | h2
  · have : k = 0 := by omega
    subst this
    rw [Nat.div_eq_of_lt (by omega)]
  · rcases c with _ | c
    · have : k = 0 := by omega
      subst this
      rw [Nat.div_eq_of_lt (by omega)]
    · rw [Nat.add_sub_cancel] at h2
      symm
      rw [Nat.succ_mul] at h1
      rw [Nat.div_eq_of_lt_le]
      · rw [Nat.succ_mul]; omega
      · rw [Nat.succ_mul, Nat.succ_mul]; omega
