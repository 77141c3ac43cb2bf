/-! THE DESK -/
theorem zdg.off {h h' : ZH} {b : Bool} {d : Nat} (hd : zdg h b d) (ho : ∀ i, d ≤ i → i ≤ d + 7 → h' i = h i) : zdg h' b d := by
  obtain ⟨g0, g1, ⟨f1, h1⟩, ⟨f2, h2⟩, ⟨f3, h3⟩, ⟨x4, g4⟩, ⟨x6, g6⟩⟩ := hd
  exact ⟨g0, (ho _ (by omega) (by omega)).trans g1, ⟨f1, (ho _ (by omega) (by omega)).trans h1⟩, ⟨f2, (ho _ (by omega) (by omega)).trans h2⟩, ⟨f3, (ho _ (by omega) (by omega)).trans h3⟩, ⟨x4, g4.keep (ho _ (by omega) (by omega)) (ho _ (by omega) (by omega))⟩, ⟨x6, g6.keep (ho _ (by omega) (by omega)) (ho _ (by omega) (by omega))⟩⟩
theorem zcrows.off {h h' : ZH} {c : Nat} (hc : zcrows h c) (ho : ∀ i, c + 4 ≤ i → i ≤ c + 11 → h' i = h i) : zcrows h' c := by
  obtain ⟨⟨a, ha⟩, ⟨b, hb⟩, ⟨d, hd⟩, ⟨e, he⟩⟩ := hc
  exact ⟨⟨a, ha.keep (ho _ (by omega) (by omega)) (ho _ (by omega) (by omega))⟩, ⟨b, hb.keep (ho _ (by omega) (by omega)) (ho _ (by omega) (by omega))⟩, ⟨d, hd.keep (ho _ (by omega) (by omega)) (ho _ (by omega) (by omega))⟩, ⟨e, he.keep (ho _ (by omega) (by omega)) (ho _ (by omega) (by omega))⟩⟩
theorem zcy.off {h h' : ZH} {c : Nat} (hc : zcy h c) (ho : ∀ i, c ≤ i → i ≤ c + 11 → h' i = h i) : zcy h' c := by
  obtain ⟨⟨rd, f, h1⟩, h2⟩ := hc
  exact ⟨⟨rd, f, h1.keep (ho _ (by omega) (by omega)) (ho _ (by omega) (by omega)) (ho _ (by omega) (by omega)) (ho _ (by omega) (by omega))⟩, h2.off (fun i a b => ho i (by omega) b)⟩
theorem zckd.off {h h' : ZH} {c : Nat} {b : Bool} {ks : List Nat} (hc : zckd h c b ks) (ho : ∀ i, c ≤ i → i ≤ c + 3 → h' i = h i) : zckd h' c b ks := hc.keep (ho _ (by omega) (by omega)) (ho _ (by omega) (by omega)) (ho _ (by omega) (by omega)) (ho _ (by omega) (by omega))
abbrev zdkc : ZC := .inl (2, [.ref 27, .ref 39, .ref 41, .ref 43, .ref 45, .ref 47, .ref 55])
def zdk (h : ZH) : Prop := ztab h ∧ h 26 = some zdkc ∧ zcy h 27 ∧ (∃ xs, zrow h 39 64 xs) ∧ (∃ xs, zrow h 41 512 xs) ∧ (∃ xs, zrow h 43 512 xs) ∧ (∃ xs, zrow h 45 64 xs) ∧ zdg h false 47 ∧ zdg h true 55
theorem zdid2 (b : Bool) : (zdid b = 47 ∧ zdid (!b) = 55) ∨ (zdid b = 55 ∧ zdid (!b) = 47) := by cases b <;> simp [zdid]
theorem zdk.parts {h : ZH} (hd : zdk h) (b : Bool) : ztab h ∧ h 26 = some zdkc ∧ zcy h 27 ∧ (∃ xs, zrow h 39 64 xs) ∧ (∃ xs, zrow h 41 512 xs) ∧ (∃ xs, zrow h 43 512 xs) ∧ (∃ xs, zrow h 45 64 xs) ∧ zdg h b (zdid b) ∧ zdg h (!b) (zdid (!b)) := by
  obtain ⟨h1, h2, h3, h4, h5, h6, h7, h8, h9⟩ := hd
  cases b
  · exact ⟨h1, h2, h3, h4, h5, h6, h7, h8, h9⟩
  · exact ⟨h1, h2, h3, h4, h5, h6, h7, h9, h8⟩
theorem zdk.of {h : ZH} (b : Bool) (hd : ztab h ∧ h 26 = some zdkc ∧ zcy h 27 ∧ (∃ xs, zrow h 39 64 xs) ∧ (∃ xs, zrow h 41 512 xs) ∧ (∃ xs, zrow h 43 512 xs) ∧ (∃ xs, zrow h 45 64 xs) ∧ zdg h b (zdid b) ∧ zdg h (!b) (zdid (!b))) : zdk h := by
  obtain ⟨h1, h2, h3, h4, h5, h6, h7, h8, h9⟩ := hd
  cases b
  · exact ⟨h1, h2, h3, h4, h5, h6, h7, h8, h9⟩
  · exact ⟨h1, h2, h3, h4, h5, h6, h7, h9, h8⟩
theorem zdk.off {h h' : ZH} (hd : zdk h) {S : Nat → Prop} (hs : zsm h h' S) (ho : ∀ i, S i → 63 ≤ i ∨ (16 ≤ i ∧ i < 26)) : zdk h' := by
  obtain ⟨h1, h2, h3, ⟨x4, h4⟩, ⟨x5, h5⟩, ⟨x6, h6⟩, ⟨x7, h7⟩, h8, h9⟩ := hd
  have k : ∀ i, 26 ≤ i → i ≤ 62 → h' i = h i := fun i a b => hs i (fun q => by have := ho i q; omega)
  exact ⟨h1.sm hs (fun i hi => by have := ho i hi; omega), (k _ (by omega) (by omega)).trans h2, h3.off (fun i a b => k i (by omega) (by omega)), ⟨x4, h4.keep (k _ (by omega) (by omega)) (k _ (by omega) (by omega))⟩, ⟨x5, h5.keep (k _ (by omega) (by omega)) (k _ (by omega) (by omega))⟩, ⟨x6, h6.keep (k _ (by omega) (by omega)) (k _ (by omega) (by omega))⟩, ⟨x7, h7.keep (k _ (by omega) (by omega)) (k _ (by omega) (by omega))⟩, h8.off (fun i a b => k i (by omega) (by omega)), h9.off (fun i a b => k i (by omega) (by omega))⟩
def zsl : Bool → Nat
  | false => 55
  | true => 111
theorem zsl_or (b : Bool) : zsl b = 55 ∨ zsl b = 111 := by cases b <;> simp [zsl]
/-- the sum of two rows, as long as the first -/
def zplus (xs : List Nat) (y : Nat) : List Nat := znum (zval xs + y) xs.length
theorem zplus_len (xs : List Nat) (y : Nat) : (zplus xs y).length = xs.length := znum_len _ _
abbrev zgs (a : Nat) : Nat → Prop := fun i => (27 ≤ i ∧ i ≤ 62) ∨ (a ≤ i ∧ i ≤ a + 4)
abbrev zgo (a : Nat) : Nat → Prop := fun i => (27 ≤ i ∧ i ≤ 62) ∨ (a ≤ i ∧ i ≤ a + 4) ∨ i = 19 ∨ i = 20
/-- DIGEST: what comes out, block by block -/
def zdcat (b : Bool) (V : List Nat) (c : Nat) : List Nat := (List.range c).flatMap (fun i => zhash b (zplus V i))
theorem zdcat_len (b : Bool) (V : List Nat) (c : Nat) : (zdcat b V c).length = c * (8 * zwb b) := zflat_len _ _ (fun _ => zhash_len _ _) c
theorem zdcat_pre (b : Bool) (V : List Nat) : ∀ (e c : Nat), ∃ t, zdcat b V (c + e) = zdcat b V c ++ t
  | 0, c => ⟨[], by rw [Nat.add_zero, List.append_nil]⟩
  | e + 1, c => by
    obtain ⟨t, ht⟩ := zdcat_pre b V e c
    refine ⟨t ++ zhash b (zplus V (c + e)), ?_⟩
    have h1 : zdcat b V (c + (e + 1)) = zdcat b V (c + e) ++ zhash b (zplus V (c + e)) := (zflat_succ _ _).symm
    rw [h1, ht, List.append_assoc]
theorem zdcat_take {b : Bool} {V : List Nat} {k c : Nat} (hc : c ≤ k) (h : k ≤ (zdcat b V c).length ∨ c = k) : (zdcat b V c).take k = (zdcat b V k).take k := by
  rcases h with h | rfl
  · obtain ⟨t, ht⟩ := zdcat_pre b V (k - c) c
    rw [show c + (k - c) = k by omega] at ht
    rw [ht, List.take_append_of_le_length h]
  · rfl
theorem zval_num (A k : Nat) : zval (znum A k) = A % 256 ^ k := by
  induction k with
  | zero => simp [znum, zval_nil, Nat.mod_one]
  | succ k ih =>
    have e : znum A (k + 1) = zdig A k :: znum A k := by
      unfold znum
      rw [List.range_succ_eq_map, List.map_cons, List.map_map]
      congr 1
      · show A / 2 ^ (8 * (k + 1 - 1 - 0)) % 256 = zdig A k
        rw [zpow8]
        rfl
      · apply List.map_congr_left
        intro i hi
        show A / 2 ^ (8 * (k + 1 - 1 - (i + 1))) % 256 = _
        rw [show k + 1 - 1 - (i + 1) = k - 1 - i by omega]
    rw [e, zval_cons, znum_len, ih, zmod_succ, Nat.mul_comm, Nat.add_comm]
theorem znum_mod (A k : Nat) : znum (A % 256 ^ k) k = znum A k := by
  rw [← zval_num]
  have := znum_zval (znum_lt A k)
  rwa [znum_len] at this
theorem znum_congr {A B k : Nat} (h : A % 256 ^ k = B % 256 ^ k) : znum A k = znum B k := by rw [← znum_mod A, h, znum_mod]
theorem zplus_plus (xs : List Nat) (y z : Nat) : zplus (zplus xs y) z = zplus xs (y + z) := by
  unfold zplus
  rw [znum_len, zval_num]
  apply znum_congr
  rw [Nat.mod_add_mod, Nat.add_assoc]
theorem zplus_0 {xs : List Nat} (h : ∀ x ∈ xs, x < 256) : zplus xs 0 = xs := by
  unfold zplus
  rw [Nat.add_zero]
  exact znum_zval h
