/-! MAC and DERIVE by a digest -/
def zkey (b : Bool) (xs : List Nat) (c : Nat) : List Nat := (List.range (16 * zwb b)).map (fun k => xs.getD k 0 ^^^ c)
theorem zkey_len (b : Bool) (xs : List Nat) (c : Nat) : (zkey b xs c).length = 16 * zwb b := by simp [zkey]
def zmac (b : Bool) (k m : List Nat) : List Nat := zhash b (zkey b k 92 ++ zhash b (zkey b k 54 ++ m))
def zcat (b : Bool) (xs : List Nat) (k c : Nat) : List Nat := (List.range c).flatMap (fun i => zhash b ((i + 1) % 256 :: (znum (8 * k) 4 ++ xs)))
def zder (b : Bool) (xs : List Nat) (k : Nat) : List Nat := (zcat b xs k k).take k
theorem zcat_len (b : Bool) (xs : List Nat) (k c : Nat) : (zcat b xs k c).length = c * (8 * zwb b) := zflat_len _ _ (fun _ => zhash_len _ _) c
theorem zcat_lt (b : Bool) (xs : List Nat) (k c : Nat) : ∀ x ∈ zcat b xs k c, x < 256 := fun x hx => by
  obtain ⟨i, -, h⟩ := List.mem_flatMap.mp hx
  exact zhash_lt _ _ x h
theorem zcat_pre (b : Bool) (xs : List Nat) (k : Nat) : ∀ (e c : Nat), ∃ t, zcat b xs k (c + e) = zcat b xs k c ++ t
  | 0, c => ⟨[], by rw [Nat.add_zero, List.append_nil]⟩
  | e + 1, c => by
    obtain ⟨t, ht⟩ := zcat_pre b xs k e c
    refine ⟨t ++ zhash b ((c + e + 1) % 256 :: (znum (8 * k) 4 ++ xs)), ?_⟩
    have h1 : zcat b xs k (c + (e + 1)) = zcat b xs k (c + e) ++ zhash b ((c + e + 1) % 256 :: (znum (8 * k) 4 ++ xs)) := (zflat_succ _ _).symm
    rw [h1, ht, List.append_assoc]
theorem zder_of {b : Bool} {xs : List Nat} {k c : Nat} (hc : c ≤ k) (h : k ≤ (zcat b xs k c).length ∨ c = k) : (zcat b xs k c).take k = zder b xs k := by
  rcases h with h | rfl
  · obtain ⟨t, ht⟩ := zcat_pre b xs k (k - c) c
    rw [show c + (k - c) = k by omega] at ht
    unfold zder
    rw [ht, List.take_append_of_le_length h]
  · rfl
theorem zder_len (b : Bool) (xs : List Nat) (k : Nat) : (zder b xs k).length = k := by
  unfold zder
  rw [List.length_take, zcat_len]
  have := zwb_or b
  have : k * 1 ≤ k * (8 * zwb b) := Nat.mul_le_mul_left _ (by omega)
  omega
theorem zder_lt (b : Bool) (xs : List Nat) (k : Nat) : ∀ x ∈ zder b xs k, x < 256 := fun x hx => zcat_lt b xs k k x (List.mem_of_mem_take hx)
theorem zxor_byte {x c : Nat} (hx : x < 256) (hc : c < 256) : (nI x ^^^ nI c).toBitVec.toNat % 256 = x ^^^ c := by
  have : x ^^^ c < 256 := Nat.xor_lt_two_pow (n := 8) hx hc
  rw [nx_xor, pk_tn (by omega)]
  omega
theorem z8k {k : Nat} (hk : k < 2 ^ 28) : ((8 : Int64) * (nI k).toInt64).toBitVec.toNat = 8 * k := by
  rw [nI_l (by omega), show (8 : Int64) = lN 8 from rfl, lN_mul, lN_nat (by omega)]
theorem znI_nat {k : Nat} (hk : k < 2 ^ 32) : (nI k).toBitVec.toNat = k := pk_tn hk
abbrev zks (d q : Nat) : Nat → Prop := fun i => (d + 1 ≤ i ∧ i ≤ d + 7) ∨ i = q ∨ i = q + 1
theorem zdg.rows {h : ZH} {b : Bool} {d : Nat} (hd : zdg h b d) : (∃ xs, zrow h (d + 4) 512 xs) ∧ ∃ xs, zrow h (d + 6) 64 xs := ⟨hd.2.2.2.2.2.1, hd.2.2.2.2.2.2⟩
/-- a digest stays one when a row of its own, or another row, changes -/
theorem zdg.row {h h' : ZH} {b : Bool} {d q K : Nat} {ys ys' : List Nat} (hd : zdg h b d) (hs : zsm h h' (zrs q)) (hq : zrow h q K ys) (hq' : zrow h' q K ys') : zdg h' b d := by
  have ap := hd.apart hq
  obtain ⟨-, -, ⟨f1, h1⟩, ⟨f2, h2⟩, ⟨f3, h3⟩, -⟩ := id hd
  exact hd.keep (hs.mono (fun i hi => by unfold zhs; unfold zrs at hi; omega)) hq hq' ⟨f1, (hs _ (by unfold zrs; omega)).trans h1⟩ ⟨f2, (hs _ (by unfold zrs; omega)).trans h2⟩ ⟨f3, (hs _ (by unfold zrs; omega)).trans h3⟩
