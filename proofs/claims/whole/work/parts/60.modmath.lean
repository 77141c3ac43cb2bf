/-! sums under the mask; the schedule as one function -/
theorem zm_nat (x : Int64) : (x &&& zmask false).toBitVec.toNat = x.toBitVec.toNat % 2 ^ 32 := by
  show (x.toBitVec &&& (4294967295 : Int64).toBitVec).toNat = _
  rw [BitVec.toNat_and, show ((4294967295 : Int64).toBitVec).toNat = 2 ^ 32 - 1 from rfl, Nat.and_two_pow_sub_one_eq_mod]
theorem zm_add (b : Bool) (x y : Int64) : ((x &&& zmask b) + y) &&& zmask b = (x + y) &&& zmask b := by
  cases b
  · apply Int64.toBitVec_inj.mp
    apply BitVec.eq_of_toNat_eq
    rw [zm_nat, zm_nat]
    show ((x &&& zmask false).toBitVec + y.toBitVec).toNat % _ = (x.toBitVec + y.toBitVec).toNat % _
    rw [BitVec.toNat_add, BitVec.toNat_add, zm_nat]
    omega
  · rw [zand_m1, zand_m1, zand_m1]
theorem zm_add2 (b : Bool) (x y : Int64) : (x + (y &&& zmask b)) &&& zmask b = (x + y) &&& zmask b := by rw [Int64.add_comm, zm_add, Int64.add_comm]
theorem zcut_t (x : Int64) : zcut true x = x := by
  unfold zcut
  apply Int64.toBitVec_inj.mp
  apply BitVec.eq_of_toNat_eq
  show ((x.toBitVec) >>> (0#64).toNat).toNat = _
  simp
theorem zsch_st (b : Bool) (f : Nat → Int32) (a c : Nat) : ∀ j t, t < 16 + c → zsch b f a (c + j) t = zsch b f a c t
  | 0, t, _ => rfl
  | j + 1, t, h => by
    show (if t = 16 + (c + j) then _ else _) = _
    rw [if_neg (by omega)]
    exact zsch_st b f a c j t h
theorem zsch_at (b : Bool) (f : Nat → Int32) (a : Nat) {n c : Nat} (h : c < n) : zsch b f a n (16 + c) = (zsch b f a n c + zg0 b (zsch b f a n (c + 1)) + zsch b f a n (c + 9) + zg1 b (zsch b f a n (c + 14))) &&& zmask b := by
  have e : n = (c + 1) + (n - (c + 1)) := by omega
  have k : ∀ t, t < 16 + c → zsch b f a n t = zsch b f a c t := fun t ht => by
    have := zsch_st b f a c (n - c) t ht
    rw [show c + (n - c) = n by omega] at this
    exact this
  rw [k c (by omega), k (c + 1) (by omega), k (c + 9) (by omega), k (c + 14) (by omega)]
  rw [e, zsch_st b f a (c + 1) _ _ (by omega)]
  show (if 16 + c = 16 + c then _ else _) = _
  rw [if_pos rfl]
theorem zsch_0 (b : Bool) (f : Nat → Int32) (a : Nat) {n t : Nat} (h : t < 16) : zsch b f a n t = zword f (a + zwb b * t) (zwb b) := by
  have := zsch_st b f a 0 n t (by omega)
  rw [Nat.zero_add] at this
  exact this
theorem zmxd_2 (b : Bool) (x : Int64) : zmxd b x 2 = zg0 b x := rfl
theorem zmxd_3 (b : Bool) (x : Int64) : zmxd b x 3 = zg1 b x := rfl
/-- one step of the reference's rounds is the class's -/
theorem zround_m (b : Bool) (k w : Int64) (s : Z8) : zround b k w s = (((s.2.2.2.2.2.2.2 + zmxd b s.2.2.2.2.1 1 + ((s.2.2.2.2.1 &&& s.2.2.2.2.2.1 ^^^ (s.2.2.2.2.1 ^^^ (-1)) &&& s.2.2.2.2.2.2.1) &&& zmask b) + k + w) &&& zmask b) + ((zmxd b s.1 0 + (s.1 &&& s.2.1 ^^^ s.1 &&& s.2.2.1 ^^^ s.2.1 &&& s.2.2.1)) &&& zmask b) &&& zmask b, s.1, s.2.1, s.2.2.1, (s.2.2.2.1 + ((s.2.2.2.2.2.2.2 + zmxd b s.2.2.2.2.1 1 + ((s.2.2.2.2.1 &&& s.2.2.2.2.2.1 ^^^ (s.2.2.2.2.1 ^^^ (-1)) &&& s.2.2.2.2.2.2.1) &&& zmask b) + k + w) &&& zmask b)) &&& zmask b, s.2.2.2.2.1, s.2.2.2.2.2.1, s.2.2.2.2.2.2.1) := by
  have e1 : ∀ (p q r u v : Int64), (p + q + (r &&& zmask b) + u + v) &&& zmask b = (p + q + r + u + v) &&& zmask b := fun p q r u v => by
    rw [Int64.add_assoc (p + q + (r &&& zmask b)), Int64.add_comm (p + q) (r &&& zmask b), Int64.add_assoc (r &&& zmask b), zm_add]
    rw [← Int64.add_assoc r, Int64.add_comm r (p + q), ← Int64.add_assoc]
  rw [e1, zm_add2, zm_add, zm_add2]
  rfl
