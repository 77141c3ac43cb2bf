/-! COUNTER GENERATORS: what they compute -/
def zccat (b : Bool) (K V : List Nat) (c : Nat) : List Nat := (List.range c).flatMap (fun i => zenc b K (zplus V (i + 1)))
theorem zccat_len (b : Bool) (K V : List Nat) (c : Nat) : (zccat b K V c).length = c * 16 := zflat_len _ _ (fun _ => zenc_len _ _ _) c
/-- MIX: K and V of what comes -/
def zcmx (b : Bool) (K V m : List Nat) : List Nat := zxor (zccat b K V (zkl b / 16 + 1)) m 0
theorem zcmx_len (b : Bool) (K V m : List Nat) : (zcmx b K V m).length = zkl b + 16 := by
  unfold zcmx
  rw [zxor_len, zccat_len]
  cases b <;> rfl
def zcmK (b : Bool) (K V m : List Nat) : List Nat := zpart (zcmx b K V m) 0 (zkl b)
def zcmV (b : Bool) (K V m : List Nat) : List Nat := zpart (zcmx b K V m) (zkl b) 16
theorem zcmK_len (b : Bool) (K V m : List Nat) : (zcmK b K V m).length = zkl b := by
  unfold zcmK
  rw [zpart_len, zcmx_len]
  omega
theorem zcmV_len (b : Bool) (K V m : List Nat) : (zcmV b K V m).length = 16 := by
  unfold zcmV
  rw [zpart_len, zcmx_len]
  omega
theorem zcy.of {h : ZH} {c : Nat} {b : Bool} {ks : List Nat} (hc : zckd h c b ks) (hr : zcrows h c) : zcy h c := ⟨hc.zcc, hr⟩
