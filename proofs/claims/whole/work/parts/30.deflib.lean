/-! DERIVE by the cipher -/
def zfill (L : Nat) : Nat := (16 - L % 16) % 16
set_option maxRecDepth 100000 in
theorem zfill_eq : ∀ L, L < 520 → -nI L &&& nI 15 = nI (zfill L) := by decide +kernel
def zstf (xs : List Nat) (k : Nat) : List Nat := znum xs.length 4 ++ znum k 4 ++ xs ++ [128] ++ List.replicate (zfill (xs.length + 9)) 0
theorem zstf_len (xs : List Nat) (k : Nat) : (zstf xs k).length = xs.length + 9 + zfill (xs.length + 9) := by
  simp only [zstf, List.length_append, znum_len, List.length_singleton, List.length_replicate]
  omega
theorem zstf_16 (xs : List Nat) (k : Nat) : (zstf xs k).length % 16 = 0 ∧ (zstf xs k).length ≤ xs.length + 24 := by
  rw [zstf_len]
  unfold zfill
  omega
def zchn (b : Bool) (ks t : List Nat) (i : Nat) : Nat → List Nat
  | 0 => zenc b ks (znum i 4 ++ List.replicate 12 0)
  | c + 1 => zenc b ks (zxor (zchn b ks t i c) t (16 * c))
theorem zchn_len (b : Bool) (ks t : List Nat) (i c : Nat) : (zchn b ks t i c).length = 16 := by cases c <;> exact zenc_len _ _ _
def zJ (b : Bool) : List Nat := List.range (zkl b)
theorem zJ_len (b : Bool) : (zJ b).length = zkl b := by simp [zJ]
def zTT (b : Bool) (t : List Nat) : List Nat := (List.range (zkl b / 16 + 1)).flatMap (fun i => zchn b (zJ b) t i (t.length / 16))
theorem zTT_len (b : Bool) (t : List Nat) : (zTT b t).length = zkl b + 16 := by
  unfold zTT
  rw [zflat_len _ 16 (fun i => zchn_len _ _ _ _ _)]
  cases b <;> rfl
def zit (b : Bool) (ks x : List Nat) : Nat → List Nat
  | 0 => x
  | j + 1 => zenc b ks (zit b ks x j)
def zcte (b : Bool) (ks x : List Nat) (c : Nat) : List Nat := (List.range c).flatMap (fun j => zit b ks x (j + 1))
theorem zcte_len (b : Bool) (ks x : List Nat) (c : Nat) : (zcte b ks x c).length = c * 16 := zflat_len _ _ (fun _ => zenc_len _ _ _) c
theorem zcte_pre (b : Bool) (ks x : List Nat) : ∀ (e c : Nat), ∃ t, zcte b ks x (c + e) = zcte b ks x c ++ t
  | 0, c => ⟨[], by rw [Nat.add_zero, List.append_nil]⟩
  | e + 1, c => by
    obtain ⟨t, ht⟩ := zcte_pre b ks x e c
    refine ⟨t ++ zit b ks x (c + e + 1), ?_⟩
    have h1 : zcte b ks x (c + (e + 1)) = zcte b ks x (c + e) ++ zit b ks x (c + e + 1) := (zflat_succ _ _).symm
    rw [h1, ht, List.append_assoc]
def zdce (b : Bool) (xs : List Nat) (k : Nat) : List Nat := (zcte b (zpart (zTT b (zstf xs k)) 0 (zkl b)) (zpart (zTT b (zstf xs k)) (zkl b) 16) k).take k
theorem zcte_take {b : Bool} {ks x : List Nat} {k c : Nat} (hc : c ≤ k) (h : k ≤ (zcte b ks x c).length ∨ c = k) : (zcte b ks x c).take k = (zcte b ks x k).take k := by
  rcases h with h | rfl
  · obtain ⟨t, ht⟩ := zcte_pre b ks x (k - c) c
    rw [show c + (k - c) = k by omega] at ht
    rw [ht, List.take_append_of_le_length h]
  · rfl
theorem zdce_len (b : Bool) (xs : List Nat) (k : Nat) : (zdce b xs k).length = k := by
  unfold zdce
  rw [List.length_take, zcte_len]
  omega
theorem zi2l {k : Nat} (hk : k < 2 ^ 31) : ((nI k).toInt64).toBitVec.toNat = k := by rw [nI_l hk, lN_nat (by omega)]
abbrev zcs (c q : Nat) : Nat → Prop := fun i => (c ≤ i ∧ i ≤ c + 11) ∨ i = q ∨ i = q + 1
def zcy (h : ZH) (c : Nat) : Prop := (∃ rd f, zcc h c rd f) ∧ zcrows h c
theorem zckd.zcc {h : ZH} {c : Nat} {b : Bool} {ks : List Nat} (hc : zckd h c b ks) : ∃ rd f, zcc h c rd f := by
  obtain ⟨-, f, h1, -⟩ := hc
  exact ⟨_, f, h1⟩
theorem zckd.obj {h : ZH} {c : Nat} {b : Bool} {ks : List Nat} (hc : zckd h c b ks) : h c = some (zco c (nI (zro b))) := by
  obtain ⟨-, f, h1, -⟩ := hc
  exact h1.2.1
