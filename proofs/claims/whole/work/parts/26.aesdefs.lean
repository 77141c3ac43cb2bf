/-! THE CIPHER -/
def zt_BOXn : List Nat := [99, 124, 119, 123, 242, 107, 111, 197, 48, 1, 103, 43, 254, 215, 171, 118, 202, 130, 201, 125, 250, 89, 71, 240, 173, 212, 162, 175, 156, 164, 114, 192, 183, 253, 147, 38, 54, 63, 247, 204, 52, 165, 229, 241, 113, 216, 49, 21, 4, 199, 35, 195, 24, 150, 5, 154, 7, 18, 128, 226, 235, 39, 178, 117, 9, 131, 44, 26, 27, 110, 90, 160, 82, 59, 214, 179, 41, 227, 47, 132, 83, 209, 0, 237, 32, 252, 177, 91, 106, 203, 190, 57, 74, 76, 88, 207, 208, 239, 170, 251, 67, 77, 51, 133, 69, 249, 2, 127, 80, 60, 159, 168, 81, 163, 64, 143, 146, 157, 56, 245, 188, 182, 218, 33, 16, 255, 243, 210, 205, 12, 19, 236, 95, 151, 68, 23, 196, 167, 126, 61, 100, 93, 25, 115, 96, 129, 79, 220, 34, 42, 144, 136, 70, 238, 184, 20, 222, 94, 11, 219, 224, 50, 58, 10, 73, 6, 36, 92, 194, 211, 172, 98, 145, 149, 228, 121, 231, 200, 55, 109, 141, 213, 78, 169, 108, 86, 244, 234, 101, 122, 174, 8, 186, 120, 37, 46, 28, 166, 180, 198, 232, 221, 116, 31, 75, 189, 139, 138, 112, 62, 181, 102, 72, 3, 246, 14, 97, 53, 87, 185, 134, 193, 29, 158, 225, 248, 152, 17, 105, 217, 142, 148, 155, 30, 135, 233, 206, 85, 40, 223, 140, 161, 137, 13, 191, 230, 66, 104, 65, 153, 45, 15, 176, 84, 187, 22]
def zbn (x : Nat) : Nat := zt_BOXn.getD x 0
set_option maxRecDepth 100000 in
theorem zbox_eq : ∀ x, x < 256 → zt_BOX.getD x 0 = nI (zbn x) ∧ zbn x < 256 := by decide +kernel
def zxt (b : Nat) : Nat := if b < 128 then 2 * b else (2 * b) ^^^ 283
set_option maxRecDepth 100000 in
theorem zxt_eq : ∀ b, b < 256 → (nI b <<< (nI 1 &&& 31)) ^^^ ((nI b >>> (nI 7 &&& 31)) * nI 283) = nI (zxt b) ∧ zxt b < 256 := by decide +kernel
theorem zbn_lt {x : Nat} (h : x < 256) : zbn x < 256 := (zbox_eq x h).2
theorem zxt_lt {x : Nat} (h : x < 256) : zxt x < 256 := (zxt_eq x h).2
theorem zx_lt {x y : Nat} (hx : x < 256) (hy : y < 256) : x ^^^ y < 256 := Nat.xor_lt_two_pow (n := 8) hx hy
def zkl : Bool → Nat
  | true => 32
  | false => 16
def zro : Bool → Nat
  | true => 14
  | false => 10
def zsn : Bool → Nat
  | true => 52
  | false => 40
theorem zkl_or (b : Bool) : (zkl b = 16 ∧ zro b = 10 ∧ zsn b = 40) ∨ (zkl b = 32 ∧ zro b = 14 ∧ zsn b = 52) := by cases b <;> simp [zkl, zro, zsn]
/-- the constant at word c behind the key -/
def zrc (b : Bool) : Nat → Nat
  | 0 => 1
  | c + 1 => if 4 * c % zkl b = 0 then zxt (zrc b c) else zrc b c
/-- one word more -/
def zwd (b : Bool) (K : Nat → Nat) (c j : Nat) : Nat := K (4 * c + j) ^^^ (if 4 * c % zkl b = 0 then zbn (K (zkl b + 4 * c - 4 + (j + 1) % 4)) else if 4 * c % zkl b = 16 then zbn (K (zkl b + 4 * c - 4 + j)) else K (zkl b + 4 * c - 4 + j))
def zsk (b : Bool) (ks : List Nat) : Nat → Nat → Nat
  | 0 => fun i => ks.getD i 0
  | c + 1 => fun i => if zkl b + 4 * c ≤ i ∧ i < zkl b + 4 * c + 4 then zwd b (zsk b ks c) c (i - (zkl b + 4 * c)) ^^^ (if 4 * c % zkl b = 0 ∧ i = zkl b + 4 * c then zrc b c else 0) else zsk b ks c i
def zkf (b : Bool) (ks : List Nat) : Nat → Nat := zsk b ks (zsn b)
theorem zrc_lt (b : Bool) : ∀ c, zrc b c < 256
  | 0 => show (1 : Nat) < 256 by decide
  | c + 1 => by
    show (if _ then _ else _) < 256
    split
    · exact zxt_lt (zrc_lt b c)
    · exact zrc_lt b c
theorem zwd_lt {b : Bool} {K : Nat → Nat} (h : ∀ i, K i < 256) (c j : Nat) : zwd b K c j < 256 := by
  unfold zwd
  refine zx_lt (h _) ?_
  split
  · exact zbn_lt (h _)
  · split
    · exact zbn_lt (h _)
    · exact h _
theorem zsk_lt {b : Bool} {ks : List Nat} (h : ∀ x ∈ ks, x < 256) : ∀ c i, zsk b ks c i < 256
  | 0, i => zget_lt h (by decide) i
  | c + 1, i => by
    show (if _ then _ else _) < 256
    split
    · refine zx_lt (zwd_lt (zsk_lt h c) _ _) ?_
      split
      · exact zrc_lt b c
      · decide
    · exact zsk_lt h c i
theorem zkf_lt {b : Bool} {ks : List Nat} (h : ∀ x ∈ ks, x < 256) (i : Nat) : zkf b ks i < 256 := zsk_lt h _ i
abbrev zcl (k i : Nat) : Nat := k / 4 * 4 + (k + i) % 4
theorem zcl_lt {k : Nat} (hk : k < 16) (i : Nat) : zcl k i < 16 := by unfold zcl; omega
def zadk (K : Nat → Nat) (r : Nat) (s : Nat → Nat) : Nat → Nat := fun k => s k ^^^ K (16 * r + k)
def zsb (s : Nat → Nat) : Nat → Nat := fun k => zbn (s (5 * k % 16))
def zmx (s : Nat → Nat) : Nat → Nat := fun k => zxt (s k ^^^ s (zcl k 1)) ^^^ s (zcl k 1) ^^^ s (zcl k 2) ^^^ s (zcl k 3)
def zrd (K : Nat → Nat) (s : Nat → Nat) : Nat → Nat → Nat
  | 0 => zadk K 0 s
  | r + 1 => zadk K (r + 1) (zmx (zsb (zrd K s r)))
def zef (b : Bool) (ks xs : List Nat) : Nat → Nat := zadk (zkf b ks) (zro b) (zsb (zrd (zkf b ks) (fun k => xs.getD k 0) (zro b - 1)))
def zenc (b : Bool) (ks xs : List Nat) : List Nat := (List.range 16).map (zef b ks xs)
theorem zenc_len (b : Bool) (ks xs : List Nat) : (zenc b ks xs).length = 16 := by simp [zenc]
def zby (s : Nat → Nat) : Prop := ∀ k, k < 16 → s k < 256
theorem zby_adk {K s : Nat → Nat} (hK : ∀ i, K i < 256) (r : Nat) (hs : zby s) : zby (zadk K r s) := fun k hk => zx_lt (hs k hk) (hK _)
theorem zby_sb {s : Nat → Nat} (hs : zby s) : zby (zsb s) := fun k _ => zbn_lt (hs _ (Nat.mod_lt _ (by decide)))
theorem zby_mx {s : Nat → Nat} (hs : zby s) : zby (zmx s) := fun k hk => zx_lt (zx_lt (zx_lt (zxt_lt (zx_lt (hs k hk) (hs _ (zcl_lt hk _)))) (hs _ (zcl_lt hk _))) (hs _ (zcl_lt hk _))) (hs _ (zcl_lt hk _))
theorem zby_rd {K s : Nat → Nat} (hK : ∀ i, K i < 256) (hs : zby s) : ∀ r, zby (zrd K s r)
  | 0 => zby_adk hK 0 hs
  | r + 1 => zby_adk hK _ (zby_mx (zby_sb (zby_rd hK hs r)))
theorem zby_of {xs : List Nat} (h : ∀ x ∈ xs, x < 256) : zby (fun k => xs.getD k 0) := fun k _ => zget_lt h (by decide) k
theorem zef_by {b : Bool} {ks xs : List Nat} (hk : ∀ x ∈ ks, x < 256) (hx : ∀ x ∈ xs, x < 256) : zby (zef b ks xs) := zby_adk (zkf_lt hk) _ (zby_sb (zby_rd (zkf_lt hk) (zby_of hx) _))
theorem zenc_lt {b : Bool} {ks xs : List Nat} (hk : ∀ x ∈ ks, x < 256) (hx : ∀ x ∈ xs, x < 256) : ∀ x ∈ zenc b ks xs, x < 256 := fun x h => by
  obtain ⟨k, h1, rfl⟩ := List.mem_map.mp h
  exact zef_by hk hx k (List.mem_range.mp h1)
set_option maxRecDepth 100000 in
theorem zidx_mc : ∀ k, k < 16 → (nI k &&& nI 12) ||| (nI (k + 1) &&& nI 3) = nI (zcl k 1) ∧ (nI k &&& nI 12) ||| (nI (k + 2) &&& nI 3) = nI (zcl k 2) ∧ (nI k &&& nI 12) ||| (nI (k + 3) &&& nI 3) = nI (zcl k 3) := by decide +kernel
theorem zidx_sr {k : Nat} (hk : k < 16) : nI (5 * k) &&& nI 15 = nI (5 * k % 16) := pk_andN (by omega) 4 (by decide)
theorem zidx_4 {k : Nat} (hk : k < 16) : nI k &&& nI 3 = nI (k % 4) := pk_andN (by omega) 2 (by decide)
abbrev zco (c : Nat) (rd : Int32) : ZC := .inl (0, [.ref (c + 1), .ref (c + 2), .ref (c + 3), .int rd, .ref (c + 4), .ref (c + 6), .ref (c + 8), .ref (c + 10)])
/-- a cipher's core: object, schedule, scratch -/
def zcc (h : ZH) (c : Nat) (rd : Int32) (f : Nat → Int32) : Prop := 16 ≤ c ∧ h c = some (zco c rd) ∧ h (c + 1) = some (.inr (240, .inl f)) ∧ (∃ f, h (c + 2) = some (.inr (16, .inl f))) ∧ ∃ f, h (c + 3) = some (.inr (16, .inl f))
/-- .. with a key in use -/
def zckd (h : ZH) (c : Nat) (b : Bool) (ks : List Nat) : Prop := (∀ x ∈ ks, x < 256) ∧ ∃ f, zcc h c (nI (zro b)) f ∧ ∀ i, i < 16 * (zro b + 1) → f i = nI (zkf b ks i)
def zcrows (h : ZH) (c : Nat) : Prop := (∃ xs, zrow h (c + 4) 512 xs) ∧ (∃ xs, zrow h (c + 6) 48 xs) ∧ (∃ xs, zrow h (c + 8) 32 xs) ∧ ∃ xs, zrow h (c + 10) 16 xs
theorem zcc.keep {h h' : ZH} {c : Nat} {rd : Int32} {f : Nat → Int32} (hc : zcc h c rd f) (h0 : h' c = h c) (h1 : h' (c + 1) = h (c + 1)) (h2 : h' (c + 2) = h (c + 2)) (h3 : h' (c + 3) = h (c + 3)) : zcc h' c rd f := by
  unfold zcc
  rw [h0, h1, h2, h3]
  exact hc
theorem zckd.keep {h h' : ZH} {c : Nat} {b : Bool} {ks : List Nat} (hc : zckd h c b ks) (h0 : h' c = h c) (h1 : h' (c + 1) = h (c + 1)) (h2 : h' (c + 2) = h (c + 2)) (h3 : h' (c + 3) = h (c + 3)) : zckd h' c b ks := by
  obtain ⟨hk, f, h4, h5⟩ := hc
  exact ⟨hk, f, h4.keep h0 h1 h2 h3, h5⟩
theorem zplace (b : Bool) {u : Nat} (hu : u < 1000) : nI (zkl b + 4 * u) &&& nI (zkl b - 1) = nI (4 * u % zkl b) := by
  cases b
  · show nI (16 + 4 * u) &&& nI 15 = nI (4 * u % 16)
    rw [pk_andN (by omega) 4 (by decide)]
    congr 1
    omega
  · show nI (32 + 4 * u) &&& nI 31 = nI (4 * u % 32)
    rw [pk_andN (by omega) 5 (by decide)]
    congr 1
    omega
theorem zrc_pos {b : Bool} {u : Nat} (h : 4 * u % zkl b = 0) : zrc b (u + 1) = zxt (zrc b u) := if_pos h
theorem zrc_neg {b : Bool} {u : Nat} (h : 4 * u % zkl b ≠ 0) : zrc b (u + 1) = zrc b u := if_neg h
