/-! a generator of whatever kind, in one form -/
def zsd (kd : Nat) : Nat := ([55, 111, 32, 64, 32, 48, 32, 48] : List Nat).getD kd 0
def zvN (kd : Nat) : Nat := if kd < 4 then zsd kd else 16
def zcN (kd : Nat) : Nat := if kd < 4 then zsd kd else zsd kd - 16
def zod (kd : Nat) : Bool := decide (kd % 2 = 1)
def zci (kd : Nat) : Nat := if kd < 2 then 4 else if kd < 4 then 5 else 1
def zex (kd : Nat) : List Value := if kd < 4 then [.ref (zdid (zod kd))] else [.ref 27, .int (nI (zsd kd - 16))]
theorem zkd8 {P : Nat → Prop} {kd : Nat} (h : kd < 8) (h0 : P 0) (h1 : P 1) (h2 : P 2) (h3 : P 3) (h4 : P 4) (h5 : P 5) (h6 : P 6) (h7 : P 7) : P kd := by
  have : kd = 0 ∨ kd = 1 ∨ kd = 2 ∨ kd = 3 ∨ kd = 4 ∨ kd = 5 ∨ kd = 6 ∨ kd = 7 := by omega
  rcases this with rfl | rfl | rfl | rfl | rfl | rfl | rfl | rfl <;> assumption
theorem zsd_le {kd : Nat} (h : kd < 8) : 32 ≤ zsd kd ∧ zsd kd ≤ 111 := zkd8 (P := fun kd => 32 ≤ zsd kd ∧ zsd kd ≤ 111) h (by decide) (by decide) (by decide) (by decide) (by decide) (by decide) (by decide) (by decide)
theorem zvN_le {kd : Nat} (h : kd < 8) : zvN kd ≤ 111 := zkd8 (P := fun kd => zvN kd ≤ 111) h (by decide) (by decide) (by decide) (by decide) (by decide) (by decide) (by decide) (by decide)
theorem zcN_le {kd : Nat} (h : kd < 8) : zcN kd ≤ 111 := zkd8 (P := fun kd => zcN kd ≤ 111) h (by decide) (by decide) (by decide) (by decide) (by decide) (by decide) (by decide) (by decide)
theorem zsd_tab {kd : Nat} (h : kd < 8) : zt_SEEDL.getD kd 0 = nI (zsd kd) := zkd8 (P := fun kd => zt_SEEDL.getD kd 0 = nI (zsd kd)) h rfl rfl rfl rfl rfl rfl rfl rfl
theorem zkind {kd : Nat} (h : kd < 8) : (kd < 2 ∧ kd = zbi (zod kd) ∧ zsd kd = zsl (zod kd) ∧ zvN kd = zsl (zod kd) ∧ zcN kd = zsl (zod kd) ∧ zci kd = 4 ∧ zex kd = [.ref (zdid (zod kd))])
    ∨ (¬ kd < 2 ∧ kd < 4 ∧ kd = 2 + zbi (zod kd) ∧ zsd kd = 8 * zwb (zod kd) ∧ zvN kd = 8 * zwb (zod kd) ∧ zcN kd = 8 * zwb (zod kd) ∧ zci kd = 5 ∧ zex kd = [.ref (zdid (zod kd))])
    ∨ (¬ kd < 2 ∧ ¬ kd < 4 ∧ (4 ≤ kd ∧ kd < 8) ∧ zsd kd = zkl (zod kd) + 16 ∧ zvN kd = 16 ∧ zcN kd = zkl (zod kd) ∧ zci kd = 1 ∧ zex kd = [.ref 27, .int (nI (zkl (zod kd)))]) := by
  have : kd = 0 ∨ kd = 1 ∨ kd = 2 ∨ kd = 3 ∨ kd = 4 ∨ kd = 5 ∨ kd = 6 ∨ kd = 7 := by omega
  rcases this with rfl | rfl | rfl | rfl | rfl | rfl | rfl | rfl
  · exact Or.inl ⟨by decide, rfl, rfl, rfl, rfl, rfl, rfl⟩
  · exact Or.inl ⟨by decide, rfl, rfl, rfl, rfl, rfl, rfl⟩
  · exact Or.inr (Or.inl ⟨by decide, by decide, rfl, rfl, rfl, rfl, rfl, rfl⟩)
  · exact Or.inr (Or.inl ⟨by decide, by decide, rfl, rfl, rfl, rfl, rfl, rfl⟩)
  · exact Or.inr (Or.inr ⟨by decide, by decide, by decide, rfl, rfl, rfl, rfl, rfl⟩)
  · exact Or.inr (Or.inr ⟨by decide, by decide, by decide, rfl, rfl, rfl, rfl, rfl⟩)
  · exact Or.inr (Or.inr ⟨by decide, by decide, by decide, rfl, rfl, rfl, rfl, rfl⟩)
  · exact Or.inr (Or.inr ⟨by decide, by decide, by decide, rfl, rfl, rfl, rfl, rfl⟩)
/-- kind, strength, resists, interval, count, drawn, seedings, V, C -/
abbrev ZGn : Type := Nat × Nat × Bool × Nat × Nat × Int32 × Nat × List Nat × List Nat
abbrev zgl (a kd st : Nat) (rs : Bool) (iv ct : Nat) (dr : Int32) (sd : Nat) (ex : List Value) : List Value := [.int (nI st), .int (nI (zbi rs)), .int (nI (zsd kd)), .ref (a + 1), .ref (a + 3), .ref 26, .int (nI kd), .int (nI iv), .int (nI ct), .int dr, .int (nI sd)] ++ ex
def zgen (h : ZH) (a t : Nat) : ZGn → Prop
  | (kd, st, rs, iv, ct, dr, sd, V, C) => 64 ≤ a ∧ kd < 8 ∧ st ≤ 256 ∧ iv ≤ 100000 ∧ ct ≤ t ∧ sd ≤ t ∧ h a = some (.inl (zci kd, zgl a kd st rs iv ct dr sd (zex kd))) ∧ zrow h (a + 1) (zvN kd) V ∧ zrow h (a + 3) (zcN kd) C ∧ (sd = 0 ∨ V.length = zvN kd ∧ C.length = zcN kd)
theorem zgen.off {h h' : ZH} {a t : Nat} {G : ZGn} (hg : zgen h a t G) (ho : ∀ i, a ≤ i → i ≤ a + 4 → h' i = h i) : zgen h' a t G := by
  obtain ⟨kd, st, rs, iv, ct, dr, sd, V, C⟩ := G
  obtain ⟨h1, h2, h3, h4, h5, h6, h7, h8, h9, h10⟩ := hg
  exact ⟨h1, h2, h3, h4, h5, h6, (ho _ (by omega) (by omega)).trans h7, h8.keep (ho _ (by omega) (by omega)) (ho _ (by omega) (by omega)), h9.keep (ho _ (by omega) (by omega)) (ho _ (by omega) (by omega)), h10⟩
theorem zgen.more {h : ZH} {a t u : Nat} {G : ZGn} (hg : zgen h a t G) (hu : t ≤ u) : zgen h a u G := by
  obtain ⟨kd, st, rs, iv, ct, dr, sd, V, C⟩ := G
  obtain ⟨h1, h2, h3, h4, h5, h6, h7⟩ := hg
  exact ⟨h1, h2, h3, h4, by omega, by omega, h7⟩
/-- behind a seeding: V, C -/
def zpl (kd sd : Nat) (V C R A : List Nat) : List Nat × List Nat :=
  if kd < 2 then (zder (zod kd) ((if sd = 0 then [] else 1 :: V) ++ R ++ A) (zsd kd), zder (zod kd) (0 :: zder (zod kd) ((if sd = 0 then [] else 1 :: V) ++ R ++ A) (zsd kd)) (zsd kd))
  else if kd < 4 then ((zmix (zod kd) (R ++ A) ((if sd = 0 then List.replicate (zsd kd) 0 else C), (if sd = 0 then List.replicate (zsd kd) 1 else V))).2, (zmix (zod kd) (R ++ A) ((if sd = 0 then List.replicate (zsd kd) 0 else C), (if sd = 0 then List.replicate (zsd kd) 1 else V))).1)
  else (zcmV (zod kd) (if sd = 0 then List.replicate (zcN kd) 0 else C) (if sd = 0 then List.replicate 16 0 else V) (if kd < 6 then zdce (zod kd) (R ++ A) (zsd kd) else zxor (zpart R 0 (zsd kd)) A 0), zcmK (zod kd) (if sd = 0 then List.replicate (zcN kd) 0 else C) (if sd = 0 then List.replicate 16 0 else V) (if kd < 6 then zdce (zod kd) (R ++ A) (zsd kd) else zxor (zpart R 0 (zsd kd)) A 0))
/-- what is drawn, and V, C behind it -/
def zpr4 (b : Bool) (ct k : Nat) (V C V1 : List Nat) : List Nat × List Nat × List Nat := ((zdcat b V1 k).take k, zplus (zplus (zplus V1 (zval (zhash b (3 :: V1)))) (zval C)) ct, C)
def zpr5 (b : Bool) (k : Nat) (A : List Nat) (s : List Nat × List Nat) : List Nat × List Nat × List Nat := ((zmcat b s.1 s.2 (zcn k (8 * zwb b))).take k, (zmix b A (s.1, zmv b s.1 s.2 (zcn k (8 * zwb b)))).2, (zmix b A (s.1, zmv b s.1 s.2 (zcn k (8 * zwb b)))).1)
def zpr1 (b : Bool) (k : Nat) (m : List Nat) (s : List Nat × List Nat) : List Nat × List Nat × List Nat := ((zccat b s.1 s.2 (zcn k 16)).take k, zcmV b s.1 (zplus s.2 (zcn k 16)) m, zcmK b s.1 (zplus s.2 (zcn k 16)) m)
def zpr (kd ct k : Nat) (V C A : List Nat) : List Nat × List Nat × List Nat :=
  if kd < 2 then zpr4 (zod kd) ct k V C (if 0 < A.length then zplus V (zval (zhash (zod kd) (2 :: (V ++ A)))) else V)
  else if kd < 4 then zpr5 (zod kd) k A (if 0 < A.length then zmix (zod kd) A (C, V) else (C, V))
  else zpr1 (zod kd) k (if 0 < A.length ∧ kd < 6 then zdce (zod kd) A (zsd kd) else A) (if 0 < A.length then (zcmK (zod kd) C V (if 0 < A.length ∧ kd < 6 then zdce (zod kd) A (zsd kd) else A), zcmV (zod kd) C V (if 0 < A.length ∧ kd < 6 then zdce (zod kd) A (zsd kd) else A)) else (C, V))
def zgplant (R A : List Nat) : ZGn → ZGn
  | (kd, st, rs, iv, _, dr, sd, V, C) => (kd, st, rs, iv, 1, dr, sd + 1, (zpl kd sd V C R A).1, (zpl kd sd V C R A).2)
def zgprod (k : Nat) (A : List Nat) : ZGn → ZGn
  | (kd, st, rs, iv, ct, dr, sd, V, C) => (kd, st, rs, iv, ct + 1, dr + nI k, sd, (zpr kd ct k V C A).2.1, (zpr kd ct k V C A).2.2)
theorem zsup.off {h h' : ZH} {s : Nat} {S : ZSup} (hs : zsup h s S) (ho : ∀ i, s ≤ i → i ≤ s + 4 → h' i = h i) : zsup h' s S := by
  obtain ⟨w, rp, wi, pa, un, la, ru, sa, me, se, ta, fa⟩ := S
  obtain ⟨h1, h2, h3, gs, h4⟩ := hs
  exact ⟨h1, (ho _ (by omega) (by omega)).trans h2, h3.keep (ho _ (by omega) (by omega)) (ho _ (by omega) (by omega)), gs, h4.keep (ho _ (by omega) (by omega)) (ho _ (by omega) (by omega))⟩
