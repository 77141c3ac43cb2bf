/-! the whole class: its state as numbers and lists, what each call answers and leaves -/
abbrev ZSt : Type := List Nat × List Nat × ZSup × (Nat → Option ZGn)
def zgj (h : ZH) (n lo t : Nat) : Option Nat → Option ZGn → Prop
  | none, none => True
  | some a, some G => lo ≤ a ∧ a + 5 ≤ n ∧ zgen h a t G ∧ G.2.2.2.2.2.2.1 ≠ 0
  | _, _ => False
theorem zgj.mono {h h' : ZH} {n n' lo t t' : Nat} {x : Option Nat} {y : Option ZGn} (hg : zgj h n lo t x y) (hn : n ≤ n') (ht : t ≤ t') (ho : ∀ a, x = some a → ∀ i, a ≤ i → i ≤ a + 4 → h' i = h i) : zgj h' n' lo t' x y := by
  cases x with
  | none => cases y with
    | none => trivial
    | some G => exact absurd hg (fun q => q)
  | some a => cases y with
    | none => exact absurd hg (fun q => q)
    | some G =>
      obtain ⟨h1, h2, h3, h4⟩ := hg
      exact ⟨h1, by omega, (h3.off (ho a rfl)).more ht, h4⟩
abbrev zwc : ZC := .inl (8, [.ref 17, .ref 19, .ref 21, .ref 26, .ref 63])
def zBA (lo t : Nat) (h : ZH) (n : Nat) (A : Nat → Option Nat) : ZSt → Prop
  | (T, O, S, Gs) => h 16 = some zwc ∧ zrow h 17 240 T ∧ zrow h 19 4096 O ∧ zsup h 21 S ∧ zdk h ∧ (64 ≤ lo ∧ lo ≤ n) ∧ h 63 = some (.inr (4, .inr (.inr (false, A)))) ∧ (∀ j, j < 4 → zgj h n lo t (A j) (Gs j)) ∧ ∀ i j a b, i < 4 → j < 4 → i ≠ j → A i = some a → A j = some b → a + 5 ≤ b ∨ b + 5 ≤ a
def zBW (lo t : Nat) (h : ZH) (n : Nat) (s : ZSt) : Prop := ∃ A, zBA lo t h n A s
abbrev zxs (lo : Nat) : Nat → Prop := fun i => (16 ≤ i ∧ i ≤ 63) ∨ lo ≤ i
section ZBA
variable {lo t t' n n' : Nat} {h h' : ZH} {A : Nat → Option Nat} {T O T' O' : List Nat} {S S' : ZSup} {Gs : Nat → Option ZGn}
theorem zBA.ge (H : zBA lo t h n A (T, O, S, Gs)) {j a : Nat} (hj : j < 4) (hA : A j = some a) : ∃ G, Gs j = some G ∧ 64 ≤ lo ∧ lo ≤ a ∧ a + 5 ≤ n ∧ zgen h a t G ∧ G.2.2.2.2.2.2.1 ≠ 0 := by
  obtain ⟨-, -, -, -, -, h6, -, h8, -⟩ := H
  have := h8 j hj
  rw [hA] at this
  cases hg : Gs j with
  | none => rw [hg] at this; exact absurd this (fun q => q)
  | some G =>
    rw [hg] at this
    exact ⟨G, rfl, h6.1, this⟩
theorem zBA.no (H : zBA lo t h n A (T, O, S, Gs)) {j : Nat} (hj : j < 4) (hA : A j = none) : Gs j = none := by
  obtain ⟨-, -, -, -, -, h6, -, h8, -⟩ := H
  have := h8 j hj
  rw [hA] at this
  cases hg : Gs j with
  | none => rfl
  | some G => rw [hg] at this; exact absurd this (fun q => q)
theorem zBA.same (H : zBA lo t h n A (T, O, S, Gs)) {P : Nat → Prop} (hs : zsm h h' P) (hP : ∀ i, P i → 64 ≤ i ∧ i < lo) (hn : n ≤ n') (ht : t ≤ t') : zBA lo t' h' n' A (T, O, S, Gs) := by
  obtain ⟨h1, h2, h3, h4, h5, h6, h7, h8, h9⟩ := H
  have off : ∀ i, i < 64 → h' i = h i := fun i hi => hs i (fun q => by have := hP i q; omega)
  refine ⟨(off _ (by omega)).trans h1, h2.keep (off _ (by omega)) (off _ (by omega)), h3.keep (off _ (by omega)) (off _ (by omega)), h4.off (fun i _ _ => off _ (by omega)), h5.off hs (fun i hi => by have := hP i hi; omega), ⟨h6.1, by omega⟩, (off _ (by omega)).trans h7, fun j hj => (h8 j hj).mono hn ht (fun a e i i1 i2 => hs i (fun q => ?_)), h9⟩
  have := hP i q
  have h10 := h8 j hj
  rw [e] at h10
  cases hg : Gs j with
  | none => rw [hg] at h10; exact h10
  | some G => rw [hg] at h10; have := h10.1; omega
theorem zBA.upd (H : zBA lo t h n A (T, O, S, Gs)) (hs : zsm h h' (zbt 17 62)) (h1 : zrow h' 17 240 T') (h2 : zrow h' 19 4096 O') (h3 : zsup h' 21 S') (h4 : zdk h') (hn : n ≤ n') (ht : t ≤ t') : zBA lo t' h' n' A (T', O', S', Gs) := by
  obtain ⟨g1, g2, g3, g4, g5, g6, g7, g8, g9⟩ := id H
  refine ⟨(hs _ (by unfold zbt; omega)).trans g1, h1, h2, h3, h4, ⟨g6.1, by omega⟩, (hs _ (by unfold zbt; omega)).trans g7, fun j hj => (g8 j hj).mono hn ht (fun a e i i1 i2 => hs i (fun q => ?_)), g9⟩
  obtain ⟨G, -, k1, k2, -⟩ := H.ge hj e
  unfold zbt at q; omega
theorem zBA.gen (H : zBA lo t h n A (T, O, S, Gs)) {j a : Nat} {G' : ZGn} (hj : j < 4) (hA : A j = some a) (hs : zsm h h' (fun i => zbt 17 62 i ∨ zbt a (a + 4) i)) (h1 : zrow h' 17 240 T') (h2 : zrow h' 19 4096 O') (h3 : zsup h' 21 S') (h4 : zdk h') (hg : zgen h' a t' G') (hd : G'.2.2.2.2.2.2.1 ≠ 0) (hn : n ≤ n') (ht : t ≤ t') : zBA lo t' h' n' A (T', O', S', va_up Gs j (some G')) := by
  obtain ⟨g1, g2, g3, g4, g5, g6, g7, g8, g9⟩ := id H
  obtain ⟨G, e0, k0, k1, k2, -⟩ := H.ge hj hA
  refine ⟨(hs _ (by unfold zbt; omega)).trans g1, h1, h2, h3, h4, ⟨g6.1, by omega⟩, (hs _ (by unfold zbt; omega)).trans g7, fun i hi => ?_, g9⟩
  by_cases e : i = j
  · subst e
    rw [va_up_self, hA]
    exact ⟨k1, by omega, hg, hd⟩
  · rw [va_up_ne _ _ e]
    refine (g8 i hi).mono hn ht (fun b eb x x1 x2 => hs x (fun q => ?_))
    obtain ⟨G2, -, -, l1, l2, -⟩ := H.ge hi eb
    have := g9 i j b a hi hj e eb hA
    unfold zbt at q; omega
theorem zBA.shut (H : zBA lo t h n A (T, O, S, Gs)) {j a : Nat} (hj : j < 4) (hA : A j = some a) (hs : zsm h h' (fun i => i = 63 ∨ zbt a (a + 4) i)) (h7 : h' 63 = some (.inr (4, .inr (.inr (false, va_up A j none))))) : zBA lo t h' n (va_up A j none) (T, O, S, va_up Gs j none) := by
  obtain ⟨g1, g2, g3, g4, g5, g6, g7, g8, g9⟩ := id H
  obtain ⟨G, e0, k0, k1, k2, -⟩ := H.ge hj hA
  have off : ∀ i, i < 63 → h' i = h i := fun i hi => hs i (by unfold zbt; omega)
  refine ⟨(off _ (by omega)).trans g1, g2.keep (off _ (by omega)) (off _ (by omega)), g3.keep (off _ (by omega)) (off _ (by omega)), g4.off (fun i _ _ => off _ (by omega)), g5.off hs (fun i hi => by unfold zbt at hi; omega), g6, h7, fun i hi => ?_, fun x y p q hx hy hne ex ey => ?_⟩
  · by_cases e : i = j
    · subst e
      rw [va_up_self, va_up_self]
      trivial
    · rw [va_up_ne _ _ e, va_up_ne _ _ e]
      refine (g8 i hi).mono (Nat.le_refl _) (Nat.le_refl _) (fun b eb x x1 x2 => hs x (fun q => ?_))
      obtain ⟨G2, -, -, l1, l2, -⟩ := H.ge hi eb
      have := g9 i j b a hi hj e eb hA
      unfold zbt at q; omega
  · by_cases e : x = j
    · subst e; rw [va_up_self] at ex; cases ex
    · by_cases e2 : y = j
      · subst e2; rw [va_up_self] at ey; cases ey
      · rw [va_up_ne _ _ e] at ex; rw [va_up_ne _ _ e2] at ey
        exact g9 x y p q hx hy hne ex ey
theorem zBA.new (H : zBA lo t h n A (T, O, S, Gs)) {j a : Nat} {G' : ZGn} (hj : j < 4) (ha : n ≤ a) (hs : zsm h h' (fun i => zbt 17 63 i ∨ zbt a (a + 4) i)) (h1 : zrow h' 17 240 T') (h2 : zrow h' 19 4096 O') (h3 : zsup h' 21 S') (h4 : zdk h') (h7 : h' 63 = some (.inr (4, .inr (.inr (false, va_up A j (some a)))))) (hg : zgen h' a t' G') (hd : G'.2.2.2.2.2.2.1 ≠ 0) (hn : a + 5 ≤ n') (ht : t ≤ t') : zBA lo t' h' n' (va_up A j (some a)) (T', O', S', va_up Gs j (some G')) := by
  obtain ⟨g1, g2, g3, g4, g5, g6, g7, g8, g9⟩ := id H
  refine ⟨(hs _ (by unfold zbt; omega)).trans g1, h1, h2, h3, h4, ⟨g6.1, by omega⟩, h7, fun i hi => ?_, fun x y p q hx hy hne ex ey => ?_⟩
  · by_cases e : i = j
    · subst e
      rw [va_up_self, va_up_self]
      exact ⟨by omega, by omega, hg, hd⟩
    · rw [va_up_ne _ _ e, va_up_ne _ _ e]
      refine (g8 i hi).mono (by omega) ht (fun b eb x x1 x2 => hs x (fun q => ?_))
      obtain ⟨G2, -, -, l1, l2, -⟩ := H.ge hi eb
      unfold zbt at q; omega
  · by_cases e : x = j
    · subst e
      rw [va_up_self] at ex
      have ep := Option.some.inj ex
      rw [va_up_ne _ _ (Ne.symm hne)] at ey
      obtain ⟨G2, -, -, l1, l2, -⟩ := H.ge hy ey
      omega
    · rw [va_up_ne _ _ e] at ex
      obtain ⟨G2, -, -, l1, l2, -⟩ := H.ge hx ex
      by_cases e2 : y = j
      · subst e2
        rw [va_up_self] at ey
        have ep := Option.some.inj ey
        omega
      · rw [va_up_ne _ _ e2] at ey
        exact g9 x y p q hx hy hne ex ey
end ZBA
/-- what stands at a number, if it is one -/
def zat4 {α : Type} (f : Nat → Option α) (x : Int32) : Option α := if x < 0 then none else if nI 4 ≤ x then none else f x.toNatClampNeg
def zn4 (x : Int32) : List Nat := znum x.toBitVec.toNat 4
def zqfeed (a b c d e : Int32) : ZSt → Int32 × ZSt
  | (T, O, S, Gs) => if 240 < T.length + 20 then (-1, T, O, S, Gs) else (nI (T.length + 20), T ++ zn4 a ++ zn4 b ++ zn4 c ++ zn4 d ++ zn4 e, O, S, Gs)
def zqend (x : Int32) : ZSt → Int32 × ZSt
  | (T, O, S, Gs) => if x < 0 ∨ nI T.length < x then (-1, T, O, S, Gs) else (x, T.take x.toNatClampNeg, O, S, Gs)
def zqsupply : ZSt → Int32 × ZSt
  | (T, O, S, Gs) => if zun S = true then (-1, T, O, S, Gs) else if 1000 < S.1.length + T.length then (-2, T, O, S, Gs) else (if zun (zrcv S T) = true then -1 else nI (zrcv S T).1.length, [], O, zrcv S T, Gs)
def zqtests (a b c : Int32) : ZSt → Bool × ZSt
  | (T, O, S, Gs) => (ztset S a b c, T, O, if ztset S a b c = true then zsetv S a b c else S, Gs)
def zqsource (x : Int32) : ZSt → Int32
  | (_, _, S, _) => zsrc S x
def zqdrawn (x : Int32) : ZSt → Int32
  | (_, O, _, _) => zat O x
def zqsize : ZSt → Int32
  | (_, O, _, _) => nI O.length
def zqgen (x y : Int32) : ZSt → Int32
  | (_, _, _, Gs) => match zat4 Gs x with
    | none => -1
    | some (kd, st, rs, iv, ct, dr, sd, _, _) => zglook kd st ct iv rs (zsd kd) dr sd y
def zqstate (x p k : Int32) : ZSt → Int32
  | (_, _, _, Gs) => match zat4 Gs x with
    | none => -1
    | some (_, _, _, _, _, _, _, V, C) => if p = nI 0 then zat V k else if p = nI 1 then zat C k else -1
def zqdigest (b : Bool) : ZSt → Int32 × ZSt
  | (T, _, S, Gs) => (nI (8 * zwb b), T, zhash b T, S, Gs)
def zqcipher (b : Bool) : ZSt → Bool × ZSt
  | (T, O, S, Gs) => if T.length = zkl b + 16 then (true, T, zenc b (T.take (zkl b)) (T.drop (zkl b)), S, Gs) else (false, T, O, S, Gs)
def zqmac (b : Bool) : ZSt → Bool × ZSt
  | (T, O, S, Gs) => if T.length < 8 * zwb b then (false, T, O, S, Gs) else (true, T, zmac b (T.take (8 * zwb b)) (T.drop (8 * zwb b)), S, Gs)
def zqderive (x k : Int32) : ZSt → Bool × ZSt
  | (T, O, S, Gs) => if x < 0 ∨ nI 3 < x ∨ k < nI 1 ∨ nI 200 < k then (false, T, O, S, Gs) else (true, T, if x < nI 2 then zder (zod x.toNatClampNeg) T k.toNatClampNeg else zdce (zod x.toNatClampNeg) T k.toNatClampNeg, S, Gs)
def zqclose (x : Int32) : ZSt → Bool × ZSt
  | (T, O, S, Gs) => match zat4 Gs x with
    | none => (false, T, O, S, Gs)
    | some _ => (true, T, O, S, va_up Gs x.toNatClampNeg none)
/-- why it isn't seeded -/
def zrefuse (r : Bool) (T : List Nat) (S : ZSup) : ZGn → Nat
  | (kd, st, rs, _, _, _, sd, _, _) => if 6 ≤ kd ∧ zsd kd < T.length then 4 else if r = true ∧ rs = false then 5 else if S.1.length < zdem kd st (zsd kd) sd then 6 else 0
def zgdem : ZGn → Nat
  | (kd, st, _, _, _, _, sd, _, _) => zdem kd st (zsd kd) sd
def zgivS (k : Nat) : ZSup → ZSup
  | (w, rp, wi, pa, un, la, ru, sa, me, se, ta, fa) => (w.drop k, rp, wi, pa, un, la, ru, sa, me, se, ta + nI k, fa)
def zqreseed (x : Int32) (r : Bool) : ZSt → Int32 × ZSt
  | (T, O, S, Gs) => match zat4 Gs x with
    | none => (nI 1, T, O, S, Gs)
    | some G => if zrefuse r T S G = 0 then (nI 0, [], O, zgivS (zgdem G) S, va_up Gs x.toNatClampNeg (some (zgplant (S.1.take (zgdem G)) T G))) else (nI (zrefuse r T S G), T, O, S, Gs)
def zgst : ZGn → Nat
  | (_, st, _, _, _, _, _, _, _) => st
def zgdue : ZGn → Bool
  | (_, _, _, iv, ct, _, _, _, _) => decide (iv < ct)
def zgtoo (T : List Nat) : ZGn → Bool
  | (kd, _, _, _, _, _, _, _, _) => decide (6 ≤ kd ∧ zsd kd < T.length)
def zgout (k : Nat) (A : List Nat) : ZGn → List Nat
  | (kd, _, _, _, ct, _, _, V, C) => (zpr kd ct k V C A).1
def zqdraw (x k s : Int32) (r : Bool) : ZSt → Int32 × ZSt
  | (T, O, S, Gs) => match zat4 Gs x with
    | none => (nI 1, T, O, S, Gs)
    | some G => if k < 0 ∨ nI 4096 < k then (nI 2, T, O, S, Gs) else if nI (zgst G) < s then (nI 3, T, O, S, Gs)
      else if r = true ∨ zgdue G = true then
        (if zrefuse r T S G = 0 then (nI 0, [], zgout k.toNatClampNeg [] (zgplant (S.1.take (zgdem G)) T G), zgivS (zgdem G) S, va_up Gs x.toNatClampNeg (some (zgprod k.toNatClampNeg [] (zgplant (S.1.take (zgdem G)) T G)))) else (nI (zrefuse r T S G), T, O, S, Gs))
      else if zgtoo T G = true then (nI 4, T, O, S, Gs)
      else (nI 0, [], zgout k.toNatClampNeg T G, S, va_up Gs x.toNatClampNeg (some (zgprod k.toNatClampNeg T G)))
def zfree (Gs : Nat → Option ZGn) : Nat := if Gs 0 = none then 0 else if Gs 1 = none then 1 else if Gs 2 = none then 2 else if Gs 3 = none then 3 else 4
def zstrong (kd : Nat) : Nat := if kd = 4 ∨ kd = 6 then 128 else 256
def zleast (st : Nat) : Nat := if st ≤ 112 then 112 else if st ≤ 128 then 128 else if st ≤ 192 then 192 else 256
def zqopen (x s : Int32) (r : Bool) (v : Int32) : ZSt → Int32 × ZSt
  | (T, O, S, Gs) => if x < 0 ∨ nI 8 ≤ x ∨ v < nI 1 ∨ nI 100000 < v then (-7, T, O, S, Gs) else if zfree Gs = 4 then (-8, T, O, S, Gs) else if s < nI 1 ∨ nI (zstrong x.toNatClampNeg) < s then (-3, T, O, S, Gs)
    else if zrefuse false T S (x.toNatClampNeg, zleast s.toNatClampNeg, r, v.toNatClampNeg, 0, nI 0, 0, [], []) = 0 then (nI (zfree Gs), [], O, zgivS (zgdem (x.toNatClampNeg, zleast s.toNatClampNeg, r, v.toNatClampNeg, 0, nI 0, 0, [], [])) S, va_up Gs (zfree Gs) (some (zgplant (S.1.take (zgdem (x.toNatClampNeg, zleast s.toNatClampNeg, r, v.toNatClampNeg, 0, nI 0, 0, [], []))) T (x.toNatClampNeg, zleast s.toNatClampNeg, r, v.toNatClampNeg, 0, nI 0, 0, [], []))))
    else (-nI (zrefuse false T S (x.toNatClampNeg, zleast s.toNatClampNeg, r, v.toNatClampNeg, 0, nI 0, 0, [], [])), T, O, S, Gs)
theorem zpos {x : Int32} (h : ¬ x < 0) : x = nI x.toNatClampNeg ∧ x.toNatClampNeg < 2 ^ 31 := by
  have h1 : ¬ x.toInt < 0 := fun q => h (Int32.lt_iff_toInt_lt.mpr q)
  have h2 : x.toInt < 2 ^ 31 := Int32.toInt_lt x
  have h3 : (x.toNatClampNeg : Int) = x.toInt := by show ((x.toInt.toNat : Nat) : Int) = _; omega
  refine ⟨Int32.toInt_inj.mp ?_, by omega⟩
  rw [nI_toInt (by omega)]; omega
theorem zat4_nI {α : Type} {f : Nat → Option α} {j : Nat} (hj : j < 4) : zat4 f (nI j) = f j := by
  unfold zat4
  rw [if_neg (nI_pos (by omega)), if_neg (fun q => absurd ((nI_leI (by decide) (by omega)).mp q) (by omega)), nI_clamp (by omega)]
theorem zat4_some {α : Type} {f : Nat → Option α} {x : Int32} {v : α} (h : zat4 f x = some v) : ∃ j, j < 4 ∧ x = nI j ∧ f j = some v := by
  unfold zat4 at h
  by_cases h1 : x < 0
  · rw [if_pos h1] at h; cases h
  · rw [if_neg h1] at h
    obtain ⟨j, j31, rfl⟩ := nI_of h1
    by_cases h2 : nI 4 ≤ nI j
    · rw [if_pos h2] at h; cases h
    · rw [if_neg h2, nI_clamp j31] at h
      exact ⟨j, Nat.not_le.mp (fun q => h2 (nI_le q j31)), rfl, h⟩
theorem zBA.none {lo t n : Nat} {h : ZH} {A : Nat → Option Nat} {T O : List Nat} {S : ZSup} {Gs : Nat → Option ZGn} (H : zBA lo t h n A (T, O, S, Gs)) {x : Int32} (hz : zat4 A x = Option.none) : zat4 Gs x = Option.none := by
  unfold zat4 at *
  by_cases h1 : x < 0
  · rw [if_pos h1]
  · rw [if_neg h1] at hz ⊢
    obtain ⟨j, j31, rfl⟩ := nI_of h1
    by_cases h2 : nI 4 ≤ nI j
    · rw [if_pos h2]
    · rw [if_neg h2, nI_clamp j31] at hz ⊢
      exact H.no (Nat.not_le.mp (fun q => h2 (nI_le q j31))) hz
theorem zBA.fresh {lo t t' n n' : Nat} {h h' : ZH} {A : Nat → Option Nat} {T O : List Nat} {S : ZSup} {Gs : Nat → Option ZGn} (H : zBA lo t h n A (T, O, S, Gs)) {P : Nat → Prop} (hs : zsm h h' P) (hP : ∀ i, P i → n ≤ i) (hn : n ≤ n') (ht : t ≤ t') : zBA lo t' h' n' A (T, O, S, Gs) := by
  obtain ⟨h1, h2, h3, h4, h5, h6, h7, h8, h9⟩ := id H
  have off : ∀ i, i < 64 → h' i = h i := fun i hi => hs i (fun q => by have := hP i q; omega)
  refine ⟨(off _ (by omega)).trans h1, h2.keep (off _ (by omega)) (off _ (by omega)), h3.keep (off _ (by omega)) (off _ (by omega)), h4.off (fun i _ _ => off _ (by omega)), h5.off hs (fun i hi => by have := hP i hi; omega), ⟨h6.1, by omega⟩, (off _ (by omega)).trans h7, fun j hj => (h8 j hj).mono hn ht (fun a e i i1 i2 => hs i (fun q => ?_)), h9⟩
  have := hP i q
  obtain ⟨G, -, -, -, l2, -⟩ := H.ge hj e
  omega
theorem zdem_le {kd st sd : Nat} (hk : kd < 8) (hs : st ≤ 256) : zdem kd st (zsd kd) sd ≤ 48 := by
  unfold zdem
  have l : 6 ≤ kd → zsd kd ≤ 48 := fun q => by
    have : kd = 6 ∨ kd = 7 := by omega
    rcases this with rfl | rfl <;> decide
  split
  · exact l ‹_›
  · split <;> omega
theorem zstrong_tab {kd : Nat} (h : kd < 8) : zt_STRONGEST.getD kd 0 = nI (zstrong kd) := zkd8 (P := fun kd => zt_STRONGEST.getD kd 0 = nI (zstrong kd)) h rfl rfl rfl rfl rfl rfl rfl rfl
theorem zstrong_le (kd : Nat) : zstrong kd ≤ 256 := by unfold zstrong; split <;> decide
theorem zleast_le (st : Nat) : zleast st ≤ 256 := by unfold zleast; split <;> (try split) <;> (try split) <;> decide
