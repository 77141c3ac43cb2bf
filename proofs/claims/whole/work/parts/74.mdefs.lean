/-! the whole reference: its state by the same numbers and lists -/
def zmg (h : ZH) (a t : Nat) : Option ZGn → Prop
  | none => ∃ k1 s1 i1 r1 c1 d1 e1 : Int32, h a = some (.inl (9, [.int (nI 0), .int k1, .int s1, .int i1, .int r1, .int c1, .int d1, .int e1, .ref (a + 1), .ref (a + 2)])) ∧ zia h (a + 1) 111 ∧ zia h (a + 2) 111
  | some (kd, st, rs, iv, ct, dr, sd, V, C) => kd < 8 ∧ st ≤ 256 ∧ iv ≤ 100000 ∧ ct ≤ t ∧ sd ≤ t ∧ sd ≠ 0 ∧ h a = some (.inl (9, [.int (nI (1)), .int (nI (kd)), .int (nI (st)), .int (nI (iv)), .int (nI (zbi rs)), .int (nI (ct)), .int (dr), .int (nI (sd)), .ref (a + 1), .ref (a + 2)])) ∧ zar h (a + 1) 111 V ∧ zar h (a + 2) 111 C ∧ V.length = zvN kd ∧ C.length = zcN kd
theorem zmg.off {h h' : ZH} {a t t' : Nat} {x : Option ZGn} (H : zmg h a t x) (h0 : h' a = h a) (h1 : h' (a + 1) = h (a + 1)) (h2 : h' (a + 2) = h (a + 2)) (ht : t ≤ t') : zmg h' a t' x := by
  cases x with
  | none =>
    obtain ⟨k1, s1, i1, r1, c1, d1, e1, q1, q2, q3⟩ := H
    exact ⟨k1, s1, i1, r1, c1, d1, e1, h0.trans q1, q2.keep h1, q3.keep h2⟩
  | some G =>
    obtain ⟨kd, st, rs, iv, ct, dr, sd, V, C⟩ := G
    obtain ⟨q1, q2, q3, q4, q5, q6, q7, q8, q9, q10⟩ := H
    exact ⟨q1, q2, q3, by omega, by omega, q6, h0.trans q7, q8.keep h1, q9.keep h2, q10⟩
def zsane : ZSup → Prop
  | (_, _, _, _, _, _, _, sa, me, se, _, _) => sa = -1 → me = nI 0 ∧ se = nI 0
theorem zsane.step {S : ZSup} {b : Int32} {x : Nat} (hb : b ≠ -1) (h : zsane S) : zsane (zstep S b x) := by
  obtain ⟨w, rp, wi, pa, un, la, ru, sa, me, se, ta, fa⟩ := S
  have k : (zsmp wi sa me se b).1 = -1 → (zsmp wi sa me se b).2.1 = nI 0 ∧ (zsmp wi sa me se b).2.2 = nI 0 := by
    unfold zsmp
    by_cases q : sa = -1
    · rw [if_pos q]; exact fun e => absurd e hb
    · rw [if_neg q]
      split
      · exact fun _ => ⟨rfl, rfl⟩
      · exact fun e => absurd e q
  show zsane (if _ then _ else _)
  split
  · exact k
  · exact k
theorem zbyte_ne {x : Nat} (h : x < 256) : nI x ≠ -1 := fun e => by
  have h1 := nI_toInt (show x < 2 ^ 31 by omega)
  rw [e] at h1
  have h2 : (-1 : Int32).toInt = -1 := by decide
  omega
theorem zsane.rcv {S : ZSup} (h : zsane S) : ∀ (xs : List Nat), (∀ x ∈ xs, x < 256) → zsane (zrcv S xs) := by
  intro xs
  induction xs generalizing S with
  | nil => exact fun _ => h
  | cons x xs ih =>
    intro hb
    show zsane (zrcv (zcome S x) xs)
    refine ih ?_ (fun y hy => hb y (List.mem_cons_of_mem _ hy))
    unfold zcome
    split
    · exact h
    · exact h.step (zbyte_ne (hb x List.mem_cons_self))
theorem zsane.giv {S : ZSup} (h : zsane S) (k : Nat) : zsane (zgivS k S) := by
  obtain ⟨w, rp, wi, pa, un, la, ru, sa, me, se, ta, fa⟩ := S
  exact h
def zMD (t : Nat) (h : ZH) : ZSt → Prop
  | (T, O, S, Gs) => (∃ th mn m1 s1, h 64 = some (zmoc th mn T.length O.length m1 s1 S) ∧ zmst m1 s1 S) ∧ zmw h ∧ zar h 84 1000 S.1 ∧ zia h 85 100 ∧ (∃ A, h 86 = some (.inr (4, .inr (.inr (true, A)))) ∧ ∀ j, j < 4 → A j = some (95 + 3 * j)) ∧ zar h 93 240 T ∧ zar h 94 4096 O ∧ (∀ j, j < 4 → zmg h (95 + 3 * j) t (Gs j)) ∧ zsane S
/-- what a call may write, generators aside -/
abbrev zcz : Nat → Prop := fun i => i = 64 ∨ (70 ≤ i ∧ i ≤ 76) ∨ (78 ≤ i ∧ i ≤ 85) ∨ (87 ≤ i ∧ i ≤ 94)
abbrev zcg (a : Nat) : Nat → Prop := fun i => i = 64 ∨ (70 ≤ i ∧ i ≤ 76) ∨ (78 ≤ i ∧ i ≤ 85) ∨ (87 ≤ i ∧ i ≤ 94) ∨ i = a ∨ i = a + 1 ∨ i = a + 2
abbrev zmA : Nat → Prop := fun i => 64 ≤ i ∧ i ≤ 106
section ZMD
variable {t t' : Nat} {h h' : ZH} {T O T' O' : List Nat} {S S' : ZSup} {Gs : Nat → Option ZGn}
theorem zMD.upd (H : zMD t h (T, O, S, Gs)) (hs : zsm h h' zcz) (hz : zsh h h') (ho : ∃ th mn m1 s1, h' 64 = some (zmoc th mn T'.length O'.length m1 s1 S') ∧ zmst m1 s1 S') (hw : zar h' 84 1000 S'.1) (hT : zar h' 93 240 T') (hO : zar h' 94 4096 O') (hS : zsane S') (ht : t ≤ t') : zMD t' h' (T', O', S', Gs) := by
  obtain ⟨-, q2, -, q4, ⟨A, q5, q5'⟩, -, -, q8, -⟩ := H
  exact ⟨ho, q2.sh hs hz (fun i q => by unfold zcz at q; unfold zwf; omega), hw, hz.1 _ _ q4, ⟨A, (hs _ (by unfold zcz; omega)).trans q5, q5'⟩, hT, hO, fun j hj => (q8 j hj).off (hs _ (by unfold zcz; omega)) (hs _ (by unfold zcz; omega)) (hs _ (by unfold zcz; omega)) ht, hS⟩
theorem zMD.gen (H : zMD t h (T, O, S, Gs)) {j : Nat} (hj : j < 4) (hs : zsm h h' (zcg (95 + 3 * j))) (hz : zsh h h') (ho : ∃ th mn m1 s1, h' 64 = some (zmoc th mn T'.length O'.length m1 s1 S') ∧ zmst m1 s1 S') (hw : zar h' 84 1000 S'.1) (hT : zar h' 93 240 T') (hO : zar h' 94 4096 O') (hS : zsane S') (ht : t ≤ t') {x : Option ZGn} (hg : zmg h' (95 + 3 * j) t' x) : zMD t' h' (T', O', S', va_up Gs j x) := by
  obtain ⟨-, q2, -, q4, ⟨A, q5, q5'⟩, -, -, q8, -⟩ := H
  refine ⟨ho, q2.sh hs hz (fun i q => by unfold zcg at q; unfold zwf; omega), hw, hz.1 _ _ q4, ⟨A, (hs _ (by unfold zcg; omega)).trans q5, q5'⟩, hT, hO, fun i hi => ?_, hS⟩
  by_cases e : i = j
  · subst e; rw [va_up_self]; exact hg
  · rw [va_up_ne _ _ e]
    exact (q8 i hi).off (hs _ (by unfold zcg; omega)) (hs _ (by unfold zcg; omega)) (hs _ (by unfold zcg; omega)) ht
/-- closed ones may change behind the door -/
theorem zMD.shut (H : zMD t h (T, O, S, Gs)) {j : Nat} (hj : j < 4) (hs : zsm h h' (zcg (95 + 3 * j))) (hz : zsh h h') (ho : ∃ th mn m1 s1, h' 64 = some (zmoc th mn T'.length O'.length m1 s1 S') ∧ zmst m1 s1 S') (hw : zar h' 84 1000 S'.1) (hT : zar h' 93 240 T') (hO : zar h' 94 4096 O') (hS : zsane S') (ht : t ≤ t') (hg : zmg h' (95 + 3 * j) t' (Gs j)) : zMD t' h' (T', O', S', Gs) := by
  have := H.gen hj hs hz ho hw hT hO hS ht hg
  rwa [show va_up Gs j (Gs j) = Gs from by funext i; by_cases e : i = j; rw [e, va_up_self]; rw [va_up_ne _ _ e]] at this
end ZMD
