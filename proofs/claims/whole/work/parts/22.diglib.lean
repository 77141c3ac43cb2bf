/-! what hash needs -/
theorem zword_congr {f f' : Nat → Int32} {a : Nat} : ∀ k, (∀ i, i < k → f (a + i) = f' (a + i)) → zword f a k = zword f' a k
  | 0, _ => rfl
  | k + 1, h => by
    show zword f a k <<< _ ||| _ = zword f' a k <<< _ ||| _
    rw [zword_congr k (fun i hi => h i (by omega)), h k (by omega)]
theorem zsch_congr {b : Bool} {f f' : Nat → Int32} {a : Nat} (h : ∀ i, a ≤ i → i < a + 16 * zwb b → f i = f' i) : ∀ k t, t < 16 + k → zsch b f a k t = zsch b f' a k t
  | 0, t, ht => by
    show zword f _ _ = zword f' _ _
    refine zword_congr _ (fun i hi => h _ (by omega) ?_)
    have : zwb b * t + zwb b ≤ zwb b * 16 := by rw [← Nat.mul_succ]; exact Nat.mul_le_mul_left _ (by omega)
    omega
  | k + 1, t, ht => by
    show (if t = 16 + k then _ else _) = (if t = 16 + k then _ else _)
    by_cases e : t = 16 + k
    · rw [if_pos e, if_pos e, zsch_congr h k k (by omega), zsch_congr h k (k + 1) (by omega), zsch_congr h k (k + 9) (by omega), zsch_congr h k (k + 14) (by omega)]
    · rw [if_neg e, if_neg e]
      exact zsch_congr h k t (by omega)
theorem zcomp_congr {b : Bool} {w w' : Nat → Int64} (s : Z8) (h : ∀ t, t < zrn b → w t = w' t) : zcomp b w s = zcomp b w' s := by
  have k : ∀ t, t ≤ zrn b → zrounds b w s t = zrounds b w' s t := by
    intro t
    induction t with
    | zero => intro _; rfl
    | succ t ih =>
      intro ht
      show zround b _ (w t) (zrounds b w s t) = zround b _ (w' t) (zrounds b w' s t)
      rw [ih (by omega), h t (by omega)]
  unfold zcomp
  rw [k _ (Nat.le_refl _)]
abbrev zh3 (d : Nat) : Nat → Prop := fun i => i = d + 1 ∨ i = d + 2 ∨ i = d + 3
abbrev zhs (d q : Nat) : Nat → Prop := fun i => i = d + 1 ∨ i = d + 2 ∨ i = d + 3 ∨ i = q ∨ i = q + 1
theorem zdg.keep {h h' : ZH} {b : Bool} {d q K : Nat} {ys ys' : List Nat} (hd : zdg h b d) (hs : zsm h h' (zhs d q)) (hq : zrow h q K ys) (hq' : zrow h' q K ys') (h1 : ∃ f, h' (d + 1) = some (.inr (640, .inl f))) (h2 : ∃ f, h' (d + 2) = some (.inr (8, .inr (.inl f)))) (h3 : ∃ f, h' (d + 3) = some (.inr (80, .inr (.inl f)))) : zdg h' b d := by
  have ap := hd.apart hq
  obtain ⟨g0, g1, -, -, -, ⟨x4, g4⟩, ⟨x6, g6⟩⟩ := hd
  refine ⟨g0, (hs d (by unfold zhs; omega)).trans g1, h1, h2, h3, ?_, ?_⟩
  · by_cases e : d + 4 = q
    · subst e
      have eK : K = 512 := by
        obtain ⟨-, -, -, -, -, f, a, -⟩ := hq
        obtain ⟨-, -, -, -, -, f2, a2, -⟩ := g4
        rw [a] at a2
        cases a2
        rfl
      subst eK
      exact ⟨_, hq'⟩
    · obtain ⟨p1, p2⟩ := g4.apart hq
      exact ⟨_, g4.keep (hs _ (by unfold zhs; omega)) (hs _ (by unfold zhs; omega))⟩
  · by_cases e : d + 6 = q
    · subst e
      have eK : K = 64 := by
        obtain ⟨-, -, -, -, -, f, a, -⟩ := hq
        obtain ⟨-, -, -, -, -, f2, a2, -⟩ := g6
        rw [a] at a2
        cases a2
        rfl
      subst eK
      exact ⟨_, hq'⟩
    · obtain ⟨p1, p2⟩ := g6.apart hq
      exact ⟨_, g6.keep (hs _ (by unfold zhs; omega)) (hs _ (by unfold zhs; omega))⟩
theorem zfirst_f (b : Bool) : ∀ k, k < 8 → zcut b (zt_FIRST.getD k 0) = z8f (zfirst b) k := by
  intro k hk
  rcases k with _ | _ | _ | _ | _ | _ | _ | _ | k
  · rfl
  · rfl
  · rfl
  · rfl
  · rfl
  · rfl
  · rfl
  · rfl
  · omega
theorem zflat_succ (u : Nat → List Nat) (k : Nat) : (List.range k).flatMap u ++ u k = (List.range (k + 1)).flatMap u := by
  rw [List.range_succ, List.flatMap_append]
  simp
theorem zflat_len (u : Nat → List Nat) (c : Nat) (hu : ∀ k, (u k).length = c) : ∀ k, ((List.range k).flatMap u).length = k * c
  | 0 => by simp
  | k + 1 => by rw [← zflat_succ, List.length_append, zflat_len u c hu k, hu, Nat.succ_mul]
