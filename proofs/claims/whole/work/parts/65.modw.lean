/-! the reference: arrays stay arrays, and what its workshop is -/
def zsh (h h' : ZH) : Prop := (∀ k N, zia h k N → zia h' k N) ∧ ∀ k N, zla h k N → zla h' k N
theorem zsh.rf {h : ZH} : zsh h h := ⟨fun _ _ q => q, fun _ _ q => q⟩
theorem zsh.trans {h h1 h2 : ZH} (a : zsh h h1) (b : zsh h1 h2) : zsh h h2 := ⟨fun k N q => b.1 k N (a.1 k N q), fun k N q => b.2 k N (a.2 k N q)⟩
theorem zsh.up {h h' : ZH} {t : Nat} {c c' : ZC} (e : h' = va_up h t (some c')) (hk : h t = some c) (hi : ∀ N f, c = .inr (N, .inl f) → ∃ f', c' = .inr (N, .inl f')) (hl : ∀ N f, c = .inr (N, .inr (.inl f)) → ∃ f', c' = .inr (N, .inr (.inl f'))) : zsh h h' := by
  refine ⟨fun k N q => ?_, fun k N q => ?_⟩
  · obtain ⟨f, q⟩ := q
    by_cases ek : k = t
    · subst ek
      rw [hk] at q
      obtain ⟨f', q'⟩ := hi N f (Option.some.inj q)
      exact ⟨f', by rw [e, va_up_self, q']⟩
    · exact ⟨f, by rw [e, va_up_ne _ _ ek, q]⟩
  · obtain ⟨f, q⟩ := q
    by_cases ek : k = t
    · subst ek
      rw [hk] at q
      obtain ⟨f', q'⟩ := hl N f (Option.some.inj q)
      exact ⟨f', by rw [e, va_up_self, q']⟩
    · exact ⟨f, by rw [e, va_up_ne _ _ ek, q]⟩
theorem zsh.fill {h h' : ZH} {t N : Nat} {f f' : Nat → Int32} (e : h' = va_up h t (some (.inr (N, .inl f')))) (hk : h t = some (.inr (N, .inl f))) : zsh h h' :=
  zsh.up e hk (fun M f q => by injection q with q; injection q with q1 q2; subst q1; exact ⟨_, rfl⟩) (fun M f q => by injection q with q; injection q with q1 q2; cases q2)
theorem zsh.obj {h h' : ZH} {t ci : Nat} {fs fs' : List Value} (e : h' = va_up h t (some (.inl (ci, fs')))) (hk : h t = some (.inl (ci, fs))) : zsh h h' :=
  zsh.up e hk (fun M f q => by cases q) (fun M f q => by cases q)
/-- where only arrays of numbers were written -/
theorem zsh.of {h h' : ZH} {S : Nat → Prop} (hs : zsm h h' S) (hk : ∀ k, S k → ∃ N f f', h k = some (.inr (N, .inl f)) ∧ h' k = some (.inr (N, .inl f'))) : zsh h h' := by
  refine ⟨fun k N q => ?_, fun k N q => ?_⟩
  · obtain ⟨f, q⟩ := q
    by_cases ek : S k
    · obtain ⟨M, f1, f2, e1, e2⟩ := hk k ek
      rw [e1] at q
      injection q with q; injection q with q; injection q with q1 q2
      subst q1
      exact ⟨_, e2⟩
    · exact ⟨f, (hs k ek).trans q⟩
  · obtain ⟨f, q⟩ := q
    by_cases ek : S k
    · obtain ⟨M, f1, f2, e1, e2⟩ := hk k ek
      rw [e1] at q
      injection q with q; injection q with q; injection q with q1 q2
      cases q2
    · exact ⟨f, (hs k ek).trans q⟩
theorem zia.two {h : ZH} {k N M : Nat} (a : zia h k N) (b : zia h k M) : N = M := by
  obtain ⟨f, a⟩ := a
  obtain ⟨f', b⟩ := b
  rw [a] at b
  injection b with b; injection b with b; injection b with b1 b2
theorem zla.two {h : ZH} {k N M : Nat} (a : zla h k N) (b : zla h k M) : N = M := by
  obtain ⟨f, a⟩ := a
  obtain ⟨f', b⟩ := b
  rw [a] at b
  injection b with b; injection b with b; injection b with b1 b2
theorem zil {h : ZH} {k N M : Nat} (a : zia h k N) (b : zla h k M) : False := by
  obtain ⟨f, a⟩ := a
  obtain ⟨f', b⟩ := b
  rw [a] at b
  injection b with b; injection b with b; injection b with b1 b2
  cases b2
theorem zsh.at {h h' : ZH} {k N : Nat} (a : zia h k N) (b : zia h' k N) : (∀ M, zia h k M → zia h' k M) ∧ ∀ M, zla h k M → zla h' k M :=
  ⟨fun M q => by rw [← zia.two a q]; exact b, fun M q => absurd q (fun q => zil a q)⟩
theorem zsh.atL {h h' : ZH} {k N : Nat} (a : zla h k N) (b : zla h' k N) : (∀ M, zia h k M → zia h' k M) ∧ ∀ M, zla h k M → zla h' k M :=
  ⟨fun M q => absurd a (fun a => zil q a), fun M q => by rw [← zla.two a q]; exact b⟩
theorem zsh.mk {h h' : ZH} {S : Nat → Prop} (hs : zsm h h' S) (hk : ∀ k, S k → (∀ M, zia h k M → zia h' k M) ∧ ∀ M, zla h k M → zla h' k M) : zsh h h' := by
  refine ⟨fun k N q => ?_, fun k N q => ?_⟩
  · by_cases ek : S k
    · exact (hk k ek).1 N q
    · exact q.keep (hs k ek)
  · by_cases ek : S k
    · exact (hk k ek).2 N q
    · exact q.keep (hs k ek)
theorem zsh.dig {h h' : ZH} (a : zmtl h) (b : zmtl h') (k : Nat) (hk : 70 ≤ k ∧ k ≤ 74) : (∀ M, zia h k M → zia h' k M) ∧ ∀ M, zla h k M → zla h' k M := by
  obtain ⟨-, -, -, a1, a2, a3, a4, a5⟩ := a
  obtain ⟨-, -, -, b1, b2, b3, b4, b5⟩ := b
  have : k = 70 ∨ k = 71 ∨ k = 72 ∨ k = 73 ∨ k = 74 := by omega
  rcases this with rfl | rfl | rfl | rfl | rfl
  · exact zsh.at a1 b1
  · exact zsh.atL a2 b2
  · exact zsh.atL a3 b3
  · exact zsh.atL a4 b4
  · exact zsh.at a5 b5
/-- the workshop: tables and scratch -/
def zmw (h : ZH) : Prop := zmtl h ∧ zia h 75 1000 ∧ zia h 76 1000 ∧ zmcl h ∧ zia h 80 16 ∧ zia h 81 1000 ∧ zia h 82 32 ∧ zia h 83 48 ∧ zia h 87 1000 ∧ zia h 88 4 ∧ zia h 89 111 ∧ zia h 90 400 ∧ zia h 91 16 ∧ zia h 92 48
/-- where writing leaves the tables alone -/
abbrev zwf : Nat → Prop := fun i => 16 ≤ i ∧ i ≠ 65 ∧ i ≠ 66 ∧ i ≠ 77
theorem zmtl.sh {h h' : ZH} {S : Nat → Prop} (H : zmtl h) (hs : zsm h h' S) (hz : zsh h h') (ho : ∀ i, S i → zwf i) : zmtl h' := by
  obtain ⟨h1, h2, h3, h4, h5, h6, h7, h8⟩ := H
  exact ⟨h1.sm hs (fun i hi => (ho i hi).1), (hs _ (fun q => (ho _ q).2.1 rfl)).trans h2, (hs _ (fun q => (ho _ q).2.2.1 rfl)).trans h3, hz.1 _ _ h4, hz.2 _ _ h5, hz.2 _ _ h6, hz.2 _ _ h7, hz.1 _ _ h8⟩
theorem zmcl.sh {h h' : ZH} {S : Nat → Prop} (H : zmcl h) (hs : zsm h h' S) (hz : zsh h h') (ho : ∀ i, S i → zwf i) : zmcl h' := by
  obtain ⟨h1, h2, h3⟩ := H
  exact ⟨(hs _ (fun q => (ho _ q).2.2.2 rfl)).trans h1, hz.1 _ _ h2, hz.1 _ _ h3⟩
theorem zmw.sh {h h' : ZH} {S : Nat → Prop} (H : zmw h) (hs : zsm h h' S) (hz : zsh h h') (ho : ∀ i, S i → zwf i) : zmw h' := by
  obtain ⟨h1, h2, h3, h4, h5, h6, h7, h8, h9, h10, h11, h12, h13, h14⟩ := H
  exact ⟨h1.sh hs hz ho, hz.1 _ _ h2, hz.1 _ _ h3, h4.sh hs hz ho, hz.1 _ _ h5, hz.1 _ _ h6, hz.1 _ _ h7, hz.1 _ _ h8, hz.1 _ _ h9, hz.1 _ _ h10, hz.1 _ _ h11, hz.1 _ _ h12, hz.1 _ _ h13, hz.1 _ _ h14⟩
