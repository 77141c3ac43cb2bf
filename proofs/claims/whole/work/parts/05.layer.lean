/-! THE LAYER: an abstract heap (cells by number, in the order in which they are made; numbers below 16: the tables of the statics and the script), values whose references are such numbers, and a judgement zP over them, with a row an instruction -/
abbrev ZC : Type := (Nat × List Value) ⊕ (Nat × ((Nat → Int32) ⊕ (Nat → Int64) ⊕ (Bool × (Nat → Option Nat))))
abbrev ZH : Type := Nat → Option ZC
abbrev ZM : Type := MethodName × ByteArray × Nat × Option FieldType
abbrev ZG : Type := Launch × va_G × Nat × (Nat → Nat)
abbrev ZQ : Type := Option Value → ZH → Nat → Prop
def zad (g : ZG) (k : Nat) : Nat := if k < 16 then g.2.2.2 k else g.2.2.1 + (k - 16)
def zv (g : ZG) : Value → Value
  | .ref k => .ref (zad g k)
  | v => v
theorem zv_cat (g : ZG) (v : Value) : (zv g v).category = v.category := by cases v <;> rfl
def zgc : Bool → String
  | false => "BitWell$Generator"
  | true => "BitWellModel$Generator"
def zarr (ty : FieldType) (N : Nat) (f : Nat → Value) (a : Nat) (s : State) (H : Heap) : Prop := ∃ cell : Cell, H[a]? = some cell ∧ s.isArrayOf cell ty ∧ cell.vm ≠ .unknown ∧ N ≤ cell.slots.size ∧ cell.slots.size.toInt32 = Int32.ofNat N ∧ ∀ j : Nat, j < N → cell.slots[j]? = some (f j)
def zarq (g : ZG) (C : String) (N : Nat) (f : Nat → Option Nat) (a : Nat) (s : State) (H : Heap) : Prop := ∃ cA : ClassId, ArrOfT s cA (.object C) ∧ va_RA s cA (.object C) ∧ H[a]? = some (vp_cell cA (N, .inr (.inr (.inr (.inr (fun j => (f j).map (zad g)))))))
def zcell (g : ZG) (a : Nat) (c : ZC) (s : State) (H : Heap) : Prop := match c with
  | .inl (ci, fs) => va_at g.2.1 vwCl (a, .inr (ci, fs.map (zv g))) H
  | .inr (N, .inl f) => zarr .int N (fun j => .int (f j)) a s H
  | .inr (N, .inr (.inl f)) => zarr .long N (fun j => .long (f j)) a s H
  | .inr (N, .inr (.inr (b, f))) => zarq g (zgc b) N f a s H
theorem zarr.kept {ty : FieldType} {N : Nat} {f : Nat → Value} {a : Nat} {s : State} {H H1 : Heap} (h : zarr ty N f a s H) (hq : H1[a]? = H[a]?) : zarr ty N f a s H1 := by
  obtain ⟨cell, h1, h2⟩ := h
  exact ⟨cell, by rw [hq]; exact h1, h2⟩
theorem zarr.moved {ty : FieldType} {N : Nat} {f : Nat → Value} {a : Nat} {s u : State} {H : Heap} (hvm : s.vm.Alike u.vm) (h : zarr ty N f a s H) : zarr ty N f a u H := by
  obtain ⟨cell, h1, h2, h3⟩ := h
  exact ⟨cell, h1, State.isArrayOf_alike hvm h2, h3⟩
theorem zcell.kept {g : ZG} {a : Nat} {c : ZC} {s : State} {H H1 : Heap} (h : zcell g a c s H) (hq : H1[a]? = H[a]?) : zcell g a c s H1 := by
  match c, h with
  | .inl (ci, fs), h => exact va_at.kept (q := (a, .inr (ci, fs.map (zv g)))) h hq
  | .inr (N, .inl f), h => exact zarr.kept h hq
  | .inr (N, .inr (.inl f)), h => exact zarr.kept h hq
  | .inr (N, .inr (.inr (b, f))), h =>
    obtain ⟨cA, h1, h2, h3⟩ := h
    exact ⟨cA, h1, h2, by rw [hq]; exact h3⟩
theorem zcell.moved {g : ZG} {a : Nat} {c : ZC} {s u : State} {H : Heap} (hvm : s.vm.Alike u.vm) (h : zcell g a c s H) : zcell g a c u H := by
  match c, h with
  | .inl (ci, fs), h => exact h
  | .inr (N, .inl f), h => exact zarr.moved hvm h
  | .inr (N, .inr (.inl f)), h => exact zarr.moved hvm h
  | .inr (N, .inr (.inr (b, f))), h =>
    obtain ⟨cA, h1, h2, h3⟩ := h
    exact ⟨cA, arrOfT_moved hvm h1, h2.moved hvm, h3⟩
theorem zcell.lt {g : ZG} {a : Nat} {c : ZC} {s : State} {H : Heap} (h : zcell g a c s H) : a < H.size := by
  match c, h with
  | .inl (ci, fs), h => exact va_at.lt (q := (a, .inr (ci, fs.map (zv g)))) h
  | .inr (N, .inl f), h => obtain ⟨cell, h1, -⟩ := h; exact (Array.getElem?_eq_some_iff.mp h1).1
  | .inr (N, .inr (.inl f)), h => obtain ⟨cell, h1, -⟩ := h; exact (Array.getElem?_eq_some_iff.mp h1).1
  | .inr (N, .inr (.inr (b, f))), h => obtain ⟨cA, -, -, h1⟩ := h; exact (Array.getElem?_eq_some_iff.mp h1).1
/-- the statics: class, name, type, the number of the table that each holds -/
def zstat : List (String × String × String × Nat) := [("BitWell$Cipher", "BOX", "[I", 1), ("BitWell$Digest", "FIRST", "[J", 2), ("BitWell$Digest", "ROUND", "[J", 3), ("BitWell$Digest", "SMALL_TURNS", "[I", 4), ("BitWell$Digest", "GREAT_TURNS", "[I", 5), ("BitWell$Generator", "STRENGTHS", "[I", 6), ("BitWell$Generator", "STRONGEST", "[I", 7), ("BitWell$Generator", "SEED_LENGTHS", "[I", 8), ("BitWellModel", "TURNS", "[I", 9)]
def zr (g : ZG) (h : ZH) (n : Nat) (s : State) (H : Heap) : Prop :=
  va_K g.2.1 vwCl [] s ∧ (16 ≤ n ∧ H.size = zad g n ∧ ∀ k, k < 16 → g.2.2.2 k < g.2.2.1) ∧ (∀ (k : Nat) (c : ZC), h k = some c → k < n ∧ zcell g (zad g k) c s H) ∧ ∀ q ∈ zstat, va_Z q.1 q.2.1 q.2.2.1 (.ref (g.2.2.2 q.2.2.2)) (fun a => g.2.2.1 ≤ a) s H
theorem zr.moved {g : ZG} {h : ZH} {n : Nat} {s u : State} {H : Heap} (hvm : s.vm.Alike u.vm) (hr : zr g h n s H) : zr g h n u H :=
  ⟨va_K.moved hvm hr.1, hr.2.1, fun k c hk => ⟨(hr.2.2.1 k c hk).1, (hr.2.2.1 k c hk).2.moved hvm⟩, fun q hq => (hr.2.2.2 q hq).moved hvm⟩
theorem zad_ne {g : ZG} (hg : ∀ k, k < 16 → g.2.2.2 k < g.2.2.1) {j k : Nat} (hk : 16 ≤ k) (hjk : j ≠ k) : zad g j ≠ zad g k := by
  unfold zad
  rw [if_neg (by omega : ¬ k < 16)]
  by_cases hj : j < 16
  · rw [if_pos hj]
    have := hg j hj
    omega
  · rw [if_neg hj]
    omega
theorem zad_ge {g : ZG} {k : Nat} (hk : 16 ≤ k) : g.2.2.1 ≤ zad g k := by
  unfold zad
  rw [if_neg (by omega : ¬ k < 16)]
  omega
theorem zr.put {g : ZG} {h : ZH} {n k : Nat} {c c1 : ZC} {s : State} {H H1 : Heap} (hr : zr g h n s H) (hk : 16 ≤ k) (hc : h k = some c) (hz : H1.size = H.size) (ho : ∀ q : Nat, q ≠ zad g k → H1[q]? = H[q]?) (h1 : zcell g (zad g k) c1 s H1) : zr g (va_up h k (some c1)) n s H1 := by
  obtain ⟨hK, ⟨hn, hs, hg⟩, hcl, hst⟩ := hr
  refine ⟨hK, ⟨hn, by rw [hz]; exact hs, hg⟩, fun j c hj => ?_, fun q hq => (hst q hq).kept (fun a _ ha => ho a (fun e => ha (by rw [e]; exact zad_ge hk)))⟩
  by_cases hjk : j = k
  · subst hjk
    rw [va_up_self] at hj
    cases hj
    exact ⟨(hcl j _ hc).1, h1⟩
  · rw [va_up_ne _ _ hjk] at hj
    exact ⟨(hcl j c hj).1, (hcl j c hj).2.kept (ho _ (zad_ne hg hk hjk))⟩
theorem zad_succ {g : ZG} {n : Nat} (hn : 16 ≤ n) : zad g (n + 1) = zad g n + 1 := by
  unfold zad
  rw [if_neg (by omega), if_neg (by omega)]
  omega
theorem zr.push {g : ZG} {h : ZH} {n : Nat} {c1 : ZC} {s : State} {H H1 : Heap} (hr : zr g h n s H) (hz : H1.size = H.size + 1) (ho : ∀ q : Nat, q < H.size → H1[q]? = H[q]?) (h1 : zcell g H.size c1 s H1) : zr g (va_up h n (some c1)) (n + 1) s H1 := by
  obtain ⟨hK, ⟨hn, hs, hg⟩, hcl, hst⟩ := hr
  refine ⟨hK, ⟨by omega, by rw [hz, zad_succ hn, hs], hg⟩, fun j c hj => ?_, fun q hq => (hst q hq).kept (fun a ha _ => ho a ha)⟩
  by_cases hjk : j = n
  · subst hjk
    rw [va_up_self] at hj
    cases hj
    exact ⟨Nat.lt_succ_self _, by rw [← hs]; exact h1⟩
  · rw [va_up_ne _ _ hjk] at hj
    exact ⟨Nat.lt_succ_of_lt (hcl j c hj).1, (hcl j c hj).2.kept (ho _ (hcl j c hj).2.lt)⟩
/-- the locals, by their places -/
def zls (g : ZG) : Nat → List (Option Value) → List (Nat × Value)
  | _, [] => []
  | i, none :: r => zls g (i + 1) r
  | i, some v :: r => (i, zv g v) :: zls g (i + 1) r
theorem zls_mem {g : ZG} {q : Nat × Value} : ∀ (ls : List (Option Value)) (i : Nat), q ∈ zls g i ls ↔ ∃ (k : Nat) (v : Value), ls[k]? = some (some v) ∧ q = (i + k, zv g v) := by
  intro ls
  induction ls with
  | nil => intro i; simp [zls]
  | cons a r ih =>
    intro i
    have step : (∃ (k : Nat) (v : Value), (a :: r)[k]? = some (some v) ∧ q = (i + k, zv g v)) ↔ ((∃ v, a = some v ∧ q = (i, zv g v)) ∨ ∃ (k : Nat) (v : Value), r[k]? = some (some v) ∧ q = (i + 1 + k, zv g v)) := by
      constructor
      · rintro ⟨k, v, h1, h2⟩
        cases k with
        | zero => exact Or.inl ⟨v, by simpa using h1, by simpa using h2⟩
        | succ k => exact Or.inr ⟨k, v, by simpa using h1, by rw [h2, show i + (k + 1) = i + 1 + k by omega]⟩
      · rintro (⟨v, h1, h2⟩ | ⟨k, v, h1, h2⟩)
        · exact ⟨0, v, by simp [h1], by simpa using h2⟩
        · exact ⟨k + 1, v, by simpa using h1, by rw [h2, show i + (k + 1) = i + 1 + k by omega]⟩
    rw [step]
    cases a with
    | none => simp [zls, ih]
    | some v => simp [zls, ih]
theorem zls_at {g : ZG} {la : Array Slot} {nL : Nat} {ls : List (Option Value)} {i : Nat} {v : Value} (h : lv_has la nL (zls g 0 ls)) (hi : ls[i]? = some (some v)) : la[i]? = some (.val (zv g v)) := h.2.2 (i, zv g v) ((zls_mem ls 0).mpr ⟨i, v, hi, by rw [Nat.zero_add]⟩)
def zclr (ls : List (Option Value)) : Nat → List (Option Value)
  | 0 => ls
  | k + 1 => match ls[k]? with
    | some (some (.long _)) => ls.set k none
    | some (some (.double _)) => ls.set k none
    | _ => ls
def zs1 (ls : List (Option Value)) (i : Nat) (v : Value) : List (Option Value) := (zclr ls i).set i (some v)
def zs2 (ls : List (Option Value)) (i : Nat) (v : Value) : List (Option Value) := ((zclr ls i).set i (some v)).set (i + 1) none
theorem zclr_at {ls : List (Option Value)} {i j : Nat} {v : Value} (h : (zclr ls i)[j]? = some (some v)) : ls[j]? = some (some v) ∧ (j + 1 = i → v.category ≠ 2) := by
  cases i with
  | zero => exact ⟨h, fun e => by omega⟩
  | succ k =>
    simp only [zclr] at h
    split at h
    · rename_i x hx
      by_cases hj : j = k
      · subst hj
        simp [List.getElem?_set] at h
      · rw [List.getElem?_set_ne (Ne.symm hj)] at h
        exact ⟨h, fun e => absurd (by omega) hj⟩
    · rename_i x hx
      by_cases hj : j = k
      · subst hj
        simp [List.getElem?_set] at h
      · rw [List.getElem?_set_ne (Ne.symm hj)] at h
        exact ⟨h, fun e => absurd (by omega) hj⟩
    · rename_i h1 h2
      refine ⟨h, fun e hc => ?_⟩
      have e' : j = k := by omega
      subst e'
      cases v with
      | long x => exact h1 _ h
      | double x => exact h2 _ h
      | _ => simp [Value.category] at hc
theorem zs1_has {g : ZG} {la : Array Slot} {nL i : Nat} {ls : List (Option Value)} {v : Value} (h : lv_has la nL ((i, zv g v) :: (zls g 0 ls).filter (fun q => !(q.1 == i) && !(q.1 + 1 == i && q.2.category == 2)))) : lv_has la nL (zls g 0 (zs1 ls i v)) := by
  refine ⟨h.1, h.2.1, fun q hq => h.2.2 q ?_⟩
  obtain ⟨k, w, h1, rfl⟩ := (zls_mem _ 0).mp hq
  unfold zs1 at h1
  rw [Nat.zero_add]
  by_cases hk : k = i
  · subst hk
    have : w = v := by
      rw [List.getElem?_set] at h1
      simp at h1
      exact h1.2.symm
    subst this
    exact List.mem_cons_self
  · rw [List.getElem?_set_ne (Ne.symm hk)] at h1
    obtain ⟨h2, h3⟩ := zclr_at h1
    refine List.mem_cons_of_mem _ (List.mem_filter.mpr ⟨(zls_mem ls 0).mpr ⟨k, w, h2, by rw [Nat.zero_add]⟩, ?_⟩)
    simp only [zv_cat, Bool.and_eq_true, Bool.not_eq_true', beq_eq_false_iff_ne, Bool.and_eq_false_iff]
    refine ⟨hk, ?_⟩
    by_cases e : k + 1 = i
    · exact Or.inr (h3 e)
    · exact Or.inl e
theorem zs2_has {g : ZG} {la : Array Slot} {nL i : Nat} {ls : List (Option Value)} {v : Value} (h : lv_has la nL ((i, zv g v) :: (zls g 0 ls).filter (fun q => !(q.1 == i) && (!(q.1 == i + 1) && !(q.1 + 1 == i && q.2.category == 2))))) : lv_has la nL (zls g 0 (zs2 ls i v)) := by
  refine ⟨h.1, h.2.1, fun q hq => h.2.2 q ?_⟩
  obtain ⟨k, w, h1, rfl⟩ := (zls_mem _ 0).mp hq
  unfold zs2 at h1
  rw [Nat.zero_add]
  have hk1 : k ≠ i + 1 := by
    intro e
    subst e
    rw [List.getElem?_set] at h1
    simp at h1
  rw [List.getElem?_set_ne (Ne.symm hk1)] at h1
  by_cases hk : k = i
  · subst hk
    have : w = v := by
      rw [List.getElem?_set] at h1
      simp at h1
      exact h1.2.symm
    subst this
    exact List.mem_cons_self
  · rw [List.getElem?_set_ne (Ne.symm hk)] at h1
    obtain ⟨h2, h3⟩ := zclr_at h1
    refine List.mem_cons_of_mem _ (List.mem_filter.mpr ⟨(zls_mem ls 0).mpr ⟨k, w, h2, by rw [Nat.zero_add]⟩, ?_⟩)
    simp only [zv_cat, Bool.and_eq_true, Bool.not_eq_true', beq_eq_false_iff_ne, Bool.and_eq_false_iff]
    refine ⟨hk, hk1, ?_⟩
    by_cases e : k + 1 = i
    · exact Or.inr (h3 e)
    · exact Or.inl e
