/-! THE ROWS OF THE HEAP: fields, arrays, new, statics -/
theorem zmem {w : Cond} (i : Nat) (h : lw_tbl[i]? = some w) (hg : goodWord w = true) : w ∈ zgood := List.mem_filter.mpr ⟨List.mem_of_getElem? h, hg⟩
theorem zgood_of {w : Cond} (h : w ∈ lw_tbl) (hg : goodWord w = true) : w ∈ zgood := List.mem_filter.mpr ⟨h, hg⟩
/-- what the tables say of a class of ours: its fields' words, types, names -/
def zcls (q : vw_C) : Prop := (∀ w ∈ u_ws q.1 q.2.1 q.2.2, w ∈ zgood) ∧ (∃ ty : Nat → FieldType, ∀ k, k < q.2.2 → parseFieldDescriptor (q.2.1 k).2.2.1 = some (ty k)) ∧ (∀ a, a < q.2.2 → ∀ b, b < q.2.2 → a ≠ b → (q.2.1 a).2.1 ≠ (q.2.1 b).2.1) ∧ Cond.instantiable q.1 q.2.2 ∈ zgood ∧ Cond.initialized q.1 ∈ zgood
set_option maxRecDepth 100000 in
theorem zcls_0 : zcls (RX0, TX0, 8) := ⟨by decide +kernel, ⟨tyX0, tyX0_ok⟩, nmX0, by decide +kernel, by decide +kernel⟩
set_option maxRecDepth 100000 in
theorem zcls_1 : zcls (RX1, TX1, 13) := ⟨by decide +kernel, ⟨tyX1, tyX1_ok⟩, nmX1, by decide +kernel, by decide +kernel⟩
set_option maxRecDepth 100000 in
theorem zcls_2 : zcls (RX2, TX2, 7) := ⟨by decide +kernel, ⟨tyX2, tyX2_ok⟩, nmX2, by decide +kernel, by decide +kernel⟩
set_option maxRecDepth 100000 in
theorem zcls_3 : zcls (RX3, TX3, 12) := ⟨by decide +kernel, ⟨tyX3, tyX3_ok⟩, nmX3, by decide +kernel, by decide +kernel⟩
set_option maxRecDepth 100000 in
theorem zcls_4 : zcls (RX4, TX4, 12) := ⟨by decide +kernel, ⟨tyX4, tyX4_ok⟩, nmX4, by decide +kernel, by decide +kernel⟩
set_option maxRecDepth 100000 in
theorem zcls_5 : zcls (RX6, TX6, 12) := ⟨by decide +kernel, ⟨tyX6, tyX6_ok⟩, nmX6, by decide +kernel, by decide +kernel⟩
set_option maxRecDepth 100000 in
theorem zcls_6 : zcls (RX7, TX7, 2) := ⟨by decide +kernel, ⟨tyX7, tyX7_ok⟩, nmX7, by decide +kernel, by decide +kernel⟩
set_option maxRecDepth 100000 in
theorem zcls_7 : zcls (RX8, TX8, 13) := ⟨by decide +kernel, ⟨tyX8, tyX8_ok⟩, nmX8, by decide +kernel, by decide +kernel⟩
set_option maxRecDepth 100000 in
theorem zcls_8 : zcls (RX9, TX9, 5) := ⟨by decide +kernel, ⟨tyX9, tyX9_ok⟩, nmX9, by decide +kernel, by decide +kernel⟩
set_option maxRecDepth 100000 in
theorem zcls_9 : zcls (RX10, TX10, 10) := ⟨by decide +kernel, ⟨tyX10, tyX10_ok⟩, nmX10, by decide +kernel, by decide +kernel⟩
set_option maxRecDepth 100000 in
theorem zcls_10 : zcls (RX11, TX11, 46) := ⟨by decide +kernel, ⟨tyX11, tyX11_ok⟩, nmX11, by decide +kernel, by decide +kernel⟩
theorem zcls_of {ci : Nat} {q : vw_C} (h : vwCl[ci]? = some q) : zcls q := by
  match ci, h with
  | 0, h => cases h; exact zcls_0
  | 1, h => cases h; exact zcls_1
  | 2, h => cases h; exact zcls_2
  | 3, h => cases h; exact zcls_3
  | 4, h => cases h; exact zcls_4
  | 5, h => cases h; exact zcls_5
  | 6, h => cases h; exact zcls_6
  | 7, h => cases h; exact zcls_7
  | 8, h => cases h; exact zcls_8
  | 9, h => cases h; exact zcls_9
  | 10, h => cases h; exact zcls_10
  | k + 11, h => simp [vwCl] at h
/-- entry idx of class own names field j of the objects of class ci, of type ty, final or not -/
def zfP (own : String) (idx ci j : Nat) (ty : FieldType) (fin : Bool) : Prop := ∃ (C : String) (T : u_T) (N : Nat) (r : String), vwCl[ci]? = some (C, T, N) ∧ j < N ∧ Cond.fieldLink own idx r (T j).2.1 (T j).2.2.1 ∈ zgood ∧ (r = (T j).1 ∨ Cond.sameField r (T j).1 (T j).2.1 (T j).2.2.1 ∈ zgood) ∧ parseFieldDescriptor (T j).2.2.1 = some ty ∧ (T j).2.2.2 = fin ∧ (fin = true → (T j).1 = own)
/-- the same, for reading -/
def zgP (own : String) (idx ci j : Nat) : Prop := ∃ (C : String) (T : u_T) (N : Nat) (r : String), vwCl[ci]? = some (C, T, N) ∧ j < N ∧ Cond.fieldLink own idx r (T j).2.1 (T j).2.2.1 ∈ zgood ∧ (r = (T j).1 ∨ Cond.sameField r (T j).1 (T j).2.1 (T j).2.2.1 ∈ zgood)
def zfit (ty : FieldType) (v : Value) : Prop := ∀ g : ZG, narrow ty (zv g v) = zv g v ∧ fits ty (zv g v) = true
theorem zfit_i (x : Int32) : zfit .int (.int x) := fun _ => ⟨rfl, rfl⟩
theorem zfit_l (x : Int64) : zfit .long (.long x) := fun _ => ⟨rfl, rfl⟩
theorem zfit_0 : zfit .boolean (.int 0) := fun _ => ⟨show narrow .boolean (.int 0) = .int 0 by decide +kernel, show fits .boolean (.int 0) = true by decide +kernel⟩
theorem zfit_1 : zfit .boolean (.int 1) := fun _ => ⟨show narrow .boolean (.int 1) = .int 1 by decide +kernel, show fits .boolean (.int 1) = true by decide +kernel⟩
theorem zfit_r (C : String) (k : Nat) : zfit (.object C) (.ref k) := fun _ => ⟨rfl, rfl⟩
theorem zfit_a (t : FieldType) (k : Nat) : zfit (.array t) (.ref k) := fun _ => ⟨rfl, rfl⟩
section ZS
variable {g : ZG} {M : ZM} {R : Room} {Qf : ZQ} {cells slots pc : Nat} {ls : List (Option Value)} {st : List Value} {h : ZH} {n : Nat}
theorem zloc {g : ZG} {locs : List Loc} {k j : Nat} (ho : ∀ q ∈ locs, g.2.2.1 ≤ q.base) (hk : 16 ≤ k) : ∀ q ∈ locs ++ [(⟨zad g k, j⟩ : Loc)], g.2.2.1 ≤ q.base := fun q hq => by
  rcases List.mem_append.mp hq with h | h
  · exact ho q h
  · rw [List.mem_singleton.mp h]; exact zad_ge hk
theorem zp_get {idx k ci j : Nat} {fs : List Value} {v : Value} (hd : decode M.2.1 pc = .ok (.getfield idx, 3)) (hf : zgP M.1.cls idx ci j) (hh : h k = some (.inl (ci, fs))) (hv : fs[j]? = some v) (kk : zP g M R Qf cells slots (pc + 3) ls (v :: st) h n) : zP g M R Qf cells slots pc ls (.ref k :: st) h n := by
  intro p e s m args below meth c Q H locs la C hr ho hl
  obtain ⟨C1, T, N, r, h1, h2, h3, h4⟩ := hf
  have hP : va_P g.2.1 vwCl [(zad g k, .inr (ci, fs.map (zv g)))] H := fun i q hq => by
    match i, hq with
    | 0, hq => cases hq; exact (hr.2.2.1 k _ hh).2
    | i + 1, hq => simp at hq
  refine va_get (D := g.2.1) (cl := vwCl) (v := zv g v) C.1 C.2.1 C.2.2.2.2.1 (zcls_of h1).1 C.2.2.2.1 hr.1 hP 0 rfl h1 j h2 (C.2.2.2.2.1 _ h3) (fun x hx => ?_) (by rw [List.getElem?_map, hv]; rfl) hd (kk p e s m args below meth c Q H locs la C hr ho hl)
  rcases h4 with h4 | h4
  · rw [h4]; exact hx
  · exact u_same (C.2.2.2.2.1 _ h4) x hx
theorem zset_map {g : ZG} {fs : List Value} {j : Nat} {v : Value} : (fs.map (zv g)).set j (zv g v) = (fs.set j v).map (zv g) := by rw [List.map_set]
theorem zp_put {idx k ci j : Nat} {fs fs' : List Value} {ty : FieldType} {v : Value} (hd : decode M.2.1 pc = .ok (.putfield idx, 3)) (hf : zfP M.1.cls idx ci j ty false) (hk : 16 ≤ k) (hh : h k = some (.inl (ci, fs))) (hj : j < fs.length) (hv : zfit ty v) (he : fs.set j v = fs') (kk : zP g M R Qf cells slots (pc + 3) ls st (va_up h k (some (.inl (ci, fs')))) n) : zP g M R Qf cells slots pc ls (v :: .ref k :: st) h n := by
  intro p e s m args below meth c Q H locs la C hr ho hl
  subst he
  obtain ⟨C1, T, N, r, h1, h2, h3, h4, h5, h6, -⟩ := hf
  obtain ⟨c1, ⟨ty0, c2⟩, c3, -⟩ := zcls_of h1
  have hP : va_P g.2.1 vwCl [(zad g k, .inr (ci, fs.map (zv g)))] H := fun i q hq => by
    match i, hq with
    | 0, hq => cases hq; exact (hr.2.2.1 k _ hh).2
    | i + 1, hq => simp at hq
  have hD : va_D (fun q => q = zad g k ∨ H.size ≤ q ∨ g.2.2.1 ≤ q) [(zad g k, .inr (ci, fs.map (zv g)))] := ⟨fun i j p q h1 h2 _ => by
    match i, j, h1, h2 with
    | 0, 0, _, _ => rfl
    | i + 1, _, h1, _ => simp at h1
    | _, j + 1, _, h2 => simp at h2, fun i q hq => by
    match i, hq with
    | 0, hq => cases hq; exact Or.inl rfl
    | i + 1, hq => simp at hq⟩
  have hap := va_apart (own := M.1.cls) (s := s) (args := args) C.2.2.2.2.1 c1 ty0 c2 c3 hr.1 h1
  obtain ⟨r', h1', cell, q1, q2, q3, q4⟩ := (hr.2.2.1 k _ hh).2
  have hr' : r' = (C1, T, N) := Option.some.inj (h1'.symm.trans h1)
  subst hr'
  obtain ⟨hS, hfc, kC, hkC, hkind⟩ := hr.1.1 ci _ h1
  obtain ⟨cf, kf, fi, f, hi, hsl⟩ := hS j h2
  have hlay := C.2.2.2.2.1 _ (c1 _ (u_in_lay h2))
  unfold u_lay at hlay
  rw [if_neg (by rw [h6]; decide)] at hlay
  have hst := (u_facts hfc hkC (u_lays C.2.2.2.2.1 c1 h2) hi).1
  have h7 := u_store hfc hkC hkind hlay hi h5 (hv g).1 (hv g).2
  have hsame : s.fieldFound? r (T j).2.1 (T j).2.2.1 = some (cf, kf, fi, f) := by
    rcases h4 with h4 | h4
    · rw [h4]; exact hi
    · exact u_same (C.2.2.2.2.1 _ h4) _ hi
  refine W.putK C.1 C.2.1 (f := f) ⟨C.2.2.2.1, C.2.2.2.2.1 _ h3, ⟨_, _, _, hsame⟩, hst⟩ (by rw [q2]; exact h7) q1 q3 (by rw [hsl]; exact k2_hasslot (q4 j h2)) rfl rfl hd fun H' e1 e2 e3 => ?_
  rw [hsl] at e1 ⊢
  refine kk p e s m args below meth c Q H' _ la C (hr.put hk hh e2 e3 ?_) (zloc ho hk) hl
  show va_at g.2.1 vwCl (zad g k, .inr (ci, (fs.set j v).map (zv g))) H'
  rw [← zset_map]
  exact ⟨_, h1, t_OB.to (V := updV (vp_V (fs.map (zv g))) j (zv g v)) ⟨_, e1, q2, q3, t_set q4 hap h2 (zv g v)⟩ (fun i _ => vp_updV_set (by rw [List.length_map]; exact hj) (zv g v) i)⟩
theorem zp_putF {idx k ci j : Nat} {fs fs' : List Value} {ty : FieldType} {v : Value} (hd : decode M.2.1 pc = .ok (.putfield idx, 3)) (hf : zfP M.1.cls idx ci j ty true) (hin2 : M.1.name = "<init>") (hk : 16 ≤ k) (hh : h k = some (.inl (ci, fs))) (hj : j < fs.length) (hv : zfit ty v) (he : fs.set j v = fs') (kk : zP g M R Qf cells slots (pc + 3) ls st (va_up h k (some (.inl (ci, fs')))) n) : zP g M R Qf cells slots pc ls (v :: .ref k :: st) h n := by
  intro p e s m args below meth c Q H locs la C hr ho hl
  subst he
  obtain ⟨C1, T, N, r, h1, h2, h3, h4, h5, h6, hdecl⟩ := hf
  obtain ⟨c1, ⟨ty0, c2⟩, c3, -⟩ := zcls_of h1
  have hap := va_apart (own := M.1.cls) (s := s) (args := args) C.2.2.2.2.1 c1 ty0 c2 c3 hr.1 h1
  obtain ⟨r', h1', cell, q1, q2, q3, q4⟩ := (hr.2.2.1 k _ hh).2
  have hr' : r' = (C1, T, N) := Option.some.inj (h1'.symm.trans h1)
  subst hr'
  obtain ⟨hS, hfc, kC, hkC, hkind⟩ := hr.1.1 ci _ h1
  obtain ⟨cf, kf, fi, f, hi, hsl⟩ := hS j h2
  have hlay := C.2.2.2.2.1 _ (c1 _ (u_in_lay h2))
  unfold u_lay at hlay
  rw [if_pos h6] at hlay
  have hst := (u_facts hfc hkC (u_lays C.2.2.2.2.1 c1 h2) hi).1
  have hcf : m.cls = cf := by
    obtain ⟨_, _, c', _, _, _, -, -, hf', -, -, -, hown2, -⟩ := Cond.laysFinal_spec hlay
    have e1 : c' = cf := by have := hi.symm.trans hf'; simp at this; exact this.1.symm
    rw [hdecl rfl] at hown2
    rw [← e1]; exact Option.some.inj (C.2.2.2.1.symm.trans hown2)
  have h7 := u_fits hfc hkC hkind (Or.inr hlay) hi h5 (hv g).1 (hv g).2
  have hsame : s.fieldFound? r (T j).2.1 (T j).2.2.1 = some (cf, kf, fi, f) := by
    rcases h4 with h4 | h4
    · rw [h4]; exact hi
    · exact u_same (C.2.2.2.2.1 _ h4) _ hi
  refine W.putFinK C.1 C.2.1 C.2.2.2.1 (C.2.2.2.2.1 _ h3) hsame hst hcf (C.2.2.2.2.2.2.1.trans hin2) (by rw [q2]; exact h7) q1 q3 (by rw [hsl]; exact k2_hasslot (q4 j h2)) rfl rfl hd fun H' e1 e2 e3 => ?_
  rw [hsl] at e1 ⊢
  refine kk p e s m args below meth c Q H' _ la C (hr.put hk hh e2 e3 ?_) (zloc ho hk) hl
  show va_at g.2.1 vwCl (zad g k, .inr (ci, (fs.set j v).map (zv g))) H'
  rw [← zset_map]
  exact ⟨_, h1, t_OB.to (V := updV (vp_V (fs.map (zv g))) j (zv g v)) ⟨_, e1, q2, q3, t_set q4 hap h2 (zv g v)⟩ (fun i _ => vp_updV_set (by rw [List.length_map]; exact hj) (zv g v) i)⟩
theorem zin_le {cell : Cell} {i : Int32} {N : Nat} (h : vp_in i N) (hs : N ≤ cell.slots.size) : ¬ (i < 0 ∨ cell.slots.size ≤ i.toNatClampNeg) := by
  intro q
  rcases q with q | q
  · exact h (Or.inl q)
  · exact h (Or.inr (Nat.le_trans hs q))
theorem zp_iald {k N : Nat} {f : Nat → Int32} {i : Int32} (hd : decode M.2.1 pc = .ok (.iaload, 1)) (hh : h k = some (.inr (N, .inl f))) (hi : vp_in i N) (kk : zP g M R Qf cells slots (pc + 1) ls (.int (f i.toNatClampNeg) :: st) h n) : zP g M R Qf cells slots pc ls (.int i :: .ref k :: st) h n := by
  intro p e s m args below meth c Q H locs la C hr ho hl
  obtain ⟨cell, h1, h2, h3, h4, h5, h6⟩ := (hr.2.2.1 k _ hh).2
  have hlt : i.toNatClampNeg < N := Nat.not_le.mp fun q => hi (Or.inr q)
  exact W.iald (v := .int (f i.toNatClampNeg)) C.1 C.2.1 h1 h2 h3 (zin_le hi h4) (h6 _ hlt) rfl rfl hd (kk p e s m args below meth c Q H locs la C hr ho hl)
theorem zp_lald {k N : Nat} {f : Nat → Int64} {i : Int32} (hd : decode M.2.1 pc = .ok (.laload, 1)) (hh : h k = some (.inr (N, .inr (.inl f)))) (hi : vp_in i N) (kk : zP g M R Qf cells slots (pc + 1) ls (.long (f i.toNatClampNeg) :: st) h n) : zP g M R Qf cells slots pc ls (.int i :: .ref k :: st) h n := by
  intro p e s m args below meth c Q H locs la C hr ho hl
  obtain ⟨cell, h1, h2, h3, h4, h5, h6⟩ := (hr.2.2.1 k _ hh).2
  have hlt : i.toNatClampNeg < N := Nat.not_le.mp fun q => hi (Or.inr q)
  exact W.lald (v := .long (f i.toNatClampNeg)) C.1 C.2.1 h1 h2 h3 (zin_le hi h4) (h6 _ hlt) rfl rfl hd (kk p e s m args below meth c Q H locs la C hr ho hl)
theorem zarr_set {ty : FieldType} {N a j : Nat} {f : Nat → Value} {v : Value} {s : State} {H H1 : Heap} {cell : Cell} (h1 : H[a]? = some cell) (h2 : s.isArrayOf cell ty) (h3 : cell.vm ≠ .unknown) (h4 : N ≤ cell.slots.size) (h5 : cell.slots.size.toInt32 = Int32.ofNat N) (h6 : ∀ j : Nat, j < N → cell.slots[j]? = some (f j)) (hj : j < N) (e1 : H1[a]? = some (cell.setSlot j v)) : zarr ty N (fun i => if i = j then v else f i) a s H1 := by
  refine ⟨_, e1, h2, h3, by simpa [Cell.setSlot] using h4, by simpa [Cell.setSlot] using h5, fun i hi => ?_⟩
  by_cases hij : i = j
  · subst hij
    simp [Cell.setSlot, Nat.lt_of_lt_of_le hi h4]
  · show (cell.slots.setIfInBounds j v)[i]? = some (if i = j then v else f i)
    rw [if_neg hij, Array.getElem?_setIfInBounds_ne (Ne.symm hij)]
    exact h6 i hi
theorem zp_iast {k N : Nat} {f : Nat → Int32} {i x : Int32} (hd : decode M.2.1 pc = .ok (.iastore, 1)) (hk : 16 ≤ k) (hh : h k = some (.inr (N, .inl f))) (hi : vp_in i N) (kk : zP g M R Qf cells slots (pc + 1) ls st (va_up h k (some (.inr (N, .inl (va_up f i.toNatClampNeg x))))) n) : zP g M R Qf cells slots pc ls (.int x :: .int i :: .ref k :: st) h n := by
  intro p e s m args below meth c Q H locs la C hr ho hl
  obtain ⟨cell, h1, h2, h3, h4, h5, h6⟩ := (hr.2.2.1 k _ hh).2
  have hlt : i.toNatClampNeg < N := Nat.not_le.mp fun q => hi (Or.inr q)
  refine W.iast C.1 C.2.1 h1 h2 h3 (zin_le hi h4) rfl rfl hd fun H' e1 e2 e3 => ?_
  refine kk p e s m args below meth c Q H' _ la C (hr.put hk hh e2 e3 ?_) (zloc ho hk) hl
  have := zarr_set (v := .int x) h1 h2 h3 h4 h5 h6 hlt e1
  show zarr .int N (fun j => .int (va_up f i.toNatClampNeg x j)) (zad g k) s H'
  rw [show (fun j => Value.int (va_up f i.toNatClampNeg x j)) = (fun j => if j = i.toNatClampNeg then Value.int x else Value.int (f j)) from by funext j; unfold va_up; split <;> rfl]
  exact this
theorem zp_last {k N : Nat} {f : Nat → Int64} {i : Int32} {x : Int64} (hd : decode M.2.1 pc = .ok (.lastore, 1)) (hk : 16 ≤ k) (hh : h k = some (.inr (N, .inr (.inl f)))) (hi : vp_in i N) (kk : zP g M R Qf cells slots (pc + 1) ls st (va_up h k (some (.inr (N, .inr (.inl (va_up f i.toNatClampNeg x)))))) n) : zP g M R Qf cells slots pc ls (.long x :: .int i :: .ref k :: st) h n := by
  intro p e s m args below meth c Q H locs la C hr ho hl
  obtain ⟨cell, h1, h2, h3, h4, h5, h6⟩ := (hr.2.2.1 k _ hh).2
  have hlt : i.toNatClampNeg < N := Nat.not_le.mp fun q => hi (Or.inr q)
  refine W.last C.1 C.2.1 h1 h2 h3 (zin_le hi h4) rfl rfl hd fun H' e1 e2 e3 => ?_
  refine kk p e s m args below meth c Q H' _ la C (hr.put hk hh e2 e3 ?_) (zloc ho hk) hl
  have := zarr_set (v := .long x) h1 h2 h3 h4 h5 h6 hlt e1
  show zarr .long N (fun j => .long (va_up f i.toNatClampNeg x j)) (zad g k) s H'
  rw [show (fun j => Value.long (va_up f i.toNatClampNeg x j)) = (fun j => if j = i.toNatClampNeg then Value.long x else Value.long (f j)) from by funext j; unfold va_up; split <;> rfl]
  exact this
theorem zp_ilen {k N : Nat} {f : Nat → Int32} (hd : decode M.2.1 pc = .ok (.arraylength, 1)) (hh : h k = some (.inr (N, .inl f))) (kk : zP g M R Qf cells slots (pc + 1) ls (.int (nI N) :: st) h n) : zP g M R Qf cells slots pc ls (.ref k :: st) h n := by
  intro p e s m args below meth c Q H locs la C hr ho hl
  obtain ⟨cell, h1, h2, h3, h4, h5, h6⟩ := (hr.2.2.1 k _ hh).2
  exact W.alen (n := nI N) C.1 C.2.1 h1 h2 h5 rfl rfl hd (kk p e s m args below meth c Q H locs la C hr ho hl)
theorem zp_aald {k N : Nat} {b : Bool} {f : Nat → Option Nat} {i : Int32} {v : Value} (hd : decode M.2.1 pc = .ok (.aaload, 1)) (hh : h k = some (.inr (N, .inr (.inr (b, f))))) (hi : vp_in i N) (hv : (match f i.toNatClampNeg with | none => Value.null | some a => .ref a) = v) (kk : zP g M R Qf cells slots (pc + 1) ls (v :: st) h n) : zP g M R Qf cells slots pc ls (.int i :: .ref k :: st) h n := by
  intro p e s m args below meth c Q H locs la C hr ho hl
  obtain ⟨cA, h1, h2, h3⟩ := (hr.2.2.1 k _ hh).2
  have hlt : i.toNatClampNeg < N := Nat.not_le.mp fun q => hi (Or.inr q)
  have hv2 : zv g v = va_rf ((f i.toNatClampNeg).map (zad g)) := by
    subst hv
    cases f i.toNatClampNeg <;> rfl
  refine W.aald (v := zv g v) (ty := .object (zgc b)) C.1 C.2.1 h3 (h1 N (fun j => va_rf ((f j).map (zad g)))) rfl (fun q => by cases q) (by show ¬ (i < 0 ∨ (arrV _ _ _).slots.size ≤ _); rw [arrV_size]; exact hi) (by show (arrV _ _ _).slots[_]? = _; rw [arrV_read _ _ hlt, hv2]) rfl rfl hd (kk p e s m args below meth c Q H locs la C hr ho hl)
/-- a new object of class ci: its fields hold their defaults -/
def znP (own : String) (idx ci : Nat) (fs : List Value) : Prop := ∃ (C : String) (T : u_T) (N : Nat), vwCl[ci]? = some (C, T, N) ∧ fs.length = N ∧ Cond.classLink own idx C ∈ zgood ∧ ∀ j, j < N → (parseFieldDescriptor (T j).2.2.1).map defaultValue = some (vp_V fs j)
theorem zdef_v (g : ZG) (ty : FieldType) : zv g (defaultValue ty) = defaultValue ty := by cases ty <;> rfl
theorem zp_new {idx ci : Nat} {fs : List Value} (hd : decode M.2.1 pc = .ok (.new idx, 3)) (hn : znP M.1.cls idx ci fs) (hc : cells + 1 ≤ R.cells) (hs : slots + fs.length ≤ R.slots) (kk : zP g M R Qf (cells + 1) (slots + fs.length) (pc + 3) ls (.ref n :: st) (va_up h n (some (.inl (ci, fs)))) (n + 1)) : zP g M R Qf cells slots pc ls st h n := by
  intro p e s m args below meth c Q H locs la C hr ho hl
  obtain ⟨C1, T, N, h1, rfl, h3, h4⟩ := hn
  obtain ⟨c1, ⟨ty0, c2⟩, c3, c4, c5⟩ := zcls_of h1
  have hKn := hr.1.1 ci _ h1
  have e0 : H.size = zad g n := hr.2.1.2.1
  have hfs : ∀ j, j < fs.length → defaultValue (ty0 j) = vp_V fs j := fun j hj => by
    have := h4 j hj
    rw [c2 j hj] at this
    exact Option.some.inj this
  have hfs2 : ∀ j, j < fs.length → defaultValue (ty0 j) = vp_V (fs.map (zv g)) j := fun j hj => by
    have h5 := hfs j hj
    have h6 : zv g (vp_V fs j) = vp_V fs j := by rw [← h5]; exact zdef_v g _
    rw [h5]
    simp only [vp_V, List.getD_eq_getElem?_getD, List.getElem?_map, List.getElem?_eq_getElem hj, Option.getD_some, Option.map_some] at h6 ⊢
    exact h6.symm
  refine W.newcK C.1 C.2.1 C.2.2.2.1 (C.2.2.2.2.1 _ h3) (C.2.2.2.2.1 _ c4) (C.2.2.2.2.1 _ c5) rfl hd hc hs hKn.2.1 rfl fun H1 kC hkC e1 z1 o1 => ?_
  refine W.eq (g2 := F0 m (pc + 3) la ((.ref n :: st).map (zv g))) (by rw [List.map_cons]; show _ = F0 m (pc + 3) la (.ref (zad g n) :: st.map (zv g)); rw [← e0]) ?_
  refine kk p e s m args below meth c Q H1 locs la C (hr.push z1 o1 ?_) ho hl
  exact ⟨_, h1, (u_born ty0 C.2.2.2.2.1 c1 hKn hkC e1 c2).to hfs2⟩
set_option maxRecDepth 100000 in
theorem zac_i : Cond.arrayClass .int ∈ zgood := by decide +kernel
set_option maxRecDepth 100000 in
theorem zac_l : Cond.arrayClass .long ∈ zgood := by decide +kernel
theorem zarr_new {ty : FieldType} {N a : Nat} {cA : ClassId} {v : Value} {s : State} {H : Heap} (hA : ArrOfT s cA ty) (h : H[a]? = some (arrV cA N (fun _ => v))) : zarr ty N (fun _ => v) a s H :=
  ⟨_, h, hA N _, fun q => (by cases q), Nat.le_of_eq (by rw [arrV_size]), by rw [arrV_size], fun j hj => by rw [arrV_read _ _ hj]⟩
theorem zp_newi {x : Int32} {N : Nat} (hd : decode M.2.1 pc = .ok (.newarray .int, 2)) (hx : ¬ x < 0) (hN : x.toNatClampNeg = N) (hb : N * 4 ≤ 536870912) (hc : cells + 1 ≤ R.cells) (hs : slots + N ≤ R.slots) (kk : zP g M R Qf (cells + 1) (slots + N) (pc + 2) ls (.ref n :: st) (va_up h n (some (.inr (N, .inl (fun _ => 0))))) (n + 1)) : zP g M R Qf cells slots pc ls (.int x :: st) h n := by
  intro p e s m args below meth c Q H locs la C hr ho hl
  have e0 : H.size = zad g n := hr.2.1.2.1
  refine va_newaK (atype := .int) C.1 C.2.1 (C.2.2.2.2.1 _ zac_i) rfl hd rfl hx hN hb hc hs rfl fun H1 cA e1 z1 o1 hA _ => ?_
  refine W.eq (g2 := F0 m (pc + 2) la ((.ref n :: st).map (zv g))) (by rw [List.map_cons]; show _ = F0 m (pc + 2) la (.ref (zad g n) :: st.map (zv g)); rw [← e0]) ?_
  refine kk p e s m args below meth c Q H1 locs la C (hr.push z1 o1 ?_) ho hl
  exact zarr_new (v := .int 0) hA e1
theorem zp_newl {x : Int32} {N : Nat} (hd : decode M.2.1 pc = .ok (.newarray .long, 2)) (hx : ¬ x < 0) (hN : x.toNatClampNeg = N) (hb : N * 8 ≤ 536870912) (hc : cells + 1 ≤ R.cells) (hs : slots + N ≤ R.slots) (kk : zP g M R Qf (cells + 1) (slots + N) (pc + 2) ls (.ref n :: st) (va_up h n (some (.inr (N, .inr (.inl (fun _ => 0)))))) (n + 1)) : zP g M R Qf cells slots pc ls (.int x :: st) h n := by
  intro p e s m args below meth c Q H locs la C hr ho hl
  have e0 : H.size = zad g n := hr.2.1.2.1
  refine va_newaK (atype := .long) C.1 C.2.1 (C.2.2.2.2.1 _ zac_l) rfl hd rfl hx hN hb hc hs rfl fun H1 cA e1 z1 o1 hA _ => ?_
  refine W.eq (g2 := F0 m (pc + 2) la ((.ref n :: st).map (zv g))) (by rw [List.map_cons]; show _ = F0 m (pc + 2) la (.ref (zad g n) :: st.map (zv g)); rw [← e0]) ?_
  refine kk p e s m args below meth c Q H1 locs la C (hr.push z1 o1 ?_) ho hl
  exact zarr_new (v := .long 0) hA e1
theorem zp_newq {idx : Nat} {b : Bool} {x : Int32} {N : Nat} (hd : decode M.2.1 pc = .ok (.anewarray idx, 3)) (hk : Cond.classLink M.1.cls idx (zgc b) ∈ zgood) (ha : Cond.arrayOver (.object (zgc b)) ∈ znest) (hx : ¬ x < 0) (hN : x.toNatClampNeg = N) (hb : N * 4 ≤ 536870912) (hc : cells + 1 ≤ R.cells) (hs : slots + N ≤ R.slots) (kk : zP g M R Qf (cells + 1) (slots + N) (pc + 3) ls (.ref n :: st) (va_up h n (some (.inr (N, .inr (.inr (b, fun _ => none)))))) (n + 1)) : zP g M R Qf cells slots pc ls (.int x :: st) h n := by
  intro p e s m args below meth c Q H locs la C hr ho hl
  have e0 : H.size = zad g n := hr.2.1.2.1
  subst hN
  refine W.anew C.1 C.2.1 C.2.2.2.1 (C.2.2.2.2.1 _ hk) (va_AO.use (C.2.2.2.2.2.1 _ ha)) rfl hd rfl hx hb hc hs fun cA kA comp f1 f2 f3 f4 => ?_
  generalize hH1 : H.push ({ cls := cA, slots := Array.replicate x.toNatClampNeg .null, vm := .none } : Cell) = H1
  have z1 : H1.size = H.size + 1 := by rw [← hH1, Array.size_push]
  have e1 : H1[H.size]? = some (arrV cA x.toNatClampNeg (fun _ => .null)) := by rw [← hH1, Array.getElem?_push_size, ← arrV_new]
  have o1 : ∀ q : Nat, q < H.size → H1[q]? = H[q]? := fun q hq => by rw [← hH1, Array.getElem?_push, if_neg (Nat.ne_of_lt hq)]
  refine W.eq (g2 := F0 m (pc + 3) la ((.ref n :: st).map (zv g))) (by rw [List.map_cons]; show _ = F0 m (pc + 3) la (.ref (zad g n) :: st.map (zv g)); rw [← e0]) ?_
  refine kk p e s m args below meth c Q H1 locs la C (hr.push z1 o1 ?_) ho hl
  exact ⟨cA, fun N z => ⟨(fun k h => by cases h), kA, f2, comp, f3⟩, ⟨kA, comp, f2, f3, f4, f1⟩, by rw [e1]; rfl⟩
def zsP (own : String) (idx t : Nat) : Prop := ∃ r nm d : String, Cond.fieldLink own idx r nm d ∈ zgood ∧ (r, nm, d, t) ∈ zstat ∧ t < 16
theorem zp_gets {idx t : Nat} (hd : decode M.2.1 pc = .ok (.getstatic idx, 3)) (hz : zsP M.1.cls idx t) (kk : zP g M R Qf cells slots (pc + 3) ls (.ref t :: st) h n) : zP g M R Qf cells slots pc ls st h n := by
  intro p e s m args below meth c Q H locs la C hr ho hl
  obtain ⟨r, nm, d, h1, hz1, hz2⟩ := hz
  obtain ⟨cf, kf, fi, f, a, cell, g1, g2, g3, g4, g5, g6, g7, g8⟩ := hr.2.2.2 _ hz1
  refine W.gets C.1 C.2.1 C.2.2.2.1 (C.2.2.2.2.1 _ h1) g1 g2 g3 g4 g5 (fun e => by rw [e] at g6; cases g6) g7 rfl hd ?_
  refine W.eq (g2 := F0 m (pc + 3) la ((.ref t :: st).map (zv g))) (by rw [List.map_cons]; show _ = F0 m (pc + 3) la (.ref (zad g t) :: st.map (zv g)); unfold zad; rw [if_pos hz2]) ?_
  exact kk p e s m args below meth c Q H locs la C hr ho hl
theorem zarq_set {N j a : Nat} {C : String} {f f' : Nat → Option Nat} {x : Option Nat} {cA : ClassId} {s : State} {H1 : Heap} (h1 : ArrOfT s cA (.object C)) (h2 : va_RA s cA (.object C)) (hf : va_up f j x = f') (e : H1[a]? = some ((vp_cell cA (N, .inr (.inr (.inr (.inr (fun j => (f j).map (zad g))))))).setSlot j (va_rf (x.map (zad g))))) : zarq g C N f' a s H1 := by
  subst hf
  refine ⟨cA, h1, h2, ?_⟩
  rw [e, vp_cell_q, vp_cell_q, arrV_store]
  congr 2
  funext q
  by_cases hq : q = j
  · subst hq
    simp [updV, va_up]
  · simp [updV, va_up, hq]
theorem zp_aastN {k N : Nat} {b : Bool} {f : Nat → Option Nat} {i : Int32} (hd : decode M.2.1 pc = .ok (.aastore, 1)) (hk : 16 ≤ k) (hh : h k = some (.inr (N, .inr (.inr (b, f))))) (hi : vp_in i N) (kk : zP g M R Qf cells slots (pc + 1) ls st (va_up h k (some (.inr (N, .inr (.inr (b, va_up f i.toNatClampNeg none)))))) n) : zP g M R Qf cells slots pc ls (.null :: .int i :: .ref k :: st) h n := by
  intro p e s m args below meth c Q H locs la C hr ho hl
  obtain ⟨cA, h1, h2, h3⟩ := (hr.2.2.1 k _ hh).2
  refine va_WaastN (C := zgc b) C.1 C.2.1 h3 (h1 N (fun j => va_rf ((f j).map (zad g)))) (fun h => by cases h) (by show ¬ (i < 0 ∨ (arrV _ _ _).slots.size ≤ _); rw [arrV_size]; exact hi) rfl rfl hd fun H1 e1 z1 o1 => ?_
  refine kk p e s m args below meth c Q H1 _ la C (hr.put hk hh z1 o1 ?_) (zloc ho hk) hl
  exact zarq_set (x := none) h1 h2 rfl e1
theorem zp_aast {k N v ci : Nat} {b : Bool} {f : Nat → Option Nat} {fs : List Value} {q0 : vw_C} {i : Int32} (hd : decode M.2.1 pc = .ok (.aastore, 1)) (hk : 16 ≤ k) (hh : h k = some (.inr (N, .inr (.inr (b, f))))) (hi : vp_in i N) (hv : h v = some (.inl (ci, fs))) (hci : vwCl[ci]? = some q0) (hca : q0.1 = zgc b ∨ Cond.castable q0.1 (zgc b) ∈ znest) (kk : zP g M R Qf cells slots (pc + 1) ls st (va_up h k (some (.inr (N, .inr (.inr (b, va_up f i.toNatClampNeg (some v))))))) n) : zP g M R Qf cells slots pc ls (.ref v :: .int i :: .ref k :: st) h n := by
  intro p e s m args below meth c Q H locs la C hr ho hl
  obtain ⟨cA, h1, h2, h3⟩ := (hr.2.2.1 k _ hh).2
  have hlt : i.toNatClampNeg < N := Nat.not_le.mp fun q => hi (Or.inr q)
  have h0 : ¬ i < 0 := fun q => hi (Or.inl q)
  obtain ⟨r', hr', cellV, g1, g2, g3, -⟩ := (hr.2.2.1 v _ hv).2
  have hcls := (hr.1.1 ci q0 hci).2
  obtain ⟨kA, comp, k1, k2, k3, -⟩ := id h2
  obtain ⟨kC, hkC, hkC2⟩ := hcls.2
  have hcomp : ∃ kE, s.vm.classes[comp]? = some kE ∧ s.vm.assignable (g.2.1.1 ci) comp = true := by
    rcases hca with hca | hca
    · have : comp = g.2.1.1 ci := Option.some.inj (k3.symm.trans (by rw [← hca]; exact hcls.1))
      subst this
      exact ⟨kC, hkC, va_assign hcls⟩
    · obtain ⟨kE, hkE, -⟩ := Vm.findClass_spec k3
      obtain ⟨c0, t1, f1, f2, f3⟩ := Cond.castable_spec (va_Nw.use (A := args) rfl (C.2.2.2.2.2.1 _ hca))
      cases hcls.1.symm.trans f1
      cases k3.symm.trans f2
      exact ⟨kE, hkE, f3⟩
  obtain ⟨kE, hkE, hasg⟩ := hcomp
  refine W.aast C.1 C.2.1 h3 (fun q h => by cases h) (fun h => by cases h) k1 k2 rfl hkE ⟨h0, by show _ < (arrV _ _ _).slots.size; rw [arrV_size]; exact hlt⟩ g1 (fun q h => by rw [g3] at h; cases h) (by rw [g2]; exact hkC) (by rw [g2]; exact hasg) rfl rfl hd fun H1 e1 z1 o1 => ?_
  refine kk p e s m args below meth c Q H1 _ la C (hr.put hk hh z1 o1 ?_) (zloc ho hk) hl
  exact zarq_set (x := some v) h1 h2 rfl e1
end ZS
