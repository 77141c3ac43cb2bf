/-! THE CLAIM OUT OF ONE WALK OF THE LAW'S BODY. Your part is whole_start (and what it stands on); all else here is the same for every law, but numbers. -/
def R_law : String := "BitWellLaw"
def lw_P (b : Addr) (xs : List Int32) (args : Array Value) (s : State) : Prop := args = #[.ref b] ∧ s.IntsAt b xs ∧ xs.length ≤ 3072 ∧ (Jvm.Cond.and given_1 narrow_1).before args s = true
def lw_Q (_ : Array Value) (s : State) (o : Outcome) (t : State) : Prop := o = .returned (some (.int 1)) ∧ Framed s o t [] 600000 7302250
def lw_Z (below : List Frame) (a : Array Value) (s : State) : State → Prop := fun t => ∃ o, t.status = .running ∧ Ended t below o ∧ lw_Q a s o t
/-- the law's own end, with 1 on the stack, nothing written that was there before, its room as the claim has it -/
theorem lw_ret {p : Program} {l : Launch} {e : Env} {s : State} {m : MethodId} {below : List Frame} {meth : Method} {c : Code} {b : Nat} (hx : p.tables.exec = Jvm.exec) (hb : c.code = code) (hr : meth.sig.returnType = ret) (hlocks : meth.locks = false) {pc : Nat} {H : Heap} {ls : Array Slot} (hdg : decode code pc = .ok (.ireturn, 1)) : W p l e room_1 s m #[Value.ref b] below meth c H [] 600000 7302250 (lw_Z below #[Value.ref b] s) (F0 m pc ls [.int 1]) := by
  intro T hT X
  obtain ⟨fs, hret, hrun, hended, hW, hframe⟩ := X.leave (v := some (.int 1)) (hlocks := hlocks) (fun h => by rw [hr] at h; cases h)
  have hmeth' : T.vm.method? m = some meth := X.method'
  refine ⟨T.setFrames fs, ?_, .returned (some (.int 1)), hrun, hended, rfl, ⟨_, rfl⟩, hW, hframe⟩
  jvm_step X.here [X.here.top, hx, hb, hdg, hmeth', hr, ret, narrow_b1]
  (try refine ⟨rfl, ?_⟩); (try refine ⟨rfl, ?_⟩)
  first | (intro acts; rw [hret _ acts rfl rfl rfl]) | rw [hret _ _ rfl rfl rfl]
  exact Steps.refl _
/-- what holds at the law's entry: the machine, the code, the tables' words (any of lw_tbl by 'hts w (by decide +kernel)'), the script of L ints xs at the cell b, what the Statement gives of the start (any of its parts by flat_of_before) -/
def lw_At (p : Program) (s : State) (m : MethodId) (meth : Method) (c : Code) (b L : Nat) (xs : Nat → Int32) : Prop :=
  p.tables.exec = Jvm.exec ∧ c.code = code ∧ meth.sig.returnType = ret ∧ c.maxLocals = 4 ∧ s.vm.findClass R_law = some m.cls ∧ (∀ w ∈ lw_tbl, w.before #[Value.ref b] s = true) ∧ va_X b L xs s s.heap ∧ b < s.heap.size ∧ meth.locks = false ∧ (Jvm.Cond.and given_1 narrow_1).before #[Value.ref b] s = true
/-! the start: tables, classes, the script -/
abbrev zstC : Cond := Jvm.Cond.and given_1 narrow_1
def zoff (s : State) : Nat → Prop := fun a => s.heap.size ≤ a
set_option maxRecDepth 100000 in
theorem zsl_1 : (flatC zstC)[64]? = some (Cond.arrayOf (Term.static "BitWell$Cipher" "BOX" "[I") .int) ∧ (flatC zstC)[65]? = some (Cond.eq (.length (Term.static "BitWell$Cipher" "BOX" "[I")) (.int (Int32.ofNat 256))) := by decide +kernel
set_option maxRecDepth 100000 in
theorem zse_1 : ∀ j, j < 256 → (flatC zstC)[66 + j]? = some (Cond.eq (.elem (Term.static "BitWell$Cipher" "BOX" "[I") (.int (Int32.ofNat j))) (.int (zt_BOX.getD j 0))) := by decide +kernel
theorem zst_1 {args : Array Value} {s : State} (h : zstC.before args s = true) : ∃ t : Nat, (Term.static "BitWell$Cipher" "BOX" "[I").eval args s none [] s = some (.ref t) ∧ va_T .int t 256 (fun j => .int (zt_BOX.getD j 0)) (zoff s) s s.heap := by
  have hs := flat_of_before _ h
  exact va_Tof (by decide) (hs _ (List.mem_of_getElem? zsl_1.1)) (va_eqt (hs _ (List.mem_of_getElem? zsl_1.2))) (fun j hj => va_eqt (hs _ (List.mem_of_getElem? (zse_1 j hj)))) (fun a ha q => absurd q (Nat.not_le.mpr ha))
set_option maxRecDepth 100000 in
theorem zsz_1 : lw_tbl[642]? = some (Cond.laysStatic "BitWell$Cipher" "BOX" "[I") ∧ lw_tbl[57]? = some (Cond.initialized "BitWell$Cipher") := by decide +kernel
set_option maxRecDepth 100000 in
theorem zsl_2 : (flatC zstC)[323]? = some (Cond.arrayOf (Term.static "BitWell$Digest" "FIRST" "[J") .long) ∧ (flatC zstC)[324]? = some (Cond.eq (.length (Term.static "BitWell$Digest" "FIRST" "[J")) (.int (Int32.ofNat 8))) := by decide +kernel
set_option maxRecDepth 100000 in
theorem zse_2 : ∀ j, j < 8 → (flatC zstC)[325 + j]? = some (Cond.eq (.elem (Term.static "BitWell$Digest" "FIRST" "[J") (.int (Int32.ofNat j))) (.long (zt_FIRST.getD j 0))) := by decide +kernel
theorem zst_2 {args : Array Value} {s : State} (h : zstC.before args s = true) : ∃ t : Nat, (Term.static "BitWell$Digest" "FIRST" "[J").eval args s none [] s = some (.ref t) ∧ va_T .long t 8 (fun j => .long (zt_FIRST.getD j 0)) (zoff s) s s.heap := by
  have hs := flat_of_before _ h
  exact va_Tof (by decide) (hs _ (List.mem_of_getElem? zsl_2.1)) (va_eqt (hs _ (List.mem_of_getElem? zsl_2.2))) (fun j hj => va_eqtl (hs _ (List.mem_of_getElem? (zse_2 j hj)))) (fun a ha q => absurd q (Nat.not_le.mpr ha))
set_option maxRecDepth 100000 in
theorem zsz_2 : lw_tbl[729]? = some (Cond.laysStatic "BitWell$Digest" "FIRST" "[J") ∧ lw_tbl[58]? = some (Cond.initialized "BitWell$Digest") := by decide +kernel
set_option maxRecDepth 100000 in
theorem zsl_3 : (flatC zstC)[334]? = some (Cond.arrayOf (Term.static "BitWell$Digest" "ROUND" "[J") .long) ∧ (flatC zstC)[335]? = some (Cond.eq (.length (Term.static "BitWell$Digest" "ROUND" "[J")) (.int (Int32.ofNat 80))) := by decide +kernel
set_option maxRecDepth 100000 in
theorem zse_3 : ∀ j, j < 80 → (flatC zstC)[336 + j]? = some (Cond.eq (.elem (Term.static "BitWell$Digest" "ROUND" "[J") (.int (Int32.ofNat j))) (.long (zt_ROUND.getD j 0))) := by decide +kernel
theorem zst_3 {args : Array Value} {s : State} (h : zstC.before args s = true) : ∃ t : Nat, (Term.static "BitWell$Digest" "ROUND" "[J").eval args s none [] s = some (.ref t) ∧ va_T .long t 80 (fun j => .long (zt_ROUND.getD j 0)) (zoff s) s s.heap := by
  have hs := flat_of_before _ h
  exact va_Tof (by decide) (hs _ (List.mem_of_getElem? zsl_3.1)) (va_eqt (hs _ (List.mem_of_getElem? zsl_3.2))) (fun j hj => va_eqtl (hs _ (List.mem_of_getElem? (zse_3 j hj)))) (fun a ha q => absurd q (Nat.not_le.mpr ha))
set_option maxRecDepth 100000 in
theorem zsz_3 : lw_tbl[743]? = some (Cond.laysStatic "BitWell$Digest" "ROUND" "[J") ∧ lw_tbl[58]? = some (Cond.initialized "BitWell$Digest") := by decide +kernel
set_option maxRecDepth 100000 in
theorem zsl_4 : (flatC zstC)[20]? = some (Cond.arrayOf (Term.static "BitWell$Digest" "SMALL_TURNS" "[I") .int) ∧ (flatC zstC)[21]? = some (Cond.eq (.length (Term.static "BitWell$Digest" "SMALL_TURNS" "[I")) (.int (Int32.ofNat 12))) := by decide +kernel
set_option maxRecDepth 100000 in
theorem zse_4 : ∀ j, j < 12 → (flatC zstC)[22 + j]? = some (Cond.eq (.elem (Term.static "BitWell$Digest" "SMALL_TURNS" "[I") (.int (Int32.ofNat j))) (.int (zt_SMALL.getD j 0))) := by decide +kernel
theorem zst_4 {args : Array Value} {s : State} (h : zstC.before args s = true) : ∃ t : Nat, (Term.static "BitWell$Digest" "SMALL_TURNS" "[I").eval args s none [] s = some (.ref t) ∧ va_T .int t 12 (fun j => .int (zt_SMALL.getD j 0)) (zoff s) s s.heap := by
  have hs := flat_of_before _ h
  exact va_Tof (by decide) (hs _ (List.mem_of_getElem? zsl_4.1)) (va_eqt (hs _ (List.mem_of_getElem? zsl_4.2))) (fun j hj => va_eqt (hs _ (List.mem_of_getElem? (zse_4 j hj)))) (fun a ha q => absurd q (Nat.not_le.mpr ha))
set_option maxRecDepth 100000 in
theorem zsz_4 : lw_tbl[191]? = some (Cond.laysStatic "BitWell$Digest" "SMALL_TURNS" "[I") ∧ lw_tbl[58]? = some (Cond.initialized "BitWell$Digest") := by decide +kernel
set_option maxRecDepth 100000 in
theorem zsl_5 : (flatC zstC)[5]? = some (Cond.arrayOf (Term.static "BitWell$Digest" "GREAT_TURNS" "[I") .int) ∧ (flatC zstC)[6]? = some (Cond.eq (.length (Term.static "BitWell$Digest" "GREAT_TURNS" "[I")) (.int (Int32.ofNat 12))) := by decide +kernel
set_option maxRecDepth 100000 in
theorem zse_5 : ∀ j, j < 12 → (flatC zstC)[7 + j]? = some (Cond.eq (.elem (Term.static "BitWell$Digest" "GREAT_TURNS" "[I") (.int (Int32.ofNat j))) (.int (zt_GREAT.getD j 0))) := by decide +kernel
theorem zst_5 {args : Array Value} {s : State} (h : zstC.before args s = true) : ∃ t : Nat, (Term.static "BitWell$Digest" "GREAT_TURNS" "[I").eval args s none [] s = some (.ref t) ∧ va_T .int t 12 (fun j => .int (zt_GREAT.getD j 0)) (zoff s) s s.heap := by
  have hs := flat_of_before _ h
  exact va_Tof (by decide) (hs _ (List.mem_of_getElem? zsl_5.1)) (va_eqt (hs _ (List.mem_of_getElem? zsl_5.2))) (fun j hj => va_eqt (hs _ (List.mem_of_getElem? (zse_5 j hj)))) (fun a ha q => absurd q (Nat.not_le.mpr ha))
set_option maxRecDepth 100000 in
theorem zsz_5 : lw_tbl[189]? = some (Cond.laysStatic "BitWell$Digest" "GREAT_TURNS" "[I") ∧ lw_tbl[58]? = some (Cond.initialized "BitWell$Digest") := by decide +kernel
set_option maxRecDepth 100000 in
theorem zsl_6 : (flatC zstC)[46]? = some (Cond.arrayOf (Term.static "BitWell$Generator" "STRENGTHS" "[I") .int) ∧ (flatC zstC)[47]? = some (Cond.eq (.length (Term.static "BitWell$Generator" "STRENGTHS" "[I")) (.int (Int32.ofNat 4))) := by decide +kernel
set_option maxRecDepth 100000 in
theorem zse_6 : ∀ j, j < 4 → (flatC zstC)[48 + j]? = some (Cond.eq (.elem (Term.static "BitWell$Generator" "STRENGTHS" "[I") (.int (Int32.ofNat j))) (.int (zt_STRENGTHS.getD j 0))) := by decide +kernel
theorem zst_6 {args : Array Value} {s : State} (h : zstC.before args s = true) : ∃ t : Nat, (Term.static "BitWell$Generator" "STRENGTHS" "[I").eval args s none [] s = some (.ref t) ∧ va_T .int t 4 (fun j => .int (zt_STRENGTHS.getD j 0)) (zoff s) s s.heap := by
  have hs := flat_of_before _ h
  exact va_Tof (by decide) (hs _ (List.mem_of_getElem? zsl_6.1)) (va_eqt (hs _ (List.mem_of_getElem? zsl_6.2))) (fun j hj => va_eqt (hs _ (List.mem_of_getElem? (zse_6 j hj)))) (fun a ha q => absurd q (Nat.not_le.mpr ha))
set_option maxRecDepth 100000 in
theorem zsz_6 : lw_tbl[387]? = some (Cond.laysStatic "BitWell$Generator" "STRENGTHS" "[I") ∧ lw_tbl[61]? = some (Cond.initialized "BitWell$Generator") := by decide +kernel
set_option maxRecDepth 100000 in
theorem zsl_7 : (flatC zstC)[35]? = some (Cond.arrayOf (Term.static "BitWell$Generator" "STRONGEST" "[I") .int) ∧ (flatC zstC)[36]? = some (Cond.eq (.length (Term.static "BitWell$Generator" "STRONGEST" "[I")) (.int (Int32.ofNat 8))) := by decide +kernel
set_option maxRecDepth 100000 in
theorem zse_7 : ∀ j, j < 8 → (flatC zstC)[37 + j]? = some (Cond.eq (.elem (Term.static "BitWell$Generator" "STRONGEST" "[I") (.int (Int32.ofNat j))) (.int (zt_STRONGEST.getD j 0))) := by decide +kernel
theorem zst_7 {args : Array Value} {s : State} (h : zstC.before args s = true) : ∃ t : Nat, (Term.static "BitWell$Generator" "STRONGEST" "[I").eval args s none [] s = some (.ref t) ∧ va_T .int t 8 (fun j => .int (zt_STRONGEST.getD j 0)) (zoff s) s s.heap := by
  have hs := flat_of_before _ h
  exact va_Tof (by decide) (hs _ (List.mem_of_getElem? zsl_7.1)) (va_eqt (hs _ (List.mem_of_getElem? zsl_7.2))) (fun j hj => va_eqt (hs _ (List.mem_of_getElem? (zse_7 j hj)))) (fun a ha q => absurd q (Nat.not_le.mpr ha))
set_option maxRecDepth 100000 in
theorem zsz_7 : lw_tbl[382]? = some (Cond.laysStatic "BitWell$Generator" "STRONGEST" "[I") ∧ lw_tbl[61]? = some (Cond.initialized "BitWell$Generator") := by decide +kernel
set_option maxRecDepth 100000 in
theorem zsl_8 : (flatC zstC)[53]? = some (Cond.arrayOf (Term.static "BitWell$Generator" "SEED_LENGTHS" "[I") .int) ∧ (flatC zstC)[54]? = some (Cond.eq (.length (Term.static "BitWell$Generator" "SEED_LENGTHS" "[I")) (.int (Int32.ofNat 8))) := by decide +kernel
set_option maxRecDepth 100000 in
theorem zse_8 : ∀ j, j < 8 → (flatC zstC)[55 + j]? = some (Cond.eq (.elem (Term.static "BitWell$Generator" "SEED_LENGTHS" "[I") (.int (Int32.ofNat j))) (.int (zt_SEEDL.getD j 0))) := by decide +kernel
theorem zst_8 {args : Array Value} {s : State} (h : zstC.before args s = true) : ∃ t : Nat, (Term.static "BitWell$Generator" "SEED_LENGTHS" "[I").eval args s none [] s = some (.ref t) ∧ va_T .int t 8 (fun j => .int (zt_SEEDL.getD j 0)) (zoff s) s s.heap := by
  have hs := flat_of_before _ h
  exact va_Tof (by decide) (hs _ (List.mem_of_getElem? zsl_8.1)) (va_eqt (hs _ (List.mem_of_getElem? zsl_8.2))) (fun j hj => va_eqt (hs _ (List.mem_of_getElem? (zse_8 j hj)))) (fun a ha q => absurd q (Nat.not_le.mpr ha))
set_option maxRecDepth 100000 in
theorem zsz_8 : lw_tbl[405]? = some (Cond.laysStatic "BitWell$Generator" "SEED_LENGTHS" "[I") ∧ lw_tbl[61]? = some (Cond.initialized "BitWell$Generator") := by decide +kernel
set_option maxRecDepth 100000 in
theorem zsl_9 : (flatC zstC)[417]? = some (Cond.arrayOf (Term.static "BitWellModel" "TURNS" "[I") .int) ∧ (flatC zstC)[418]? = some (Cond.eq (.length (Term.static "BitWellModel" "TURNS" "[I")) (.int (Int32.ofNat 24))) := by decide +kernel
set_option maxRecDepth 100000 in
theorem zse_9 : ∀ j, j < 24 → (flatC zstC)[419 + j]? = some (Cond.eq (.elem (Term.static "BitWellModel" "TURNS" "[I") (.int (Int32.ofNat j))) (.int (zt_TURNS.getD j 0))) := by decide +kernel
theorem zst_9 {args : Array Value} {s : State} (h : zstC.before args s = true) : ∃ t : Nat, (Term.static "BitWellModel" "TURNS" "[I").eval args s none [] s = some (.ref t) ∧ va_T .int t 24 (fun j => .int (zt_TURNS.getD j 0)) (zoff s) s s.heap := by
  have hs := flat_of_before _ h
  exact va_Tof (by decide) (hs _ (List.mem_of_getElem? zsl_9.1)) (va_eqt (hs _ (List.mem_of_getElem? zsl_9.2))) (fun j hj => va_eqt (hs _ (List.mem_of_getElem? (zse_9 j hj)))) (fun a ha q => absurd q (Nat.not_le.mpr ha))
set_option maxRecDepth 100000 in
theorem zsz_9 : lw_tbl[1212]? = some (Cond.laysStatic "BitWellModel" "TURNS" "[I") ∧ lw_tbl[59]? = some (Cond.initialized "BitWellModel") := by decide +kernel
theorem zgood_tbl {w : Cond} (h : w ∈ zgood) : w ∈ lw_tbl := (List.mem_filter.mp h).1
theorem zknown {args : Array Value} {s : State} (hts : ∀ w ∈ lw_tbl, w.before args s = true) : ∃ D : va_G, va_K D vwCl [] s := by
  have k : ∀ c : Nat, ∃ (cC : ClassId) (iS : Nat → Nat), ∀ q : vw_C, vwCl[c]? = some q → u_Kn s q.1 q.2.1 q.2.2 cC iS := by
    intro c
    cases h : vwCl[c]? with
    | none => exact ⟨0, fun _ => 0, fun q hq => by cases hq⟩
    | some r =>
      obtain ⟨cC, iS, h2⟩ := u_known (C := r.1) (T := r.2.1) (N := r.2.2) (n := r.2.2) hts (fun w hw => zgood_tbl ((zcls_of h).1 w hw)) (hts _ (zgood_tbl (zcls_of h).2.2.2.1))
      exact ⟨cC, iS, fun q hq => by cases (Option.some.inj hq); exact h2⟩
  exact ⟨(fun c => Classical.choose (k c), fun c => Classical.choose (Classical.choose_spec (k c))), fun c q hq => Classical.choose_spec (Classical.choose_spec (k c)) q hq, fun i q hq => by cases hq⟩
/-- the heap at the start, by numbers -/
def zh0 (L : Nat) (xs : Nat → Int32) : ZH := fun k => match k with
  | 0 => some (.inr (L, .inl xs))
  | 1 => some (.inr (256, .inl (fun j => zt_BOX.getD j 0)))
  | 2 => some (.inr (8, .inr (.inl (fun j => zt_FIRST.getD j 0))))
  | 3 => some (.inr (80, .inr (.inl (fun j => zt_ROUND.getD j 0))))
  | 4 => some (.inr (12, .inl (fun j => zt_SMALL.getD j 0)))
  | 5 => some (.inr (12, .inl (fun j => zt_GREAT.getD j 0)))
  | 6 => some (.inr (4, .inl (fun j => zt_STRENGTHS.getD j 0)))
  | 7 => some (.inr (8, .inl (fun j => zt_STRONGEST.getD j 0)))
  | 8 => some (.inr (8, .inl (fun j => zt_SEEDL.getD j 0)))
  | 9 => some (.inr (24, .inl (fun j => zt_TURNS.getD j 0)))
  | _ => none
theorem zh0_tab (L : Nat) (xs : Nat → Int32) : ztab (zh0 L xs) := ⟨rfl, rfl, rfl, rfl, rfl, rfl, rfl, rfl, rfl⟩
def ztad (b t1 t2 t3 t4 t5 t6 t7 t8 t9 : Nat) : Nat → Nat := fun k => match k with
  | 1 => t1 | 2 => t2 | 3 => t3 | 4 => t4 | 5 => t5 | 6 => t6 | 7 => t7 | 8 => t8 | 9 => t9 | _ => b
theorem va_T.zarr {ty : FieldType} {t N : Nat} {f : Nat → Value} {A : Nat → Prop} {s : State} {H : Heap} (h : va_T ty t N f A s H) : zarr ty N f t s H := by
  obtain ⟨cell, h1, h2, h3, h4, h5, h6, -⟩ := h
  exact ⟨cell, h1, h2, h3, h4, h5, h6⟩
theorem zarr.lt {ty : FieldType} {t N : Nat} {f : Nat → Value} {s : State} {H : Heap} (h : zarr ty N f t s H) : t < H.size := by
  obtain ⟨cell, h1, -⟩ := h
  exact (Array.getElem?_eq_some_iff.mp h1).1
set_option maxHeartbeats 4000000 in
theorem whole_start {p : Program} {e : Env} {s : State} {m : MethodId} {below : List Frame} {meth : Method} {c : Code} (l : Launch) {b L : Nat} {xs : Nat → Int32} (hL : L ≤ 3072) (C0 : lw_At p s m meth c b L xs) : W p l e room_1 s m #[Value.ref b] below meth c s.heap [] 0 0 (lw_Z below #[Value.ref b] s) (entryFrame m ([Value.ref b] : List Value).toArray 4) := by
  obtain ⟨hx, hb, hr, hml, hown, hts, hX, hbl, hlk, hgv⟩ := C0
  obtain ⟨D, hK⟩ := zknown hts
  obtain ⟨t1, v1, T1⟩ := zst_1 hgv
  have q1 := T1.zarr
  obtain ⟨t2, v2, T2⟩ := zst_2 hgv
  have q2 := T2.zarr
  obtain ⟨t3, v3, T3⟩ := zst_3 hgv
  have q3 := T3.zarr
  obtain ⟨t4, v4, T4⟩ := zst_4 hgv
  have q4 := T4.zarr
  obtain ⟨t5, v5, T5⟩ := zst_5 hgv
  have q5 := T5.zarr
  obtain ⟨t6, v6, T6⟩ := zst_6 hgv
  have q6 := T6.zarr
  obtain ⟨t7, v7, T7⟩ := zst_7 hgv
  have q7 := T7.zarr
  obtain ⟨t8, v8, T8⟩ := zst_8 hgv
  have q8 := T8.zarr
  obtain ⟨t9, v9, T9⟩ := zst_9 hgv
  have q9 := T9.zarr
  have hx0 : zarr .int L (fun j => .int (xs j)) b s s.heap := by
    obtain ⟨cell, h1, h2, h3, h4, h5⟩ := hX
    exact ⟨cell, h1, h2, h3, by omega, by rw [h4], h5⟩
  obtain ⟨g, eg⟩ : ∃ g : ZG, g = (l, D, s.heap.size, ztad b t1 t2 t3 t4 t5 t6 t7 t8 t9) := ⟨_, rfl⟩
  have eg1 : g.1 = l := by rw [eg]
  have eg2 : g.2.2.1 = s.heap.size := by rw [eg]
  have eg3 : g.2.2.2 = ztad b t1 t2 t3 t4 t5 t6 t7 t8 t9 := by rw [eg]
  have hz : zr g (zh0 L xs) 16 s s.heap := by
    refine ⟨by rw [eg]; exact hK, ⟨Nat.le_refl _, ?_, ?_⟩, ?_, ?_⟩
    · unfold zad; rw [if_neg (by decide), eg2]; rfl
    · intro k hk
      rw [eg2, eg3]
      have : k = 0 ∨ k = 1 ∨ k = 2 ∨ k = 3 ∨ k = 4 ∨ k = 5 ∨ k = 6 ∨ k = 7 ∨ k = 8 ∨ k = 9 ∨ k = 10 ∨ k = 11 ∨ k = 12 ∨ k = 13 ∨ k = 14 ∨ k = 15 := by omega
      rcases this with rfl | rfl | rfl | rfl | rfl | rfl | rfl | rfl | rfl | rfl | rfl | rfl | rfl | rfl | rfl | rfl
      · exact hbl
      · exact q1.lt
      · exact q2.lt
      · exact q3.lt
      · exact q4.lt
      · exact q5.lt
      · exact q6.lt
      · exact q7.lt
      · exact q8.lt
      · exact q9.lt
      · exact hbl
      · exact hbl
      · exact hbl
      · exact hbl
      · exact hbl
      · exact hbl
    · intro k c hc
      have hk : k < 10 := by
        rcases Nat.lt_or_ge k 10 with q | q
        · exact q
        · exfalso
          obtain ⟨d, rfl⟩ := Nat.exists_eq_add_of_le q
          rw [show zh0 L xs (10 + d) = none from by rw [Nat.add_comm]; rfl] at hc
          cases hc
      refine ⟨by omega, ?_⟩
      unfold zad
      rw [if_pos (by omega), eg3]
      have : k = 0 ∨ k = 1 ∨ k = 2 ∨ k = 3 ∨ k = 4 ∨ k = 5 ∨ k = 6 ∨ k = 7 ∨ k = 8 ∨ k = 9 := by omega
      rcases this with rfl | rfl | rfl | rfl | rfl | rfl | rfl | rfl | rfl | rfl
      · cases (Option.some.inj hc); exact hx0
      · cases (Option.some.inj hc); exact q1
      · cases (Option.some.inj hc); exact q2
      · cases (Option.some.inj hc); exact q3
      · cases (Option.some.inj hc); exact q4
      · cases (Option.some.inj hc); exact q5
      · cases (Option.some.inj hc); exact q6
      · cases (Option.some.inj hc); exact q7
      · cases (Option.some.inj hc); exact q8
      · cases (Option.some.inj hc); exact q9
    · intro q hq
      rw [eg2, eg3]
      have hq2 : q = ("BitWell$Cipher", "BOX", "[I", 1) ∨ q = ("BitWell$Digest", "FIRST", "[J", 2) ∨ q = ("BitWell$Digest", "ROUND", "[J", 3) ∨ q = ("BitWell$Digest", "SMALL_TURNS", "[I", 4) ∨ q = ("BitWell$Digest", "GREAT_TURNS", "[I", 5) ∨ q = ("BitWell$Generator", "STRENGTHS", "[I", 6) ∨ q = ("BitWell$Generator", "STRONGEST", "[I", 7) ∨ q = ("BitWell$Generator", "SEED_LENGTHS", "[I", 8) ∨ q = ("BitWellModel", "TURNS", "[I", 9) := by
        unfold zstat at hq
        simpa using hq
      rcases hq2 with rfl | rfl | rfl | rfl | rfl | rfl | rfl | rfl | rfl
      · exact va_Zref (hts _ (List.mem_of_getElem? zsz_1.1)) (hts _ (List.mem_of_getElem? zsz_1.2)) v1 (fun a ha q => absurd q (Nat.not_le.mpr ha))
      · exact va_Zref (hts _ (List.mem_of_getElem? zsz_2.1)) (hts _ (List.mem_of_getElem? zsz_2.2)) v2 (fun a ha q => absurd q (Nat.not_le.mpr ha))
      · exact va_Zref (hts _ (List.mem_of_getElem? zsz_3.1)) (hts _ (List.mem_of_getElem? zsz_3.2)) v3 (fun a ha q => absurd q (Nat.not_le.mpr ha))
      · exact va_Zref (hts _ (List.mem_of_getElem? zsz_4.1)) (hts _ (List.mem_of_getElem? zsz_4.2)) v4 (fun a ha q => absurd q (Nat.not_le.mpr ha))
      · exact va_Zref (hts _ (List.mem_of_getElem? zsz_5.1)) (hts _ (List.mem_of_getElem? zsz_5.2)) v5 (fun a ha q => absurd q (Nat.not_le.mpr ha))
      · exact va_Zref (hts _ (List.mem_of_getElem? zsz_6.1)) (hts _ (List.mem_of_getElem? zsz_6.2)) v6 (fun a ha q => absurd q (Nat.not_le.mpr ha))
      · exact va_Zref (hts _ (List.mem_of_getElem? zsz_7.1)) (hts _ (List.mem_of_getElem? zsz_7.2)) v7 (fun a ha q => absurd q (Nat.not_le.mpr ha))
      · exact va_Zref (hts _ (List.mem_of_getElem? zsz_8.1)) (hts _ (List.mem_of_getElem? zsz_8.2)) v8 (fun a ha q => absurd q (Nat.not_le.mpr ha))
      · exact va_Zref (hts _ (List.mem_of_getElem? zsz_9.1)) (hts _ (List.mem_of_getElem? zsz_9.2)) v9 (fun a ha q => absurd q (Nat.not_le.mpr ha))
  have hl := lv_entry ([Value.ref b] : List Value) (n := 4) (Nat.le_of_ble_eq_true rfl)
  rw [lg_entry_eq]
  generalize (lg_sl [Value.ref b] ++ List.replicate (4 - (lg_sl [Value.ref b]).length) Slot.unset).toArray = la at hl ⊢
  have hv0 : zv g (.ref 0) = .ref b := by show Value.ref (zad g 0) = _; unfold zad; rw [if_pos (by decide), eg3]; rfl
  have key := e_law (g := g) (nm := meth.name) hL (show zh0 L xs 0 = _ from rfl) (zh0_tab L xs) p e s m #[Value.ref b] below meth c (lw_Z below #[Value.ref b] s) s.heap [] la ⟨hx, hb, hml, hown, fun w hw => hts w (zgood_tbl hw), fun w hw => ?_, rfl, ?_⟩ hz (fun q hq => by cases hq) (by
    have e1 : zls g 0 [some (.ref 0), none, none, none] = lv_args 0 [Value.ref b] := by
      show [(0, zv g (.ref 0))] = _
      rw [hv0]; rfl
    rw [e1]; exact hl)
  · rw [eg1] at key; exact key
  · have hw0 := hts w (List.mem_filter.mp hw).1
    rcases znest_on hw with ho | ⟨C, rfl⟩
    · exact va_Nw.of ho hw0
    · exact va_AO.of hw0
  · intro v h' n' H locs la pc i hd hk hr' ho hq
    subst hq
    have hi : i = .ireturn := hk.2
    subst hi
    rw [eg2] at ho
    rw [eg1]
    exact W.forget (locs := []) (L := locs) ho (lw_ret hx hb hr hlk hd)
set_option maxHeartbeats 4000000 in
theorem lw_walk (l : Launch) (b : Addr) (xs : List Int32) : MetFree l x (headSpec (Jvm.Cond.code x code maxLocals ret :: tables_1) room_1) (lw_P b xs) (fun _ _ _ _ _ => True) lw_Q := by
  refine MetFree.of_bodyS (code := code) (maxLocals := maxLocals) (ret := ret) (by decide) ?_ ?_
  · intro args s m h hn
    obtain ⟨meth, c, h1, h2, h3, h4, h5, h6, -, -⟩ := Cond.code_spec hn (atoms_spec (ws := Jvm.Cond.code x code maxLocals ret :: tables_1) h _ List.mem_cons_self)
    exact ⟨meth, c, h1, h2, h3, h4, h5, h6⟩
  · intro p e s m args below meth c s₁ B hml0 hP _
    obtain ⟨rfl, hx, hbd, hgv⟩ := hP
    obtain ⟨scr, harrAt, hlist, hof, hsmall⟩ := hx
    obtain ⟨hcb, hkn, -, -⟩ := State.arrayAt?_spec harrAt
    have hown : s.vm.findClass R_law = some m.cls := findClass_of_methodNamed B.named
    have hts0 : ∀ c ∈ (Jvm.Cond.code x code maxLocals ret :: tables_1), c.before #[Value.ref b] s = true := atoms_spec (ws := Jvm.Cond.code x code maxLocals ret :: tables_1) B.pre
    have hts : ∀ w ∈ lw_tbl, w.before #[Value.ref b] s = true := k2_hts_sels lw_privs (fun w hw => hts0 w (List.mem_cons_of_mem _ hw)) lw_privs_ok
    have hml : c.maxLocals = 4 := B.maxLocals_eq (hts0 _ List.mem_cons_self)
    have X₀ : Stand p l e room_1 s m #[Value.ref b] below meth c s₁ [] 0 0 := Stand.of_body B
    have hh0 : s₁.heap = s.heap := by rw [B.state]; rfl
    have hsz : scr.slots.size = xs.length := by rw [← Array.length_toList, hlist, List.length_map]
    have hval : ∀ j : Nat, j < xs.length → scr.slots[j]? = some (.int (xs.getD j 0)) := fun j hj => by
      rw [← Array.getElem?_toList, hlist]
      simp [hj]
    have hbl : b < s.heap.size := (Array.getElem?_eq_some_iff.mp hcb).1
    have hX : va_X b xs.length (fun j => xs.getD j 0) s s.heap := ⟨scr, hcb, hof, hkn, hsz, hval⟩
    have K : W p l e room_1 s m #[Value.ref b] below meth c s₁.heap [] 0 0 (lw_Z below #[Value.ref b] s) (entryFrame m ([Value.ref b] : List Value).toArray 4) := by
      rw [hh0]
      exact whole_start l hbd ⟨B.exec, B.bytes, B.returns, hml, hown, hts, hX, hbl, B.notSynchronized, hgv⟩
    obtain ⟨t, a1, o, b1, b2, b3⟩ := K s₁ rfl X₀
    exact ⟨t, o, a1, b1, b2, b3⟩
theorem lw_pre_spec {args : Array Value} {s : State} (h : (Jvm.Cond.and given_1 narrow_1).before args s = true) (hr : rest_1_c.before args s = true) : ∃ (b : Addr) (xs : List Int32), lw_P b xs args s := by
  have hs := flat_of_before _ h
  have hq := flat_of_before _ hr
  have hc : (Cond.count 1).before args s = true := hs _ (by decide +kernel)
  have harr : (Cond.arrayOf (.arg 0) .int).before args s = true := hs _ (by decide +kernel)
  have hle : (Cond.le (.length (.arg 0)) (.int 3072)).before args s = true := hs _ (by decide +kernel)
  have hlen : (Cond.isInt (.length (.arg 0))).before args s = true := hq _ (by decide +kernel)
  have hall : (Cond.all (.arg 0) (.isInt (.elem (.arg 0) (.index 0)))).before args s = true := hq _ (by decide +kernel)
  obtain ⟨b, xs, hb, hx⟩ := State.ints_of_pre rfl harr hlen hall
  have hsm : xs.length < 2 ^ 31 := hx.choose_spec.2.2.2
  have hev : (Term.length (.arg 0)).eval args s none [] s = some (.int xs.length.toInt32) := hx.length_eval hb
  have hv := Cond.le_ints hev (show (Term.int 3072).eval args s none [] s = some (.int 3072) from rfl)
  have hd : xs.length.toInt32 ≤ 3072 := by
    simpa [Cond.before, Cond.holds, hv] using hle
  have hN : xs.length ≤ 3072 := (Int32.ofNat_le_ofNat hsm (by decide)).mp (show Int32.ofNat xs.length ≤ Int32.ofNat 3072 from hd)
  exact ⟨b, xs, Cond.one_arg hc (show args[0]? = some (.ref b) from hb), hx, hN, h⟩
theorem lw_comes (l : Launch) : Comes l x (Jvm.Cond.code x code maxLocals ret :: tables_1) room_1 (fun tb e args s => Calls_1 tb e args s ∧ rest_1 tb e args s ∧ Pre_1 tb e args s)
    (fun _ _ args s o t => lw_Q args s o t) := by
  intro p e ha hc hk s m args below hf hfit hheap happ hpre
  obtain ⟨b, xs, hP⟩ := lw_pre_spec hpre.2.2 hpre.2.1
  obtain ⟨k, o, h1, h2, h3, hQ⟩ := lw_walk l b xs p e ha hc hk s m args below hf ((Spec.applies_iff_loose hf).mp happ).1 hP trivial
  exact ⟨k, o, h1, h2, h3, hQ⟩
theorem lw_frame {s t : State} {o : Outcome} {args : Array Value} (h : Framed s o t [] 600000 7302250) :
    Framed s o t (fieldLocs frame_1_writes args s ++ arrayLocs frame_1_arrays args s ++ staticLocs frame_1_statics s) 600000 7302250 := h
theorem lw_limb (L : Cond) (hL : ∀ (args : Array Value) (s t : State), L.after args s (.returned (some (.int 1))) t = true) :
    ArmFor flags0 classFile x code maxLocals ret World_1 tables_1 room_1 Calls_1 rest_1 Pre_1
      (fun tb e a s o t => postC L tb e a s o t ∧ Framed s o t (fieldLocs frame_1_writes a s ++ arrayLocs frame_1_arrays a s ++ staticLocs frame_1_statics s) 600000 7302250) := by
  intro l _ _ _ p e ha hc hk s m args below hf hfit hheap happ hpre
  obtain ⟨k, o, h1, h2, h3, rfl, hF⟩ := lw_comes l p e ha hc hk s m args below hf hfit hheap happ hpre
  exact ⟨k, _, h1, h2, h3, hL args s _, lw_frame hF⟩
theorem i_vc : Claimed_1_1 ∧ Claimed_1_2 := ⟨lw_limb limb_1_1 (fun args s t => by simp [limb_1_1, Cond.after, Cond.holds, Cond.value]), lw_limb limb_1_2 (fun args s t => Cond.after_iff.mpr (by
  first | (rw [show limb_1_2 = Cond.eq .result (.int 1) from rfl, Cond.eq_ints (x := 1) (y := 1) rfl rfl]; simp; done) | (simp [limb_1_2, Cond.value, Term.eval]; done)))⟩
