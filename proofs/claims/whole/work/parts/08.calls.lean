/-! METHODS AND CALLS -/
theorem znest_cases {w : Cond} (h : w ∈ znest) : (∃ a i x t, w = .methodLinkNest a i x t) ∨ (∃ x, w = .declares x) ∨ (∃ a b, w = .castable a b) ∨ ∃ ty, w = .arrayOver ty := by
  have h2 := (List.mem_filter.mp h).2
  split at h2
  · exact Or.inl ⟨_, _, _, _, rfl⟩
  · exact Or.inr (Or.inl ⟨_, rfl⟩)
  · exact Or.inr (Or.inr (Or.inl ⟨_, _, rfl⟩))
  · exact Or.inr (Or.inr (Or.inr ⟨_, rfl⟩))
  · cases h2
set_option maxRecDepth 100000 in
theorem znest_ao : ∀ w ∈ znest, ∀ ty, w = .arrayOver ty → ∃ C, ty = .object C := by
  intro w hw
  have h : znest.all (fun w => match w with
    | .arrayOver (.object _) => true
    | .arrayOver _ => false
    | _ => true) = true := by decide +kernel
  have h2 := List.all_eq_true.mp h w hw
  intro ty e
  subst e
  cases ty with
  | object C => exact ⟨C, rfl⟩
  | _ => simp at h2
theorem znest_on {w : Cond} (h : w ∈ znest) : w.onTables = true ∨ ∃ C, w = .arrayOver (.object C) := by
  rcases znest_cases h with ⟨a, i, x, t, rfl⟩ | ⟨x, rfl⟩ | ⟨a, b, rfl⟩ | ⟨ty, rfl⟩
  · exact Or.inl rfl
  · exact Or.inl rfl
  · exact Or.inl rfl
  · obtain ⟨C, rfl⟩ := znest_ao _ h ty rfl
    exact Or.inr ⟨C, rfl⟩
theorem znest_same {s U : State} (hvm : s.vm = U.vm) (h : ∀ w ∈ znest, va_Nw w s) : ∀ w ∈ znest, va_Nw w U := by
  intro w hw
  rcases znest_on hw with ho | ⟨C, rfl⟩
  · exact va_Nw.same ho hvm (h w hw)
  · exact va_AO.moved (by rw [hvm]; exact Vm.Alike.refl _) (h _ hw)
theorem znest_warm {s U : State} (hW : s.WarmedH U.vm) (h : ∀ w ∈ znest, va_Nw w s) : ∀ w ∈ znest, va_Nw w U := by
  intro w hw
  have h0 := h w hw
  rcases znest_cases hw with ⟨a, i, x, t, rfl⟩ | ⟨x, rfl⟩ | ⟨a, b, rfl⟩ | ⟨ty, rfl⟩
  · exact va_Nw.warmM hW h0
  · exact va_Nw.warmD hW h0
  · exact va_Nw.warmC hW h0
  · obtain ⟨C, rfl⟩ := znest_ao _ hw ty rfl
    exact va_AO.moved hW.alike h0
def zQc (g : ZG) (Qf : ZQ) : Array Value → State → Outcome → State → Prop := fun _ _ oc t => ∃ (v : Option Value) (h' : ZH) (n' : Nat), oc = .returned (v.map (zv g)) ∧ Qf v h' n' ∧ zr g h' n' t t.heap
def zPc (g : ZG) (as : List Value) (h : ZH) (n : Nat) : Array Value → State → Prop := va_Pc (as.map (zv g)) (fun U => zr g h n U U.heap ∧ ∀ w ∈ znest, va_Nw w U)
/-- the contract of a method at a room: from the abstract heap h with n cells, the arguments as: it returns, and Qf -/
def zMt (g : ZG) (M : ZM) (R : Room) (as : List Value) (h : ZH) (n : Nat) (Qf : ZQ) : Prop :=
  Met g.1 M.1 (zw M) R (zPc g as h n) (zQc g Qf) R.cells R.slots (fun q => g.2.2.1 ≤ q)
theorem zPc_blind {g : ZG} {as : List Value} {h : ZH} {n : Nat} : FrameBlind (zPc g as h n) := fun a U f mk q => by
  obtain ⟨q0, q1, q2⟩ := q
  exact ⟨q0, zr.moved (s := U) (u := U.calling f mk a) (Vm.Alike.refl U.vm) q1, znest_same (s := U) (U := U.calling f mk a) rfl q2⟩
theorem zMt.of {g : ZG} {M : ZM} {R : Room} {as : List Value} {h : ZH} {n : Nat} {Qf : ZQ} (ls : List (Option Value)) (hy : plainName M.1.cls = true) (he : zls g 0 ls = lv_args 0 (as.map (zv g))) (hlen : (lg_sl (as.map (zv g))).length ≤ M.2.2.1) (k : zP g M R Qf 0 0 0 ls [] h n) : zMt g M R as h n Qf := by
  refine Met.ofW (cc := M.2.1) (maxL := M.2.2.1) (ret := M.2.2.2) hy rfl ?_
  intro p e s m args below meth c s₁ B hml hv
  obtain ⟨rfl, hr, hn⟩ := hv
  have hl := lv_entry (as.map (zv g)) (n := M.2.2.1) hlen
  rw [lg_entry_eq]
  generalize (lg_sl (as.map (zv g)) ++ List.replicate (M.2.2.1 - (lg_sl (as.map (zv g))).length) Slot.unset).toArray = la at hl ⊢
  have hts := atoms_spec (ws := zw M) B.pre
  have hlocks := B.notSynchronized
  refine k p e s m _ below meth c _ s.heap [] la ⟨B.exec, B.bytes, hml, findClass_of_methodNamed B.named, fun w hw => hts w (List.mem_cons_of_mem _ hw), hn, (name_of_methodNamed B.named B.method).1, ?_⟩ hr (fun q hq => by cases hq) (by rw [he]; exact hl)
  intro v h' n' H locs la pc i hd hk hr' ho hq
  have key : ∀ t : State, t.heap = H → s.WarmedH t.vm → zQc g Qf (as.map (zv g)).toArray s (.returned (v.map (zv g))) t := fun t ht hW => ⟨v, h', n', rfl, hq, by rw [ht]; exact hr'.moved hW.alike⟩
  unfold zretk at hk
  split at hk
  · obtain ⟨h1, rfl⟩ := hk
    exact W.vret B.exec B.bytes (B.returns.trans h1) key ho hd
  · obtain ⟨⟨ty, h1, h2⟩, rfl⟩ := hk
    exact W.zret B.exec B.bytes (B.returns.trans h1) h2 key ho hd
  · obtain ⟨h1, rfl⟩ := hk
    exact W.lret B.exec B.bytes (B.returns.trans h1) key ho hd
  · obtain ⟨⟨C, h1⟩, rfl⟩ := hk
    exact W.aret B.exec B.bytes (B.returns.trans h1) (Or.inl ⟨C, rfl⟩) (Or.inr ⟨_, rfl⟩) key ho hd
  · obtain ⟨⟨C, h1⟩, rfl⟩ := hk
    exact W.aret B.exec B.bytes (B.returns.trans h1) (Or.inl ⟨C, rfl⟩) (Or.inl rfl) key ho hd
  · exact hk.elim
theorem zgoodIn {ws : List Cond} (h : ∀ w ∈ ws, w ∈ zgood) : GoodIn zgood ws := fun w hw => ⟨h w hw, good_of_word (List.mem_filter.mp (h w hw)).2⟩
def zkP (M : ZM) (na : Nat) : Prop := Cond.code M.1 M.2.1 M.2.2.1 M.2.2.2 ∈ zgood ∧ M.1.cls ≠ "java/lang/invoke/MethodHandle" ∧ M.1.cls ≠ "java/lang/invoke/VarHandle" ∧ (parseMethodDescriptor M.1.desc).map (fun d => d.parameters.length) = some na
theorem zkP_spec {M : ZM} {na : Nat} (h : zkP M na) : (∀ w ∈ zw M, w ∈ zgood) ∧ M.1.cls ≠ "java/lang/invoke/MethodHandle" ∧ M.1.cls ≠ "java/lang/invoke/VarHandle" ∧ (parseMethodDescriptor M.1.desc).map (fun d => d.parameters.length) = some na := by
  refine ⟨fun w hw => ?_, h.2⟩
  rcases List.mem_cons.mp hw with rfl | hw
  · exact h.1
  · exact hw
/-- calls: a virtual one whose receiver's class is the method's own; one of a method that is inherited or abstract; a static one; a constructor -/
def zvP (own : String) (idx : Nat) (M : ZM) (na : Nat) : Prop := zkP M na ∧ Cond.methodLink own idx M.1 ∈ zgood ∧ Cond.instanceMethod M.1 ∈ zgood ∧ Cond.selects M.1.cls M.1 M.1 ∈ zgood ∧ Cond.initialized M.1.cls ∈ zgood
def zuP (own : String) (idx : Nat) (C owner : String) (x : MethodName) (M : ZM) (na : Nat) : Prop := zkP M na ∧ (Cond.methodLink own idx x ∈ zgood ∧ Cond.sameMethod x.cls owner x.name x.desc ∈ zgood ∧ Cond.selects C x M.1 ∈ zgood ∧ Cond.instanceMethod M.1 ∈ zgood ∧ Cond.initialized M.1.cls ∈ zgood) ∧ x.desc = M.1.desc ∧ (M.1 = ⟨owner, x.name, x.desc⟩ ∨ Cond.declares ⟨owner, x.name, x.desc⟩ ∈ znest) ∧ owner ≠ "java/lang/invoke/MethodHandle" ∧ owner ≠ "java/lang/invoke/VarHandle"
def zsvP (own : String) (idx : Nat) (M : ZM) (na : Nat) : Prop := zkP M na ∧ Cond.methodLink own idx M.1 ∈ zgood ∧ Cond.static M.1 ∈ zgood ∧ Cond.initialized M.1.cls ∈ zgood
def zsnP (own : String) (idx : Nat) (M : ZM) (na : Nat) (host : String) : Prop := zkP M na ∧ Cond.static M.1 ∈ zgood ∧ Cond.initialized M.1.cls ∈ zgood ∧ Cond.methodLinkNest own idx M.1 host ∈ znest
def ziP (own : String) (idx : Nat) (M : ZM) (na : Nat) : Prop := zkP M na ∧ Cond.methodLink own idx M.1 ∈ zgood ∧ Cond.instanceMethod M.1 ∈ zgood ∧ Cond.initialized M.1.cls ∈ zgood ∧ M.1.name = "<init>"
def zinP (own : String) (idx : Nat) (M : ZM) (na : Nat) (host : String) : Prop := zkP M na ∧ Cond.instanceMethod M.1 ∈ zgood ∧ Cond.initialized M.1.cls ∈ zgood ∧ Cond.methodLinkNest own idx M.1 host ∈ znest ∧ M.1.name = "<init>"
theorem zall4 {P : Cond → Prop} {a b c d : Cond} (h : P a ∧ P b ∧ P c ∧ P d) : ∀ w ∈ ([a, b, c, d] : List Cond), P w := by
  intro w hw
  simp only [List.mem_cons, List.not_mem_nil, or_false] at hw
  rcases hw with rfl | rfl | rfl | rfl
  · exact h.1
  · exact h.2.1
  · exact h.2.2.1
  · exact h.2.2.2
theorem zall5 {P : Cond → Prop} {a b c d e : Cond} (h : P a ∧ P b ∧ P c ∧ P d ∧ P e) : ∀ w ∈ ([a, b, c, d, e] : List Cond), P w := by
  intro w hw
  rcases List.mem_cons.mp hw with rfl | hw
  · exact h.1
  · exact zall4 h.2 w hw
theorem zall3 {P : Cond → Prop} {a b c : Cond} (h : P a ∧ P b ∧ P c) : ∀ w ∈ ([a, b, c] : List Cond), P w := by
  intro w hw
  simp only [List.mem_cons, List.not_mem_nil, or_false] at hw
  rcases hw with rfl | rfl | rfl
  · exact h.1
  · exact h.2.1
  · exact h.2.2
section ZT
variable {g : ZG} {M : ZM} {R : Room} {Qf : ZQ} {cells slots pc : Nat} {ls : List (Option Value)} {h : ZH} {n : Nat}
/-- behind a call -/
theorem zcall {p : Program} {e : Env} {s : State} {m : MethodId} {args : Array Value} {below : List Frame} {meth : Method} {c : Code} {Q : State → Prop} {H : Heap} {locs : List Loc} {la : Array Slot} {Qc : ZQ} {Rc : Room} {a : Array Value} {st0 st : List Value} (C : zc g M R Qf p e s m args below meth c Q) (ho : ∀ q ∈ locs, g.2.2.1 ≤ q.base) (hl : lv_has la M.2.2.1 (zls g 0 ls)) (hrun : va_Run p g.1 e R s m args below meth c H locs cells slots Rc.cells Rc.slots (F0 m pc la (st0.map (zv g))) (st.map (zv g)) (zQc g Qc a) (fun q => g.2.2.1 ≤ q)) (kk : ∀ (v : Option Value) (h' : ZH) (n' : Nat), Qc v h' n' → zP g M R Qf (cells + Rc.cells) (slots + Rc.slots) (pc + 3) ls (v.toList ++ st) h' n') : W p g.1 e R s m args below meth c H locs cells slots Q (F0 m pc la (st0.map (zv g))) := by
  intro T hT X
  obtain ⟨v, st₀, t, T', L, h0, X', hL, e1, e2, ⟨v', h', n', hv, hq, hr'⟩, go⟩ := hrun T hT X
  cases hv
  have hr2 : zr g h' n' s T'.heap := by
    rw [e1]
    exact hr'.moved (by rw [← e2]; exact X'.warmed.alike.symm)
  obtain ⟨t2, a1, b1⟩ := kk v' h' n' hq p e s m args below meth c Q T'.heap (locs ++ L) la C hr2 (fun q hq => by
    rcases List.mem_append.mp hq with h | h
    · exact ho q h
    · exact hL q h) hl T' rfl X'
  refine ⟨t2, go t2 ?_, b1⟩
  have e3 : (v'.map (zv g)).toList ++ st.map (zv g) = (v'.toList ++ st).map (zv g) := by cases v' <;> rfl
  show Steps p.tables e below (T'.setTop (F0 m (pc + 3) la ((v'.map (zv g)).toList ++ st.map (zv g)))) t2
  rw [e3]
  exact a1
theorem zstk {g : ZG} {st0 As st : List Value} {k : Nat} (h : st0 = As.reverse ++ .ref k :: st) : st0.map (zv g) = (As.map (zv g)).reverse ++ .ref (zad g k) :: st.map (zv g) := by
  subst h
  rw [List.map_append, List.map_reverse, List.map_cons]
  rfl
theorem zstk0 {g : ZG} {st0 As st : List Value} (h : st0 = As.reverse ++ st) : st0.map (zv g) = (As.map (zv g)).reverse ++ st.map (zv g) := by
  subst h
  rw [List.map_append, List.map_reverse]
theorem zroom {g : ZG} {m : MethodId} {la : Array Slot} {st0 st : List Value} (h : (st.map fun v => v.category).sum ≤ 8) : 2 * (F0 m pc la st0).monitorRoom + ((st.map (zv g)).map fun v => v.category).sum ≤ 8 := by
  refine lv_room ?_
  rw [List.map_map, show ((fun v : Value => v.category) ∘ zv g) = (fun v : Value => v.category) from funext (fun v => zv_cat g v)]
  exact h
theorem zrecv {p : Nat} {s : State} {H : Heap} {k ci : Nat} {fs : List Value} {q : vw_C} (hr : zr g h n s H) (hh : h k = some (.inl (ci, fs))) (hq : vwCl[ci]? = some q) : ∃ cell : Cell, H[zad g k]? = some cell ∧ cell.vm.isStatics = false ∧ s.vm.findClass q.1 = some cell.cls := by
  refine va_recv (ws := [(zad g k, .inr (ci, fs.map (zv g)))]) (q0 := 0) hr.1 (fun i x hx => ?_) hq rfl
  match i, hx with
  | 0, hx => cases hx; exact (hr.2.2.1 k _ hh).2
  | i + 1, hx => simp at hx
theorem zp_callV {idx k ci : Nat} {Mc : ZM} {Rc : Room} {As st0 st : List Value} {fs : List Value} {q : vw_C} {Qc : ZQ} (hd : decode M.2.1 pc = .ok (.invokevirtual idx, 3)) (hc : zvP M.1.cls idx Mc As.length) (hst : st0 = As.reverse ++ .ref k :: st) (hh : h k = some (.inl (ci, fs))) (hq : vwCl[ci]? = some q) (hqc : q.1 = Mc.1.cls) (hM : zMt g Mc Rc (.ref k :: As) h n Qc) (hR : Rc.frames + 1 ≤ R.frames ∧ 8 + (Mc.2.2.1 + 11) + Rc.locals ≤ R.locals) (hf : cells + Rc.cells ≤ R.cells ∧ slots + Rc.slots ≤ R.slots) (hw : (st.map fun v => v.category).sum ≤ 8) (kk : ∀ (v : Option Value) (h' : ZH) (n' : Nat), Qc v h' n' → zP g M R Qf (cells + Rc.cells) (slots + Rc.slots) (pc + 3) ls (v.toList ++ st) h' n') : zP g M R Qf cells slots pc ls st0 h n := by
  intro p e s m args below meth c Q H locs la C hr ho hl
  obtain ⟨k1, k2⟩ := zkP_spec hc.1
  have hG : GoodIn zgood (wsV M.1.cls idx Mc.1.cls Mc.1 (zw Mc)) := zgoodIn (fun w hw => by
    rcases List.mem_append.mp hw with h | h
    · exact zall4 hc.2 w h
    · exact k1 w h)
  refine zcall (Rc := Rc) (Qc := Qc) (a := (Value.ref (zad g k) :: As.map (zv g)).toArray) (st := st) C ho hl (va_runV (b := zad g k) (As := As.map (zv g)) (Ts := zgood) (nL := M.2.2.1) (own := M.1.cls) (C := Mc.1.cls) ⟨C.1, C.2.1, C.2.2.1, C.2.2.2.1, C.2.2.2.2.1⟩ hM (cwV (n := As.length) C.2.2.2.2.1 hG rfl rfl rfl ⟨rfl, k2⟩ hR) ⟨zPc_blind, ?_, fun U hU hW => ⟨rfl, ?_, znest_warm hW C.2.2.2.2.2.1⟩⟩ rfl (List.length_map _) hl.1 (zstk hst) (zroom hw) hd hf) kk
  · obtain ⟨cell, h1, h2, h3⟩ := zrecv (p := 0) hr hh hq
    exact ⟨cell, h1, h2, by rw [← hqc]; exact h3⟩
  · rw [hU]; exact hr.moved hW.alike
theorem zp_callU {idx k ci : Nat} {Mc : ZM} {Rc : Room} {As st0 st : List Value} {fs : List Value} {q : vw_C} {owner : String} {x : MethodName} {Qc : ZQ} (hd : decode M.2.1 pc = .ok (.invokevirtual idx, 3)) (hc : zuP M.1.cls idx q.1 owner x Mc As.length) (hst : st0 = As.reverse ++ .ref k :: st) (hh : h k = some (.inl (ci, fs))) (hq : vwCl[ci]? = some q) (hM : zMt g Mc Rc (.ref k :: As) h n Qc) (hR : Rc.frames + 1 ≤ R.frames ∧ 8 + (Mc.2.2.1 + 11) + Rc.locals ≤ R.locals) (hf : cells + Rc.cells ≤ R.cells ∧ slots + Rc.slots ≤ R.slots) (hw : (st.map fun v => v.category).sum ≤ 8) (kk : ∀ (v : Option Value) (h' : ZH) (n' : Nat), Qc v h' n' → zP g M R Qf (cells + Rc.cells) (slots + Rc.slots) (pc + 3) ls (v.toList ++ st) h' n') : zP g M R Qf cells slots pc ls st0 h n := by
  intro p e s m args below meth c Q H locs la C hr ho hl
  obtain ⟨hc1, hc2, hdesc, hdecl, hn1, hn2⟩ := hc
  obtain ⟨k1, k2, k3, k4⟩ := zkP_spec hc1
  have hG : GoodIn zgood (va_wsU M.1.cls idx q.1 owner x Mc.1 (zw Mc)) := zgoodIn (fun w hw => by
    rcases List.mem_append.mp hw with h | h
    · exact zall5 hc2 w h
    · exact k1 w h)
  have hcw : va_CU R s args M.1.cls q.1 owner idx x Mc.1 Mc.2.1 Mc.2.2.1 Mc.2.2.2 (zw Mc) Rc Rc.cells Rc.slots As.length := by
    rcases hdecl with h1 | h1
    · exact va_cwU As.length C.2.2.2.2.1 hG rfl rfl rfl h1 ⟨hn1, hn2, by rw [hdesc]; exact k4⟩ hR
    · exact va_cwA As.length C.2.2.2.2.1 hG rfl rfl rfl (C.2.2.2.2.2.1 _ h1) ⟨hn1, hn2, by rw [hdesc]; exact k4⟩ hR
  refine zcall (Rc := Rc) (Qc := Qc) (a := (Value.ref (zad g k) :: As.map (zv g)).toArray) (st := st) C ho hl (va_runU (b := zad g k) (As := As.map (zv g)) (Ts := zgood) (nL := M.2.2.1) (own := M.1.cls) (C := q.1) ⟨C.1, C.2.1, C.2.2.1, C.2.2.2.1, C.2.2.2.2.1⟩ hM hcw ⟨zPc_blind, zrecv (p := 0) hr hh hq, fun U hU hW => ⟨rfl, ?_, znest_warm hW C.2.2.2.2.2.1⟩⟩ rfl (List.length_map _) hl.1 (zstk hst) (zroom hw) hd hf) kk
  rw [hU]; exact hr.moved hW.alike
theorem zp_callS {idx : Nat} {Mc : ZM} {Rc : Room} {As st0 st : List Value} {Qc : ZQ} (hd : decode M.2.1 pc = .ok (.invokestatic idx, 3)) (hc : zsvP M.1.cls idx Mc As.length) (hst : st0 = As.reverse ++ st) (hM : zMt g Mc Rc As h n Qc) (hR : Rc.frames + 1 ≤ R.frames ∧ 8 + (Mc.2.2.1 + 11) + Rc.locals ≤ R.locals) (hf : cells + Rc.cells ≤ R.cells ∧ slots + Rc.slots ≤ R.slots) (hw : (st.map fun v => v.category).sum ≤ 8) (kk : ∀ (v : Option Value) (h' : ZH) (n' : Nat), Qc v h' n' → zP g M R Qf (cells + Rc.cells) (slots + Rc.slots) (pc + 3) ls (v.toList ++ st) h' n') : zP g M R Qf cells slots pc ls st0 h n := by
  intro p e s m args below meth c Q H locs la C hr ho hl
  obtain ⟨k1, k2⟩ := zkP_spec hc.1
  have hG : GoodIn zgood (va_wsS M.1.cls idx Mc.1 (zw Mc)) := zgoodIn (fun w hw => by
    rcases List.mem_append.mp hw with h | h
    · exact zall3 hc.2 w h
    · exact k1 w h)
  refine zcall (Rc := Rc) (Qc := Qc) (a := (As.map (zv g)).toArray) (st := st) C ho hl (va_runS (As := As.map (zv g)) (Ts := zgood) (nL := M.2.2.1) (own := M.1.cls) ⟨C.1, C.2.1, C.2.2.1, C.2.2.2.1, C.2.2.2.2.1⟩ hM (va_cwS As.length C.2.2.2.2.1 hG rfl rfl rfl k2 hR) ⟨zPc_blind, fun U hU hW => ⟨rfl, ?_, znest_warm hW C.2.2.2.2.2.1⟩⟩ rfl (List.length_map _) hl.1 (zstk0 hst) (zroom hw) hd hf) kk
  rw [hU]; exact hr.moved hW.alike
theorem zp_callSN {idx : Nat} {host : String} {Mc : ZM} {Rc : Room} {As st0 st : List Value} {Qc : ZQ} (hd : decode M.2.1 pc = .ok (.invokestatic idx, 3)) (hc : zsnP M.1.cls idx Mc As.length host) (hst : st0 = As.reverse ++ st) (hM : zMt g Mc Rc As h n Qc) (hR : Rc.frames + 1 ≤ R.frames ∧ 8 + (Mc.2.2.1 + 11) + Rc.locals ≤ R.locals) (hf : cells + Rc.cells ≤ R.cells ∧ slots + Rc.slots ≤ R.slots) (hw : (st.map fun v => v.category).sum ≤ 8) (kk : ∀ (v : Option Value) (h' : ZH) (n' : Nat), Qc v h' n' → zP g M R Qf (cells + Rc.cells) (slots + Rc.slots) (pc + 3) ls (v.toList ++ st) h' n') : zP g M R Qf cells slots pc ls st0 h n := by
  intro p e s m args below meth c Q H locs la C hr ho hl
  obtain ⟨hc1, hc2, hc2i, hc3⟩ := hc
  obtain ⟨k1, k2⟩ := zkP_spec hc1
  refine zcall (Rc := Rc) (Qc := Qc) (a := (As.map (zv g)).toArray) (st := st) C ho hl (va_runSN (As := As.map (zv g)) (Ts := zgood) (nL := M.2.2.1) (own := M.1.cls) (host := host) ⟨C.1, C.2.1, C.2.2.1, C.2.2.2.1, C.2.2.2.2.1⟩ hM ⟨va_cnB As.length C.2.2.2.2.1 (zgoodIn k1) rfl rfl rfl (C.2.2.2.2.2.1 _ hc3) (C.2.2.2.2.1 _ hc2i) k2 hR, C.2.2.2.2.1 _ hc2, trivial⟩ ⟨zPc_blind, fun U hU hW => ⟨rfl, ?_, znest_warm hW C.2.2.2.2.2.1⟩⟩ rfl (List.length_map _) hl.1 (zstk0 hst) (zroom hw) hd hf) kk
  rw [hU]; exact hr.moved hW.alike
theorem zp_callI {idx k : Nat} {y : MethodName} {bc : ByteArray} {mL : Nat} {Rc : Room} {As st0 st : List Value} {Qc : ZQ} (hd : decode M.2.1 pc = .ok (.invokespecial idx, 3)) (hc : ziP M.1.cls idx (y, bc, mL, none) As.length) (hst : st0 = As.reverse ++ .ref k :: st) (hM : zMt g (y, bc, mL, none) Rc (.ref k :: As) h n Qc) (hR : Rc.frames + 1 ≤ R.frames ∧ 8 + (mL + 11) + Rc.locals ≤ R.locals) (hf : cells + Rc.cells ≤ R.cells ∧ slots + Rc.slots ≤ R.slots) (hw : (st.map fun v => v.category).sum ≤ 8) (kk : ∀ (v : Option Value) (h' : ZH) (n' : Nat), Qc v h' n' → zP g M R Qf (cells + Rc.cells) (slots + Rc.slots) (pc + 3) ls (v.toList ++ st) h' n') : zP g M R Qf cells slots pc ls st0 h n := by
  intro p e s m args below meth c Q H locs la C hr ho hl
  obtain ⟨hc1, hcl, hci, hcn, hc3⟩ := hc
  obtain ⟨k1, k2⟩ := zkP_spec hc1
  refine zcall (Rc := Rc) (Qc := Qc) (a := (Value.ref (zad g k) :: As.map (zv g)).toArray) (st := st) C ho hl (va_runI (b := zad g k) (As := As.map (zv g)) (Ts := zgood) (nL := M.2.2.1) (own := M.1.cls) ⟨C.1, C.2.1, C.2.2.1, C.2.2.2.1, C.2.2.2.2.1⟩ hM (cwI As.length C.2.2.2.2.1 (zgoodIn k1) rfl rfl rfl (C.2.2.2.2.1 _ hcn) (C.2.2.2.2.1 _ hcl) (C.2.2.2.2.1 _ hci) hc3 k2 hR) ⟨zPc_blind, fun U hU hW => ⟨rfl, ?_, znest_warm hW C.2.2.2.2.2.1⟩⟩ rfl (List.length_map _) hl.1 (zstk hst) (zroom hw) hd hf) kk
  rw [hU]; exact hr.moved hW.alike
theorem zp_callIN {idx k : Nat} {host : String} {y : MethodName} {bc : ByteArray} {mL : Nat} {Rc : Room} {As st0 st : List Value} {Qc : ZQ} (hd : decode M.2.1 pc = .ok (.invokespecial idx, 3)) (hc : zinP M.1.cls idx (y, bc, mL, none) As.length host) (hst : st0 = As.reverse ++ .ref k :: st) (hM : zMt g (y, bc, mL, none) Rc (.ref k :: As) h n Qc) (hR : Rc.frames + 1 ≤ R.frames ∧ 8 + (mL + 11) + Rc.locals ≤ R.locals) (hf : cells + Rc.cells ≤ R.cells ∧ slots + Rc.slots ≤ R.slots) (hw : (st.map fun v => v.category).sum ≤ 8) (kk : ∀ (v : Option Value) (h' : ZH) (n' : Nat), Qc v h' n' → zP g M R Qf (cells + Rc.cells) (slots + Rc.slots) (pc + 3) ls (v.toList ++ st) h' n') : zP g M R Qf cells slots pc ls st0 h n := by
  intro p e s m args below meth c Q H locs la C hr ho hl
  obtain ⟨hc1, hci, hcn, hc3, hc4⟩ := hc
  obtain ⟨k1, k2⟩ := zkP_spec hc1
  refine zcall (Rc := Rc) (Qc := Qc) (a := (Value.ref (zad g k) :: As.map (zv g)).toArray) (st := st) C ho hl (va_runIN (b := zad g k) (As := As.map (zv g)) (Ts := zgood) (nL := M.2.2.1) (own := M.1.cls) (host := host) ⟨C.1, C.2.1, C.2.2.1, C.2.2.2.1, C.2.2.2.2.1⟩ hM ⟨va_cnB As.length C.2.2.2.2.1 (zgoodIn k1) rfl rfl rfl (C.2.2.2.2.2.1 _ hc3) (C.2.2.2.2.1 _ hcn) k2 hR, hc4, C.2.2.2.2.1 _ hci⟩ ⟨zPc_blind, fun U hU hW => ⟨rfl, ?_, znest_warm hW C.2.2.2.2.2.1⟩⟩ rfl (List.length_map _) hl.1 (zstk hst) (zroom hw) hd hf) kk
  rw [hU]; exact hr.moved hW.alike
set_option maxRecDepth 100000 in
theorem zobj : Cond.instanceMethod Lib.objectInit ∈ zgood ∧ Cond.code Lib.objectInit ⟨#[0xb1]⟩ 1 none ∈ zgood := by decide +kernel
theorem zp_objInit {idx k : Nat} {st : List Value} (hd : decode M.2.1 pc = .ok (.invokespecial idx, 3)) (hc : Cond.methodLink M.1.cls idx Lib.objectInit ∈ zgood) (hR : 1 ≤ R.frames ∧ 20 ≤ R.locals) (hw : (st.map fun v => v.category).sum ≤ 8) (kk : zP g M R Qf cells slots (pc + 3) ls st h n) : zP g M R Qf cells slots pc ls (.ref k :: st) h n := by
  intro p e s m args below meth c Q H locs la C hr ho hl
  have h1 := zroom (g := g) (pc := pc) (m := m) (la := la) (st0 := ((.ref k :: st).map (zv g))) hw
  exact W.objInit C.1 C.2.1 C.2.2.2.1 (C.2.2.2.2.1 _ hc) (C.2.2.2.2.1 _ zobj.1) (C.2.2.2.2.1 _ zobj.2) rfl (by rw [C.2.2.1]; exact hl.1) rfl hd hR.1 (by omega) (kk p e s m args below meth c Q H locs la C hr ho hl)
set_option maxRecDepth 100000 in
theorem zmax_w : Cond.static Lib.Math.max.name ∈ zgood ∧ Cond.initialized "java/lang/Math" ∈ zgood ∧ Cond.code Lib.Math.max.name Lib.Math.max.code 2 (some .int) ∈ zgood := by decide +kernel
set_option maxRecDepth 100000 in
theorem zmin_w : Cond.static Lib.Math.min.name ∈ zgood ∧ Cond.initialized "java/lang/Math" ∈ zgood ∧ Cond.code Lib.Math.min.name Lib.Math.min.code 2 (some .int) ∈ zgood := by decide +kernel
theorem zp_mmax {idx : Nat} {x y : Int32} {st : List Value} (hd : decode M.2.1 pc = .ok (.invokestatic idx, 3)) (hc : Cond.methodLink M.1.cls idx Lib.Math.max.name ∈ zgood) (hR : 1 ≤ R.frames ∧ 21 ≤ R.locals) (hf : cells ≤ R.cells ∧ slots ≤ R.slots) (hw : (st.map fun v => v.category).sum ≤ 8) (kk : zP g M R Qf cells slots (pc + 3) ls (.int (if x < y then y else x) :: st) h n) : zP g M R Qf cells slots pc ls (.int y :: .int x :: st) h n := by
  intro p e s m args below meth c Q H locs la C hr ho hl
  have h1 := zroom (g := g) (pc := pc) (m := m) (la := la) (st0 := []) hw
  have h2 : ((st.map (zv g)).map fun v => v.category).sum + 13 ≤ R.locals := by omega
  exact va_mmax C.1 C.2.1 (by rw [C.2.2.1]; exact hl.1.symm) C.2.2.2.1 (C.2.2.2.2.1 _ hc) (C.2.2.2.2.1 _ zmax_w.1) (C.2.2.2.2.1 _ zmax_w.2.1) (C.2.2.2.2.1 _ zmax_w.2.2) hR.1 h2 hf.1 hf.2 hd (kk p e s m args below meth c Q H locs la C hr ho hl)
theorem zp_mmin {idx : Nat} {x y : Int32} {st : List Value} (hd : decode M.2.1 pc = .ok (.invokestatic idx, 3)) (hc : Cond.methodLink M.1.cls idx Lib.Math.min.name ∈ zgood) (hR : 1 ≤ R.frames ∧ 21 ≤ R.locals) (hf : cells ≤ R.cells ∧ slots ≤ R.slots) (hw : (st.map fun v => v.category).sum ≤ 8) (kk : zP g M R Qf cells slots (pc + 3) ls (.int (if y < x then y else x) :: st) h n) : zP g M R Qf cells slots pc ls (.int y :: .int x :: st) h n := by
  intro p e s m args below meth c Q H locs la C hr ho hl
  have h1 := zroom (g := g) (pc := pc) (m := m) (la := la) (st0 := []) hw
  have h2 : ((st.map (zv g)).map fun v => v.category).sum + 13 ≤ R.locals := by omega
  exact va_mmin C.1 C.2.1 (by rw [C.2.2.1]; exact hl.1.symm) C.2.2.2.1 (C.2.2.2.2.1 _ hc) (C.2.2.2.2.1 _ zmin_w.1) (C.2.2.2.2.1 _ zmin_w.2.1) (C.2.2.2.2.1 _ zmin_w.2.2) hR.1 h2 hf.1 hf.2 hd (kk p e s m args below meth c Q H locs la C hr ho hl)
theorem zp_i {x y : Int32} {st : List Value} (he : x = y) (kk : zP g M R Qf cells slots pc ls (.int y :: st) h n) : zP g M R Qf cells slots pc ls (.int x :: st) h n := by subst he; exact kk
theorem zp_l {x y : Int64} {st : List Value} (he : x = y) (kk : zP g M R Qf cells slots pc ls (.long y :: st) h n) : zP g M R Qf cells slots pc ls (.long x :: st) h n := by subst he; exact kk
theorem zp_ls {ls' : List (Option Value)} {st : List Value} (he : ls = ls') (kk : zP g M R Qf cells slots pc ls' st h n) : zP g M R Qf cells slots pc ls st h n := by subst he; exact kk
theorem zp_h {h' : ZH} {st : List Value} (he : h = h') (kk : zP g M R Qf cells slots pc ls st h' n) : zP g M R Qf cells slots pc ls st h n := by subst he; exact kk
/-- a name for the heap -/
theorem zp_nh {st : List Value} (kk : ∀ h', h' = h → zP g M R Qf cells slots pc ls st h' n) : zP g M R Qf cells slots pc ls st h n := kk h rfl
/-- fewer locals -/
theorem zp_drop {ls' : List (Option Value)} {st : List Value} (hs : ∀ (i : Nat) (v : Value), ls'[i]? = some (some v) → ls[i]? = some (some v)) (kk : zP g M R Qf cells slots pc ls' st h n) : zP g M R Qf cells slots pc ls st h n := by
  intro p e s m args below meth c Q H locs la C hr ho hl
  refine kk p e s m args below meth c Q H locs la C hr ho ⟨hl.1, hl.2.1, fun q hq => ?_⟩
  obtain ⟨k, v, h1, rfl⟩ := (zls_mem ls' 0).mp hq
  exact hl.2.2 _ ((zls_mem ls 0).mpr ⟨k, v, hs k v h1, rfl⟩)
theorem zMt.post {Mc : ZM} {Rc : Room} {as : List Value} {Q1 Q2 : ZQ} (hM : zMt g Mc Rc as h n Q1) (hq : ∀ v h' n', Q1 v h' n' → Q2 v h' n') : zMt g Mc Rc as h n Q2 := by
  intro p e ha hc hk s m args below hf happ hP hK
  obtain ⟨k, o, a1, a2, a3, ⟨v, h', n', e1, q, r⟩, fr⟩ := hM p e ha hc hk s m args below hf happ hP hK
  exact ⟨k, o, a1, a2, a3, ⟨v, h', n', e1, hq _ _ _ q, r⟩, fr⟩
end ZT
def zR (d mc ms : Nat) : Room := { frames := d, cells := mc, slots := ms, locals := 48 * d }
