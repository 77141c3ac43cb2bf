/-! invokestatic of a method that the named class inherits: cold or warm; the layer's row for it -/
section ZUS
theorem zu_wp {Q : Unit → Pre} {E : CtlPost} {e : Env} {d : Bool} {acts : List Action} {s s₀ : State} {f : JFrame} {index ci n c : Nat} {m : MethodId} {dk ck : Class} {cf : ClassFile} {name desc : String} (hs : s.topJava?.isSome) (hp : e.platform.polymorphicOnlyByInvokevirtual = true)
    (hW : s₀.WarmedH s.vm) (hE : s₀.MethodEntryUp e s.vm f.method.cls index c m ci) (h1 : s₀.vm.classes[f.method.cls]? = some dk) (h2 : dk.cf = some cf)
    (h3 : cf.constantPool[index]? = some (.methodref ci n)) (h4 : cf.constantPool.nameAndType? n = some (name, desc))
    (hck : s₀.vm.classes[c]? = some ck) (hnone : (ck.methods.any fun x => x.name == name && !x.isStatic && signaturePolymorphic ck x) = false) :
    wp (Op.invokestatic.sem index) Q E e d acts (s.setTop f) ↔ wp (Op.invokestatic.sem index) Q E e d acts ((s.setVm (s.vm.calledUp f.method.cls ci index c m)).setTop f) := by
  obtain ⟨hgc, hrc, hW₁, hgm⟩ := hE.classFirst
  obtain ⟨k₀, hk₀, he₀⟩ := hW.alike.2.2 _ _ h1
  obtain ⟨k₂, hk₂, he₂⟩ := hE.warmed.alike.2.2 _ _ h1
  obtain ⟨c₁, hc₁, hec₁⟩ := hW₁.alike.2.2 _ _ hck
  obtain ⟨c₂, hc₂, hec₂⟩ := hE.warmed.alike.2.2 _ _ hck
  have h3' : cf.constantPool[index]? = some (if false then .interfaceMethodref ci n else .methodref ci n) := h3
  have hb₀ := memberRef_ask_via (e := e) (via := false) hk₀ (by rw [he₀]; exact h2) h3' h4
  have hb₂ := memberRef_ask_via (e := e) (via := false) hk₂ (by rw [he₂]; exact h2) h3' h4
  have hn₁ : (c₁.methods.any fun x => x.name == name && !x.isStatic && signaturePolymorphic c₁ x) = false := by rw [hec₁]; exact hnone
  have hn₂ : (c₂.methods.any fun x => x.name == name && !x.isStatic && signaturePolymorphic c₂ x) = false := by rw [hec₂]; exact hnone
  have hs₁ : (s.setVm (s.vm.noted f.method.cls ci (.cls c))).topJava?.isSome := hs
  have hs₂ : (s.setVm (s.vm.calledUp f.method.cls ci index c m)).topJava?.isSome := hs
  have hL : ∀ {Q' : ClassId → Pre} {d' : Bool} {acts' : List Action}, wp (Jvm.resolveClassAt ci) Q' E e d' acts' (s.setTop f) ↔ Q' c d' acts' ((s.setVm (s.vm.noted f.method.cls ci (.cls c))).setTop f) :=
    W.resolveClassAt_links (t := s.setTop f) (State.method?_setTop f hs) hgc
  have hM : ∀ {Q' : MethodId → Pre} {d' : Bool} {acts' : List Action}, wp (Jvm.resolveMethodAt index) Q' E e d' acts' ((s.setVm (s.vm.noted f.method.cls ci (.cls c))).setTop f) ↔ Q' m d' acts' ((s.setVm (s.vm.calledUp f.method.cls ci index c m)).setTop f) :=
    W.resolveMethodAt_links (t := (s.setVm (s.vm.noted f.method.cls ci (.cls c))).setTop f) (State.method?_setTop f hs₁) hgm
  simp [Op.invokestatic.sem, hp, Seam.memberRefOf, State.method?_setTop f hs, State.method?_setTop f hs₂, hb₀, hb₂, hL, W.resolveClassAt_ready (s := (s.setVm (s.vm.calledUp f.method.cls ci index c m)).setTop f) (State.method?_setTop f hs₂) hE.classReady,
    hc₁, hc₂, hn₁, hn₂, hM, W.resolveMethodAt_ready (s := (s.setVm (s.vm.calledUp f.method.cls ci index c m)).setTop f) (State.method?_setTop f hs₂) hE.ready, -Array.any_eq_true]
variable {p : Program} {l : Launch} {e : Env} {R : Room} {s : State} {m : MethodId} {args : Array Value} {below : List Frame} {meth : Method} {c : Code} {T : State} {locs : List Loc} {cells slots : Nat}
theorem zu_stand (X : Stand p l e R s m args below meth c T locs cells slots) (hexec : p.tables.exec = Jvm.exec)
    {own owner : String} {index : Nat} {x : MethodName} (hown : s.vm.findClass own = some m.cls) (hlink : (Cond.methodLink own index x).before args s = true)
    (hsame : (Cond.sameMethod x.cls owner x.name x.desc).before args s = true) (howner : owner ≠ "java/lang/invoke/MethodHandle" ∧ owner ≠ "java/lang/invoke/VarHandle")
    {r0 : MethodId} {r : Method} {kr : Class} (hn : s.methodNamed? ⟨owner, x.name, x.desc⟩ = some r0) (hrm : s.vm.method? r0 = some r) (hstatic : r.isStatic = true)
    (hkr : s.vm.classes[r0.cls]? = some kr) (hinit : kr.init = .initialized)
    {g : JFrame} (hg : g.method = m) {argsL rest : List Value} (hlen : argsL.length = r.sig.parameters.length) (hstack : g.stack = argsL.reverse ++ rest)
    (hdg : decode c.code g.pc = .ok (.invokestatic index, 3)) :
    ∃ vm', Stand p l e R s m args below meth c (T.setVm vm') locs cells slots ∧
      ∀ target, (∀ acts, Steps p.tables e below (doInvoke e ((T.setVm vm').setTop { g with stack := rest }) acts r0 argsL.toArray).1 target) → Steps p.tables e below (T.setTop g) target := by
  have hpl : e.platform.magicAccessors = ({} : Platform).magicAccessors := by rw [X.admits.platform]
  have hpv : e.platform.polymorphicOnlyByInvokevirtual = true := by rw [X.admits.platform]
  obtain ⟨cn, ck, r1, hcn, hck, hni, hf, hn1⟩ := Cond.sameMethod_found hsame
  cases hn.symm.trans hn1
  obtain ⟨ci, hl, hright⟩ := Cond.methodLink_specUp hown hcn hck hni hf hlink e.platform hpl (by rw [X.admits.platform])
  have hE : s.MethodEntryUp e T.vm m.cls index cn r0 ci := State.methodEntryUp X.warmed hl hright
  obtain ⟨kr', hkr', hnr⟩ := className_of_methodNamed hn
  cases hkr.symm.trans hkr'
  obtain ⟨dk, cfile, nt, mname, mdesc, ck', _, _, hd, hcf, hcp, hnt, -, -, hck', -, hpoly, -⟩ := hl.here
  cases hck.symm.trans hck'
  have alike := hE.warmed.alike
  obtain ⟨dk₂, hdk₂, hed₂⟩ := alike.2.2 _ _ hd
  obtain ⟨kr₂, hkr₂, her⟩ := alike.2.2 _ _ hkr
  obtain ⟨ck₂, hck₂, hec⟩ := alike.2.2 _ _ hck
  have hnone : (ck.methods.any fun y => y.name == mname && !y.isStatic && signaturePolymorphic ck y) = false := by simp [hpoly]
  have hnone₂ : (ck₂.methods.any fun y => y.name == mname && !y.isStatic && signaturePolymorphic ck₂ y) = false := by rw [hec]; exact hnone
  have hcp' : cfile.constantPool[index]? = some (if false then .interfaceMethodref ci nt else .methodref ci nt) := hcp
  refine ⟨T.vm.calledUp m.cls ci index cn r0, X.noted hE.warmed, fun target hrest => ?_⟩
  subst hg
  jvm_step X.here [hexec, hdg, zu_wp (e := e) (s := T) (s₀ := s) (f := g) X.here.top hpv X.warmed hE hd hcf hcp hnt hck hnone,
    Op.invokestatic.wp_ready (e := e) (s := T.setVm (T.vm.calledUp g.method.cls ci index cn r0)) (k := kr₂) (meth := r) (m := r0) (args := argsL) (rest := rest) (f := g)
      X.here.top ⟨ci, mname, mdesc, false, cn, ck₂, memberRef_ask_via (e := e) (via := false) hdk₂ (by rw [hed₂]; exact hcf) hcp' hnt, hE.classReady, hck₂, hnone₂⟩ hE.ready hkr₂
      (by show (T.vm.calledUp g.method.cls ci index cn r0).method? r0 = some r; rw [alike.method?]; exact hrm)
      (by rw [her]; show signaturePolymorphic kr r = false; simp [signaturePolymorphic, hnr, howner.1, howner.2]) hstatic (by rw [her]; exact hinit) hlen hstack]
  exact fun acts => hrest _
theorem zu_call (X : Stand p l e R s m args below meth c T locs cells slots) (hexec : p.tables.exec = Jvm.exec) {own owner : String} {index : Nat} {x y : MethodName} {bytes : ByteArray} {maxL : Nat} {ret : Option FieldType}
    (hown : s.vm.findClass own = some m.cls) (hlink : (Cond.methodLink own index x).before args s = true) (hsame : (Cond.sameMethod x.cls owner x.name x.desc).before args s = true) (hyx : y = ⟨owner, x.name, x.desc⟩) (hstat : (Cond.static y).before args s = true) (hinit : (Cond.initialized y.cls).before args s = true)
    (hcode : (Cond.code y bytes maxL ret).before args s = true) (hy : owner ≠ "java/lang/invoke/MethodHandle" ∧ owner ≠ "java/lang/invoke/VarHandle")
    {W : Nat} {Pre : Pt → Array Value → Prop} {Post : Pt → Array Value → Option Value → Pt → Prop} (hK : Back l R p e below s args y 3 W Pre Post)
    {g : JFrame} (hg : g.method = m) (hsize : g.locals.size = c.maxLocals) {argsL rest : List Value} (hlen : ∀ sig, parseMethodDescriptor y.desc = some sig → argsL.length = sig.parameters.length)
    (hstack : g.stack = argsL.reverse ++ rest) (hW : 2 * g.monitorRoom + (rest.map fun v => v.category).sum ≤ W) (hdg : decode c.code g.pc = .ok (.invokestatic index, 3))
    (hpre : ∀ vm₁, s.WarmedH vm₁ → Pre ⟨T.setVm vm₁, locs, cells, slots⟩ argsL.toArray) :
    ∃ (v : Option Value) (vm₁ : Vm) (B : Pt), s.WarmedH vm₁ ∧ Stand p l e R s m args below meth c B.U B.locs B.cells B.slots ∧ Post ⟨T.setVm vm₁, locs, cells, slots⟩ argsL.toArray v B ∧
      ∀ target, Steps p.tables e below (B.U.setTop { g with pc := g.pc + 3, stack := v.toList ++ rest }) target → Steps p.tables e below (T.setTop g) target := by
  obtain ⟨mk, hnamed⟩ := Cond.code_named hcode
  obtain ⟨methM, cM, hmethM, -, -, -, -, -, -, hsigM⟩ := Cond.code_spec hnamed hcode
  have hstatic : methM.isStatic = true := Cond.static_spec hnamed hmethM hstat
  obtain ⟨kP, hkP, -⟩ := className_of_methodNamed hnamed
  have hinitP : kP.init = .initialized := Cond.initialized_spec (findClass_of_methodNamed hnamed) hkP hinit
  obtain ⟨vm₁, X₁, hstep₁⟩ := zu_stand X hexec hown hlink hsame hy (by rw [← hyx]; exact hnamed) hmethM hstatic hkP hinitP (g := g) hg (argsL := argsL) (rest := rest) (hlen _ hsigM) hstack hdg
  obtain ⟨v, B, X', hpost, hsteps⟩ := hK m meth c ⟨T.setVm vm₁, locs, cells, slots⟩ { g with stack := rest } (.invokestatic index) mk argsL.toArray X₁ hg hsize hdg hW (X₁.named hnamed) (hpre vm₁ X₁.warmed)
  exact ⟨v, vm₁, B, X₁.warmed, X', hpost, fun target h => hstep₁ _ fun acts => by rw [doInvoke_state]; exact hsteps.trans h⟩
end ZUS
def zusP (own : String) (idx : Nat) (owner : String) (x : MethodName) (M : ZM) (na : Nat) : Prop := zkP M na ∧ (Cond.methodLink own idx x ∈ zgood ∧ Cond.sameMethod x.cls owner x.name x.desc ∈ zgood ∧ Cond.static M.1 ∈ zgood ∧ Cond.initialized M.1.cls ∈ zgood) ∧ M.1 = ⟨owner, x.name, x.desc⟩ ∧ owner ≠ "java/lang/invoke/MethodHandle" ∧ owner ≠ "java/lang/invoke/VarHandle"
section ZUT
variable {g : ZG} {M : ZM} {R : Room} {Qf : ZQ} {cells slots pc : Nat} {ls : List (Option Value)} {h : ZH} {n : Nat}
theorem zp_callSU {idx : Nat} {owner : String} {x : MethodName} {Mc : ZM} {Rc : Room} {As st0 st : List Value} {Qc : ZQ} (hd : decode M.2.1 pc = .ok (.invokestatic idx, 3)) (hc : zusP M.1.cls idx owner x Mc As.length) (hst : st0 = As.reverse ++ st) (hM : zMt g Mc Rc As h n Qc) (hR : Rc.frames + 1 ≤ R.frames ∧ 8 + (Mc.2.2.1 + 11) + Rc.locals ≤ R.locals) (hf : cells + Rc.cells ≤ R.cells ∧ slots + Rc.slots ≤ R.slots) (hw : (st.map fun v => v.category).sum ≤ 8) (kk : ∀ (v : Option Value) (h' : ZH) (n' : Nat), Qc v h' n' → zP g M R Qf (cells + Rc.cells) (slots + Rc.slots) (pc + 3) ls (v.toList ++ st) h' n') : zP g M R Qf cells slots pc ls st0 h n := by
  intro p e s m args below meth c Q H locs la C hr ho hl
  obtain ⟨hc1, ⟨w1, w2, w3, w4⟩, hyx, hn1, hn2⟩ := hc
  obtain ⟨k1, k2⟩ := zkP_spec hc1
  have hG : GoodIn zgood (zw Mc) := zgoodIn k1
  have hC : ∃ ret ws', zw Mc = Cond.code Mc.1 Mc.2.1 Mc.2.2.1 ret :: ws' := ⟨_, _, rfl⟩
  obtain ⟨ret, ws', hC⟩ := hC
  have hcm : Cond.code Mc.1 Mc.2.1 Mc.2.2.1 ret ∈ zw Mc := by rw [hC]; exact List.mem_cons_self
  have hini := C.2.2.2.2.1 _ w4
  refine zcall (Rc := Rc) (Qc := Qc) (a := (As.map (zv g)).toArray) (st := st) C ho hl ?_ kk
  have hK : Back g.1 R p e below s args Mc.1 3 8 (PreOf R Rc.cells Rc.slots (zPc g As h n)) (PostOf (zQc g Qc) Rc.cells Rc.slots (fun q => g.2.2.1 ≤ q)) := back_of (bytes := Mc.2.1) (maxL := Mc.2.2.1) (ret := ret) hM zPc_blind rfl rfl hR.1 hR.2 (pay_in C.2.2.2.2.1 hG) hcm (fun a' U hW => word_at hW (Or.inl (by first | rfl | simp [Cond.onTables, Cond.keeps, Cond.steady])) hini)
  intro T hT X
  obtain ⟨v, vm₁, ⟨U', l2, c2, s2⟩, hW₁, X', ⟨g', mk, t, L, e1, e2, hq, h1, hL, h2, h3⟩, st⟩ := zu_call X C.1 (owner := owner) (x := x) (bytes := Mc.2.1) (maxL := Mc.2.2.1) (ret := ret) C.2.2.2.1 (C.2.2.2.2.1 _ w1) (C.2.2.2.2.1 _ w2) hyx (C.2.2.2.2.1 _ w3) hini (C.2.2.2.2.1 _ (hG _ hcm).1) ⟨hn1, hn2⟩ hK rfl (by rw [C.2.2.1]; exact hl.1) (argsL := As.map (zv g)) (rest := st.map (zv g)) (fun sig h => by
    have h5 := k2.2.2
    rw [h] at h5
    rw [List.length_map]
    exact (Option.some.inj h5).symm) (zstk0 hst) (zroom hw) (by rw [C.2.1]; exact hd)
    (fun vm₁ hW₁ => ⟨hf.1, hf.2, ⟨rfl, by show zr g h n (T.setVm vm₁) T.heap; rw [hT]; exact hr.moved hW₁.alike, znest_warm hW₁ C.2.2.2.2.2.1⟩⟩)
  dsimp only [Pt.U, Pt.locs, Pt.cells, Pt.slots] at X' e1 e2 h1 h2 h3 st
  subst h1; subst h2; subst h3
  exact ⟨v, (T.setVm vm₁).calling g' mk (As.map (zv g)).toArray, t, U', L, hT, X', hL, e1, e2, hq, st⟩
end ZUT
set_option maxRecDepth 100000 in
theorem cX4_7 : zusP RX4 7 RX5 ⟨RX4, "isGreat", "(I)Z"⟩ mX5_isGreat 1 := ⟨kX5_isGreat, ⟨zmem 408 (by decide +kernel) (by decide +kernel), zmem 409 (by decide +kernel) (by decide +kernel), swX5_isGreat, ziRX5⟩, rfl, by decide +kernel, by decide +kernel⟩
set_option maxRecDepth 100000 in
theorem cX6_7 : zusP RX6 7 RX5 ⟨RX6, "isGreat", "(I)Z"⟩ mX5_isGreat 1 := ⟨kX5_isGreat, ⟨zmem 487 (by decide +kernel) (by decide +kernel), zmem 488 (by decide +kernel) (by decide +kernel), swX5_isGreat, ziRX5⟩, rfl, by decide +kernel, by decide +kernel⟩
