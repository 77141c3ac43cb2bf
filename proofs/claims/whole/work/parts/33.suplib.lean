/-! THE SUPPLY -/
section ZW
variable {g : ZG} {M : ZM} {R : Room} {Qf : ZQ} {cells slots pc : Nat} {ls : List (Option Value)} {st : List Value} {h : ZH} {n : Nat}
theorem zp_tabIn {dflt lo hi : Int} {offs : Array Int} {len : Nat} {x : Int32} {off : Int} {tgt : Nat} (hd : decode M.2.1 pc = .ok (.tableswitch dflt lo hi offs, len)) (hlo : ¬ x.toInt < lo) (hhi : ¬ hi < x.toInt) (ho : offs[(x.toInt - lo).toNat]? = some off) (ht : (pc : Int) + off = (tgt : Int)) (k : zP g M R Qf cells slots tgt ls st h n) : zP g M R Qf cells slots pc ls (.int x :: st) h n := fun p e s m args below meth c Q H locs la C hr ho' hl => lv_tableIn C.1 C.2.1 hd hlo hhi ho ht (k p e s m args below meth c Q H locs la C hr ho' hl)
theorem zp_tabOut {dflt lo hi : Int} {offs : Array Int} {len : Nat} {x : Int32} {tgt : Nat} (hd : decode M.2.1 pc = .ok (.tableswitch dflt lo hi offs, len)) (hx : x.toInt < lo ∨ hi < x.toInt) (ht : (pc : Int) + dflt = (tgt : Int)) (k : zP g M R Qf cells slots tgt ls st h n) : zP g M R Qf cells slots pc ls (.int x :: st) h n := fun p e s m args below meth c Q H locs la C hr ho' hl => lv_tableOut C.1 C.2.1 hd hx ht (k p e s m args below meth c Q H locs la C hr ho' hl)
end ZW
theorem zsw (x : Int32) (k : Nat) (hk : k < 2 ^ 31) : (∃ j : Nat, j < k ∧ x = nI j) ∨ (x.toInt < 0 ∨ (k : Int) - 1 < x.toInt) := by
  rcases pk_ix x hk with q | q | q
  · right; left; rw [Int32.lt_iff_toInt_lt, Int32.toInt_zero] at q; exact q
  · right; right; rw [Int32.le_iff_toInt_le, nI_toInt hk] at q; omega
  · left; exact q
theorem zsw_out {x : Int32} {k : Nat} (hx : x.toInt < 0 ∨ (k : Int) - 1 < x.toInt) (j : Nat) (hj : j < k) (hk : k < 2 ^ 31) : ¬ x = nI j := fun e => by
  rw [e, nI_toInt (by omega)] at hx
  omega
def zbi : Bool → Nat
  | true => 1
  | false => 0
theorem zbi_lt (b : Bool) : zbi b < 2 := by cases b <;> decide
theorem zfit_b (b : Bool) : zfit .boolean (.int (nI (zbi b))) := by cases b; exact zfit_0; exact zfit_1
/-- waiting, repeats, window, part, unsound, last, run, sample, met, seen, taken, failures -/
abbrev ZSup : Type := List Nat × Int32 × Int32 × Int32 × Bool × Int32 × Int32 × Int32 × Int32 × Int32 × Int32 × Int32
def zsup (h : ZH) (s : Nat) : ZSup → Prop
  | (w, rp, wi, pa, un, la, ru, sa, me, se, ta, fa) => 16 ≤ s ∧ h s = some (.inl (7, [.ref (s + 1), .ref (s + 3), .int rp, .int wi, .int pa, .int (nI (zbi un)), .int la, .int ru, .int sa, .int me, .int se, .int ta, .int fa])) ∧ zrow h (s + 1) 1000 w ∧ ∃ gs, zrow h (s + 3) 48 gs
def zanew : ZSup → ZSup
  | (_, rp, wi, pa, _, _, _, _, _, _, ta, fa) => ([], rp, wi, pa, false, -1, nI 0, -1, nI 0, nI 0, ta, fa)
/-- behind a byte that comes -/
def zrun (la ru b : Int32) : Int32 := if b = la then ru + nI 1 else nI 1
def zfrq (pa sa me b : Int32) : Bool := if sa = -1 then false else if b = sa then (if me + nI 1 = pa then true else false) else false
def zsmp (wi sa me se b : Int32) : Int32 × Int32 × Int32 := if sa = -1 then (b, nI 1, nI 1) else if se + nI 1 = wi then (-1, nI 0, nI 0) else (sa, if b = sa then me + nI 1 else me, se + nI 1)
def zstep : ZSup → Int32 → Nat → ZSup
  | (w, rp, wi, pa, un, la, ru, sa, me, se, ta, fa), b, x => if zrun la ru b = rp ∨ zfrq pa sa me b = true then ([], rp, wi, pa, true, b, zrun la ru b, (zsmp wi sa me se b).1, (zsmp wi sa me se b).2.1, (zsmp wi sa me se b).2.2, ta, fa + nI 1) else (w ++ [x], rp, wi, pa, un, b, zrun la ru b, (zsmp wi sa me se b).1, (zsmp wi sa me se b).2.1, (zsmp wi sa me se b).2.2, ta, fa)
abbrev zun (S : ZSup) : Bool := S.2.2.2.2.1
def zcome (S : ZSup) (x : Nat) : ZSup := if zun S = true then S else zstep S (nI x) x
def zrcv (S : ZSup) (xs : List Nat) : ZSup := xs.foldl zcome S
theorem zrcv_un {S : ZSup} (h : zun S = true) : ∀ xs : List Nat, zrcv S xs = S
  | [] => rfl
  | x :: xs => by
    show zrcv (zcome S x) xs = S
    rw [show zcome S x = S from if_pos h]
    exact zrcv_un h xs
theorem zrcv_append (S : ZSup) (xs ys : List Nat) : zrcv S (xs ++ ys) = zrcv (zrcv S xs) ys := List.foldl_append
theorem zstep_len (S : ZSup) (b : Int32) (x : Nat) : (zstep S b x).1.length ≤ S.1.length + 1 := by
  obtain ⟨w, rp, wi, pa, un, la, ru, sa, me, se, ta, fa⟩ := S
  show (if _ then _ else _ : ZSup).1.length ≤ w.length + 1
  split
  · exact Nat.zero_le _
  · show (w ++ [x]).length ≤ _
    rw [List.length_append]
    exact Nat.le_refl _
theorem zcome_len (S : ZSup) (x : Nat) : (zcome S x).1.length ≤ S.1.length + 1 := by
  unfold zcome
  split
  · omega
  · exact zstep_len S _ x
theorem zrcv_len (S : ZSup) : ∀ xs : List Nat, (zrcv S xs).1.length ≤ S.1.length + xs.length
  | [] => Nat.le_refl _
  | x :: xs => by
    have h1 := zrcv_len (zcome S x) xs
    have h2 := zcome_len S x
    show (zrcv (zcome S x) xs).1.length ≤ _
    rw [List.length_cons]
    omega
def zsrc : ZSup → Int32 → Int32
  | (w, _, _, _, un, _, ru, sa, me, se, ta, fa), x => if x = nI 0 then nI w.length else if x = nI 1 then nI (zbi un) else if x = nI 2 then ru else if x = nI 3 then sa else if x = nI 4 then me else if x = nI 5 then se else if x = nI 6 then ta else if x = nI 7 then fa else -1
def ztset (S : ZSup) (r w p : Int32) : Bool := if r < nI 2 then false else if nI 40 < r then false else if w < nI 16 then false else if nI 1024 < w then false else if p < nI 2 then false else if w < p then false else true
def zsetv : ZSup → Int32 → Int32 → Int32 → ZSup
  | (_, _, _, _, _, _, _, _, _, _, ta, fa), r, w, p => ([], r, w, p, false, -1, nI 0, -1, nI 0, nI 0, ta, fa)
abbrev zss (s : Nat) : Nat → Prop := fun i => s ≤ i ∧ i ≤ s + 4
