/-! GENERATORS: what is said of them -/
def zdem (kd st sl sd : Nat) : Nat := if 6 ≤ kd then sl else if sd = 0 then st / 8 + st / 8 / 2 else st / 8
def zglook (kd st ct iv : Nat) (rs : Bool) (sl : Nat) (dr : Int32) (sd : Nat) (x : Int32) : Int32 := if x = nI 0 then nI kd else if x = nI 1 then nI st else if x = nI 2 then nI ct else if x = nI 3 then nI iv else if x = nI 4 then nI (zbi rs) else if x = nI 5 then nI sl else if x = nI 6 then dr else if x = nI 7 then nI sd else -1
def zdid : Bool → Nat
  | false => 47
  | true => 55
theorem zdid_or (b : Bool) : zdid b = 47 ∨ zdid b = 55 := by cases b <;> simp [zdid]
abbrev zgcell (ci : Nat) (a st : Nat) (rs : Bool) (sl kd iv ct : Nat) (dr : Int32) (sd : Nat) (ex : List Value) : ZC := .inl (ci, [.int (nI st), .int (nI (zbi rs)), .int (nI sl), .ref (a + 1), .ref (a + 3), .ref 26, .int (nI kd), .int (nI iv), .int (nI ct), .int dr, .int (nI sd)] ++ ex)
