/-! DIGESTS: the tables, and what they compute, in words of 64 bits -/
def zt_FIRST : List Int64 := [7640891576956012808, -4942790177534073029, 4354685564936845355, -6534734903238641935, 5840696475078001361, -7276294671716946913, 2270897969802886507, 6620516959819538809]
def zt_ROUND : List Int64 := [4794697086780616226, 8158064640168781261, -5349999486874862801, -1606136188198331460, 4131703408338449720, 6480981068601479193, -7908458776815382629, -6116909921290321640, -2880145864133508542, 1334009975649890238, 2608012711638119052, 6128411473006802146, 8268148722764581231, -9160688886553864527, -7215885187991268811, -4495734319001033068, -1973867731355612462, -1171420211273849373, 1135362057144423861, 2597628984639134821, 3308224258029322869, 5365058923640841347, 6679025012923562964, 8573033837759648693, -7476448914759557205, -6327057829258317296, -5763719355590565569, -4658551843659510044, -4116276920077217854, -3051310485924567259, 489312712824947311, 1452737877330783856, 2861767655752347644, 3322285676063803686, 5560940570517711597, 5996557281743188959, 7280758554555802590, 8532644243296465576, -9096487096722542874, -7894198246740708037, -6719396339535248540, -6333637450476146687, -4446306890439682159, -4076793802049405392, -3345356375505022440, -2983346525034927856, -860691631967231958, 1182934255886127544, 1847814050463011016, 2177327727835720531, 2830643537854262169, 3796741975233480872, 4115178125766777443, 5681478168544905931, 6601373596472566643, 7507060721942968483, 8399075790359081724, 8693463985226723168, -8878714635349349518, -8302665154208450068, -8016688836872298968, -6606660893046293015, -4685533653050689259, -4147400797238176981, -3880063495543823972, -3348786107499101689, -1523767162380948706, -757361751448694408, 500013540394364858, 748580250866718886, 1242879168328830382, 1977374033974150939, 2944078676154940804, 3659926193048069267, 4368137639120453308, 4836135668995329356, 5532061633213252278, 6448918945643986474, 6902733635092675308, 7801388544844847127]
def zt_SMALL : List Int32 := [7, 18, 3, 17, 19, 10, 6, 11, 25, 2, 13, 22]
def zt_GREAT : List Int32 := [1, 8, 7, 19, 61, 6, 14, 18, 41, 28, 34, 39]
def zt_BOX : List Int32 := [99, 124, 119, 123, 242, 107, 111, 197, 48, 1, 103, 43, 254, 215, 171, 118, 202, 130, 201, 125, 250, 89, 71, 240, 173, 212, 162, 175, 156, 164, 114, 192, 183, 253, 147, 38, 54, 63, 247, 204, 52, 165, 229, 241, 113, 216, 49, 21, 4, 199, 35, 195, 24, 150, 5, 154, 7, 18, 128, 226, 235, 39, 178, 117, 9, 131, 44, 26, 27, 110, 90, 160, 82, 59, 214, 179, 41, 227, 47, 132, 83, 209, 0, 237, 32, 252, 177, 91, 106, 203, 190, 57, 74, 76, 88, 207, 208, 239, 170, 251, 67, 77, 51, 133, 69, 249, 2, 127, 80, 60, 159, 168, 81, 163, 64, 143, 146, 157, 56, 245, 188, 182, 218, 33, 16, 255, 243, 210, 205, 12, 19, 236, 95, 151, 68, 23, 196, 167, 126, 61, 100, 93, 25, 115, 96, 129, 79, 220, 34, 42, 144, 136, 70, 238, 184, 20, 222, 94, 11, 219, 224, 50, 58, 10, 73, 6, 36, 92, 194, 211, 172, 98, 145, 149, 228, 121, 231, 200, 55, 109, 141, 213, 78, 169, 108, 86, 244, 234, 101, 122, 174, 8, 186, 120, 37, 46, 28, 166, 180, 198, 232, 221, 116, 31, 75, 189, 139, 138, 112, 62, 181, 102, 72, 3, 246, 14, 97, 53, 87, 185, 134, 193, 29, 158, 225, 248, 152, 17, 105, 217, 142, 148, 155, 30, 135, 233, 206, 85, 40, 223, 140, 161, 137, 13, 191, 230, 66, 104, 65, 153, 45, 15, 176, 84, 187, 22]
def zt_STRENGTHS : List Int32 := [112, 128, 192, 256]
def zt_STRONGEST : List Int32 := [256, 256, 256, 256, 128, 256, 128, 256]
def zt_SEEDL : List Int32 := [55, 111, 32, 64, 32, 48, 32, 48]
def zt_TURNS : List Int32 := [2, 13, 22, 6, 11, 25, 7, 18, 3, 17, 19, 10, 28, 34, 39, 14, 18, 41, 1, 8, 7, 19, 61, 6]
/-- the tables of the statics, under their numbers -/
def ztab (h : ZH) : Prop := h 1 = some (.inr (256, .inl (fun j => zt_BOX.getD j 0))) ∧ h 2 = some (.inr (8, .inr (.inl (fun j => zt_FIRST.getD j 0)))) ∧ h 3 = some (.inr (80, .inr (.inl (fun j => zt_ROUND.getD j 0)))) ∧ h 4 = some (.inr (12, .inl (fun j => zt_SMALL.getD j 0))) ∧ h 5 = some (.inr (12, .inl (fun j => zt_GREAT.getD j 0))) ∧ h 6 = some (.inr (4, .inl (fun j => zt_STRENGTHS.getD j 0))) ∧ h 7 = some (.inr (8, .inl (fun j => zt_STRONGEST.getD j 0))) ∧ h 8 = some (.inr (8, .inl (fun j => zt_SEEDL.getD j 0))) ∧ h 9 = some (.inr (24, .inl (fun j => zt_TURNS.getD j 0)))
theorem ztab.sm {h h' : ZH} {S : Nat → Prop} (ht : ztab h) (hs : zsm h h' S) (hS : ∀ i, S i → 16 ≤ i) : ztab h' := by
  have k : ∀ i, i < 16 → h' i = h i := fun i hi => hs i (fun q => by have := hS i q; omega)
  unfold ztab
  rw [k 1 (by decide), k 2 (by decide), k 3 (by decide), k 4 (by decide), k 5 (by decide), k 6 (by decide), k 7 (by decide), k 8 (by decide), k 9 (by decide)]
  exact ht
def zwb : Bool → Nat
  | true => 8
  | false => 4
theorem zwb_or (b : Bool) : zwb b = 4 ∨ zwb b = 8 := by cases b <;> simp [zwb]
def zmask : Bool → Int64
  | true => -1
  | false => 4294967295
def ztid : Bool → Nat
  | true => 5
  | false => 4
def ztt : Bool → List Int32
  | true => zt_GREAT
  | false => zt_SMALL
def zrn : Bool → Nat
  | true => 80
  | false => 64
theorem zrn_or (b : Bool) : zrn b = 64 ∨ zrn b = 80 := by cases b <;> simp [zrn]
abbrev ztu (b : Bool) (j : Nat) : Int32 := (ztt b).getD j 0
theorem ztab.turns {h : ZH} (ht : ztab h) (b : Bool) : h (ztid b) = some (.inr (12, .inl (fun j => ztu b j))) := by
  obtain ⟨-, -, -, h4, h5, -⟩ := ht
  cases b
  · exact h4
  · exact h5
/-- a word turned -/
def ztn (b : Bool) (x : Int64) (k : Int32) : Int64 := ((x.toUInt64 >>> (k.toInt64.toUInt64 &&& Int64.toUInt64 63)).toInt64 ||| x <<< ((nI (8 * zwb b) - k).toInt64 &&& 63)) &&& zmask b
def zcut (b : Bool) (x : Int64) : Int64 := (x.toUInt64 >>> ((nI (64 - 8 * zwb b)).toInt64.toUInt64 &&& Int64.toUInt64 63)).toInt64
/-- word t of a block whose bytes begin at a -/
def zword (f : Nat → Int32) (a : Nat) : Nat → Int64
  | 0 => 0
  | i + 1 => zword f a i <<< ((nI 8).toInt64 &&& 63) ||| (f (a + i)).toInt64
abbrev zg0 (b : Bool) (x : Int64) : Int64 := ztn b x (ztu b 0) ^^^ ztn b x (ztu b 1) ^^^ (x.toUInt64 >>> ((ztu b 2).toInt64.toUInt64 &&& Int64.toUInt64 63)).toInt64
abbrev zg1 (b : Bool) (x : Int64) : Int64 := ztn b x (ztu b 3) ^^^ ztn b x (ztu b 4) ^^^ (x.toUInt64 >>> ((ztu b 5).toInt64.toUInt64 &&& Int64.toUInt64 63)).toInt64

/-- the schedule of words -/
def zsch (b : Bool) (f : Nat → Int32) (a : Nat) : Nat → Nat → Int64
  | 0 => fun t => zword f (a + zwb b * t) (zwb b)
  | k + 1 => fun t => if t = 16 + k then (zsch b f a k k + zg0 b (zsch b f a k (k + 1)) + zsch b f a k (k + 9) + zg1 b (zsch b f a k (k + 14))) &&& zmask b else zsch b f a k t
abbrev Z8 : Type := Int64 × Int64 × Int64 × Int64 × Int64 × Int64 × Int64 × Int64
def zt1 (b : Bool) (k w : Int64) (s : Z8) : Int64 := s.2.2.2.2.2.2.2 + (ztn b s.2.2.2.2.1 (ztu b 6) ^^^ ztn b s.2.2.2.2.1 (ztu b 7) ^^^ ztn b s.2.2.2.2.1 (ztu b 8)) + (s.2.2.2.2.1 &&& s.2.2.2.2.2.1 ^^^ (s.2.2.2.2.1 ^^^ (-1)) &&& s.2.2.2.2.2.2.1) + k + w
def zt2 (b : Bool) (s : Z8) : Int64 := (ztn b s.1 (ztu b 9) ^^^ ztn b s.1 (ztu b 10) ^^^ ztn b s.1 (ztu b 11)) + (s.1 &&& s.2.1 ^^^ s.1 &&& s.2.2.1 ^^^ s.2.1 &&& s.2.2.1)
def zround (b : Bool) (k w : Int64) (s : Z8) : Z8 := ((zt1 b k w s + zt2 b s) &&& zmask b, s.1, s.2.1, s.2.2.1, (s.2.2.2.1 + zt1 b k w s) &&& zmask b, s.2.2.2.2.1, s.2.2.2.2.2.1, s.2.2.2.2.2.2.1)
def zrounds (b : Bool) (w : Nat → Int64) (s : Z8) : Nat → Z8
  | 0 => s
  | t + 1 => zround b (zcut b (zt_ROUND.getD t 0)) (w t) (zrounds b w s t)
def zcomp (b : Bool) (w : Nat → Int64) (s : Z8) : Z8 :=
  let q := zrounds b w s (zrn b)
  ((s.1 + q.1) &&& zmask b, (s.2.1 + q.2.1) &&& zmask b, (s.2.2.1 + q.2.2.1) &&& zmask b, (s.2.2.2.1 + q.2.2.2.1) &&& zmask b, (s.2.2.2.2.1 + q.2.2.2.2.1) &&& zmask b, (s.2.2.2.2.2.1 + q.2.2.2.2.2.1) &&& zmask b, (s.2.2.2.2.2.2.1 + q.2.2.2.2.2.2.1) &&& zmask b, (s.2.2.2.2.2.2.2 + q.2.2.2.2.2.2.2) &&& zmask b)
def z8f (s : Z8) : Nat → Int64
  | 0 => s.1
  | 1 => s.2.1
  | 2 => s.2.2.1
  | 3 => s.2.2.2.1
  | 4 => s.2.2.2.2.1
  | 5 => s.2.2.2.2.2.1
  | 6 => s.2.2.2.2.2.2.1
  | _ => s.2.2.2.2.2.2.2
def zfirst (b : Bool) : Z8 := (zcut b (zt_FIRST.getD 0 0), zcut b (zt_FIRST.getD 1 0), zcut b (zt_FIRST.getD 2 0), zcut b (zt_FIRST.getD 3 0), zcut b (zt_FIRST.getD 4 0), zcut b (zt_FIRST.getD 5 0), zcut b (zt_FIRST.getD 6 0), zcut b (zt_FIRST.getD 7 0))
/-- how long a message of k bytes is when it is padded -/
def ztot (b : Bool) (k : Nat) : Nat := (k + 1 + 2 * zwb b + 16 * zwb b - 1) / (16 * zwb b) * (16 * zwb b)
/-- the padded message -/
def zpad (b : Bool) (xs : List Nat) (i : Nat) : Int32 := if i < xs.length then nI (xs.getD i 0) else if i = xs.length then nI 128 else if i = ztot b xs.length - 2 then nI (8 * xs.length / 256) else if i = ztot b xs.length - 1 then nI (8 * xs.length % 256) else nI 0
/-- the state behind c blocks -/
def zblk (b : Bool) (xs : List Nat) : Nat → Z8
  | 0 => zfirst b
  | c + 1 => zcomp b (zsch b (zpad b xs) (16 * zwb b * c) (zrn b - 16)) (zblk b xs c)
def zhash (b : Bool) (xs : List Nat) : List Nat := (List.range 8).flatMap (fun k => znum (z8f (zblk b xs (ztot b xs.length / (16 * zwb b))) k).toBitVec.toNat (zwb b))
theorem zhash_len (b : Bool) (xs : List Nat) : (zhash b xs).length = 8 * zwb b := by
  simp only [zhash, List.length_flatMap, znum_len]
  cases b <;> rfl
theorem zhash_lt (b : Bool) (xs : List Nat) : ∀ x ∈ zhash b xs, x < 256 := fun x hx => by
  obtain ⟨k, -, h⟩ := List.mem_flatMap.mp hx
  exact znum_lt _ _ x h
set_option maxRecDepth 100000 in
theorem zand_blk : ∀ m, m < 700 → nI m &&& -nI 64 = nI (m / 64 * 64) ∧ nI m &&& -nI 128 = nI (m / 128 * 128) := by decide +kernel
theorem ztot_eq (b : Bool) {k : Nat} (hk : k ≤ 512) : nI (k + 1 + 2 * zwb b + 16 * zwb b - 1) &&& -nI (16 * zwb b) = nI (ztot b k) := by
  cases b
  · exact (zand_blk (k + 1 + 2 * 4 + 16 * 4 - 1) (by omega)).1
  · exact (zand_blk (k + 1 + 2 * 8 + 16 * 8 - 1) (by omega)).2
theorem ztot_le (b : Bool) {k : Nat} (hk : k ≤ 512) : ztot b k ≤ 640 ∧ k + 1 + 2 * zwb b ≤ ztot b k ∧ ztot b k % (16 * zwb b) = 0 := by
  cases b <;> simp only [ztot, zwb] <;> omega
/-- a digest at d: its object, arrays, rows -/
abbrev zdo (b : Bool) (d : Nat) : ZC := .inl (3, [.int (nI (8 * zwb b)), .int (nI (zwb b)), .int (nI (8 * zwb b)), .long (zmask b), .int (nI (16 * zwb b)), .int (nI (zrn b)), .ref (ztid b), .ref (d + 1), .ref (d + 2), .ref (d + 3), .ref (d + 4), .ref (d + 6)])
def zdg (h : ZH) (b : Bool) (d : Nat) : Prop := 16 ≤ d ∧ h d = some (zdo b d) ∧ (∃ f, h (d + 1) = some (.inr (640, .inl f))) ∧ (∃ f, h (d + 2) = some (.inr (8, .inr (.inl f)))) ∧ (∃ f, h (d + 3) = some (.inr (80, .inr (.inl f)))) ∧ (∃ xs, zrow h (d + 4) 512 xs) ∧ ∃ xs, zrow h (d + 6) 64 xs
theorem zdg.apart {h : ZH} {b : Bool} {d q K : Nat} {ys : List Nat} (hd : zdg h b d) (hq : zrow h q K ys) : q ≠ d ∧ q ≠ d + 1 ∧ q ≠ d + 2 ∧ q ≠ d + 3 ∧ q + 1 ≠ d ∧ q + 1 ≠ d + 2 ∧ q + 1 ≠ d + 3 := by
  obtain ⟨-, h0, ⟨f1, h1⟩, ⟨f2, h2⟩, ⟨f3, h3⟩, -⟩ := hd
  obtain ⟨-, a1, -, -, -, f, a2, -⟩ := hq
  refine ⟨?_, ?_, ?_, ?_, ?_, ?_, ?_⟩ <;> intro e
  · rw [← e, a1] at h0; simp [zdo] at h0
  · rw [← e, a1] at h1; cases h1
  · rw [← e, a1] at h2; cases h2
  · rw [← e, a1] at h3; cases h3
  · rw [← e, a2] at h0; cases h0
  · rw [← e, a2] at h2; cases h2
  · rw [← e, a2] at h3; cases h3
theorem ztid_le (b : Bool) : ztid b ≤ 5 := by cases b <;> simp [ztid]
theorem zrow.ge {h : ZH} {r N : Nat} {xs : List Nat} (hr : zrow h r N xs) : 16 ≤ r := hr.1
