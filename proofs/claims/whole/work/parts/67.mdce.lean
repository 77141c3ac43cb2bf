theorem zapp_get (xs ys : List Nat) (i : Nat) : (xs ++ ys).getD i 0 = if i < xs.length then xs.getD i 0 else ys.getD (i - xs.length) 0 := by
  split
  · exact zapp_getD1 ‹_›
  · obtain ⟨d, rfl⟩ := Nat.exists_eq_add_of_le (Nat.not_lt.mp ‹_›)
    rw [zapp_getD2, show xs.length + d - xs.length = d by omega]
theorem zrep_get (n i v : Nat) : (List.replicate n v).getD i 0 = if i < n then v else 0 := by
  rw [List.getD_eq_getElem?_getD, List.getElem?_replicate]
  split <;> rfl
theorem zrange_get {n i : Nat} (h : i < n) : (List.range n).getD i 0 = i := by
  rw [List.getD_eq_getElem?_getD, List.getElem?_range h]; rfl
theorem zone_get (v i : Nat) : ([v] : List Nat).getD i 0 = if i = 0 then v else 0 := by
  cases i with
  | zero => rfl
  | succ i => rw [if_neg (by omega)]; rfl
theorem zpart_get {ys : List Nat} {a c k : Nat} (h : k < c) : (zpart ys a c).getD k 0 = ys.getD (a + k) 0 := by
  unfold zpart
  rw [List.getD_eq_getElem?_getD, List.getElem?_take_of_lt h, ← List.getD_eq_getElem?_getD, zget_drop]
theorem ztake_get {ys : List Nat} {c k : Nat} (h : k < c) : (ys.take c).getD k 0 = ys.getD k 0 := by
  rw [List.getD_eq_getElem?_getD, List.getElem?_take_of_lt h, ← List.getD_eq_getElem?_getD]
theorem zstf_get (xs : List Nat) (k j : Nat) : (zstf xs k).getD j 0 = if j < 4 then (znum xs.length 4).getD j 0 else if j < 8 then (znum k 4).getD (j - 4) 0 else if j < 8 + xs.length then xs.getD (j - 8) 0 else if j = 8 + xs.length then 128 else 0 := by
  unfold zstf
  rw [zapp_get, zapp_get, zapp_get, zapp_get, zrep_get, zone_get]
  simp only [List.length_append, znum_len, List.length_singleton]
  rcases Nat.lt_or_ge j 4 with q | q
  · rw [if_pos (by omega), if_pos (by omega), if_pos (by omega), if_pos q, if_pos q]
  · rcases Nat.lt_or_ge j 8 with q2 | q2
    · rw [if_pos (by omega), if_pos (by omega), if_pos (by omega), if_neg (by omega), if_neg (by omega), if_pos q2]
    · rcases Nat.lt_or_ge j (8 + xs.length) with q3 | q3
      · rw [if_pos (by omega), if_pos (by omega), if_neg (by omega), if_neg (by omega), if_neg (by omega), if_pos q3]
      · rcases Nat.lt_or_ge (8 + xs.length) j with q4 | q4
        · rw [if_neg (by omega), ite_self, if_neg (by omega), if_neg (by omega), if_neg (by omega), if_neg (by omega)]
        · rw [if_pos (by omega), if_neg (by omega), if_pos (by omega), if_neg (by omega), if_neg (by omega), if_neg (by omega), if_pos (by omega)]
theorem zstf_at {f : Nat → Int32} {xs : List Nat} {k N : Nat} (hN : N = 16 + (zstf xs k).length) (j : Nat) (hj : j < (zstf xs k).length) : va_up (zfl (zfl (zfl (zfl f 0 N (fun _ => nI 0)) 16 4 (fun i => nI ((znum xs.length 4).getD i 0))) 20 4 (fun i => nI ((znum k 4).getD i 0))) 24 xs.length (fun i => nI (xs.getD i 0))) (24 + xs.length) (nI 128) (16 + j) = nI ((zstf xs k).getD j 0) := by
  rw [zstf_get]
  by_cases q5 : j = 8 + xs.length
  · rw [show 16 + j = 24 + xs.length by omega, va_up_self, if_neg (by omega), if_neg (by omega), if_neg (by omega), if_pos q5]
  · rw [va_up_ne _ _ (by omega)]
    rcases Nat.lt_or_ge j 4 with q | q
    · rw [zfl_out (Or.inl (by omega)), zfl_out (Or.inl (by omega)), zfl_in q, if_pos q]
    · rcases Nat.lt_or_ge j 8 with q2 | q2
      · rw [zfl_out (Or.inl (by omega)), show 16 + j = 20 + (j - 4) by omega, zfl_in (by omega), if_neg (by omega), if_pos q2]
      · rcases Nat.lt_or_ge j (8 + xs.length) with q3 | q3
        · rw [show 16 + j = 24 + (j - 8) by omega, zfl_in (by omega), if_neg (by omega), if_neg (by omega), if_pos q3]
        · rw [zfl_out (Or.inr (by omega)), zfl_out (Or.inr (by omega)), zfl_out (Or.inr (by omega)), zfl_in0 (by omega), if_neg (by omega), if_neg (by omega), if_neg (by omega), if_neg q5]
theorem zstf_at0 {f : Nat → Int32} {xs : List Nat} {k N : Nat} (hN : 16 ≤ N) (j : Nat) (hj : j < 16) : va_up (zfl (zfl (zfl (zfl f 0 N (fun _ => nI 0)) 16 4 (fun i => nI ((znum xs.length 4).getD i 0))) 20 4 (fun i => nI ((znum k 4).getD i 0))) 24 xs.length (fun i => nI (xs.getD i 0))) (24 + xs.length) (nI 128) j = nI 0 := by
  rw [va_up_ne _ _ (by omega), zfl_out (Or.inl (by omega)), zfl_out (Or.inl (by omega)), zfl_out (Or.inl (by omega)), zfl_in0 (by omega)]
theorem zstf_lt {xs : List Nat} (hx : ∀ x ∈ xs, x < 256) (k : Nat) : ∀ x ∈ zstf xs k, x < 256 := by
  unfold zstf
  refine zapp_lt (zapp_lt (zapp_lt (zapp_lt (znum_lt _ _) (znum_lt _ _)) hx) (fun x h => ?_)) (fun x h => ?_)
  · rw [List.mem_singleton.mp h]; decide
  · rw [(List.mem_replicate.mp h).2]; decide
/-- the text with its first block -/
def zfu (t : List Nat) (i : Nat) : List Nat := znum i 4 ++ List.replicate 12 0 ++ t
theorem zfu_len (t : List Nat) (i : Nat) : (zfu t i).length = 16 + t.length := by
  unfold zfu; rw [List.length_append, List.length_append, znum_len, List.length_replicate]
theorem zfu_get (t : List Nat) (i j : Nat) : (zfu t i).getD j 0 = if j < 4 then (znum i 4).getD j 0 else if j < 16 then 0 else t.getD (j - 16) 0 := by
  unfold zfu
  rw [zapp_get, zapp_get, zrep_get, List.length_append, znum_len, List.length_replicate]
  rcases Nat.lt_or_ge j 4 with q | q
  · rw [if_pos (by omega), if_pos q, if_pos q]
  · rcases Nat.lt_or_ge j 16 with q2 | q2
    · rw [if_pos (by omega), if_neg (by omega), ite_self, if_neg (by omega), if_pos q2]
    · rw [if_neg (by omega), if_neg (by omega), if_neg (by omega)]
theorem zfu_lt {t : List Nat} (ht : ∀ x ∈ t, x < 256) (i : Nat) : ∀ x ∈ zfu t i, x < 256 := zapp_lt (zapp_lt (znum_lt _ _) (fun x h => by rw [(List.mem_replicate.mp h).2]; decide)) ht
/-- the chain behind c blocks -/
def zml (b : Bool) (t : List Nat) (i : Nat) : Nat → List Nat
  | 0 => List.replicate 16 0
  | c + 1 => zchn b (zJ b) t i c
theorem zml_len (b : Bool) (t : List Nat) (i c : Nat) : (zml b t i c).length = 16 := by
  cases c
  · exact List.length_replicate
  · exact zchn_len _ _ _ _ _
theorem zJ_lt (b : Bool) : ∀ x ∈ zJ b, x < 256 := fun x h => by
  have := List.mem_range.mp h
  have := zkl_or b
  omega
theorem zml_succ (b : Bool) (t : List Nat) (i c : Nat) : zenc b (zJ b) (zxor (zml b t i c) (zfu t i) (16 * c)) = zml b t i (c + 1) := by
  cases c with
  | zero =>
    show _ = zenc b (zJ b) (znum i 4 ++ List.replicate 12 0)
    congr 1
    apply zlist_eq
    · rw [zxor_len, zml_len, List.length_append, znum_len, List.length_replicate]
    · intro j hj
      rw [zxor_len, zml_len] at hj
      rw [zxor_get _ _ _ (by rw [zml_len]; exact hj), zfu_get, zapp_get, zrep_get, znum_len]
      show (List.replicate 16 0).getD j 0 ^^^ _ = _
      rw [zrep_get]
      rw [show (if j < 16 then (0 : Nat) else 0) = 0 by split <;> rfl, Nat.zero_xor, Nat.mul_zero, Nat.zero_add]
      rcases Nat.lt_or_ge j 4 with q | q
      · rw [if_pos q, if_pos q]
      · rw [if_neg (by omega), if_pos hj, if_neg (by omega), ite_self]
  | succ c =>
    show _ = zenc b (zJ b) (zxor (zchn b (zJ b) t i c) t (16 * c))
    congr 1
    apply zlist_eq
    · rw [zxor_len, zxor_len]; rfl
    · intro j hj
      rw [zxor_len, zml_len] at hj
      rw [zxor_get _ _ _ (by rw [zml_len]; exact hj), zxor_get _ _ _ (by rw [zchn_len]; exact hj), zfu_get, if_neg (by omega), if_neg (by omega), show 16 * (c + 1) + j - 16 = 16 * c + j by omega]
      rfl
theorem zml_lt {b : Bool} {t : List Nat} (ht : ∀ x ∈ t, x < 256) (i : Nat) : ∀ c, ∀ x ∈ zml b t i c, x < 256
  | 0 => fun x h => by rw [(List.mem_replicate.mp h).2]; decide
  | c + 1 => by rw [← zml_succ]; exact zenc_lt (zJ_lt b) (zxor_lt (zml_lt ht i c) (zfu_lt ht i) _)
theorem zTT_get (b : Bool) (t : List Nat) {i j : Nat} (hi : i < zkl b / 16 + 1) (hj : j < 16) : (zTT b t).getD (16 * i + j) 0 = (zml b t i (t.length / 16 + 1)).getD j 0 := by
  unfold zTT
  rw [zflat_getD _ 16 (by decide) (fun k => zchn_len _ _ _ _ _) _ _ (by omega), show (16 * i + j) / 16 = i by omega, show (16 * i + j) % 16 = j by omega]
  rfl
theorem zTT_lt {b : Bool} {t : List Nat} (ht : ∀ x ∈ t, x < 256) : ∀ x ∈ zTT b t, x < 256 := fun x h => by
  obtain ⟨i, -, h2⟩ := List.mem_flatMap.mp h
  exact zml_lt ht i (t.length / 16 + 1) x h2
theorem zit_lt {b : Bool} {ks x : List Nat} (hk : ∀ x ∈ ks, x < 256) (hx : ∀ y ∈ x, y < 256) : ∀ c, ∀ y ∈ zit b ks x c, y < 256
  | 0 => hx
  | c + 1 => zenc_lt hk (zit_lt hk hx c)
theorem zit_len {b : Bool} {ks x : List Nat} (hx : x.length = 16) : ∀ c, (zit b ks x c).length = 16
  | 0 => hx
  | c + 1 => zenc_len _ _ _
def zK (b : Bool) (xs : List Nat) (k : Nat) : List Nat := zpart (zTT b (zstf xs k)) 0 (zkl b)
def zX (b : Bool) (xs : List Nat) (k : Nat) : List Nat := zpart (zTT b (zstf xs k)) (zkl b) 16
theorem zdce_get (b : Bool) (xs : List Nat) {k j : Nat} (hj : j < k) : (zdce b xs k).getD j 0 = (zit b (zK b xs k) (zX b xs k) (j / 16 + 1)).getD (j % 16) 0 := by
  unfold zdce
  rw [ztake_get hj]
  show ((List.range k).flatMap (fun i => zit b (zK b xs k) (zX b xs k) (i + 1))).getD j 0 = _
  exact zflat_getD (fun i => zit b (zK b xs k) (zX b xs k) (i + 1)) 16 (by decide) (fun k => zenc_len _ _ _) k j (by omega)
theorem zdce_lt {b : Bool} {xs : List Nat} (hx : ∀ x ∈ xs, x < 256) (k : Nat) : ∀ x ∈ zdce b xs k, x < 256 := fun x h => by
  obtain ⟨i, -, h2⟩ := List.mem_flatMap.mp (List.mem_of_mem_take h)
  exact zit_lt (zpart_lt (zTT_lt (zstf_lt hx k)) _ _) (zpart_lt (zTT_lt (zstf_lt hx k)) _ _) (i + 1) x h2
abbrev zs9 (r : Nat) : Nat → Prop := fun i => (78 ≤ i ∧ i ≤ 83) ∨ i = r
abbrev zs6 : Nat → Prop := fun i => 78 ≤ i ∧ i ≤ 83
abbrev zs4 : Nat → Prop := fun i => 78 ≤ i ∧ i ≤ 80
abbrev zs5 (r : Nat) : Nat → Prop := fun i => (78 ≤ i ∧ i ≤ 80) ∨ i = r
set_option maxRecDepth 10000 in
set_option maxHeartbeats 2000000 in
theorem e_mdce {g : ZG} {h : ZH} {n : Nat} {b : Bool} {p r Np Nr k : Nat} {xs : List Nat} {th : Int32} {wt : Nat} {un : Bool} {rp wi pa be ru sa me se ta fa : Int32} {mn tp ou : Nat} (hw : zmw h) (ho : h 64 = some (.inl (10, [.int (th), .ref (65), .ref (66), .ref (67), .ref (68), .ref (69), .ref (70), .ref (71), .ref (72), .ref (73), .ref (74), .ref (75), .ref (76), .ref (77), .ref (78), .ref (79), .ref (80), .ref (81), .ref (82), .ref (83), .ref (84), .int (nI (wt)), .int (nI (zbi un)), .int (rp), .int (wi), .int (pa), .int (be), .int (ru), .int (sa), .int (me), .int (se), .int (ta), .int (fa), .ref (85), .ref (86), .ref (87), .int (nI (mn)), .ref (88), .ref (89), .ref (90), .ref (91), .ref (92), .ref (93), .int (nI (tp)), .ref (94), .int (nI (ou))]))) (hx : zar h p Np xs) (hr : zia h r Nr) (hrN : k ≤ Nr) (hrM : Nr < 1000000) (hp : 83 < p) (hr2 : 83 < r) (hpr : p ≠ r) (hl : xs.length ≤ 400) (hk : k ≤ 250) : zMt g mX11_deriveE (zR 3 0 0) [.ref (64), .int (nI (zkl b)), .ref (p), .int (nI (xs.length)), .ref (r), .int (nI (k))] h n (fun v h' n' => v = none ∧ n' = n ∧ zsm h h' (zs9 r) ∧ zsh h h' ∧ zar h' r Nr (zdce b xs k)) := by
  refine zMt.of [some (.ref (64)), some (.int (nI (zkl b))), some (.ref (p)), some (.int (nI (xs.length))), some (.ref (r)), some (.int (nI (k))), none, none, none, none] (by decide) rfl (Nat.le_of_ble_eq_true rfl) ?_
  obtain ⟨Qf, hQ⟩ : ∃ Qf : ZQ, Qf = (fun v h' n' => v = none ∧ n' = n ∧ zsm h h' (zs9 r) ∧ zsh h h' ∧ zar h' r Nr (zdce b xs k)) := ⟨_, rfl⟩
  rw [← hQ]
  have hz := zkl_or b
  obtain ⟨-, -, -, -, i80, i81, i82, i83, -⟩ := id hw
  obtain ⟨if101, ih101⟩ := id (i80)
  obtain ⟨if102, ih102⟩ := id (i81)
  obtain ⟨if103, ih103⟩ := id (i82)
  obtain ⟨if104, ih104⟩ := id (i83)
  obtain ⟨if105, ih105⟩ := id (hr)
  obtain ⟨la106, lb106, lc106, lf106, ld106, le106⟩ := id hx
  have tl : (zstf xs k).length = (xs.length + 24) / 16 * 16 := by rw [zstf_len]; unfold zfill; omega
  have tlt := zstf_lt lc106 k
  refine zp_bipush (v := nI (16)) dX11_deriveE_0 (by decide) ?_
  refine zp_bipush (v := nI (8)) dX11_deriveE_2 (by decide) ?_
  refine zp_iload_n dX11_deriveE_4 rfl ?_
  refine zn_iadd dX11_deriveE_5 ?_
  refine zp_iconst (v := nI (1)) dX11_deriveE_6 (by decide) ?_
  refine zn_iadd dX11_deriveE_7 ?_
  refine zp_bipush (v := nI (15)) dX11_deriveE_8 (by decide) ?_
  refine zn_iadd dX11_deriveE_10 ?_
  refine zp_bipush (v := nI (16)) dX11_deriveE_11 (by decide) ?_
  refine zn_idiv dX11_deriveE_13 (by omega) (by omega) (by omega) ?_
  refine zp_bipush (v := nI (16)) dX11_deriveE_14 (by decide) ?_
  refine zn_imul dX11_deriveE_16 ?_
  refine zp_pc (pc' := 17) rfl ?_
  refine zp_pc (pc' := 17) rfl ?_
  refine zn_iadd dX11_deriveE_17 ?_
  refine zp_i (y := nI (16 + (zstf xs k).length)) (by rw [tl]; congr 1; omega) ?_
  refine zp_istore (ls' := [some (.ref (64)), some (.int (nI (zkl b))), some (.ref (p)), some (.int (nI (xs.length))), some (.ref (r)), some (.int (nI (k))), some (.int (nI (16 + (zstf xs k).length))), none, none, none]) dX11_deriveE_18 (by decide) rfl ?_
  refine zp_iconst (v := nI (0)) dX11_deriveE_20 (by decide) ?_
  refine zp_istore (ls' := [some (.ref (64)), some (.int (nI (zkl b))), some (.ref (p)), some (.int (nI (xs.length))), some (.ref (r)), some (.int (nI (k))), some (.int (nI (16 + (zstf xs k).length))), some (.int (nI (0))), none, none]) dX11_deriveE_21 (by decide) rfl ?_
  refine zp_pc (pc' := 23) rfl ?_
  have lp107 : zP g mX11_deriveE (zR 3 0 0) Qf 0 0 44 [some (.ref (64)), some (.int (nI (zkl b))), some (.ref (p)), some (.int (nI (xs.length))), some (.ref (r)), some (.int (nI (k))), some (.int (nI (16 + (zstf xs k).length))), some (.int (nI (16 + (zstf xs k).length))), none, none] [] (va_up h (81) (some (.inr (1000, .inl (zfl if102 (0) (16 + (zstf xs k).length) (fun _ => nI 0)))))) n → ∀ (m k107 : Nat), m = (16 + (zstf xs k).length) - k107 → k107 ≤ (16 + (zstf xs k).length) → zP g mX11_deriveE (zR 3 0 0) Qf 0 0 23 [some (.ref (64)), some (.int (nI (zkl b))), some (.ref (p)), some (.int (nI (xs.length))), some (.ref (r)), some (.int (nI (k))), some (.int (nI (16 + (zstf xs k).length))), some (.int (nI (k107))), none, none] [] (va_up h (81) (some (.inr (1000, .inl (zfl if102 (0) (k107) (fun _ => nI 0)))))) n := by
    intro kk m
    induction m using Nat.strongRecOn with
    | _ m ih =>
      intro k107 hm107 hk107
      refine zp_nh (fun hX107 eX107 => ?_)
      have k108_0 := (congrFun eX107 (64)).trans ((va_up_ne _ _ (by omega)).trans ho)
      have k108_1 := (congrFun eX107 (80)).trans ((va_up_ne _ _ (by omega)).trans ih101)
      have k108_2 : hX107 (81) = some (.inr (1000, .inl (zfl if102 (0) (k107) (fun _ => nI 0)))) := by rw [eX107]; exact va_up_self _ _ _
      have k108_3 := (congrFun eX107 (82)).trans ((va_up_ne _ _ (by omega)).trans ih103)
      have k108_4 := (congrFun eX107 (83)).trans ((va_up_ne _ _ (by omega)).trans ih104)
      have k108_5 := (congrFun eX107 (r)).trans ((va_up_ne _ _ (by omega)).trans ih105)
      have k108_6 := (congrFun eX107 (p)).trans ((va_up_ne _ _ (by omega)).trans ld106)
      refine zp_iload dX11_deriveE_23 rfl ?_
      refine zp_iload dX11_deriveE_25 rfl ?_
      refine zp_pc (pc' := 27) rfl ?_
      refine zn_icmp_ge (tgt := 44) dX11_deriveE_27 (by decide) (by omega) (by omega) (fun c27 => ?_) (fun c27 => ?_)
      · have e107 : k107 = (16 + (zstf xs k).length) := by omega
        subst e107
        rw [eX107]
        exact kk
      · refine zp_aload_n dX11_deriveE_30 rfl ?_
        refine zp_get dX11_deriveE_31 gX11_59_10 k108_0 rfl ?_
        refine zp_iload dX11_deriveE_34 rfl ?_
        refine zp_iconst (v := nI (0)) dX11_deriveE_36 (by decide) ?_
        refine zn_iast dX11_deriveE_37 (by omega) k108_2 (by omega) (by omega) ?_
        refine zp_nh (fun h109x eh109x => ?_)
        have k109_0 := (congrFun eh109x (64)).trans ((va_up_ne _ _ (by omega)).trans k108_0)
        have k109_1 := (congrFun eh109x (80)).trans ((va_up_ne _ _ (by omega)).trans k108_1)
        have k109_2 : h109x (81) = some (.inr (1000, .inl (va_up (zfl if102 (0) (k107) (fun _ => nI 0)) (k107) (nI (0))))) := by rw [eh109x]; exact va_up_self _ _ _
        have k109_3 := (congrFun eh109x (82)).trans ((va_up_ne _ _ (by omega)).trans k108_3)
        have k109_4 := (congrFun eh109x (83)).trans ((va_up_ne _ _ (by omega)).trans k108_4)
        have k109_5 := (congrFun eh109x (r)).trans ((va_up_ne _ _ (by omega)).trans k108_5)
        have k109_6 := (congrFun eh109x (p)).trans ((va_up_ne _ _ (by omega)).trans k108_6)
        have sw110 : zsm hX107 h109x (zon (81)) := zsm.rf.up eh109x rfl
        have zw110 : zsh hX107 h109x := zsh.fill eh109x k108_2
        refine zp_pc (pc' := 38) rfl ?_
        refine zn_iinc 1 (ls' := [some (.ref (64)), some (.int (nI (zkl b))), some (.ref (p)), some (.int (nI (xs.length))), some (.ref (r)), some (.int (nI (k))), some (.int (nI (16 + (zstf xs k).length))), some (.int (nI (k107 + 1))), none, none]) dX11_deriveE_38 (by decide) (by decide) rfl rfl ?_
        refine zp_goto (tgt := 23) dX11_deriveE_41 (by decide) ?_
        refine zp_pc (pc' := 23) rfl ?_
        rw [zfl_step eX107 eh109x (by omega) rfl]
        exact ih ((16 + (zstf xs k).length) - (k107 + 1)) (by omega) (k107 + 1) rfl (by omega)
  suffices K107 : zP g mX11_deriveE (zR 3 0 0) Qf 0 0 44 [some (.ref (64)), some (.int (nI (zkl b))), some (.ref (p)), some (.int (nI (xs.length))), some (.ref (r)), some (.int (nI (k))), some (.int (nI (16 + (zstf xs k).length))), some (.int (nI (16 + (zstf xs k).length))), none, none] [] (va_up h (81) (some (.inr (1000, .inl (zfl if102 (0) (16 + (zstf xs k).length) (fun _ => nI 0)))))) n by
    have q := lp107 K107 ((16 + (zstf xs k).length) - 0) 0 rfl (Nat.zero_le _)
    rw [zfl_0, zup_same ih102] at q
    exact q
  refine zp_nh (fun hY107 eY107 => ?_)
  have k111_0 := (congrFun eY107 (64)).trans ((va_up_ne _ _ (by omega)).trans ho)
  have k111_1 := (congrFun eY107 (80)).trans ((va_up_ne _ _ (by omega)).trans ih101)
  have k111_2 : hY107 (81) = some (.inr (1000, .inl (zfl if102 (0) (16 + (zstf xs k).length) (fun _ => nI 0)))) := by rw [eY107]; exact va_up_self _ _ _
  have k111_3 := (congrFun eY107 (82)).trans ((va_up_ne _ _ (by omega)).trans ih103)
  have k111_4 := (congrFun eY107 (83)).trans ((va_up_ne _ _ (by omega)).trans ih104)
  have k111_5 := (congrFun eY107 (r)).trans ((va_up_ne _ _ (by omega)).trans ih105)
  have k111_6 := (congrFun eY107 (p)).trans ((va_up_ne _ _ (by omega)).trans ld106)
  have sf112 := (zsm.fill eY107)
  have zf112 := zsh.fill eY107 ih102
  refine zp_aload_n dX11_deriveE_44 rfl ?_
  refine zp_get dX11_deriveE_45 gX11_59_10 k111_0 rfl ?_
  refine zp_bipush (v := nI (16)) dX11_deriveE_48 (by decide) ?_
  refine zp_iload_n dX11_deriveE_50 rfl ?_
  refine zp_iconst (v := nI (4)) dX11_deriveE_51 (by decide) ?_
  refine zp_pc (pc' := 52) rfl ?_
  refine zp_callS (As := [.ref (81), .int (nI (16)), .int (nI (xs.length)), .int (nI (4))]) (st := []) dX11_deriveE_52 cX11_174 rfl (e_number (p := 81) (N := 1000) (at_ := 16) (v0 := nI xs.length) (by decide) k111_2 (by decide) (by decide)) (by decide) (by decide) (Nat.le_of_ble_eq_true rfl) (fun v113 h113 n113 q113 => ?_)
  obtain ⟨rfl, N113, E113⟩ := q113
  rw [N113]
  refine zp_nrm (cells' := 0) (slots' := 0) (st' := []) rfl rfl rfl ?_
  have s113 := zsm.fill E113
  have z113 := zsh.fill E113 k111_2
  have n81_113 := congrFun E113 81
  rw [va_up_self, zn4_nI (by omega)] at n81_113
  have m114 : h113 (64) = some (.inl (10, [.int (th), .ref (65), .ref (66), .ref (67), .ref (68), .ref (69), .ref (70), .ref (71), .ref (72), .ref (73), .ref (74), .ref (75), .ref (76), .ref (77), .ref (78), .ref (79), .ref (80), .ref (81), .ref (82), .ref (83), .ref (84), .int (nI (wt)), .int (nI (zbi un)), .int (rp), .int (wi), .int (pa), .int (be), .int (ru), .int (sa), .int (me), .int (se), .int (ta), .int (fa), .ref (85), .ref (86), .ref (87), .int (nI (mn)), .ref (88), .ref (89), .ref (90), .ref (91), .ref (92), .ref (93), .int (nI (tp)), .ref (94), .int (nI (ou))])) := (s113 _ (by unfold zon; omega)).trans k111_0
  have m115 : h113 (80) = some (.inr (16, .inl if101)) := (s113 _ (by unfold zon; omega)).trans k111_1
  have m116 : h113 (82) = some (.inr (32, .inl if103)) := (s113 _ (by unfold zon; omega)).trans k111_3
  have m117 : h113 (83) = some (.inr (48, .inl if104)) := (s113 _ (by unfold zon; omega)).trans k111_4
  have m118 : h113 (r) = some (.inr (Nr, .inl if105)) := (s113 _ (by unfold zon; omega)).trans k111_5
  have m119 : h113 (p) = some (.inr (Np, .inl lf106)) := (s113 _ (by unfold zon; omega)).trans k111_6
  refine zp_aload_n dX11_deriveE_55 rfl ?_
  refine zp_get dX11_deriveE_56 gX11_59_10 m114 rfl ?_
  refine zp_bipush (v := nI (20)) dX11_deriveE_59 (by decide) ?_
  refine zp_iload dX11_deriveE_61 rfl ?_
  refine zp_iconst (v := nI (4)) dX11_deriveE_63 (by decide) ?_
  refine zp_pc (pc' := 64) rfl ?_
  refine zp_callS (As := [.ref (81), .int (nI (20)), .int (nI (k)), .int (nI (4))]) (st := []) dX11_deriveE_64 cX11_174 rfl (e_number (p := 81) (N := 1000) (at_ := 20) (v0 := nI k) (by decide) n81_113 (by decide) (by decide)) (by decide) (by decide) (Nat.le_of_ble_eq_true rfl) (fun v120 h120 n120 q120 => ?_)
  obtain ⟨rfl, N120, E120⟩ := q120
  rw [N120]
  refine zp_nrm (cells' := 0) (slots' := 0) (st' := []) rfl rfl rfl ?_
  have s120 := zsm.fill E120
  have z120 := zsh.fill E120 n81_113
  have n81_120 := congrFun E120 81
  rw [va_up_self, zn4_nI (by omega)] at n81_120
  have m121 : h120 (64) = some (.inl (10, [.int (th), .ref (65), .ref (66), .ref (67), .ref (68), .ref (69), .ref (70), .ref (71), .ref (72), .ref (73), .ref (74), .ref (75), .ref (76), .ref (77), .ref (78), .ref (79), .ref (80), .ref (81), .ref (82), .ref (83), .ref (84), .int (nI (wt)), .int (nI (zbi un)), .int (rp), .int (wi), .int (pa), .int (be), .int (ru), .int (sa), .int (me), .int (se), .int (ta), .int (fa), .ref (85), .ref (86), .ref (87), .int (nI (mn)), .ref (88), .ref (89), .ref (90), .ref (91), .ref (92), .ref (93), .int (nI (tp)), .ref (94), .int (nI (ou))])) := (s120 _ (by unfold zon; omega)).trans m114
  have m122 : h120 (80) = some (.inr (16, .inl if101)) := (s120 _ (by unfold zon; omega)).trans m115
  have m123 : h120 (82) = some (.inr (32, .inl if103)) := (s120 _ (by unfold zon; omega)).trans m116
  have m124 : h120 (83) = some (.inr (48, .inl if104)) := (s120 _ (by unfold zon; omega)).trans m117
  have m125 : h120 (r) = some (.inr (Nr, .inl if105)) := (s120 _ (by unfold zon; omega)).trans m118
  have m126 : h120 (p) = some (.inr (Np, .inl lf106)) := (s120 _ (by unfold zon; omega)).trans m119
  refine zp_iconst (v := nI (0)) dX11_deriveE_67 (by decide) ?_
  refine zp_istore (ls' := [some (.ref (64)), some (.int (nI (zkl b))), some (.ref (p)), some (.int (nI (xs.length))), some (.ref (r)), some (.int (nI (k))), some (.int (nI (16 + (zstf xs k).length))), some (.int (nI (0))), none, none]) dX11_deriveE_68 (by decide) rfl ?_
  refine zp_pc (pc' := 70) rfl ?_
  have lp127 : zP g mX11_deriveE (zR 3 0 0) Qf 0 0 96 [some (.ref (64)), some (.int (nI (zkl b))), some (.ref (p)), some (.int (nI (xs.length))), some (.ref (r)), some (.int (nI (k))), some (.int (nI (16 + (zstf xs k).length))), some (.int (nI (xs.length))), none, none] [] (va_up h120 (81) (some (.inr (1000, .inl (zfl (zfl (zfl (zfl if102 (0) (16 + (zstf xs k).length) (fun _ => nI 0)) 16 4 (fun u => nI ((znum (xs.length) 4).getD u 0))) 20 4 (fun u => nI ((znum (k) 4).getD u 0))) (24) (xs.length) (fun i => nI (xs.getD i 0))))))) n → ∀ (m k127 : Nat), m = (xs.length) - k127 → k127 ≤ (xs.length) → zP g mX11_deriveE (zR 3 0 0) Qf 0 0 70 [some (.ref (64)), some (.int (nI (zkl b))), some (.ref (p)), some (.int (nI (xs.length))), some (.ref (r)), some (.int (nI (k))), some (.int (nI (16 + (zstf xs k).length))), some (.int (nI (k127))), none, none] [] (va_up h120 (81) (some (.inr (1000, .inl (zfl (zfl (zfl (zfl if102 (0) (16 + (zstf xs k).length) (fun _ => nI 0)) 16 4 (fun u => nI ((znum (xs.length) 4).getD u 0))) 20 4 (fun u => nI ((znum (k) 4).getD u 0))) (24) (k127) (fun i => nI (xs.getD i 0))))))) n := by
    intro kk m
    induction m using Nat.strongRecOn with
    | _ m ih =>
      intro k127 hm127 hk127
      refine zp_nh (fun hX127 eX127 => ?_)
      have k128_0 := (congrFun eX127 (64)).trans ((va_up_ne _ _ (by omega)).trans m121)
      have k128_1 := (congrFun eX127 (80)).trans ((va_up_ne _ _ (by omega)).trans m122)
      have k128_2 := (congrFun eX127 (82)).trans ((va_up_ne _ _ (by omega)).trans m123)
      have k128_3 := (congrFun eX127 (83)).trans ((va_up_ne _ _ (by omega)).trans m124)
      have k128_4 := (congrFun eX127 (r)).trans ((va_up_ne _ _ (by omega)).trans m125)
      have k128_5 := (congrFun eX127 (p)).trans ((va_up_ne _ _ (by omega)).trans m126)
      have k128_6 : hX127 (81) = some (.inr (1000, .inl (zfl (zfl (zfl (zfl if102 (0) (16 + (zstf xs k).length) (fun _ => nI 0)) 16 4 (fun u => nI ((znum (xs.length) 4).getD u 0))) 20 4 (fun u => nI ((znum (k) 4).getD u 0))) (24) (k127) (fun i => nI (xs.getD i 0))))) := by rw [eX127]; exact va_up_self _ _ _
      refine zp_iload dX11_deriveE_70 rfl ?_
      refine zp_iload_n dX11_deriveE_72 rfl ?_
      refine zp_pc (pc' := 73) rfl ?_
      refine zn_icmp_ge (tgt := 96) dX11_deriveE_73 (by decide) (by omega) (by omega) (fun c73 => ?_) (fun c73 => ?_)
      · have e127 : k127 = (xs.length) := by omega
        subst e127
        rw [eX127]
        exact kk
      · refine zp_aload_n dX11_deriveE_76 rfl ?_
        refine zp_get dX11_deriveE_77 gX11_59_10 k128_0 rfl ?_
        refine zp_bipush (v := nI (24)) dX11_deriveE_80 (by decide) ?_
        refine zp_iload dX11_deriveE_82 rfl ?_
        refine zn_iadd dX11_deriveE_84 ?_
        refine zp_aload_n dX11_deriveE_85 rfl ?_
        refine zp_iload dX11_deriveE_86 rfl ?_
        refine zp_pc (pc' := 88) rfl ?_
        refine zn_iald (j := k127) dX11_deriveE_88 k128_5 (by omega) (by omega) ?_
        refine zp_i (y := nI (xs.getD k127 0)) (le106 _ (by omega)) ?_
        refine zn_iast dX11_deriveE_89 (by omega) k128_6 (by omega) (by omega) ?_
        refine zp_nh (fun h129x eh129x => ?_)
        have k129_0 := (congrFun eh129x (64)).trans ((va_up_ne _ _ (by omega)).trans k128_0)
        have k129_1 := (congrFun eh129x (80)).trans ((va_up_ne _ _ (by omega)).trans k128_1)
        have k129_2 := (congrFun eh129x (82)).trans ((va_up_ne _ _ (by omega)).trans k128_2)
        have k129_3 := (congrFun eh129x (83)).trans ((va_up_ne _ _ (by omega)).trans k128_3)
        have k129_4 := (congrFun eh129x (r)).trans ((va_up_ne _ _ (by omega)).trans k128_4)
        have k129_5 := (congrFun eh129x (p)).trans ((va_up_ne _ _ (by omega)).trans k128_5)
        have k129_6 : h129x (81) = some (.inr (1000, .inl (va_up (zfl (zfl (zfl (zfl if102 (0) (16 + (zstf xs k).length) (fun _ => nI 0)) 16 4 (fun u => nI ((znum (xs.length) 4).getD u 0))) 20 4 (fun u => nI ((znum (k) 4).getD u 0))) (24) (k127) (fun i => nI (xs.getD i 0))) ((24) + (k127)) (nI (xs.getD k127 0))))) := by rw [eh129x]; exact va_up_self _ _ _
        have sw130 : zsm hX127 h129x (zon (81)) := zsm.rf.up eh129x rfl
        have zw130 : zsh hX127 h129x := zsh.fill eh129x k128_6
        refine zp_pc (pc' := 90) rfl ?_
        refine zn_iinc 1 (ls' := [some (.ref (64)), some (.int (nI (zkl b))), some (.ref (p)), some (.int (nI (xs.length))), some (.ref (r)), some (.int (nI (k))), some (.int (nI (16 + (zstf xs k).length))), some (.int (nI (k127 + 1))), none, none]) dX11_deriveE_90 (by decide) (by decide) rfl rfl ?_
        refine zp_goto (tgt := 70) dX11_deriveE_93 (by decide) ?_
        refine zp_pc (pc' := 70) rfl ?_
        rw [zfl_step eX127 eh129x (by omega) rfl]
        exact ih ((xs.length) - (k127 + 1)) (by omega) (k127 + 1) rfl (by omega)
  suffices K127 : zP g mX11_deriveE (zR 3 0 0) Qf 0 0 96 [some (.ref (64)), some (.int (nI (zkl b))), some (.ref (p)), some (.int (nI (xs.length))), some (.ref (r)), some (.int (nI (k))), some (.int (nI (16 + (zstf xs k).length))), some (.int (nI (xs.length))), none, none] [] (va_up h120 (81) (some (.inr (1000, .inl (zfl (zfl (zfl (zfl if102 (0) (16 + (zstf xs k).length) (fun _ => nI 0)) 16 4 (fun u => nI ((znum (xs.length) 4).getD u 0))) 20 4 (fun u => nI ((znum (k) 4).getD u 0))) (24) (xs.length) (fun i => nI (xs.getD i 0))))))) n by
    have q := lp127 K127 ((xs.length) - 0) 0 rfl (Nat.zero_le _)
    rw [zfl_0, zup_same n81_120] at q
    exact q
  refine zp_nh (fun hY127 eY127 => ?_)
  have k131_0 := (congrFun eY127 (64)).trans ((va_up_ne _ _ (by omega)).trans m121)
  have k131_1 := (congrFun eY127 (80)).trans ((va_up_ne _ _ (by omega)).trans m122)
  have k131_2 := (congrFun eY127 (82)).trans ((va_up_ne _ _ (by omega)).trans m123)
  have k131_3 := (congrFun eY127 (83)).trans ((va_up_ne _ _ (by omega)).trans m124)
  have k131_4 := (congrFun eY127 (r)).trans ((va_up_ne _ _ (by omega)).trans m125)
  have k131_5 := (congrFun eY127 (p)).trans ((va_up_ne _ _ (by omega)).trans m126)
  have k131_6 : hY127 (81) = some (.inr (1000, .inl (zfl (zfl (zfl (zfl if102 (0) (16 + (zstf xs k).length) (fun _ => nI 0)) 16 4 (fun u => nI ((znum (xs.length) 4).getD u 0))) 20 4 (fun u => nI ((znum (k) 4).getD u 0))) (24) (xs.length) (fun i => nI (xs.getD i 0))))) := by rw [eY127]; exact va_up_self _ _ _
  have sf132 := (zsm.fill eY127)
  have zf132 := zsh.fill eY127 n81_120
  refine zp_aload_n dX11_deriveE_96 rfl ?_
  refine zp_get dX11_deriveE_97 gX11_59_10 k131_0 rfl ?_
  refine zp_bipush (v := nI (24)) dX11_deriveE_100 (by decide) ?_
  refine zp_iload_n dX11_deriveE_102 rfl ?_
  refine zn_iadd dX11_deriveE_103 ?_
  refine zp_sipush (v := nI (128)) dX11_deriveE_104 (by decide) ?_
  refine zn_iast dX11_deriveE_107 (by omega) k131_6 (by omega) (by omega) ?_
  refine zp_nh (fun h133x eh133x => ?_)
  have k133_0 := (congrFun eh133x (64)).trans ((va_up_ne _ _ (by omega)).trans k131_0)
  have k133_1 := (congrFun eh133x (80)).trans ((va_up_ne _ _ (by omega)).trans k131_1)
  have k133_2 := (congrFun eh133x (82)).trans ((va_up_ne _ _ (by omega)).trans k131_2)
  have k133_3 := (congrFun eh133x (83)).trans ((va_up_ne _ _ (by omega)).trans k131_3)
  have k133_4 := (congrFun eh133x (r)).trans ((va_up_ne _ _ (by omega)).trans k131_4)
  have k133_5 := (congrFun eh133x (p)).trans ((va_up_ne _ _ (by omega)).trans k131_5)
  have k133_6 : h133x (81) = some (.inr (1000, .inl (va_up (zfl (zfl (zfl (zfl if102 (0) (16 + (zstf xs k).length) (fun _ => nI 0)) 16 4 (fun u => nI ((znum (xs.length) 4).getD u 0))) 20 4 (fun u => nI ((znum (k) 4).getD u 0))) (24) (xs.length) (fun i => nI (xs.getD i 0))) ((24) + (xs.length)) (nI (128))))) := by rw [eh133x]; exact va_up_self _ _ _
  have sw134 : zsm hY127 h133x (zon (81)) := zsm.rf.up eh133x rfl
  have zw134 : zsh hY127 h133x := zsh.fill eh133x k131_6
  refine zp_pc (pc' := 108) rfl ?_
  have q1 := zstf_at (f := if102) (xs := xs) (k := k) (N := 16 + (zstf xs k).length) rfl
  have q0 := zstf_at0 (f := if102) (xs := xs) (k := k) (N := 16 + (zstf xs k).length) (by omega)
  obtain ⟨f81, ef81⟩ : ∃ f81 : Nat → Int32, f81 = (va_up (zfl (zfl (zfl (zfl if102 (0) (16 + (zstf xs k).length) (fun _ => nI 0)) 16 4 (fun u => nI ((znum (xs.length) 4).getD u 0))) 20 4 (fun u => nI ((znum (k) 4).getD u 0))) (24) (xs.length) (fun i => nI (xs.getD i 0))) ((24) + (xs.length)) (nI (128))) := ⟨_, rfl⟩
  have k81 := k133_6
  rw [← ef81] at k81
  have q1 : ∀ j, j < (zstf xs k).length → f81 (16 + j) = nI ((zstf xs k).getD j 0) := fun j hj => by rw [ef81]; exact q1 j hj
  have q0 : ∀ j, 4 ≤ j → j < 16 → f81 j = nI 0 := fun j _ hj => by rw [ef81]; exact q0 j hj
  refine zp_iconst (v := nI (0)) dX11_deriveE_108 (by decide) ?_
  refine zp_istore (ls' := [some (.ref (64)), some (.int (nI (zkl b))), some (.ref (p)), some (.int (nI (xs.length))), some (.ref (r)), some (.int (nI (k))), some (.int (nI (16 + (zstf xs k).length))), some (.int (nI (0))), none, none]) dX11_deriveE_109 (by decide) rfl ?_
  refine zp_pc (pc' := 111) rfl ?_
  have lp135 : zP g mX11_deriveE (zR 3 0 0) Qf 0 0 132 [some (.ref (64)), some (.int (nI (zkl b))), some (.ref (p)), some (.int (nI (xs.length))), some (.ref (r)), some (.int (nI (k))), some (.int (nI (16 + (zstf xs k).length))), some (.int (nI (zkl b))), none, none] [] (va_up h133x (82) (some (.inr (32, .inl (zfl if103 (0) (zkl b) (fun i => nI i)))))) n → ∀ (m k135 : Nat), m = (zkl b) - k135 → k135 ≤ (zkl b) → zP g mX11_deriveE (zR 3 0 0) Qf 0 0 111 [some (.ref (64)), some (.int (nI (zkl b))), some (.ref (p)), some (.int (nI (xs.length))), some (.ref (r)), some (.int (nI (k))), some (.int (nI (16 + (zstf xs k).length))), some (.int (nI (k135))), none, none] [] (va_up h133x (82) (some (.inr (32, .inl (zfl if103 (0) (k135) (fun i => nI i)))))) n := by
    intro kk m
    induction m using Nat.strongRecOn with
    | _ m ih =>
      intro k135 hm135 hk135
      refine zp_nh (fun hX135 eX135 => ?_)
      have k136_0 := (congrFun eX135 (64)).trans ((va_up_ne _ _ (by omega)).trans k133_0)
      have k136_1 := (congrFun eX135 (80)).trans ((va_up_ne _ _ (by omega)).trans k133_1)
      have k136_2 : hX135 (82) = some (.inr (32, .inl (zfl if103 (0) (k135) (fun i => nI i)))) := by rw [eX135]; exact va_up_self _ _ _
      have k136_3 := (congrFun eX135 (83)).trans ((va_up_ne _ _ (by omega)).trans k133_3)
      have k136_4 := (congrFun eX135 (r)).trans ((va_up_ne _ _ (by omega)).trans k133_4)
      have k136_5 := (congrFun eX135 (p)).trans ((va_up_ne _ _ (by omega)).trans k133_5)
      have k136_6 := (congrFun eX135 (81)).trans ((va_up_ne _ _ (by omega)).trans k81)
      refine zp_iload dX11_deriveE_111 rfl ?_
      refine zp_iload_n dX11_deriveE_113 rfl ?_
      refine zp_pc (pc' := 114) rfl ?_
      refine zn_icmp_ge (tgt := 132) dX11_deriveE_114 (by decide) (by omega) (by omega) (fun c114 => ?_) (fun c114 => ?_)
      · have e135 : k135 = (zkl b) := by omega
        subst e135
        rw [eX135]
        exact kk
      · refine zp_aload_n dX11_deriveE_117 rfl ?_
        refine zp_get dX11_deriveE_118 gX11_62_10 k136_0 rfl ?_
        refine zp_iload dX11_deriveE_121 rfl ?_
        refine zp_iload dX11_deriveE_123 rfl ?_
        refine zn_iast dX11_deriveE_125 (by omega) k136_2 (by omega) (by omega) ?_
        refine zp_nh (fun h137x eh137x => ?_)
        have k137_0 := (congrFun eh137x (64)).trans ((va_up_ne _ _ (by omega)).trans k136_0)
        have k137_1 := (congrFun eh137x (80)).trans ((va_up_ne _ _ (by omega)).trans k136_1)
        have k137_2 : h137x (82) = some (.inr (32, .inl (va_up (zfl if103 (0) (k135) (fun i => nI i)) (k135) (nI (k135))))) := by rw [eh137x]; exact va_up_self _ _ _
        have k137_3 := (congrFun eh137x (83)).trans ((va_up_ne _ _ (by omega)).trans k136_3)
        have k137_4 := (congrFun eh137x (r)).trans ((va_up_ne _ _ (by omega)).trans k136_4)
        have k137_5 := (congrFun eh137x (p)).trans ((va_up_ne _ _ (by omega)).trans k136_5)
        have k137_6 := (congrFun eh137x (81)).trans ((va_up_ne _ _ (by omega)).trans k136_6)
        have sw138 : zsm hX135 h137x (zon (82)) := zsm.rf.up eh137x rfl
        have zw138 : zsh hX135 h137x := zsh.fill eh137x k136_2
        refine zp_pc (pc' := 126) rfl ?_
        refine zn_iinc 1 (ls' := [some (.ref (64)), some (.int (nI (zkl b))), some (.ref (p)), some (.int (nI (xs.length))), some (.ref (r)), some (.int (nI (k))), some (.int (nI (16 + (zstf xs k).length))), some (.int (nI (k135 + 1))), none, none]) dX11_deriveE_126 (by decide) (by decide) rfl rfl ?_
        refine zp_goto (tgt := 111) dX11_deriveE_129 (by decide) ?_
        refine zp_pc (pc' := 111) rfl ?_
        rw [zfl_step eX135 eh137x (by omega) rfl]
        exact ih ((zkl b) - (k135 + 1)) (by omega) (k135 + 1) rfl (by omega)
  suffices K135 : zP g mX11_deriveE (zR 3 0 0) Qf 0 0 132 [some (.ref (64)), some (.int (nI (zkl b))), some (.ref (p)), some (.int (nI (xs.length))), some (.ref (r)), some (.int (nI (k))), some (.int (nI (16 + (zstf xs k).length))), some (.int (nI (zkl b))), none, none] [] (va_up h133x (82) (some (.inr (32, .inl (zfl if103 (0) (zkl b) (fun i => nI i)))))) n by
    have q := lp135 K135 ((zkl b) - 0) 0 rfl (Nat.zero_le _)
    rw [zfl_0, zup_same k133_2] at q
    exact q
  refine zp_nh (fun hY135 eY135 => ?_)
  have k139_0 := (congrFun eY135 (64)).trans ((va_up_ne _ _ (by omega)).trans k133_0)
  have k139_1 := (congrFun eY135 (80)).trans ((va_up_ne _ _ (by omega)).trans k133_1)
  have k139_2 : hY135 (82) = some (.inr (32, .inl (zfl if103 (0) (zkl b) (fun i => nI i)))) := by rw [eY135]; exact va_up_self _ _ _
  have k139_3 := (congrFun eY135 (83)).trans ((va_up_ne _ _ (by omega)).trans k133_3)
  have k139_4 := (congrFun eY135 (r)).trans ((va_up_ne _ _ (by omega)).trans k133_4)
  have k139_5 := (congrFun eY135 (p)).trans ((va_up_ne _ _ (by omega)).trans k133_5)
  have k139_6 := (congrFun eY135 (81)).trans ((va_up_ne _ _ (by omega)).trans k81)
  have sf140 := (zsm.fill eY135)
  have zf140 := zsh.fill eY135 k133_2
  have a82 : zar hY135 82 32 (zJ b) := zar.mk (L := zkl b) k139_2 (zJ_len b) (by omega) (by decide) (zJ_lt b) (fun j hj => by rw [zfl_in0 hj]; unfold zJ; rw [zrange_get hj])
  refine zp_iconst (v := nI (0)) dX11_deriveE_132 (by decide) ?_
  refine zp_istore (ls' := [some (.ref (64)), some (.int (nI (zkl b))), some (.ref (p)), some (.int (nI (xs.length))), some (.ref (r)), some (.int (nI (k))), some (.int (nI (16 + (zstf xs k).length))), some (.int (nI (0))), none, none]) dX11_deriveE_133 (by decide) rfl ?_
  refine zp_pc (pc' := 135) rfl ?_
  have sB : zsm h hY135 (zs9 r) := ((((((sf112).mono (fun i hi => by unfold zs9; unfold zon at hi; omega)).trans ((s113).mono (fun i hi => by unfold zs9; unfold zon at hi; omega))).trans ((s120).mono (fun i hi => by unfold zs9; unfold zon at hi; omega))).trans ((sf132).mono (fun i hi => by unfold zs9; unfold zon at hi; omega))).trans ((sw134).mono (fun i hi => by unfold zs9; unfold zon at hi; omega))).trans ((sf140).mono (fun i hi => by unfold zs9; unfold zon at hi; omega))
  have zB : zsh h hY135 := (((((zf112).trans z113).trans z120).trans zf132).trans zw134).trans zf140
  have W141 := zmw.sh hw (((((((sf112).mono (fun i hi => by unfold zwf; unfold zon at hi; omega)).trans ((s113).mono (fun i hi => by unfold zwf; unfold zon at hi; omega))).trans ((s120).mono (fun i hi => by unfold zwf; unfold zon at hi; omega))).trans ((sf132).mono (fun i hi => by unfold zwf; unfold zon at hi; omega))).trans ((sw134).mono (fun i hi => by unfold zwf; unfold zon at hi; omega))).trans ((sf140).mono (fun i hi => by unfold zwf; unfold zon at hi; omega))) ((((((zf112).trans z113).trans z120).trans zf132).trans zw134).trans zf140) (fun i hi => hi)
  have sxI : ∀ i, zs6 i → zwf i := fun i q => by unfold zs6 at q; unfold zwf; omega
  have lp : ∀ (m : Nat) (i : Nat) (h1 : ZH) (g81 g83 : Nat → Int32), m = zkl b / 16 + 1 - i → i ≤ zkl b / 16 + 1 → zsm hY135 h1 zs6 → zsh hY135 h1 → h1 81 = some (.inr (1000, .inl g81)) → h1 83 = some (.inr (48, .inl g83)) → zar h1 82 32 (zJ b) → (∀ j, j < (zstf xs k).length → g81 (16 + j) = nI ((zstf xs k).getD j 0)) → (∀ j, 4 ≤ j → j < 16 → g81 j = nI 0) → (∀ j, j < 16 * i → g83 j = nI ((zTT b (zstf xs k)).getD j 0)) → zP g mX11_deriveE (zR 3 0 0) Qf 0 0 135 [some (.ref (64)), some (.int (nI (zkl b))), some (.ref (p)), some (.int (nI (xs.length))), some (.ref (r)), some (.int (nI (k))), some (.int (nI (16 + (zstf xs k).length))), some (.int (nI (i))), none, none] [] h1 n := by
    intro m
    induction m using Nat.strongRecOn with
    | _ m ih =>
      intro i h1 g81 g83 hm hi s1 z1 e81 e83 a82 q1 q0 qT
      have o1 : h1 (64) = some (.inl (10, [.int (th), .ref (65), .ref (66), .ref (67), .ref (68), .ref (69), .ref (70), .ref (71), .ref (72), .ref (73), .ref (74), .ref (75), .ref (76), .ref (77), .ref (78), .ref (79), .ref (80), .ref (81), .ref (82), .ref (83), .ref (84), .int (nI (wt)), .int (nI (zbi un)), .int (rp), .int (wi), .int (pa), .int (be), .int (ru), .int (sa), .int (me), .int (se), .int (ta), .int (fa), .ref (85), .ref (86), .ref (87), .int (nI (mn)), .ref (88), .ref (89), .ref (90), .ref (91), .ref (92), .ref (93), .int (nI (tp)), .ref (94), .int (nI (ou))])) := (s1 _ (by unfold zs6; omega)).trans k139_0
      have r1 : h1 (r) = some (.inr (Nr, .inl if105)) := (s1 _ (by unfold zs6; omega)).trans k139_4
      have Wl := W141.sh s1 z1 sxI
      obtain ⟨if142, ih142⟩ := id (Wl.2.2.2.2.1)
      obtain ⟨la143, lb143, lc143, lf143, ld143, le143⟩ := id a82
      refine zp_bipush (v := nI (16)) dX11_deriveE_135 (by decide) ?_
      refine zp_iload dX11_deriveE_137 rfl ?_
      refine zn_imul dX11_deriveE_139 ?_
      refine zp_iload_n dX11_deriveE_140 rfl ?_
      refine zp_bipush (v := nI (16)) dX11_deriveE_141 (by decide) ?_
      refine zn_iadd dX11_deriveE_143 ?_
      refine zp_pc (pc' := 144) rfl ?_
      refine zn_icmp_ge (tgt := 289) dX11_deriveE_144 (by decide) (by omega) (by omega) (fun c144 => ?_) (fun c144 => ?_)
      · have ei : 16 * i = zkl b + 16 := by omega
        refine zp_iconst (v := nI (0)) dX11_deriveE_289 (by decide) ?_
        refine zp_istore (ls' := [some (.ref (64)), some (.int (nI (zkl b))), some (.ref (p)), some (.int (nI (xs.length))), some (.ref (r)), some (.int (nI (k))), some (.int (nI (16 + (zstf xs k).length))), some (.int (nI (0))), none, none]) dX11_deriveE_290 (by decide) rfl ?_
        refine zp_pc (pc' := 292) rfl ?_
        have lp144 : zP g mX11_deriveE (zR 3 0 0) Qf 0 0 321 [some (.ref (64)), some (.int (nI (zkl b))), some (.ref (p)), some (.int (nI (xs.length))), some (.ref (r)), some (.int (nI (k))), some (.int (nI (16 + (zstf xs k).length))), some (.int (nI (16))), none, none] [] (va_up h1 (80) (some (.inr (16, .inl (zfl if142 (0) (16) (fun i => nI ((zX b xs k).getD i 0))))))) n → ∀ (m k144 : Nat), m = (16) - k144 → k144 ≤ (16) → zP g mX11_deriveE (zR 3 0 0) Qf 0 0 292 [some (.ref (64)), some (.int (nI (zkl b))), some (.ref (p)), some (.int (nI (xs.length))), some (.ref (r)), some (.int (nI (k))), some (.int (nI (16 + (zstf xs k).length))), some (.int (nI (k144))), none, none] [] (va_up h1 (80) (some (.inr (16, .inl (zfl if142 (0) (k144) (fun i => nI ((zX b xs k).getD i 0))))))) n := by
          intro kk m
          induction m using Nat.strongRecOn with
          | _ m ih =>
            intro k144 hm144 hk144
            refine zp_nh (fun hX144 eX144 => ?_)
            have k145_0 := (congrFun eX144 (64)).trans ((va_up_ne _ _ (by omega)).trans o1)
            have k145_1 := (congrFun eX144 (r)).trans ((va_up_ne _ _ (by omega)).trans r1)
            have k145_2 := (congrFun eX144 (81)).trans ((va_up_ne _ _ (by omega)).trans e81)
            have k145_3 := (congrFun eX144 (83)).trans ((va_up_ne _ _ (by omega)).trans e83)
            have k145_4 : hX144 (80) = some (.inr (16, .inl (zfl if142 (0) (k144) (fun i => nI ((zX b xs k).getD i 0))))) := by rw [eX144]; exact va_up_self _ _ _
            have k145_5 := (congrFun eX144 (82)).trans ((va_up_ne _ _ (by omega)).trans ld143)
            refine zp_iload dX11_deriveE_292 rfl ?_
            refine zp_bipush (v := nI (16)) dX11_deriveE_294 (by decide) ?_
            refine zp_pc (pc' := 296) rfl ?_
            refine zn_icmp_ge (tgt := 321) dX11_deriveE_296 (by decide) (by omega) (by omega) (fun c296 => ?_) (fun c296 => ?_)
            · have e144 : k144 = (16) := by omega
              subst e144
              rw [eX144]
              exact kk
            · refine zp_aload_n dX11_deriveE_299 rfl ?_
              refine zp_get dX11_deriveE_300 gX11_56_10 k145_0 rfl ?_
              refine zp_iload dX11_deriveE_303 rfl ?_
              refine zp_aload_n dX11_deriveE_305 rfl ?_
              refine zp_get dX11_deriveE_306 gX11_65_10 k145_0 rfl ?_
              refine zp_iload_n dX11_deriveE_309 rfl ?_
              refine zp_iload dX11_deriveE_310 rfl ?_
              refine zn_iadd dX11_deriveE_312 ?_
              refine zp_pc (pc' := 313) rfl ?_
              refine zn_iald (j := (zkl b) + (k144)) dX11_deriveE_313 k145_3 (by omega) (by omega) ?_
              refine zp_i (y := nI ((zX b xs k).getD k144 0)) (by unfold zX; rw [qT _ (by omega), zpart_get (by omega)]) ?_
              refine zn_iast dX11_deriveE_314 (by omega) k145_4 (by omega) (by omega) ?_
              refine zp_nh (fun h146x eh146x => ?_)
              have k146_0 := (congrFun eh146x (64)).trans ((va_up_ne _ _ (by omega)).trans k145_0)
              have k146_1 := (congrFun eh146x (r)).trans ((va_up_ne _ _ (by omega)).trans k145_1)
              have k146_2 := (congrFun eh146x (81)).trans ((va_up_ne _ _ (by omega)).trans k145_2)
              have k146_3 := (congrFun eh146x (83)).trans ((va_up_ne _ _ (by omega)).trans k145_3)
              have k146_4 : h146x (80) = some (.inr (16, .inl (va_up (zfl if142 (0) (k144) (fun i => nI ((zX b xs k).getD i 0))) (k144) (nI ((zX b xs k).getD k144 0))))) := by rw [eh146x]; exact va_up_self _ _ _
              have k146_5 := (congrFun eh146x (82)).trans ((va_up_ne _ _ (by omega)).trans k145_5)
              have sw147 : zsm hX144 h146x (zon (80)) := zsm.rf.up eh146x rfl
              have zw147 : zsh hX144 h146x := zsh.fill eh146x k145_4
              refine zp_pc (pc' := 315) rfl ?_
              refine zn_iinc 1 (ls' := [some (.ref (64)), some (.int (nI (zkl b))), some (.ref (p)), some (.int (nI (xs.length))), some (.ref (r)), some (.int (nI (k))), some (.int (nI (16 + (zstf xs k).length))), some (.int (nI (k144 + 1))), none, none]) dX11_deriveE_315 (by decide) (by decide) rfl rfl ?_
              refine zp_goto (tgt := 292) dX11_deriveE_318 (by decide) ?_
              refine zp_pc (pc' := 292) rfl ?_
              rw [zfl_step eX144 eh146x (by omega) rfl]
              exact ih ((16) - (k144 + 1)) (by omega) (k144 + 1) rfl (by omega)
        suffices K144 : zP g mX11_deriveE (zR 3 0 0) Qf 0 0 321 [some (.ref (64)), some (.int (nI (zkl b))), some (.ref (p)), some (.int (nI (xs.length))), some (.ref (r)), some (.int (nI (k))), some (.int (nI (16 + (zstf xs k).length))), some (.int (nI (16))), none, none] [] (va_up h1 (80) (some (.inr (16, .inl (zfl if142 (0) (16) (fun i => nI ((zX b xs k).getD i 0))))))) n by
          have q := lp144 K144 ((16) - 0) 0 rfl (Nat.zero_le _)
          rw [zfl_0, zup_same ih142] at q
          exact q
        refine zp_nh (fun hY144 eY144 => ?_)
        have k148_0 := (congrFun eY144 (64)).trans ((va_up_ne _ _ (by omega)).trans o1)
        have k148_1 := (congrFun eY144 (r)).trans ((va_up_ne _ _ (by omega)).trans r1)
        have k148_2 := (congrFun eY144 (81)).trans ((va_up_ne _ _ (by omega)).trans e81)
        have k148_3 := (congrFun eY144 (83)).trans ((va_up_ne _ _ (by omega)).trans e83)
        have k148_4 : hY144 (80) = some (.inr (16, .inl (zfl if142 (0) (16) (fun i => nI ((zX b xs k).getD i 0))))) := by rw [eY144]; exact va_up_self _ _ _
        have k148_5 := (congrFun eY144 (82)).trans ((va_up_ne _ _ (by omega)).trans ld143)
        have sf149 := (zsm.fill eY144)
        have zf149 := zsh.fill eY144 ih142
        refine zp_iconst (v := nI (0)) dX11_deriveE_321 (by decide) ?_
        refine zp_istore (ls' := [some (.ref (64)), some (.int (nI (zkl b))), some (.ref (p)), some (.int (nI (xs.length))), some (.ref (r)), some (.int (nI (k))), some (.int (nI (16 + (zstf xs k).length))), some (.int (nI (0))), none, none]) dX11_deriveE_322 (by decide) rfl ?_
        refine zp_pc (pc' := 324) rfl ?_
        refine zp_ls (ls' := [some (.ref (64)), some (.int (nI (zkl b))), some (.ref (p)), some (.int (nI (xs.length))), some (.ref (r)), some (.int (nI (k))), some (.int (nI (16 + (zstf xs k).length))), some (.int (nI (16 * 0))), none, none]) rfl ?_
        have lX : (zX b xs k).length = 16 := by unfold zX; rw [zpart_len, zTT_len]; omega
        have lK : (zK b xs k).length = zkl b := by unfold zK; rw [zpart_len, zTT_len]; omega
        have bX : ∀ y ∈ zX b xs k, y < 256 := zpart_lt (zTT_lt tlt) _ _
        have bK : ∀ y ∈ zK b xs k, y < 256 := zpart_lt (zTT_lt tlt) _ _
        have aX : zar hY144 80 16 (zit b (zK b xs k) (zX b xs k) 0) := zar.mk (L := 16) k148_4 lX (by decide) (by decide) bX (fun j hj => zfl_in0 hj)
        have aK : zar hY144 83 48 (zK b xs k) := zar.mk (L := zkl b) k148_3 lK (by omega) (by decide) bK (fun j hj => by unfold zK; rw [qT j (by omega), zpart_get hj, Nat.zero_add])
        have sC : zsm h hY144 (zs9 r) := (sB.trans (s1.mono (fun i hi => by unfold zs9; unfold zs6 at hi; omega))).trans ((sf149).mono (fun i hi => by unfold zs9; unfold zon at hi; omega))
        have zC : zsh h hY144 := (zB.trans z1).trans (zf149)
        have W150 := zmw.sh Wl ((sf149).mono (fun i hi => by unfold zwf; unfold zon at hi; omega)) (zf149) (fun i hi => hi)
        have sxr : ∀ i, zs9 r i → zwf i := fun i q => by unfold zs9 at q; unfold zwf; omega
        have lq : ∀ (m : Nat) (c : Nat) (h3 : ZH) (gr : Nat → Int32), m = k - c → c ≤ k → zsm hY144 h3 (zs5 r) → zsh hY144 h3 → h3 r = some (.inr (Nr, .inl gr)) → zar h3 80 16 (zit b (zK b xs k) (zX b xs k) c) → zar h3 83 48 (zK b xs k) → (∀ j, j < k → j < 16 * c → gr j = nI ((zdce b xs k).getD j 0)) → zP g mX11_deriveE (zR 3 0 0) Qf 0 0 324 [some (.ref (64)), some (.int (nI (zkl b))), some (.ref (p)), some (.int (nI (xs.length))), some (.ref (r)), some (.int (nI (k))), some (.int (nI (16 + (zstf xs k).length))), some (.int (nI (16 * c))), none, none] [] h3 n := by
          intro m
          induction m using Nat.strongRecOn with
          | _ m ih =>
            intro c h3 gr hm3 hc3 s3 z3 er aI aK egr
            have o3 : h3 (64) = some (.inl (10, [.int (th), .ref (65), .ref (66), .ref (67), .ref (68), .ref (69), .ref (70), .ref (71), .ref (72), .ref (73), .ref (74), .ref (75), .ref (76), .ref (77), .ref (78), .ref (79), .ref (80), .ref (81), .ref (82), .ref (83), .ref (84), .int (nI (wt)), .int (nI (zbi un)), .int (rp), .int (wi), .int (pa), .int (be), .int (ru), .int (sa), .int (me), .int (se), .int (ta), .int (fa), .ref (85), .ref (86), .ref (87), .int (nI (mn)), .ref (88), .ref (89), .ref (90), .ref (91), .ref (92), .ref (93), .int (nI (tp)), .ref (94), .int (nI (ou))])) := (s3 _ (by unfold zs5; omega)).trans k148_0
            have W3 := W150.sh s3 z3 (fun i q => by unfold zs5 at q; unfold zwf; omega)
            obtain ⟨la151, lb151, lc151, lf151, ld151, le151⟩ := id aI
            obtain ⟨la152, lb152, lc152, lf152, ld152, le152⟩ := id aK
            refine zp_iload dX11_deriveE_324 rfl ?_
            refine zp_iload dX11_deriveE_326 rfl ?_
            refine zp_pc (pc' := 328) rfl ?_
            refine zn_icmp_ge (tgt := 391) dX11_deriveE_328 (by decide) (by omega) (by omega) (fun c328 => ?_) (fun c328 => ?_)
            · refine zp_pc (pc' := 391) rfl ?_
              refine zp_ret (v := none) dX11_deriveE_391 ⟨rfl, rfl⟩ (by decide) (by decide) ?_
              rw [hQ]
              exact ⟨rfl, rfl, sC.trans (s3.mono (fun i hi => by unfold zs9; unfold zs5 at hi; omega)), zC.trans z3, zar.mk (L := k) er (zdce_len b xs k) hrN hrM (zdce_lt lc106 k) (fun j hj => egr j hj (by omega))⟩
            · refine zp_aload_n dX11_deriveE_331 rfl ?_
              refine zp_aload_n dX11_deriveE_332 rfl ?_
              refine zp_get dX11_deriveE_333 gX11_65_10 o3 rfl ?_
              refine zp_iload_n dX11_deriveE_336 rfl ?_
              refine zp_aload_n dX11_deriveE_337 rfl ?_
              refine zp_get dX11_deriveE_338 gX11_56_10 o3 rfl ?_
              refine zp_pc (pc' := 341) rfl ?_
              refine zp_callV (As := [.ref (83), .int (nI (zkl b)), .ref (80)]) (k := 64) (st := []) (ci := 10) dX11_deriveE_341 cX11_186 rfl o3 rfl rfl (e_mcipher (b := b) (q := 83) (r := 80) W3.2.2.2.1 o3 aK aI (by omega) (by decide) lK (zit_len lX c)) (by decide) (by decide) (Nat.le_of_ble_eq_true rfl) (fun v153 h153 n153 q153 => ?_)
              obtain ⟨rfl, N153, s153, z153, d153⟩ := q153
              rw [N153]
              refine zp_nrm (cells' := 0) (slots' := 0) (st' := []) rfl rfl rfl ?_
              have m154 : h153 (64) = some (.inl (10, [.int (th), .ref (65), .ref (66), .ref (67), .ref (68), .ref (69), .ref (70), .ref (71), .ref (72), .ref (73), .ref (74), .ref (75), .ref (76), .ref (77), .ref (78), .ref (79), .ref (80), .ref (81), .ref (82), .ref (83), .ref (84), .int (nI (wt)), .int (nI (zbi un)), .int (rp), .int (wi), .int (pa), .int (be), .int (ru), .int (sa), .int (me), .int (se), .int (ta), .int (fa), .ref (85), .ref (86), .ref (87), .int (nI (mn)), .ref (88), .ref (89), .ref (90), .ref (91), .ref (92), .ref (93), .int (nI (tp)), .ref (94), .int (nI (ou))])) := (s153 _ (by unfold zs3; omega)).trans o3
              have m155 : h153 (r) = some (.inr (Nr, .inl gr)) := (s153 _ (by unfold zs3; omega)).trans er
              have m156 : h153 (83) = some (.inr (48, .inl lf152)) := (s153 _ (by unfold zs3; omega)).trans ld152
              have aN : zar h153 80 16 (zit b (zK b xs k) (zX b xs k) (c + 1)) := d153
              have aK' := aK.keep (s153 83 (by unfold zs3; omega))
              obtain ⟨la157, lb157, lc157, lf157, ld157, le157⟩ := id aN
              refine zp_iconst (v := nI (0)) dX11_deriveE_344 (by decide) ?_
              refine zp_istore (ls' := [some (.ref (64)), some (.int (nI (zkl b))), some (.ref (p)), some (.int (nI (xs.length))), some (.ref (r)), some (.int (nI (k))), some (.int (nI (16 + (zstf xs k).length))), some (.int (nI (16 * c))), some (.int (nI (0))), none]) dX11_deriveE_345 (by decide) rfl ?_
              refine zp_pc (pc' := 347) rfl ?_
              have lp158 : zP g mX11_deriveE (zR 3 0 0) Qf 0 0 385 [some (.ref (64)), some (.int (nI (zkl b))), some (.ref (p)), some (.int (nI (xs.length))), some (.ref (r)), some (.int (nI (k))), some (.int (nI (16 + (zstf xs k).length))), some (.int (nI (16 * c))), some (.int (nI (min 16 (k - 16 * c)))), none] [] (va_up h153 (r) (some (.inr (Nr, .inl (zfl gr (16 * c) (min 16 (k - 16 * c)) (fun i => nI ((zdce b xs k).getD (16 * c + i) 0))))))) n → ∀ (m k158 : Nat), m = (min 16 (k - 16 * c)) - k158 → k158 ≤ (min 16 (k - 16 * c)) → zP g mX11_deriveE (zR 3 0 0) Qf 0 0 347 [some (.ref (64)), some (.int (nI (zkl b))), some (.ref (p)), some (.int (nI (xs.length))), some (.ref (r)), some (.int (nI (k))), some (.int (nI (16 + (zstf xs k).length))), some (.int (nI (16 * c))), some (.int (nI (k158))), none] [] (va_up h153 (r) (some (.inr (Nr, .inl (zfl gr (16 * c) (k158) (fun i => nI ((zdce b xs k).getD (16 * c + i) 0))))))) n := by
                intro kk m
                induction m using Nat.strongRecOn with
                | _ m ih =>
                  intro k158 hm158 hk158
                  refine zp_nh (fun hX158 eX158 => ?_)
                  have k159_0 := (congrFun eX158 (64)).trans ((va_up_ne _ _ (by omega)).trans m154)
                  have k159_1 : hX158 (r) = some (.inr (Nr, .inl (zfl gr (16 * c) (k158) (fun i => nI ((zdce b xs k).getD (16 * c + i) 0))))) := by rw [eX158]; exact va_up_self _ _ _
                  have k159_2 := (congrFun eX158 (83)).trans ((va_up_ne _ _ (by omega)).trans m156)
                  have k159_3 := (congrFun eX158 (80)).trans ((va_up_ne _ _ (by omega)).trans ld157)
                  refine zp_iload dX11_deriveE_347 rfl ?_
                  refine zp_bipush (v := nI (16)) dX11_deriveE_349 (by decide) ?_
                  refine zp_pc (pc' := 351) rfl ?_
                  refine zn_icmp_ge (tgt := 385) dX11_deriveE_351 (by decide) (by omega) (by omega) (fun c351 => ?_) (fun c351 => ?_)
                  · have e158 : k158 = (min 16 (k - 16 * c)) := by omega
                    subst e158
                    rw [eX158]
                    exact kk
                  · refine zp_iload dX11_deriveE_354 rfl ?_
                    refine zp_iload dX11_deriveE_356 rfl ?_
                    refine zn_iadd dX11_deriveE_358 ?_
                    refine zp_iload dX11_deriveE_359 rfl ?_
                    refine zp_pc (pc' := 361) rfl ?_
                    refine zn_icmp_ge (tgt := 385) dX11_deriveE_361 (by decide) (by omega) (by omega) (fun c361 => ?_) (fun c361 => ?_)
                    · have e158 : k158 = (min 16 (k - 16 * c)) := by omega
                      subst e158
                      rw [eX158]
                      exact kk
                    · refine zp_aload dX11_deriveE_364 rfl ?_
                      refine zp_iload dX11_deriveE_366 rfl ?_
                      refine zp_iload dX11_deriveE_368 rfl ?_
                      refine zn_iadd dX11_deriveE_370 ?_
                      refine zp_aload_n dX11_deriveE_371 rfl ?_
                      refine zp_get dX11_deriveE_372 gX11_56_10 k159_0 rfl ?_
                      refine zp_iload dX11_deriveE_375 rfl ?_
                      refine zp_pc (pc' := 377) rfl ?_
                      refine zn_iald (j := k158) dX11_deriveE_377 k159_3 (by omega) (by omega) ?_
                      refine zp_i (y := nI ((zdce b xs k).getD (16 * c + k158) 0)) (by rw [le157 _ (by rw [zit_len lX]; omega), zdce_get b xs (by omega), show (16 * c + k158) / 16 = c by omega, show (16 * c + k158) % 16 = k158 by omega]) ?_
                      refine zn_iast dX11_deriveE_378 (by omega) k159_1 (by omega) (by omega) ?_
                      refine zp_nh (fun h160x eh160x => ?_)
                      have k160_0 := (congrFun eh160x (64)).trans ((va_up_ne _ _ (by omega)).trans k159_0)
                      have k160_1 : h160x (r) = some (.inr (Nr, .inl (va_up (zfl gr (16 * c) (k158) (fun i => nI ((zdce b xs k).getD (16 * c + i) 0))) ((16 * c) + (k158)) (nI ((zdce b xs k).getD (16 * c + k158) 0))))) := by rw [eh160x]; exact va_up_self _ _ _
                      have k160_2 := (congrFun eh160x (83)).trans ((va_up_ne _ _ (by omega)).trans k159_2)
                      have k160_3 := (congrFun eh160x (80)).trans ((va_up_ne _ _ (by omega)).trans k159_3)
                      have sw161 : zsm hX158 h160x (zon (r)) := zsm.rf.up eh160x rfl
                      have zw161 : zsh hX158 h160x := zsh.fill eh160x k159_1
                      refine zp_pc (pc' := 379) rfl ?_
                      refine zn_iinc 1 (ls' := [some (.ref (64)), some (.int (nI (zkl b))), some (.ref (p)), some (.int (nI (xs.length))), some (.ref (r)), some (.int (nI (k))), some (.int (nI (16 + (zstf xs k).length))), some (.int (nI (16 * c))), some (.int (nI (k158 + 1))), none]) dX11_deriveE_379 (by decide) (by decide) rfl rfl ?_
                      refine zp_goto (tgt := 347) dX11_deriveE_382 (by decide) ?_
                      refine zp_pc (pc' := 347) rfl ?_
                      rw [zfl_step eX158 eh160x (by omega) rfl]
                      exact ih ((min 16 (k - 16 * c)) - (k158 + 1)) (by omega) (k158 + 1) rfl (by omega)
              suffices K158 : zP g mX11_deriveE (zR 3 0 0) Qf 0 0 385 [some (.ref (64)), some (.int (nI (zkl b))), some (.ref (p)), some (.int (nI (xs.length))), some (.ref (r)), some (.int (nI (k))), some (.int (nI (16 + (zstf xs k).length))), some (.int (nI (16 * c))), some (.int (nI (min 16 (k - 16 * c)))), none] [] (va_up h153 (r) (some (.inr (Nr, .inl (zfl gr (16 * c) (min 16 (k - 16 * c)) (fun i => nI ((zdce b xs k).getD (16 * c + i) 0))))))) n by
                have q := lp158 K158 ((min 16 (k - 16 * c)) - 0) 0 rfl (Nat.zero_le _)
                rw [zfl_0, zup_same m155] at q
                exact q
              refine zp_nh (fun hY158 eY158 => ?_)
              have k162_0 := (congrFun eY158 (64)).trans ((va_up_ne _ _ (by omega)).trans m154)
              have k162_1 : hY158 (r) = some (.inr (Nr, .inl (zfl gr (16 * c) (min 16 (k - 16 * c)) (fun i => nI ((zdce b xs k).getD (16 * c + i) 0))))) := by rw [eY158]; exact va_up_self _ _ _
              have k162_2 := (congrFun eY158 (83)).trans ((va_up_ne _ _ (by omega)).trans m156)
              have k162_3 := (congrFun eY158 (80)).trans ((va_up_ne _ _ (by omega)).trans ld157)
              have sf163 := (zsm.fill eY158)
              have zf163 := zsh.fill eY158 m155
              refine zn_iinc 16 (ls' := [some (.ref (64)), some (.int (nI (zkl b))), some (.ref (p)), some (.int (nI (xs.length))), some (.ref (r)), some (.int (nI (k))), some (.int (nI (16 + (zstf xs k).length))), some (.int (nI (16 * c + 16))), some (.int (nI (min 16 (k - 16 * c)))), none]) dX11_deriveE_385 (by decide) (by decide) rfl rfl ?_
              refine zp_pc (pc' := 388) rfl ?_
              refine zp_ls (ls' := [some (.ref (64)), some (.int (nI (zkl b))), some (.ref (p)), some (.int (nI (xs.length))), some (.ref (r)), some (.int (nI (k))), some (.int (nI (16 + (zstf xs k).length))), some (.int (nI (16 * (c + 1)))), some (.int (nI (min 16 (k - 16 * c)))), none]) (by rw [Nat.mul_add]) ?_
              refine zp_goto (tgt := 324) dX11_deriveE_388 (by decide) ?_
              refine zp_pc (pc' := 324) rfl ?_
              refine zp_drop (ls' := [some (.ref (64)), some (.int (nI (zkl b))), some (.ref (p)), some (.int (nI (xs.length))), some (.ref (r)), some (.int (nI (k))), some (.int (nI (16 + (zstf xs k).length))), some (.int (nI (16 * (c + 1)))), none, none]) (fun i v hv => ?_) ?_
              · rcases i with _ | _ | _ | _ | _ | _ | _ | _ | _ | _ | i <;> simp at hv ⊢ <;> exact hv
              refine ih (k - (c + 1)) (by omega) (c + 1) hY158 _ rfl (by omega) (s3.trans (((s153).mono (fun i hi => by unfold zs5; unfold zs3 at hi; omega)).trans ((sf163).mono (fun i hi => by unfold zs5; unfold zon at hi; omega)))) (z3.trans ((z153).trans zf163)) k162_1 (aN.keep (sf163 _ (by unfold zon; omega))) (aK'.keep (sf163 _ (by unfold zon; omega))) (fun j hj hj2 => ?_)
              rcases Nat.lt_or_ge j (16 * c) with q | q
              · rw [zfl_out (Or.inl q)]; exact egr j hj q
              · obtain ⟨d, rfl⟩ := Nat.exists_eq_add_of_le q
                rw [zfl_in (by omega)]
        exact lq _ 0 hY144 _ rfl (Nat.zero_le _) zsm.rf zsh.rf k148_1 aX aK (fun j _ hj => absurd hj (by omega))
      · refine zp_aload_n dX11_deriveE_147 rfl ?_
        refine zp_get dX11_deriveE_148 gX11_59_10 o1 rfl ?_
        refine zp_iconst (v := nI (0)) dX11_deriveE_151 (by decide) ?_
        refine zp_iload dX11_deriveE_152 rfl ?_
        refine zp_iconst (v := nI (4)) dX11_deriveE_154 (by decide) ?_
        refine zp_pc (pc' := 155) rfl ?_
        refine zp_callS (As := [.ref (81), .int (nI (0)), .int (nI (i)), .int (nI (4))]) (st := []) dX11_deriveE_155 cX11_174 rfl (e_number (p := 81) (N := 1000) (at_ := 0) (v0 := nI i) (by decide) e81 (by decide) (by decide)) (by decide) (by decide) (Nat.le_of_ble_eq_true rfl) (fun v164 h164 n164 q164 => ?_)
        obtain ⟨rfl, N164, E164⟩ := q164
        rw [N164]
        refine zp_nrm (cells' := 0) (slots' := 0) (st' := []) rfl rfl rfl ?_
        have s164 := zsm.fill E164
        have z164 := zsh.fill E164 e81
        have n81_164 := congrFun E164 81
        rw [va_up_self, zn4_nI (by omega)] at n81_164
        have m165 : h164 (64) = some (.inl (10, [.int (th), .ref (65), .ref (66), .ref (67), .ref (68), .ref (69), .ref (70), .ref (71), .ref (72), .ref (73), .ref (74), .ref (75), .ref (76), .ref (77), .ref (78), .ref (79), .ref (80), .ref (81), .ref (82), .ref (83), .ref (84), .int (nI (wt)), .int (nI (zbi un)), .int (rp), .int (wi), .int (pa), .int (be), .int (ru), .int (sa), .int (me), .int (se), .int (ta), .int (fa), .ref (85), .ref (86), .ref (87), .int (nI (mn)), .ref (88), .ref (89), .ref (90), .ref (91), .ref (92), .ref (93), .int (nI (tp)), .ref (94), .int (nI (ou))])) := (s164 _ (by unfold zon; omega)).trans o1
        have m166 : h164 (r) = some (.inr (Nr, .inl if105)) := (s164 _ (by unfold zon; omega)).trans r1
        have m167 : h164 (83) = some (.inr (48, .inl g83)) := (s164 _ (by unfold zon; omega)).trans e83
        have m168 : h164 (80) = some (.inr (16, .inl if142)) := (s164 _ (by unfold zon; omega)).trans ih142
        have m169 : h164 (82) = some (.inr (32, .inl lf143)) := (s164 _ (by unfold zon; omega)).trans ld143
        refine zp_iconst (v := nI (0)) dX11_deriveE_158 (by decide) ?_
        refine zp_istore (ls' := [some (.ref (64)), some (.int (nI (zkl b))), some (.ref (p)), some (.int (nI (xs.length))), some (.ref (r)), some (.int (nI (k))), some (.int (nI (16 + (zstf xs k).length))), some (.int (nI (i))), some (.int (nI (0))), none]) dX11_deriveE_159 (by decide) rfl ?_
        refine zp_pc (pc' := 161) rfl ?_
        have lp170 : zP g mX11_deriveE (zR 3 0 0) Qf 0 0 182 [some (.ref (64)), some (.int (nI (zkl b))), some (.ref (p)), some (.int (nI (xs.length))), some (.ref (r)), some (.int (nI (k))), some (.int (nI (16 + (zstf xs k).length))), some (.int (nI (i))), some (.int (nI (16))), none] [] (va_up h164 (80) (some (.inr (16, .inl (zfl if142 (0) (16) (fun _ => nI 0)))))) n → ∀ (m k170 : Nat), m = (16) - k170 → k170 ≤ (16) → zP g mX11_deriveE (zR 3 0 0) Qf 0 0 161 [some (.ref (64)), some (.int (nI (zkl b))), some (.ref (p)), some (.int (nI (xs.length))), some (.ref (r)), some (.int (nI (k))), some (.int (nI (16 + (zstf xs k).length))), some (.int (nI (i))), some (.int (nI (k170))), none] [] (va_up h164 (80) (some (.inr (16, .inl (zfl if142 (0) (k170) (fun _ => nI 0)))))) n := by
          intro kk m
          induction m using Nat.strongRecOn with
          | _ m ih =>
            intro k170 hm170 hk170
            refine zp_nh (fun hX170 eX170 => ?_)
            have k171_0 := (congrFun eX170 (64)).trans ((va_up_ne _ _ (by omega)).trans m165)
            have k171_1 := (congrFun eX170 (r)).trans ((va_up_ne _ _ (by omega)).trans m166)
            have k171_2 := (congrFun eX170 (83)).trans ((va_up_ne _ _ (by omega)).trans m167)
            have k171_3 : hX170 (80) = some (.inr (16, .inl (zfl if142 (0) (k170) (fun _ => nI 0)))) := by rw [eX170]; exact va_up_self _ _ _
            have k171_4 := (congrFun eX170 (82)).trans ((va_up_ne _ _ (by omega)).trans m169)
            have k171_5 := (congrFun eX170 (81)).trans ((va_up_ne _ _ (by omega)).trans n81_164)
            refine zp_iload dX11_deriveE_161 rfl ?_
            refine zp_bipush (v := nI (16)) dX11_deriveE_163 (by decide) ?_
            refine zp_pc (pc' := 165) rfl ?_
            refine zn_icmp_ge (tgt := 182) dX11_deriveE_165 (by decide) (by omega) (by omega) (fun c165 => ?_) (fun c165 => ?_)
            · have e170 : k170 = (16) := by omega
              subst e170
              rw [eX170]
              exact kk
            · refine zp_aload_n dX11_deriveE_168 rfl ?_
              refine zp_get dX11_deriveE_169 gX11_56_10 k171_0 rfl ?_
              refine zp_iload dX11_deriveE_172 rfl ?_
              refine zp_iconst (v := nI (0)) dX11_deriveE_174 (by decide) ?_
              refine zn_iast dX11_deriveE_175 (by omega) k171_3 (by omega) (by omega) ?_
              refine zp_nh (fun h172x eh172x => ?_)
              have k172_0 := (congrFun eh172x (64)).trans ((va_up_ne _ _ (by omega)).trans k171_0)
              have k172_1 := (congrFun eh172x (r)).trans ((va_up_ne _ _ (by omega)).trans k171_1)
              have k172_2 := (congrFun eh172x (83)).trans ((va_up_ne _ _ (by omega)).trans k171_2)
              have k172_3 : h172x (80) = some (.inr (16, .inl (va_up (zfl if142 (0) (k170) (fun _ => nI 0)) (k170) (nI (0))))) := by rw [eh172x]; exact va_up_self _ _ _
              have k172_4 := (congrFun eh172x (82)).trans ((va_up_ne _ _ (by omega)).trans k171_4)
              have k172_5 := (congrFun eh172x (81)).trans ((va_up_ne _ _ (by omega)).trans k171_5)
              have sw173 : zsm hX170 h172x (zon (80)) := zsm.rf.up eh172x rfl
              have zw173 : zsh hX170 h172x := zsh.fill eh172x k171_3
              refine zp_pc (pc' := 176) rfl ?_
              refine zn_iinc 1 (ls' := [some (.ref (64)), some (.int (nI (zkl b))), some (.ref (p)), some (.int (nI (xs.length))), some (.ref (r)), some (.int (nI (k))), some (.int (nI (16 + (zstf xs k).length))), some (.int (nI (i))), some (.int (nI (k170 + 1))), none]) dX11_deriveE_176 (by decide) (by decide) rfl rfl ?_
              refine zp_goto (tgt := 161) dX11_deriveE_179 (by decide) ?_
              refine zp_pc (pc' := 161) rfl ?_
              rw [zfl_step eX170 eh172x (by omega) rfl]
              exact ih ((16) - (k170 + 1)) (by omega) (k170 + 1) rfl (by omega)
        suffices K170 : zP g mX11_deriveE (zR 3 0 0) Qf 0 0 182 [some (.ref (64)), some (.int (nI (zkl b))), some (.ref (p)), some (.int (nI (xs.length))), some (.ref (r)), some (.int (nI (k))), some (.int (nI (16 + (zstf xs k).length))), some (.int (nI (i))), some (.int (nI (16))), none] [] (va_up h164 (80) (some (.inr (16, .inl (zfl if142 (0) (16) (fun _ => nI 0)))))) n by
          have q := lp170 K170 ((16) - 0) 0 rfl (Nat.zero_le _)
          rw [zfl_0, zup_same m168] at q
          exact q
        refine zp_nh (fun hY170 eY170 => ?_)
        have k174_0 := (congrFun eY170 (64)).trans ((va_up_ne _ _ (by omega)).trans m165)
        have k174_1 := (congrFun eY170 (r)).trans ((va_up_ne _ _ (by omega)).trans m166)
        have k174_2 := (congrFun eY170 (83)).trans ((va_up_ne _ _ (by omega)).trans m167)
        have k174_3 : hY170 (80) = some (.inr (16, .inl (zfl if142 (0) (16) (fun _ => nI 0)))) := by rw [eY170]; exact va_up_self _ _ _
        have k174_4 := (congrFun eY170 (82)).trans ((va_up_ne _ _ (by omega)).trans m169)
        have k174_5 := (congrFun eY170 (81)).trans ((va_up_ne _ _ (by omega)).trans n81_164)
        have sf175 := (zsm.fill eY170)
        have zf175 := zsh.fill eY170 m168
        refine zp_iconst (v := nI (0)) dX11_deriveE_182 (by decide) ?_
        refine zp_istore (ls' := [some (.ref (64)), some (.int (nI (zkl b))), some (.ref (p)), some (.int (nI (xs.length))), some (.ref (r)), some (.int (nI (k))), some (.int (nI (16 + (zstf xs k).length))), some (.int (nI (i))), some (.int (nI (0))), none]) dX11_deriveE_183 (by decide) rfl ?_
        refine zp_pc (pc' := 185) rfl ?_
        refine zp_ls (ls' := [some (.ref (64)), some (.int (nI (zkl b))), some (.ref (p)), some (.int (nI (xs.length))), some (.ref (r)), some (.int (nI (k))), some (.int (nI (16 + (zstf xs k).length))), some (.int (nI (i))), some (.int (nI (16 * 0))), none]) rfl ?_
        have aF : zar hY170 81 1000 (zfu (zstf xs k) i) := zar.mk (L := 16 + (zstf xs k).length) k174_5 (zfu_len ..) (by omega) (by decide) (zfu_lt tlt i) (fun j hj => by
          rw [zfu_get]
          rcases Nat.lt_or_ge j 4 with q | q
          · rw [zfl_in0 q, if_pos q]
          · rw [zfl_out (Or.inr (by omega)), if_neg (by omega)]
            rcases Nat.lt_or_ge j 16 with q2 | q2
            · rw [q0 j q q2, if_pos q2]
            · rw [if_neg (by omega)]
              have := q1 (j - 16) (by omega)
              rwa [show 16 + (j - 16) = j by omega] at this)
        have aC : zar hY170 80 16 (zml b (zstf xs k) i 0) := zar.mk (L := 16) k174_3 (zml_len ..) (by decide) (by decide) (zml_lt tlt i 0) (fun j hj => by rw [zfl_in0 hj]; show _ = nI ((List.replicate 16 0).getD j 0); rw [zrep_get, if_pos hj])
        have a82 := (a82.keep (s164 _ (by unfold zon; omega))).keep (sf175 _ (by unfold zon; omega))
        have W176 := zmw.sh Wl (((s164).mono (fun i hi => by unfold zwf; unfold zon at hi; omega)).trans ((sf175).mono (fun i hi => by unfold zwf; unfold zon at hi; omega))) ((z164).trans zf175) (fun i hi => hi)
        have lc : ∀ (m : Nat) (c : Nat) (h2 : ZH), m = (zstf xs k).length / 16 + 1 - c → c ≤ (zstf xs k).length / 16 + 1 → zsm hY170 h2 zs4 → zsh hY170 h2 → zar h2 80 16 (zml b (zstf xs k) i c) → (∀ h2 : ZH, zsm hY170 h2 zs4 → zsh hY170 h2 → zar h2 80 16 (zml b (zstf xs k) i ((zstf xs k).length / 16 + 1)) → zP g mX11_deriveE (zR 3 0 0) Qf 0 0 247 [some (.ref (64)), some (.int (nI (zkl b))), some (.ref (p)), some (.int (nI (xs.length))), some (.ref (r)), some (.int (nI (k))), some (.int (nI (16 + (zstf xs k).length))), some (.int (nI (i))), some (.int (nI (16 * ((zstf xs k).length / 16 + 1)))), none] [] h2 n) → zP g mX11_deriveE (zR 3 0 0) Qf 0 0 185 [some (.ref (64)), some (.int (nI (zkl b))), some (.ref (p)), some (.int (nI (xs.length))), some (.ref (r)), some (.int (nI (k))), some (.int (nI (16 + (zstf xs k).length))), some (.int (nI (i))), some (.int (nI (16 * c))), none] [] h2 n := by
          intro m
          induction m using Nat.strongRecOn with
          | _ m ih =>
            intro c h2 hm2 hc2 s2 z2 aM K2
            have o2 : h2 (64) = some (.inl (10, [.int (th), .ref (65), .ref (66), .ref (67), .ref (68), .ref (69), .ref (70), .ref (71), .ref (72), .ref (73), .ref (74), .ref (75), .ref (76), .ref (77), .ref (78), .ref (79), .ref (80), .ref (81), .ref (82), .ref (83), .ref (84), .int (nI (wt)), .int (nI (zbi un)), .int (rp), .int (wi), .int (pa), .int (be), .int (ru), .int (sa), .int (me), .int (se), .int (ta), .int (fa), .ref (85), .ref (86), .ref (87), .int (nI (mn)), .ref (88), .ref (89), .ref (90), .ref (91), .ref (92), .ref (93), .int (nI (tp)), .ref (94), .int (nI (ou))])) := (s2 _ (by unfold zs4; omega)).trans k174_0
            have t2 : h2 (81) = some (.inr (1000, .inl (zfl g81 0 4 (fun u => nI ((znum (i) 4).getD u 0))))) := (s2 _ (by unfold zs4; omega)).trans k174_5
            have aF2 := aF.keep (s2 81 (by unfold zs4; omega))
            have a822 := a82.keep (s2 82 (by unfold zs4; omega))
            have W2 := W176.sh s2 z2 (fun i q => by unfold zs4 at q; unfold zwf; omega)
            obtain ⟨la177, lb177, lc177, lf177, ld177, le177⟩ := id aM
            obtain ⟨la178, lb178, lc178, lf178, ld178, le178⟩ := id aF2
            obtain ⟨la179, lb179, lc179, lf179, ld179, le179⟩ := id a822
            refine zp_iload dX11_deriveE_185 rfl ?_
            refine zp_iload dX11_deriveE_187 rfl ?_
            refine zp_pc (pc' := 189) rfl ?_
            refine zn_icmp_ge (tgt := 247) dX11_deriveE_189 (by decide) (by omega) (by omega) (fun c189 => ?_) (fun c189 => ?_)
            · have ec : c = (zstf xs k).length / 16 + 1 := by omega
              subst ec
              exact K2 h2 s2 z2 aM
            · refine zp_iconst (v := nI (0)) dX11_deriveE_192 (by decide) ?_
              refine zp_istore (ls' := [some (.ref (64)), some (.int (nI (zkl b))), some (.ref (p)), some (.int (nI (xs.length))), some (.ref (r)), some (.int (nI (k))), some (.int (nI (16 + (zstf xs k).length))), some (.int (nI (i))), some (.int (nI (16 * c))), some (.int (nI (0)))]) dX11_deriveE_193 (by decide) rfl ?_
              refine zp_pc (pc' := 195) rfl ?_
              have lp180 : zP g mX11_deriveE (zR 3 0 0) Qf 0 0 228 [some (.ref (64)), some (.int (nI (zkl b))), some (.ref (p)), some (.int (nI (xs.length))), some (.ref (r)), some (.int (nI (k))), some (.int (nI (16 + (zstf xs k).length))), some (.int (nI (i))), some (.int (nI (16 * c))), some (.int (nI (16)))] [] (va_up h2 (80) (some (.inr (16, .inl (zfl lf177 (0) (16) (fun u => nI ((zxor (zml b (zstf xs k) i c) (zfu (zstf xs k) i) (16 * c)).getD u 0))))))) n → ∀ (m k180 : Nat), m = (16) - k180 → k180 ≤ (16) → zP g mX11_deriveE (zR 3 0 0) Qf 0 0 195 [some (.ref (64)), some (.int (nI (zkl b))), some (.ref (p)), some (.int (nI (xs.length))), some (.ref (r)), some (.int (nI (k))), some (.int (nI (16 + (zstf xs k).length))), some (.int (nI (i))), some (.int (nI (16 * c))), some (.int (nI (k180)))] [] (va_up h2 (80) (some (.inr (16, .inl (zfl lf177 (0) (k180) (fun u => nI ((zxor (zml b (zstf xs k) i c) (zfu (zstf xs k) i) (16 * c)).getD u 0))))))) n := by
                intro kk m
                induction m using Nat.strongRecOn with
                | _ m ih =>
                  intro k180 hm180 hk180
                  refine zp_nh (fun hX180 eX180 => ?_)
                  have k181_0 := (congrFun eX180 (64)).trans ((va_up_ne _ _ (by omega)).trans o2)
                  have k181_1 := (congrFun eX180 (81)).trans ((va_up_ne _ _ (by omega)).trans ld178)
                  have k181_2 : hX180 (80) = some (.inr (16, .inl (zfl lf177 (0) (k180) (fun u => nI ((zxor (zml b (zstf xs k) i c) (zfu (zstf xs k) i) (16 * c)).getD u 0))))) := by rw [eX180]; exact va_up_self _ _ _
                  have k181_3 := (congrFun eX180 (82)).trans ((va_up_ne _ _ (by omega)).trans ld179)
                  refine zp_iload dX11_deriveE_195 rfl ?_
                  refine zp_bipush (v := nI (16)) dX11_deriveE_197 (by decide) ?_
                  refine zp_pc (pc' := 199) rfl ?_
                  refine zn_icmp_ge (tgt := 228) dX11_deriveE_199 (by decide) (by omega) (by omega) (fun c199 => ?_) (fun c199 => ?_)
                  · have e180 : k180 = (16) := by omega
                    subst e180
                    rw [eX180]
                    exact kk
                  · refine zp_aload_n dX11_deriveE_202 rfl ?_
                    refine zp_get dX11_deriveE_203 gX11_56_10 k181_0 rfl ?_
                    refine zp_iload dX11_deriveE_206 rfl ?_
                    refine zp_dup2 dX11_deriveE_208 rfl rfl ?_
                    refine zp_pc (pc' := 209) rfl ?_
                    refine zn_iald (j := k180) dX11_deriveE_209 k181_2 (by omega) (by omega) ?_
                    refine zp_i (y := nI ((zml b (zstf xs k) i c).getD k180 0)) (by rw [zfl_out (Or.inr (by omega))]; exact le177 _ (by rw [zml_len]; omega)) ?_
                    refine zp_aload_n dX11_deriveE_210 rfl ?_
                    refine zp_get dX11_deriveE_211 gX11_59_10 k181_0 rfl ?_
                    refine zp_iload dX11_deriveE_214 rfl ?_
                    refine zp_iload dX11_deriveE_216 rfl ?_
                    refine zn_iadd dX11_deriveE_218 ?_
                    refine zp_pc (pc' := 219) rfl ?_
                    refine zn_iald (j := (16 * c) + (k180)) dX11_deriveE_219 k181_1 (by omega) (by omega) ?_
                    refine zp_i (y := nI ((zfu (zstf xs k) i).getD (16 * c + k180) 0)) (le178 _ (by rw [zfu_len]; omega)) ?_
                    refine zp_ixor dX11_deriveE_220 ?_
                    refine zp_i (y := nI ((zxor (zml b (zstf xs k) i c) (zfu (zstf xs k) i) (16 * c)).getD k180 0)) (by rw [nx_xor, zxor_get _ _ _ (by rw [zml_len]; omega)]) ?_
                    refine zn_iast dX11_deriveE_221 (by omega) k181_2 (by omega) (by omega) ?_
                    refine zp_nh (fun h182x eh182x => ?_)
                    have k182_0 := (congrFun eh182x (64)).trans ((va_up_ne _ _ (by omega)).trans k181_0)
                    have k182_1 := (congrFun eh182x (81)).trans ((va_up_ne _ _ (by omega)).trans k181_1)
                    have k182_2 : h182x (80) = some (.inr (16, .inl (va_up (zfl lf177 (0) (k180) (fun u => nI ((zxor (zml b (zstf xs k) i c) (zfu (zstf xs k) i) (16 * c)).getD u 0))) (k180) (nI ((zxor (zml b (zstf xs k) i c) (zfu (zstf xs k) i) (16 * c)).getD k180 0))))) := by rw [eh182x]; exact va_up_self _ _ _
                    have k182_3 := (congrFun eh182x (82)).trans ((va_up_ne _ _ (by omega)).trans k181_3)
                    have sw183 : zsm hX180 h182x (zon (80)) := zsm.rf.up eh182x rfl
                    have zw183 : zsh hX180 h182x := zsh.fill eh182x k181_2
                    refine zp_pc (pc' := 222) rfl ?_
                    refine zn_iinc 1 (ls' := [some (.ref (64)), some (.int (nI (zkl b))), some (.ref (p)), some (.int (nI (xs.length))), some (.ref (r)), some (.int (nI (k))), some (.int (nI (16 + (zstf xs k).length))), some (.int (nI (i))), some (.int (nI (16 * c))), some (.int (nI (k180 + 1)))]) dX11_deriveE_222 (by decide) (by decide) rfl rfl ?_
                    refine zp_goto (tgt := 195) dX11_deriveE_225 (by decide) ?_
                    refine zp_pc (pc' := 195) rfl ?_
                    rw [zfl_step eX180 eh182x (by omega) rfl]
                    exact ih ((16) - (k180 + 1)) (by omega) (k180 + 1) rfl (by omega)
              suffices K180 : zP g mX11_deriveE (zR 3 0 0) Qf 0 0 228 [some (.ref (64)), some (.int (nI (zkl b))), some (.ref (p)), some (.int (nI (xs.length))), some (.ref (r)), some (.int (nI (k))), some (.int (nI (16 + (zstf xs k).length))), some (.int (nI (i))), some (.int (nI (16 * c))), some (.int (nI (16)))] [] (va_up h2 (80) (some (.inr (16, .inl (zfl lf177 (0) (16) (fun u => nI ((zxor (zml b (zstf xs k) i c) (zfu (zstf xs k) i) (16 * c)).getD u 0))))))) n by
                have q := lp180 K180 ((16) - 0) 0 rfl (Nat.zero_le _)
                rw [zfl_0, zup_same ld177] at q
                exact q
              refine zp_nh (fun hY180 eY180 => ?_)
              have k184_0 := (congrFun eY180 (64)).trans ((va_up_ne _ _ (by omega)).trans o2)
              have k184_1 := (congrFun eY180 (81)).trans ((va_up_ne _ _ (by omega)).trans ld178)
              have k184_2 : hY180 (80) = some (.inr (16, .inl (zfl lf177 (0) (16) (fun u => nI ((zxor (zml b (zstf xs k) i c) (zfu (zstf xs k) i) (16 * c)).getD u 0))))) := by rw [eY180]; exact va_up_self _ _ _
              have k184_3 := (congrFun eY180 (82)).trans ((va_up_ne _ _ (by omega)).trans ld179)
              have sf185 := (zsm.fill eY180)
              have zf185 := zsh.fill eY180 ld177
              refine zp_aload_n dX11_deriveE_228 rfl ?_
              refine zp_aload_n dX11_deriveE_229 rfl ?_
              refine zp_get dX11_deriveE_230 gX11_62_10 k184_0 rfl ?_
              refine zp_iload_n dX11_deriveE_233 rfl ?_
              refine zp_aload_n dX11_deriveE_234 rfl ?_
              refine zp_get dX11_deriveE_235 gX11_56_10 k184_0 rfl ?_
              refine zp_pc (pc' := 238) rfl ?_
              have aL : zar hY180 80 16 (zxor (zml b (zstf xs k) i c) (zfu (zstf xs k) i) (16 * c)) := zar.mk (L := 16) k184_2 (by rw [zxor_len, zml_len]) (by decide) (by decide) (zxor_lt lc177 lc178 _) (fun j hj => zfl_in0 hj)
              have a823 := a822.keep (sf185 _ (by unfold zon; omega))
              have W186 := zmw.sh W2 ((sf185).mono (fun i hi => by unfold zwf; unfold zon at hi; omega)) (zf185) (fun i hi => hi)
              refine zp_callV (As := [.ref (82), .int (nI (zkl b)), .ref (80)]) (k := 64) (st := []) (ci := 10) dX11_deriveE_238 cX11_186 rfl k184_0 rfl rfl (e_mcipher (b := b) (q := 82) (r := 80) W186.2.2.2.1 k184_0 a823 aL (by omega) (by decide) (zJ_len b) (by rw [zxor_len, zml_len])) (by decide) (by decide) (Nat.le_of_ble_eq_true rfl) (fun v187 h187 n187 q187 => ?_)
              obtain ⟨rfl, N187, s187, z187, d187⟩ := q187
              rw [N187]
              refine zp_nrm (cells' := 0) (slots' := 0) (st' := []) rfl rfl rfl ?_
              have m188 : h187 (64) = some (.inl (10, [.int (th), .ref (65), .ref (66), .ref (67), .ref (68), .ref (69), .ref (70), .ref (71), .ref (72), .ref (73), .ref (74), .ref (75), .ref (76), .ref (77), .ref (78), .ref (79), .ref (80), .ref (81), .ref (82), .ref (83), .ref (84), .int (nI (wt)), .int (nI (zbi un)), .int (rp), .int (wi), .int (pa), .int (be), .int (ru), .int (sa), .int (me), .int (se), .int (ta), .int (fa), .ref (85), .ref (86), .ref (87), .int (nI (mn)), .ref (88), .ref (89), .ref (90), .ref (91), .ref (92), .ref (93), .int (nI (tp)), .ref (94), .int (nI (ou))])) := (s187 _ (by unfold zs3; omega)).trans k184_0
              have m189 : h187 (81) = some (.inr (1000, .inl lf178)) := (s187 _ (by unfold zs3; omega)).trans k184_1
              have m190 : h187 (82) = some (.inr (32, .inl lf179)) := (s187 _ (by unfold zs3; omega)).trans k184_3
              rw [zml_succ] at d187
              refine zn_iinc 16 (ls' := [some (.ref (64)), some (.int (nI (zkl b))), some (.ref (p)), some (.int (nI (xs.length))), some (.ref (r)), some (.int (nI (k))), some (.int (nI (16 + (zstf xs k).length))), some (.int (nI (i))), some (.int (nI (16 * c + 16))), some (.int (nI (16)))]) dX11_deriveE_241 (by decide) (by decide) rfl rfl ?_
              refine zp_pc (pc' := 244) rfl ?_
              refine zp_ls (ls' := [some (.ref (64)), some (.int (nI (zkl b))), some (.ref (p)), some (.int (nI (xs.length))), some (.ref (r)), some (.int (nI (k))), some (.int (nI (16 + (zstf xs k).length))), some (.int (nI (i))), some (.int (nI (16 * (c + 1)))), some (.int (nI (16)))]) (by rw [Nat.mul_add]) ?_
              refine zp_goto (tgt := 185) dX11_deriveE_244 (by decide) ?_
              refine zp_pc (pc' := 185) rfl ?_
              refine zp_drop (ls' := [some (.ref (64)), some (.int (nI (zkl b))), some (.ref (p)), some (.int (nI (xs.length))), some (.ref (r)), some (.int (nI (k))), some (.int (nI (16 + (zstf xs k).length))), some (.int (nI (i))), some (.int (nI (16 * (c + 1)))), none]) (fun i v hv => ?_) ?_
              · rcases i with _ | _ | _ | _ | _ | _ | _ | _ | _ | _ | i <;> simp at hv ⊢ <;> exact hv
              exact ih ((zstf xs k).length / 16 + 1 - (c + 1)) (by omega) (c + 1) h187 rfl (by omega) (s2.trans (((sf185).mono (fun i hi => by unfold zs4; unfold zon at hi; omega)).trans ((s187).mono (fun i hi => by unfold zs4; unfold zs3 at hi; omega)))) (z2.trans ((zf185).trans z187)) d187 K2
        refine lc _ 0 hY170 rfl (Nat.zero_le _) zsm.rf zsh.rf aC (fun h2 s2 z2 aM => ?_)
        have o4 : h2 (64) = some (.inl (10, [.int (th), .ref (65), .ref (66), .ref (67), .ref (68), .ref (69), .ref (70), .ref (71), .ref (72), .ref (73), .ref (74), .ref (75), .ref (76), .ref (77), .ref (78), .ref (79), .ref (80), .ref (81), .ref (82), .ref (83), .ref (84), .int (nI (wt)), .int (nI (zbi un)), .int (rp), .int (wi), .int (pa), .int (be), .int (ru), .int (sa), .int (me), .int (se), .int (ta), .int (fa), .ref (85), .ref (86), .ref (87), .int (nI (mn)), .ref (88), .ref (89), .ref (90), .ref (91), .ref (92), .ref (93), .int (nI (tp)), .ref (94), .int (nI (ou))])) := (s2 _ (by unfold zs4; omega)).trans k174_0
        have t4 : h2 (81) = some (.inr (1000, .inl (zfl g81 0 4 (fun u => nI ((znum (i) 4).getD u 0))))) := (s2 _ (by unfold zs4; omega)).trans k174_5
        have d4 : h2 (83) = some (.inr (48, .inl g83)) := (s2 _ (by unfold zs4; omega)).trans k174_2
        have r4 : h2 (r) = some (.inr (Nr, .inl if105)) := (s2 _ (by unfold zs4; omega)).trans k174_1
        have a824 := a82.keep (s2 82 (by unfold zs4; omega))
        obtain ⟨la191, lb191, lc191, lf191, ld191, le191⟩ := id aM
        refine zp_iconst (v := nI (0)) dX11_deriveE_247 (by decide) ?_
        refine zp_istore (ls' := [some (.ref (64)), some (.int (nI (zkl b))), some (.ref (p)), some (.int (nI (xs.length))), some (.ref (r)), some (.int (nI (k))), some (.int (nI (16 + (zstf xs k).length))), some (.int (nI (i))), some (.int (nI (0))), none]) dX11_deriveE_248 (by decide) rfl ?_
        refine zp_pc (pc' := 250) rfl ?_
        have lp192 : zP g mX11_deriveE (zR 3 0 0) Qf 0 0 283 [some (.ref (64)), some (.int (nI (zkl b))), some (.ref (p)), some (.int (nI (xs.length))), some (.ref (r)), some (.int (nI (k))), some (.int (nI (16 + (zstf xs k).length))), some (.int (nI (i))), some (.int (nI (16))), none] [] (va_up h2 (83) (some (.inr (48, .inl (zfl g83 (16 * i) (16) (fun j => nI ((zTT b (zstf xs k)).getD (16 * i + j) 0))))))) n → ∀ (m k192 : Nat), m = (16) - k192 → k192 ≤ (16) → zP g mX11_deriveE (zR 3 0 0) Qf 0 0 250 [some (.ref (64)), some (.int (nI (zkl b))), some (.ref (p)), some (.int (nI (xs.length))), some (.ref (r)), some (.int (nI (k))), some (.int (nI (16 + (zstf xs k).length))), some (.int (nI (i))), some (.int (nI (k192))), none] [] (va_up h2 (83) (some (.inr (48, .inl (zfl g83 (16 * i) (k192) (fun j => nI ((zTT b (zstf xs k)).getD (16 * i + j) 0))))))) n := by
          intro kk m
          induction m using Nat.strongRecOn with
          | _ m ih =>
            intro k192 hm192 hk192
            refine zp_nh (fun hX192 eX192 => ?_)
            have k193_0 := (congrFun eX192 (64)).trans ((va_up_ne _ _ (by omega)).trans o4)
            have k193_1 := (congrFun eX192 (81)).trans ((va_up_ne _ _ (by omega)).trans t4)
            have k193_2 : hX192 (83) = some (.inr (48, .inl (zfl g83 (16 * i) (k192) (fun j => nI ((zTT b (zstf xs k)).getD (16 * i + j) 0))))) := by rw [eX192]; exact va_up_self _ _ _
            have k193_3 := (congrFun eX192 (r)).trans ((va_up_ne _ _ (by omega)).trans r4)
            have k193_4 := (congrFun eX192 (80)).trans ((va_up_ne _ _ (by omega)).trans ld191)
            refine zp_iload dX11_deriveE_250 rfl ?_
            refine zp_bipush (v := nI (16)) dX11_deriveE_252 (by decide) ?_
            refine zp_pc (pc' := 254) rfl ?_
            refine zn_icmp_ge (tgt := 283) dX11_deriveE_254 (by decide) (by omega) (by omega) (fun c254 => ?_) (fun c254 => ?_)
            · have e192 : k192 = (16) := by omega
              subst e192
              rw [eX192]
              exact kk
            · refine zp_aload_n dX11_deriveE_257 rfl ?_
              refine zp_get dX11_deriveE_258 gX11_65_10 k193_0 rfl ?_
              refine zp_bipush (v := nI (16)) dX11_deriveE_261 (by decide) ?_
              refine zp_iload dX11_deriveE_263 rfl ?_
              refine zn_imul dX11_deriveE_265 ?_
              refine zp_iload dX11_deriveE_266 rfl ?_
              refine zn_iadd dX11_deriveE_268 ?_
              refine zp_aload_n dX11_deriveE_269 rfl ?_
              refine zp_get dX11_deriveE_270 gX11_56_10 k193_0 rfl ?_
              refine zp_iload dX11_deriveE_273 rfl ?_
              refine zp_pc (pc' := 275) rfl ?_
              refine zn_iald (j := k192) dX11_deriveE_275 k193_4 (by omega) (by omega) ?_
              refine zp_i (y := nI ((zTT b (zstf xs k)).getD (16 * i + k192) 0)) (by rw [le191 _ (by rw [zml_len]; omega), zTT_get b _ (by omega) (by omega)]) ?_
              refine zn_iast dX11_deriveE_276 (by omega) k193_2 (by omega) (by omega) ?_
              refine zp_nh (fun h194x eh194x => ?_)
              have k194_0 := (congrFun eh194x (64)).trans ((va_up_ne _ _ (by omega)).trans k193_0)
              have k194_1 := (congrFun eh194x (81)).trans ((va_up_ne _ _ (by omega)).trans k193_1)
              have k194_2 : h194x (83) = some (.inr (48, .inl (va_up (zfl g83 (16 * i) (k192) (fun j => nI ((zTT b (zstf xs k)).getD (16 * i + j) 0))) (((16) * (i)) + (k192)) (nI ((zTT b (zstf xs k)).getD (16 * i + k192) 0))))) := by rw [eh194x]; exact va_up_self _ _ _
              have k194_3 := (congrFun eh194x (r)).trans ((va_up_ne _ _ (by omega)).trans k193_3)
              have k194_4 := (congrFun eh194x (80)).trans ((va_up_ne _ _ (by omega)).trans k193_4)
              have sw195 : zsm hX192 h194x (zon (83)) := zsm.rf.up eh194x rfl
              have zw195 : zsh hX192 h194x := zsh.fill eh194x k193_2
              refine zp_pc (pc' := 277) rfl ?_
              refine zn_iinc 1 (ls' := [some (.ref (64)), some (.int (nI (zkl b))), some (.ref (p)), some (.int (nI (xs.length))), some (.ref (r)), some (.int (nI (k))), some (.int (nI (16 + (zstf xs k).length))), some (.int (nI (i))), some (.int (nI (k192 + 1))), none]) dX11_deriveE_277 (by decide) (by decide) rfl rfl ?_
              refine zp_goto (tgt := 250) dX11_deriveE_280 (by decide) ?_
              refine zp_pc (pc' := 250) rfl ?_
              rw [zfl_step eX192 eh194x (by omega) rfl]
              exact ih ((16) - (k192 + 1)) (by omega) (k192 + 1) rfl (by omega)
        suffices K192 : zP g mX11_deriveE (zR 3 0 0) Qf 0 0 283 [some (.ref (64)), some (.int (nI (zkl b))), some (.ref (p)), some (.int (nI (xs.length))), some (.ref (r)), some (.int (nI (k))), some (.int (nI (16 + (zstf xs k).length))), some (.int (nI (i))), some (.int (nI (16))), none] [] (va_up h2 (83) (some (.inr (48, .inl (zfl g83 (16 * i) (16) (fun j => nI ((zTT b (zstf xs k)).getD (16 * i + j) 0))))))) n by
          have q := lp192 K192 ((16) - 0) 0 rfl (Nat.zero_le _)
          rw [zfl_0, zup_same d4] at q
          exact q
        refine zp_nh (fun hY192 eY192 => ?_)
        have k196_0 := (congrFun eY192 (64)).trans ((va_up_ne _ _ (by omega)).trans o4)
        have k196_1 := (congrFun eY192 (81)).trans ((va_up_ne _ _ (by omega)).trans t4)
        have k196_2 : hY192 (83) = some (.inr (48, .inl (zfl g83 (16 * i) (16) (fun j => nI ((zTT b (zstf xs k)).getD (16 * i + j) 0))))) := by rw [eY192]; exact va_up_self _ _ _
        have k196_3 := (congrFun eY192 (r)).trans ((va_up_ne _ _ (by omega)).trans r4)
        have k196_4 := (congrFun eY192 (80)).trans ((va_up_ne _ _ (by omega)).trans ld191)
        have sf197 := (zsm.fill eY192)
        have zf197 := zsh.fill eY192 d4
        refine zn_iinc 1 (ls' := [some (.ref (64)), some (.int (nI (zkl b))), some (.ref (p)), some (.int (nI (xs.length))), some (.ref (r)), some (.int (nI (k))), some (.int (nI (16 + (zstf xs k).length))), some (.int (nI (i + 1))), some (.int (nI (16))), none]) dX11_deriveE_283 (by decide) (by decide) rfl rfl ?_
        refine zp_goto (tgt := 135) dX11_deriveE_286 (by decide) ?_
        refine zp_pc (pc' := 135) rfl ?_
        refine zp_drop (ls' := [some (.ref (64)), some (.int (nI (zkl b))), some (.ref (p)), some (.int (nI (xs.length))), some (.ref (r)), some (.int (nI (k))), some (.int (nI (16 + (zstf xs k).length))), some (.int (nI (i + 1))), none, none]) (fun i v hv => ?_) ?_
        · rcases i with _ | _ | _ | _ | _ | _ | _ | _ | _ | _ | i <;> simp at hv ⊢ <;> exact hv
        refine ih (zkl b / 16 + 1 - (i + 1)) (by omega) (i + 1) hY192 _ _ rfl (by omega) (s1.trans (((((s164).mono (fun i hi => by unfold zs6; unfold zon at hi; omega)).trans ((sf175).mono (fun i hi => by unfold zs6; unfold zon at hi; omega))).trans ((s2).mono (fun i hi => by unfold zs6; unfold zs4 at hi; omega))).trans ((sf197).mono (fun i hi => by unfold zs6; unfold zon at hi; omega)))) (z1.trans ((((z164).trans zf175).trans z2).trans zf197)) k196_1 k196_2 (a824.keep (sf197 _ (by unfold zon; omega))) (fun j hj => by rw [zfl_out (Or.inr (by omega))]; exact q1 j hj) (fun j hj hj2 => by rw [zfl_out (Or.inr (by omega))]; exact q0 j hj hj2) (fun j hj => ?_)
        rcases Nat.lt_or_ge j (16 * i) with q | q
        · rw [zfl_out (Or.inl q)]; exact qT j q
        · obtain ⟨d, rfl⟩ := Nat.exists_eq_add_of_le q
          rw [zfl_in (by omega)]
  exact lp _ 0 hY135 _ _ rfl (Nat.zero_le _) zsm.rf zsh.rf k139_6 k139_3 a82 (fun j hj => q1 j hj) (fun j h4 hj => q0 j h4 hj) (fun j hj => absurd hj (by omega))
