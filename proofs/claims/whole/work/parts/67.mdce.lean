theorem zapp_get (xs ys : List Nat) (i : Nat) : (xs ++ ys).getD i 0 = if i < xs.length then xs.getD i 0 else ys.getD (i - xs.length) 0 := by
  split
  · exact zapp_getD1 ‹_›
  · obtain ⟨d, rfl⟩ := Nat.exists_eq_add_of_le (Nat.not_lt.mp ‹_›)
    rw [zapp_getD2, show xs.length + d - xs.length = d by omega]
theorem zrep_get (n i v : Nat) : (List.replicate n v).getD i 0 = if i < n then v else 0 := by
  rw [List.getD_eq_getElem?_getD, List.getElem?_replicate]
  split <;> rfl
theorem zrange_get {n i : Nat} (h : i < n) : (List.range n).getD i 0 = i := by
  rw [List.getD_eq_getElem?_getD, List.getElem?_range h]; rfl
theorem zone_get (v i : Nat) : ([v] : List Nat).getD i 0 = if i = 0 then v else 0 := by
  cases i with
  | zero => rfl
  | succ i => rw [if_neg (by omega)]; rfl
theorem zpart_get {ys : List Nat} {a c k : Nat} (h : k < c) : (zpart ys a c).getD k 0 = ys.getD (a + k) 0 := by
  unfold zpart
  rw [List.getD_eq_getElem?_getD, List.getElem?_take_of_lt h, ← List.getD_eq_getElem?_getD, zget_drop]
theorem ztake_get {ys : List Nat} {c k : Nat} (h : k < c) : (ys.take c).getD k 0 = ys.getD k 0 := by
  rw [List.getD_eq_getElem?_getD, List.getElem?_take_of_lt h, ← List.getD_eq_getElem?_getD]
theorem zstf_get (xs : List Nat) (k j : Nat) : (zstf xs k).getD j 0 = if j < 4 then (znum xs.length 4).getD j 0 else if j < 8 then (znum k 4).getD (j - 4) 0 else if j < 8 + xs.length then xs.getD (j - 8) 0 else if j = 8 + xs.length then 128 else 0 := by
  unfold zstf
  rw [zapp_get, zapp_get, zapp_get, zapp_get, zrep_get, zone_get]
  simp only [List.length_append, znum_len, List.length_singleton]
  rcases Nat.lt_or_ge j 4 with q | q
  · rw [if_pos (by omega), if_pos (by omega), if_pos (by omega), if_pos q, if_pos q]
  · rcases Nat.lt_or_ge j 8 with q2 | q2
    · rw [if_pos (by omega), if_pos (by omega), if_pos (by omega), if_neg (by omega), if_neg (by omega), if_pos q2]
    · rcases Nat.lt_or_ge j (8 + xs.length) with q3 | q3
      · rw [if_pos (by omega), if_pos (by omega), if_neg (by omega), if_neg (by omega), if_neg (by omega), if_pos q3]
      · rcases Nat.lt_or_ge (8 + xs.length) j with q4 | q4
        · rw [if_neg (by omega), if_neg (by omega), if_neg (by omega), if_neg (by omega), if_neg (by omega)]
          split <;> rfl
        · rw [if_pos (by omega), if_neg (by omega), if_pos (by omega), if_neg (by omega), if_neg (by omega), if_neg (by omega), if_pos (by omega)]
theorem zstf_at {f : Nat → Int32} {xs : List Nat} {k N : Nat} (hN : N = 16 + (zstf xs k).length) (j : Nat) (hj : j < (zstf xs k).length) : va_up (zfl (zfl (zfl (zfl f 0 N (fun _ => nI 0)) 16 4 (fun i => nI ((znum xs.length 4).getD i 0))) 20 4 (fun i => nI ((znum k 4).getD i 0))) 24 xs.length (fun i => nI (xs.getD i 0))) (24 + xs.length) (nI 128) (16 + j) = nI ((zstf xs k).getD j 0) := by
  rw [zstf_get]
  by_cases q5 : j = 8 + xs.length
  · rw [show 16 + j = 24 + xs.length by omega, va_up_self, if_neg (by omega), if_neg (by omega), if_neg (by omega), if_pos q5]
  · rw [va_up_ne _ _ (by omega)]
    rcases Nat.lt_or_ge j 4 with q | q
    · rw [zfl_out (Or.inl (by omega)), zfl_out (Or.inl (by omega)), zfl_in q, if_pos q]
    · rcases Nat.lt_or_ge j 8 with q2 | q2
      · rw [zfl_out (Or.inl (by omega)), show 16 + j = 20 + (j - 4) by omega, zfl_in (by omega), if_neg (by omega), if_pos q2]
      · rcases Nat.lt_or_ge j (8 + xs.length) with q3 | q3
        · rw [show 16 + j = 24 + (j - 8) by omega, zfl_in (by omega), if_neg (by omega), if_neg (by omega), if_pos q3]
        · rw [zfl_out (Or.inr (by omega)), zfl_out (Or.inr (by omega)), zfl_out (Or.inr (by omega)), zfl_in0 (by omega), if_neg (by omega), if_neg (by omega), if_neg (by omega), if_neg q5]
theorem zstf_at0 {f : Nat → Int32} {xs : List Nat} {k N : Nat} (hN : 16 ≤ N) (j : Nat) (hj : j < 16) : va_up (zfl (zfl (zfl (zfl f 0 N (fun _ => nI 0)) 16 4 (fun i => nI ((znum xs.length 4).getD i 0))) 20 4 (fun i => nI ((znum k 4).getD i 0))) 24 xs.length (fun i => nI (xs.getD i 0))) (24 + xs.length) (nI 128) j = nI 0 := by
  rw [va_up_ne _ _ (by omega), zfl_out (Or.inl (by omega)), zfl_out (Or.inl (by omega)), zfl_out (Or.inl (by omega)), zfl_in0 (by omega)]
theorem zstf_lt {xs : List Nat} (hx : ∀ x ∈ xs, x < 256) (k : Nat) : ∀ x ∈ zstf xs k, x < 256 := by
  unfold zstf
  refine zapp_lt (zapp_lt (zapp_lt (zapp_lt (znum_lt _ _) (znum_lt _ _)) hx) (fun x h => ?_)) (fun x h => ?_)
  · rw [List.mem_singleton.mp h]; decide
  · rw [(List.mem_replicate.mp h).2]; decide
/-- the text with its first block -/
def zfu (t : List Nat) (i : Nat) : List Nat := znum i 4 ++ List.replicate 12 0 ++ t
theorem zfu_len (t : List Nat) (i : Nat) : (zfu t i).length = 16 + t.length := by
  unfold zfu; rw [List.length_append, List.length_append, znum_len, List.length_replicate]
theorem zfu_get (t : List Nat) (i j : Nat) : (zfu t i).getD j 0 = if j < 4 then (znum i 4).getD j 0 else if j < 16 then 0 else t.getD (j - 16) 0 := by
  unfold zfu
  rw [zapp_get, zapp_get, zrep_get, List.length_append, znum_len, List.length_replicate]
  rcases Nat.lt_or_ge j 4 with q | q
  · rw [if_pos (by omega), if_pos q, if_pos q]
  · rcases Nat.lt_or_ge j 16 with q2 | q2
    · rw [if_pos (by omega), if_neg (by omega), if_neg (by omega), if_pos q2, if_pos (by omega)]
    · rw [if_neg (by omega), if_neg (by omega), if_neg (by omega)]
theorem zfu_lt {t : List Nat} (ht : ∀ x ∈ t, x < 256) (i : Nat) : ∀ x ∈ zfu t i, x < 256 := zapp_lt (zapp_lt (znum_lt _ _) (fun x h => by rw [(List.mem_replicate.mp h).2]; decide)) ht
/-- the chain behind c blocks -/
def zml (b : Bool) (t : List Nat) (i : Nat) : Nat → List Nat
  | 0 => List.replicate 16 0
  | c + 1 => zchn b (zJ b) t i c
theorem zml_len (b : Bool) (t : List Nat) (i c : Nat) : (zml b t i c).length = 16 := by
  cases c
  · exact List.length_replicate
  · exact zchn_len _ _ _ _ _
theorem zJ_lt (b : Bool) : ∀ x ∈ zJ b, x < 256 := fun x h => by
  have := List.mem_range.mp h
  have := zkl_or b
  omega
theorem zml_succ (b : Bool) (t : List Nat) (i c : Nat) : zenc b (zJ b) (zxor (zml b t i c) (zfu t i) (16 * c)) = zml b t i (c + 1) := by
  cases c with
  | zero =>
    show _ = zenc b (zJ b) (znum i 4 ++ List.replicate 12 0)
    congr 1
    apply zlist_eq
    · rw [zxor_len, zml_len, List.length_append, znum_len, List.length_replicate]
    · intro j hj
      rw [zxor_len, zml_len] at hj
      rw [zxor_get _ _ _ (by rw [zml_len]; exact hj), zfu_get, zapp_get, zrep_get, znum_len]
      show (List.replicate 16 0).getD j 0 ^^^ _ = _
      rw [zrep_get]
      rw [show (if j < 16 then (0 : Nat) else 0) = 0 by split <;> rfl, Nat.zero_xor, Nat.mul_zero, Nat.zero_add]
      rcases Nat.lt_or_ge j 4 with q | q
      · rw [if_pos q, if_pos q]
      · rw [if_neg (by omega), if_neg (by omega), if_pos hj, if_pos (by omega)]
  | succ c =>
    show _ = zenc b (zJ b) (zxor (zchn b (zJ b) t i c) t (16 * c))
    congr 1
    apply zlist_eq
    · rw [zxor_len, zxor_len]; rfl
    · intro j hj
      rw [zxor_len, zml_len] at hj
      rw [zxor_get _ _ _ (by rw [zml_len]; exact hj), zxor_get _ _ _ (by rw [zchn_len]; exact hj), zfu_get, if_neg (by omega), if_neg (by omega), show 16 * (c + 1) + j - 16 = 16 * c + j by omega]
      rfl
theorem zml_lt {b : Bool} {t : List Nat} (ht : ∀ x ∈ t, x < 256) (i : Nat) : ∀ c, ∀ x ∈ zml b t i c, x < 256
  | 0 => fun x h => by rw [(List.mem_replicate.mp h).2]; decide
  | c + 1 => by rw [← zml_succ]; exact zenc_lt (zJ_lt b) (zxor_lt (zml_lt ht i c) (zfu_lt ht i) _)
theorem zTT_get (b : Bool) (t : List Nat) {i j : Nat} (hi : i < zkl b / 16 + 1) (hj : j < 16) : (zTT b t).getD (16 * i + j) 0 = (zml b t i (t.length / 16 + 1)).getD j 0 := by
  unfold zTT
  rw [zflat_getD _ 16 (by decide) (fun k => zchn_len _ _ _ _ _) _ _ (by omega), show (16 * i + j) / 16 = i by omega, show (16 * i + j) % 16 = j by omega]
  rfl
theorem zTT_lt {b : Bool} {t : List Nat} (ht : ∀ x ∈ t, x < 256) : ∀ x ∈ zTT b t, x < 256 := fun x h => by
  obtain ⟨i, -, h2⟩ := List.mem_flatMap.mp h
  exact zml_lt ht i (t.length / 16 + 1) x h2
theorem zit_lt {b : Bool} {ks x : List Nat} (hk : ∀ x ∈ ks, x < 256) (hx : ∀ y ∈ x, y < 256) : ∀ c, ∀ y ∈ zit b ks x c, y < 256
  | 0 => hx
  | c + 1 => zenc_lt hk (zit_lt hk hx c)
theorem zit_len {b : Bool} {ks x : List Nat} (hx : x.length = 16) : ∀ c, (zit b ks x c).length = 16
  | 0 => hx
  | c + 1 => zenc_len _ _ _
def zK (b : Bool) (xs : List Nat) (k : Nat) : List Nat := zpart (zTT b (zstf xs k)) 0 (zkl b)
def zX (b : Bool) (xs : List Nat) (k : Nat) : List Nat := zpart (zTT b (zstf xs k)) (zkl b) 16
theorem zdce_get (b : Bool) (xs : List Nat) {k j : Nat} (hj : j < k) : (zdce b xs k).getD j 0 = (zit b (zK b xs k) (zX b xs k) (j / 16 + 1)).getD (j % 16) 0 := by
  unfold zdce
  rw [ztake_get hj]
  unfold zcte
  rw [zflat_getD _ 16 (by decide) (fun k => zenc_len _ _ _) _ _ (by omega)]
  rfl
theorem zdce_lt {b : Bool} {xs : List Nat} (hx : ∀ x ∈ xs, x < 256) (k : Nat) : ∀ x ∈ zdce b xs k, x < 256 := fun x h => by
  obtain ⟨i, -, h2⟩ := List.mem_flatMap.mp (List.mem_of_mem_take h)
  exact zit_lt (zpart_lt (zTT_lt (zstf_lt hx k)) _ _) (zpart_lt (zTT_lt (zstf_lt hx k)) _ _) (i + 1) x h2
abbrev zs9 (r : Nat) : Nat → Prop := fun i => (78 ≤ i ∧ i ≤ 83) ∨ i = r
abbrev zs6 : Nat → Prop := fun i => 78 ≤ i ∧ i ≤ 83
abbrev zs4 : Nat → Prop := fun i => 78 ≤ i ∧ i ≤ 80
abbrev zs5 (r : Nat) : Nat → Prop := fun i => (78 ≤ i ∧ i ≤ 80) ∨ i = r
set_option maxRecDepth 10000 in
set_option maxHeartbeats 2000000 in
theorem e_mdce {g : ZG} {h : ZH} {n : Nat} {b : Bool} {p r Np Nr k : Nat} {xs : List Nat} {th : Int32} {wt : Nat} {un : Bool} {rp wi pa be ru sa me se ta fa : Int32} {mn tp ou : Nat} (hw : zmw h) (ho : h 64 = some (.inl (10, [.int (th), .ref (65), .ref (66), .ref (67), .ref (68), .ref (69), .ref (70), .ref (71), .ref (72), .ref (73), .ref (74), .ref (75), .ref (76), .ref (77), .ref (78), .ref (79), .ref (80), .ref (81), .ref (82), .ref (83), .ref (84), .int (nI (wt)), .int (nI (zbi un)), .int (rp), .int (wi), .int (pa), .int (be), .int (ru), .int (sa), .int (me), .int (se), .int (ta), .int (fa), .ref (85), .ref (86), .ref (87), .int (nI (mn)), .ref (88), .ref (89), .ref (90), .ref (91), .ref (92), .ref (93), .int (nI (tp)), .ref (94), .int (nI (ou))]))) (hx : zar h p Np xs) (hr : zia h r Nr) (hrN : k ≤ Nr) (hrM : Nr < 1000000) (hp : 83 < p) (hr2 : 83 < r) (hpr : p ≠ r) (hl : xs.length ≤ 400) (hk : k ≤ 250) : zMt g mX11_deriveE (zR 3 0 0) [.ref (64), .int (nI (zkl b)), .ref (p), .int (nI (xs.length)), .ref (r), .int (nI (k))] h n (fun v h' n' => v = none ∧ n' = n ∧ zsm h h' (zs9 r) ∧ zsh h h' ∧ zar h' r Nr (zdce b xs k)) := by
  refine zMt.of [some (.ref (64)), some (.int (nI (zkl b))), some (.ref (p)), some (.int (nI (xs.length))), some (.ref (r)), some (.int (nI (k))), none, none, none, none] (by decide) rfl (Nat.le_of_ble_eq_true rfl) ?_
  obtain ⟨Qf, hQ⟩ : ∃ Qf : ZQ, Qf = (fun v h' n' => v = none ∧ n' = n ∧ zsm h h' (zs9 r) ∧ zsh h h' ∧ zar h' r Nr (zdce b xs k)) := ⟨_, rfl⟩
  rw [← hQ]
  have hz := zkl_or b
  obtain ⟨-, -, -, -, i80, i81, i82, i83, -⟩ := id hw
  obtain ⟨if1, ih1⟩ := id (i80)
  obtain ⟨if2, ih2⟩ := id (i81)
  obtain ⟨if3, ih3⟩ := id (i82)
  obtain ⟨if4, ih4⟩ := id (i83)
  obtain ⟨if5, ih5⟩ := id (hr)
  obtain ⟨la6, lb6, lc6, lf6, ld6, le6⟩ := id hx
  have tl : (zstf xs k).length = (xs.length + 24) / 16 * 16 := by rw [zstf_len]; unfold zfill; omega
  have tlt := zstf_lt lc6 k
  refine zp_bipush (v := nI (16)) dX11_deriveE_0 (by decide) ?_
  refine zp_bipush (v := nI (8)) dX11_deriveE_2 (by decide) ?_
  refine zp_iload_n dX11_deriveE_4 rfl ?_
  refine zn_iadd dX11_deriveE_5 ?_
  refine zp_iconst (v := nI (1)) dX11_deriveE_6 (by decide) ?_
  refine zn_iadd dX11_deriveE_7 ?_
  refine zp_bipush (v := nI (15)) dX11_deriveE_8 (by decide) ?_
  refine zn_iadd dX11_deriveE_10 ?_
  refine zp_bipush (v := nI (16)) dX11_deriveE_11 (by decide) ?_
  refine zn_idiv dX11_deriveE_13 (by omega) (by omega) (by omega) ?_
  refine zp_bipush (v := nI (16)) dX11_deriveE_14 (by decide) ?_
  refine zn_imul dX11_deriveE_16 ?_
  refine zp_pc (pc' := 17) rfl ?_
  refine zp_pc (pc' := 17) rfl ?_
  refine zn_iadd dX11_deriveE_17 ?_
  refine zp_i (y := nI (16 + (zstf xs k).length)) (by rw [tl]; congr 1; omega) ?_
  refine zp_istore (ls' := [some (.ref (64)), some (.int (nI (zkl b))), some (.ref (p)), some (.int (nI (xs.length))), some (.ref (r)), some (.int (nI (k))), some (.int (nI (16 + (zstf xs k).length))), none, none, none]) dX11_deriveE_18 (by decide) rfl ?_
  refine zp_iconst (v := nI (0)) dX11_deriveE_20 (by decide) ?_
  refine zp_istore (ls' := [some (.ref (64)), some (.int (nI (zkl b))), some (.ref (p)), some (.int (nI (xs.length))), some (.ref (r)), some (.int (nI (k))), some (.int (nI (16 + (zstf xs k).length))), some (.int (nI (0))), none, none]) dX11_deriveE_21 (by decide) rfl ?_
  refine zp_pc (pc' := 23) rfl ?_
  have lp7 : zP g mX11_deriveE (zR 3 0 0) Qf 0 0 44 [some (.ref (64)), some (.int (nI (zkl b))), some (.ref (p)), some (.int (nI (xs.length))), some (.ref (r)), some (.int (nI (k))), some (.int (nI (16 + (zstf xs k).length))), some (.int (nI (16 + (zstf xs k).length))), none, none] [] (va_up h (81) (some (.inr (1000, .inl (zfl if2 (0) (16 + (zstf xs k).length) (fun _ => nI 0)))))) n → ∀ (m k7 : Nat), m = (16 + (zstf xs k).length) - k7 → k7 ≤ (16 + (zstf xs k).length) → zP g mX11_deriveE (zR 3 0 0) Qf 0 0 23 [some (.ref (64)), some (.int (nI (zkl b))), some (.ref (p)), some (.int (nI (xs.length))), some (.ref (r)), some (.int (nI (k))), some (.int (nI (16 + (zstf xs k).length))), some (.int (nI (k7))), none, none] [] (va_up h (81) (some (.inr (1000, .inl (zfl if2 (0) (k7) (fun _ => nI 0)))))) n := by
    intro kk m
    induction m using Nat.strongRecOn with
    | _ m ih =>
      intro k7 hm7 hk7
      refine zp_nh (fun hX7 eX7 => ?_)
      have k8_0 := (congrFun eX7 (64)).trans ((va_up_ne _ _ (by omega)).trans ho)
      have k8_1 := (congrFun eX7 (80)).trans ((va_up_ne _ _ (by omega)).trans ih1)
      have k8_2 : hX7 (81) = some (.inr (1000, .inl (zfl if2 (0) (k7) (fun _ => nI 0)))) := by rw [eX7]; exact va_up_self _ _ _
      have k8_3 := (congrFun eX7 (82)).trans ((va_up_ne _ _ (by omega)).trans ih3)
      have k8_4 := (congrFun eX7 (83)).trans ((va_up_ne _ _ (by omega)).trans ih4)
      have k8_5 := (congrFun eX7 (r)).trans ((va_up_ne _ _ (by omega)).trans ih5)
      have k8_6 := (congrFun eX7 (p)).trans ((va_up_ne _ _ (by omega)).trans ld6)
      refine zp_iload dX11_deriveE_23 rfl ?_
      refine zp_iload dX11_deriveE_25 rfl ?_
      refine zp_pc (pc' := 27) rfl ?_
      refine zn_icmp_ge (tgt := 44) dX11_deriveE_27 (by decide) (by omega) (by omega) (fun c27 => ?_) (fun c27 => ?_)
      · have e7 : k7 = (16 + (zstf xs k).length) := by omega
        subst e7
        rw [eX7]
        exact kk
      · refine zp_aload_n dX11_deriveE_30 rfl ?_
        refine zp_get dX11_deriveE_31 gX11_59_10 k8_0 rfl ?_
        refine zp_iload dX11_deriveE_34 rfl ?_
        refine zp_iconst (v := nI (0)) dX11_deriveE_36 (by decide) ?_
        refine zn_iast dX11_deriveE_37 (by omega) k8_2 (by omega) (by omega) ?_
        refine zp_nh (fun h9x eh9x => ?_)
        have k9_0 := (congrFun eh9x (64)).trans ((va_up_ne _ _ (by omega)).trans k8_0)
        have k9_1 := (congrFun eh9x (80)).trans ((va_up_ne _ _ (by omega)).trans k8_1)
        have k9_2 : h9x (81) = some (.inr (1000, .inl (va_up (zfl if2 (0) (k7) (fun _ => nI 0)) (k7) (nI (0))))) := by rw [eh9x]; exact va_up_self _ _ _
        have k9_3 := (congrFun eh9x (82)).trans ((va_up_ne _ _ (by omega)).trans k8_3)
        have k9_4 := (congrFun eh9x (83)).trans ((va_up_ne _ _ (by omega)).trans k8_4)
        have k9_5 := (congrFun eh9x (r)).trans ((va_up_ne _ _ (by omega)).trans k8_5)
        have k9_6 := (congrFun eh9x (p)).trans ((va_up_ne _ _ (by omega)).trans k8_6)
        have sw10 : zsm hX7 h9x (zon (81)) := zsm.rf.up eh9x rfl
        have zw10 : zsh hX7 h9x := zsh.fill eh9x k8_2
        refine zp_pc (pc' := 38) rfl ?_
        refine zn_iinc 1 (ls' := [some (.ref (64)), some (.int (nI (zkl b))), some (.ref (p)), some (.int (nI (xs.length))), some (.ref (r)), some (.int (nI (k))), some (.int (nI (16 + (zstf xs k).length))), some (.int (nI (k7 + 1))), none, none]) dX11_deriveE_38 (by decide) (by decide) rfl rfl ?_
        refine zp_goto (tgt := 23) dX11_deriveE_41 (by decide) ?_
        refine zp_pc (pc' := 23) rfl ?_
        rw [zfl_step eX7 eh9x (by omega) rfl]
        exact ih ((16 + (zstf xs k).length) - (k7 + 1)) (by omega) (k7 + 1) rfl (by omega)
  suffices K7 : zP g mX11_deriveE (zR 3 0 0) Qf 0 0 44 [some (.ref (64)), some (.int (nI (zkl b))), some (.ref (p)), some (.int (nI (xs.length))), some (.ref (r)), some (.int (nI (k))), some (.int (nI (16 + (zstf xs k).length))), some (.int (nI (16 + (zstf xs k).length))), none, none] [] (va_up h (81) (some (.inr (1000, .inl (zfl if2 (0) (16 + (zstf xs k).length) (fun _ => nI 0)))))) n by
    have q := lp7 K7 ((16 + (zstf xs k).length) - 0) 0 rfl (Nat.zero_le _)
    rw [zfl_0, zup_same ih2] at q
    exact q
  refine zp_nh (fun hY7 eY7 => ?_)
  have k11_0 := (congrFun eY7 (64)).trans ((va_up_ne _ _ (by omega)).trans ho)
  have k11_1 := (congrFun eY7 (80)).trans ((va_up_ne _ _ (by omega)).trans ih1)
  have k11_2 : hY7 (81) = some (.inr (1000, .inl (zfl if2 (0) (16 + (zstf xs k).length) (fun _ => nI 0)))) := by rw [eY7]; exact va_up_self _ _ _
  have k11_3 := (congrFun eY7 (82)).trans ((va_up_ne _ _ (by omega)).trans ih3)
  have k11_4 := (congrFun eY7 (83)).trans ((va_up_ne _ _ (by omega)).trans ih4)
  have k11_5 := (congrFun eY7 (r)).trans ((va_up_ne _ _ (by omega)).trans ih5)
  have k11_6 := (congrFun eY7 (p)).trans ((va_up_ne _ _ (by omega)).trans ld6)
  have sf12 := (zsm.fill eY7)
  have zf12 := zsh.fill eY7 ih2
  refine zp_aload_n dX11_deriveE_44 rfl ?_
  refine zp_get dX11_deriveE_45 gX11_59_10 k11_0 rfl ?_
  refine zp_bipush (v := nI (16)) dX11_deriveE_48 (by decide) ?_
  refine zp_iload_n dX11_deriveE_50 rfl ?_
  refine zp_iconst (v := nI (4)) dX11_deriveE_51 (by decide) ?_
  refine zp_pc (pc' := 52) rfl ?_
  refine zp_callS (As := [.ref (81), .int (nI (16)), .int (nI (xs.length)), .int (nI (4))]) (st := []) dX11_deriveE_52 cX11_174 rfl (e_number (p := 81) (N := 1000) (at_ := 16) (v0 := nI xs.length) (by decide) k11_2 (by decide) (by decide)) (by decide) (by decide) (Nat.le_of_ble_eq_true rfl) (fun v13 h13 n13 q13 => ?_)
  obtain ⟨rfl, N13, E13⟩ := q13
  rw [N13]
  refine zp_nrm (cells' := 0) (slots' := 0) (st' := []) rfl rfl rfl ?_
  have s13 := zsm.fill E13
  have z13 := zsh.fill E13 k11_2
  have n81_13 := congrFun E13 81
  rw [va_up_self, zn4_nI (by omega)] at n81_13
  have m14 : h13 (64) = some (.inl (10, [.int (th), .ref (65), .ref (66), .ref (67), .ref (68), .ref (69), .ref (70), .ref (71), .ref (72), .ref (73), .ref (74), .ref (75), .ref (76), .ref (77), .ref (78), .ref (79), .ref (80), .ref (81), .ref (82), .ref (83), .ref (84), .int (nI (wt)), .int (nI (zbi un)), .int (rp), .int (wi), .int (pa), .int (be), .int (ru), .int (sa), .int (me), .int (se), .int (ta), .int (fa), .ref (85), .ref (86), .ref (87), .int (nI (mn)), .ref (88), .ref (89), .ref (90), .ref (91), .ref (92), .ref (93), .int (nI (tp)), .ref (94), .int (nI (ou))])) := (s13 _ (by unfold zon; omega)).trans k11_0
  have m15 : h13 (80) = some (.inr (16, .inl if1)) := (s13 _ (by unfold zon; omega)).trans k11_1
  have m16 : h13 (82) = some (.inr (32, .inl if3)) := (s13 _ (by unfold zon; omega)).trans k11_3
  have m17 : h13 (83) = some (.inr (48, .inl if4)) := (s13 _ (by unfold zon; omega)).trans k11_4
  have m18 : h13 (r) = some (.inr (Nr, .inl if5)) := (s13 _ (by unfold zon; omega)).trans k11_5
  have m19 : h13 (p) = some (.inr (Np, .inl lf6)) := (s13 _ (by unfold zon; omega)).trans k11_6
  refine zp_aload_n dX11_deriveE_55 rfl ?_
  refine zp_get dX11_deriveE_56 gX11_59_10 m14 rfl ?_
  refine zp_bipush (v := nI (20)) dX11_deriveE_59 (by decide) ?_
  refine zp_iload dX11_deriveE_61 rfl ?_
  refine zp_iconst (v := nI (4)) dX11_deriveE_63 (by decide) ?_
  refine zp_pc (pc' := 64) rfl ?_
  refine zp_callS (As := [.ref (81), .int (nI (20)), .int (nI (k)), .int (nI (4))]) (st := []) dX11_deriveE_64 cX11_174 rfl (e_number (p := 81) (N := 1000) (at_ := 20) (v0 := nI k) (by decide) n81_13 (by decide) (by decide)) (by decide) (by decide) (Nat.le_of_ble_eq_true rfl) (fun v20 h20 n20 q20 => ?_)
  obtain ⟨rfl, N20, E20⟩ := q20
  rw [N20]
  refine zp_nrm (cells' := 0) (slots' := 0) (st' := []) rfl rfl rfl ?_
  have s20 := zsm.fill E20
  have z20 := zsh.fill E20 n81_13
  have n81_20 := congrFun E20 81
  rw [va_up_self, zn4_nI (by omega)] at n81_20
  have m21 : h20 (64) = some (.inl (10, [.int (th), .ref (65), .ref (66), .ref (67), .ref (68), .ref (69), .ref (70), .ref (71), .ref (72), .ref (73), .ref (74), .ref (75), .ref (76), .ref (77), .ref (78), .ref (79), .ref (80), .ref (81), .ref (82), .ref (83), .ref (84), .int (nI (wt)), .int (nI (zbi un)), .int (rp), .int (wi), .int (pa), .int (be), .int (ru), .int (sa), .int (me), .int (se), .int (ta), .int (fa), .ref (85), .ref (86), .ref (87), .int (nI (mn)), .ref (88), .ref (89), .ref (90), .ref (91), .ref (92), .ref (93), .int (nI (tp)), .ref (94), .int (nI (ou))])) := (s20 _ (by unfold zon; omega)).trans m14
  have m22 : h20 (80) = some (.inr (16, .inl if1)) := (s20 _ (by unfold zon; omega)).trans m15
  have m23 : h20 (82) = some (.inr (32, .inl if3)) := (s20 _ (by unfold zon; omega)).trans m16
  have m24 : h20 (83) = some (.inr (48, .inl if4)) := (s20 _ (by unfold zon; omega)).trans m17
  have m25 : h20 (r) = some (.inr (Nr, .inl if5)) := (s20 _ (by unfold zon; omega)).trans m18
  have m26 : h20 (p) = some (.inr (Np, .inl lf6)) := (s20 _ (by unfold zon; omega)).trans m19
  refine zp_iconst (v := nI (0)) dX11_deriveE_67 (by decide) ?_
  refine zp_istore (ls' := [some (.ref (64)), some (.int (nI (zkl b))), some (.ref (p)), some (.int (nI (xs.length))), some (.ref (r)), some (.int (nI (k))), some (.int (nI (16 + (zstf xs k).length))), some (.int (nI (0))), none, none]) dX11_deriveE_68 (by decide) rfl ?_
  refine zp_pc (pc' := 70) rfl ?_
  have lp27 : zP g mX11_deriveE (zR 3 0 0) Qf 0 0 96 [some (.ref (64)), some (.int (nI (zkl b))), some (.ref (p)), some (.int (nI (xs.length))), some (.ref (r)), some (.int (nI (k))), some (.int (nI (16 + (zstf xs k).length))), some (.int (nI (xs.length))), none, none] [] (va_up h20 (81) (some (.inr (1000, .inl (zfl (zfl (zfl (zfl if2 (0) (16 + (zstf xs k).length) (fun _ => nI 0)) 16 4 (fun i => nI ((znum (xs.length) 4).getD i 0))) 20 4 (fun i => nI ((znum (k) 4).getD i 0))) (24) (xs.length) (fun i => nI (xs.getD i 0))))))) n → ∀ (m k27 : Nat), m = (xs.length) - k27 → k27 ≤ (xs.length) → zP g mX11_deriveE (zR 3 0 0) Qf 0 0 70 [some (.ref (64)), some (.int (nI (zkl b))), some (.ref (p)), some (.int (nI (xs.length))), some (.ref (r)), some (.int (nI (k))), some (.int (nI (16 + (zstf xs k).length))), some (.int (nI (k27))), none, none] [] (va_up h20 (81) (some (.inr (1000, .inl (zfl (zfl (zfl (zfl if2 (0) (16 + (zstf xs k).length) (fun _ => nI 0)) 16 4 (fun i => nI ((znum (xs.length) 4).getD i 0))) 20 4 (fun i => nI ((znum (k) 4).getD i 0))) (24) (k27) (fun i => nI (xs.getD i 0))))))) n := by
    intro kk m
    induction m using Nat.strongRecOn with
    | _ m ih =>
      intro k27 hm27 hk27
      refine zp_nh (fun hX27 eX27 => ?_)
      have k28_0 := (congrFun eX27 (64)).trans ((va_up_ne _ _ (by omega)).trans m21)
      have k28_1 := (congrFun eX27 (80)).trans ((va_up_ne _ _ (by omega)).trans m22)
      have k28_2 := (congrFun eX27 (82)).trans ((va_up_ne _ _ (by omega)).trans m23)
      have k28_3 := (congrFun eX27 (83)).trans ((va_up_ne _ _ (by omega)).trans m24)
      have k28_4 := (congrFun eX27 (r)).trans ((va_up_ne _ _ (by omega)).trans m25)
      have k28_5 := (congrFun eX27 (p)).trans ((va_up_ne _ _ (by omega)).trans m26)
      have k28_6 : hX27 (81) = some (.inr (1000, .inl (zfl (zfl (zfl (zfl if2 (0) (16 + (zstf xs k).length) (fun _ => nI 0)) 16 4 (fun i => nI ((znum (xs.length) 4).getD i 0))) 20 4 (fun i => nI ((znum (k) 4).getD i 0))) (24) (k27) (fun i => nI (xs.getD i 0))))) := by rw [eX27]; exact va_up_self _ _ _
      refine zp_iload dX11_deriveE_70 rfl ?_
      refine zp_iload_n dX11_deriveE_72 rfl ?_
      refine zp_pc (pc' := 73) rfl ?_
      refine zn_icmp_ge (tgt := 96) dX11_deriveE_73 (by decide) (by omega) (by omega) (fun c73 => ?_) (fun c73 => ?_)
      · have e27 : k27 = (xs.length) := by omega
        subst e27
        rw [eX27]
        exact kk
      · refine zp_aload_n dX11_deriveE_76 rfl ?_
        refine zp_get dX11_deriveE_77 gX11_59_10 k28_0 rfl ?_
        refine zp_bipush (v := nI (24)) dX11_deriveE_80 (by decide) ?_
        refine zp_iload dX11_deriveE_82 rfl ?_
        refine zn_iadd dX11_deriveE_84 ?_
        refine zp_aload_n dX11_deriveE_85 rfl ?_
        refine zp_iload dX11_deriveE_86 rfl ?_
        refine zp_pc (pc' := 88) rfl ?_
        refine zn_iald (j := k27) dX11_deriveE_88 k28_5 (by omega) (by omega) ?_
        refine zp_i (y := nI (xs.getD k27 0)) (le6 _ (by omega)) ?_
        refine zn_iast dX11_deriveE_89 (by omega) k28_6 (by omega) (by omega) ?_
        refine zp_nh (fun h29x eh29x => ?_)
        have k29_0 := (congrFun eh29x (64)).trans ((va_up_ne _ _ (by omega)).trans k28_0)
        have k29_1 := (congrFun eh29x (80)).trans ((va_up_ne _ _ (by omega)).trans k28_1)
        have k29_2 := (congrFun eh29x (82)).trans ((va_up_ne _ _ (by omega)).trans k28_2)
        have k29_3 := (congrFun eh29x (83)).trans ((va_up_ne _ _ (by omega)).trans k28_3)
        have k29_4 := (congrFun eh29x (r)).trans ((va_up_ne _ _ (by omega)).trans k28_4)
        have k29_5 := (congrFun eh29x (p)).trans ((va_up_ne _ _ (by omega)).trans k28_5)
        have k29_6 : h29x (81) = some (.inr (1000, .inl (va_up (zfl (zfl (zfl (zfl if2 (0) (16 + (zstf xs k).length) (fun _ => nI 0)) 16 4 (fun i => nI ((znum (xs.length) 4).getD i 0))) 20 4 (fun i => nI ((znum (k) 4).getD i 0))) (24) (k27) (fun i => nI (xs.getD i 0))) ((24) + (k27)) (nI (xs.getD k27 0))))) := by rw [eh29x]; exact va_up_self _ _ _
        have sw30 : zsm hX27 h29x (zon (81)) := zsm.rf.up eh29x rfl
        have zw30 : zsh hX27 h29x := zsh.fill eh29x k28_6
        refine zp_pc (pc' := 90) rfl ?_
        refine zn_iinc 1 (ls' := [some (.ref (64)), some (.int (nI (zkl b))), some (.ref (p)), some (.int (nI (xs.length))), some (.ref (r)), some (.int (nI (k))), some (.int (nI (16 + (zstf xs k).length))), some (.int (nI (k27 + 1))), none, none]) dX11_deriveE_90 (by decide) (by decide) rfl rfl ?_
        refine zp_goto (tgt := 70) dX11_deriveE_93 (by decide) ?_
        refine zp_pc (pc' := 70) rfl ?_
        rw [zfl_step eX27 eh29x (by omega) rfl]
        exact ih ((xs.length) - (k27 + 1)) (by omega) (k27 + 1) rfl (by omega)
  suffices K27 : zP g mX11_deriveE (zR 3 0 0) Qf 0 0 96 [some (.ref (64)), some (.int (nI (zkl b))), some (.ref (p)), some (.int (nI (xs.length))), some (.ref (r)), some (.int (nI (k))), some (.int (nI (16 + (zstf xs k).length))), some (.int (nI (xs.length))), none, none] [] (va_up h20 (81) (some (.inr (1000, .inl (zfl (zfl (zfl (zfl if2 (0) (16 + (zstf xs k).length) (fun _ => nI 0)) 16 4 (fun i => nI ((znum (xs.length) 4).getD i 0))) 20 4 (fun i => nI ((znum (k) 4).getD i 0))) (24) (xs.length) (fun i => nI (xs.getD i 0))))))) n by
    have q := lp27 K27 ((xs.length) - 0) 0 rfl (Nat.zero_le _)
    rw [zfl_0, zup_same n81_20] at q
    exact q
  refine zp_nh (fun hY27 eY27 => ?_)
  have k31_0 := (congrFun eY27 (64)).trans ((va_up_ne _ _ (by omega)).trans m21)
  have k31_1 := (congrFun eY27 (80)).trans ((va_up_ne _ _ (by omega)).trans m22)
  have k31_2 := (congrFun eY27 (82)).trans ((va_up_ne _ _ (by omega)).trans m23)
  have k31_3 := (congrFun eY27 (83)).trans ((va_up_ne _ _ (by omega)).trans m24)
  have k31_4 := (congrFun eY27 (r)).trans ((va_up_ne _ _ (by omega)).trans m25)
  have k31_5 := (congrFun eY27 (p)).trans ((va_up_ne _ _ (by omega)).trans m26)
  have k31_6 : hY27 (81) = some (.inr (1000, .inl (zfl (zfl (zfl (zfl if2 (0) (16 + (zstf xs k).length) (fun _ => nI 0)) 16 4 (fun i => nI ((znum (xs.length) 4).getD i 0))) 20 4 (fun i => nI ((znum (k) 4).getD i 0))) (24) (xs.length) (fun i => nI (xs.getD i 0))))) := by rw [eY27]; exact va_up_self _ _ _
  have sf32 := (zsm.fill eY27)
  have zf32 := zsh.fill eY27 n81_20
  refine zp_aload_n dX11_deriveE_96 rfl ?_
  refine zp_get dX11_deriveE_97 gX11_59_10 k31_0 rfl ?_
  refine zp_bipush (v := nI (24)) dX11_deriveE_100 (by decide) ?_
  refine zp_iload_n dX11_deriveE_102 rfl ?_
  refine zn_iadd dX11_deriveE_103 ?_
  refine zp_sipush (v := nI (128)) dX11_deriveE_104 (by decide) ?_
  refine zn_iast dX11_deriveE_107 (by omega) k31_6 (by omega) (by omega) ?_
  refine zp_nh (fun h33x eh33x => ?_)
  have k33_0 := (congrFun eh33x (64)).trans ((va_up_ne _ _ (by omega)).trans k31_0)
  have k33_1 := (congrFun eh33x (80)).trans ((va_up_ne _ _ (by omega)).trans k31_1)
  have k33_2 := (congrFun eh33x (82)).trans ((va_up_ne _ _ (by omega)).trans k31_2)
  have k33_3 := (congrFun eh33x (83)).trans ((va_up_ne _ _ (by omega)).trans k31_3)
  have k33_4 := (congrFun eh33x (r)).trans ((va_up_ne _ _ (by omega)).trans k31_4)
  have k33_5 := (congrFun eh33x (p)).trans ((va_up_ne _ _ (by omega)).trans k31_5)
  have k33_6 : h33x (81) = some (.inr (1000, .inl (va_up (zfl (zfl (zfl (zfl if2 (0) (16 + (zstf xs k).length) (fun _ => nI 0)) 16 4 (fun i => nI ((znum (xs.length) 4).getD i 0))) 20 4 (fun i => nI ((znum (k) 4).getD i 0))) (24) (xs.length) (fun i => nI (xs.getD i 0))) ((24) + (xs.length)) (nI (128))))) := by rw [eh33x]; exact va_up_self _ _ _
  have sw34 : zsm hY27 h33x (zon (81)) := zsm.rf.up eh33x rfl
  have zw34 : zsh hY27 h33x := zsh.fill eh33x k31_6
  refine zp_pc (pc' := 108) rfl ?_
  have q1 := zstf_at (f := if2) (xs := xs) (k := k) (N := 16 + (zstf xs k).length) rfl
  have q0 := zstf_at0 (f := if2) (xs := xs) (k := k) (N := 16 + (zstf xs k).length) (by omega)
  obtain ⟨f81, ef81⟩ : ∃ f81 : Nat → Int32, f81 = (va_up (zfl (zfl (zfl (zfl if2 (0) (16 + (zstf xs k).length) (fun _ => nI 0)) 16 4 (fun i => nI ((znum (xs.length) 4).getD i 0))) 20 4 (fun i => nI ((znum (k) 4).getD i 0))) (24) (xs.length) (fun i => nI (xs.getD i 0))) ((24) + (xs.length)) (nI (128))) := ⟨_, rfl⟩
  have k81 := k33_6
  rw [← ef81] at k81
  have q1 : ∀ j, j < (zstf xs k).length → f81 (16 + j) = nI ((zstf xs k).getD j 0) := fun j hj => by rw [ef81]; exact q1 j hj
  have q0 : ∀ j, 4 ≤ j → j < 16 → f81 j = nI 0 := fun j _ hj => by rw [ef81]; exact q0 j hj
  refine zp_iconst (v := nI (0)) dX11_deriveE_108 (by decide) ?_
  refine zp_istore (ls' := [some (.ref (64)), some (.int (nI (zkl b))), some (.ref (p)), some (.int (nI (xs.length))), some (.ref (r)), some (.int (nI (k))), some (.int (nI (16 + (zstf xs k).length))), some (.int (nI (0))), none, none]) dX11_deriveE_109 (by decide) rfl ?_
  refine zp_pc (pc' := 111) rfl ?_
  have lp35 : zP g mX11_deriveE (zR 3 0 0) Qf 0 0 132 [some (.ref (64)), some (.int (nI (zkl b))), some (.ref (p)), some (.int (nI (xs.length))), some (.ref (r)), some (.int (nI (k))), some (.int (nI (16 + (zstf xs k).length))), some (.int (nI (zkl b))), none, none] [] (va_up h33x (82) (some (.inr (32, .inl (zfl if3 (0) (zkl b) (fun i => nI i)))))) n → ∀ (m k35 : Nat), m = (zkl b) - k35 → k35 ≤ (zkl b) → zP g mX11_deriveE (zR 3 0 0) Qf 0 0 111 [some (.ref (64)), some (.int (nI (zkl b))), some (.ref (p)), some (.int (nI (xs.length))), some (.ref (r)), some (.int (nI (k))), some (.int (nI (16 + (zstf xs k).length))), some (.int (nI (k35))), none, none] [] (va_up h33x (82) (some (.inr (32, .inl (zfl if3 (0) (k35) (fun i => nI i)))))) n := by
    intro kk m
    induction m using Nat.strongRecOn with
    | _ m ih =>
      intro k35 hm35 hk35
      refine zp_nh (fun hX35 eX35 => ?_)
      have k36_0 := (congrFun eX35 (64)).trans ((va_up_ne _ _ (by omega)).trans k33_0)
      have k36_1 := (congrFun eX35 (80)).trans ((va_up_ne _ _ (by omega)).trans k33_1)
      have k36_2 : hX35 (82) = some (.inr (32, .inl (zfl if3 (0) (k35) (fun i => nI i)))) := by rw [eX35]; exact va_up_self _ _ _
      have k36_3 := (congrFun eX35 (83)).trans ((va_up_ne _ _ (by omega)).trans k33_3)
      have k36_4 := (congrFun eX35 (r)).trans ((va_up_ne _ _ (by omega)).trans k33_4)
      have k36_5 := (congrFun eX35 (p)).trans ((va_up_ne _ _ (by omega)).trans k33_5)
      have k36_6 := (congrFun eX35 (81)).trans ((va_up_ne _ _ (by omega)).trans k81)
      refine zp_iload dX11_deriveE_111 rfl ?_
      refine zp_iload_n dX11_deriveE_113 rfl ?_
      refine zp_pc (pc' := 114) rfl ?_
      refine zn_icmp_ge (tgt := 132) dX11_deriveE_114 (by decide) (by omega) (by omega) (fun c114 => ?_) (fun c114 => ?_)
      · have e35 : k35 = (zkl b) := by omega
        subst e35
        rw [eX35]
        exact kk
      · refine zp_aload_n dX11_deriveE_117 rfl ?_
        refine zp_get dX11_deriveE_118 gX11_62_10 k36_0 rfl ?_
        refine zp_iload dX11_deriveE_121 rfl ?_
        refine zp_iload dX11_deriveE_123 rfl ?_
        refine zn_iast dX11_deriveE_125 (by omega) k36_2 (by omega) (by omega) ?_
        refine zp_nh (fun h37x eh37x => ?_)
        have k37_0 := (congrFun eh37x (64)).trans ((va_up_ne _ _ (by omega)).trans k36_0)
        have k37_1 := (congrFun eh37x (80)).trans ((va_up_ne _ _ (by omega)).trans k36_1)
        have k37_2 : h37x (82) = some (.inr (32, .inl (va_up (zfl if3 (0) (k35) (fun i => nI i)) (k35) (nI (k35))))) := by rw [eh37x]; exact va_up_self _ _ _
        have k37_3 := (congrFun eh37x (83)).trans ((va_up_ne _ _ (by omega)).trans k36_3)
        have k37_4 := (congrFun eh37x (r)).trans ((va_up_ne _ _ (by omega)).trans k36_4)
        have k37_5 := (congrFun eh37x (p)).trans ((va_up_ne _ _ (by omega)).trans k36_5)
        have k37_6 := (congrFun eh37x (81)).trans ((va_up_ne _ _ (by omega)).trans k36_6)
        have sw38 : zsm hX35 h37x (zon (82)) := zsm.rf.up eh37x rfl
        have zw38 : zsh hX35 h37x := zsh.fill eh37x k36_2
        refine zp_pc (pc' := 126) rfl ?_
        refine zn_iinc 1 (ls' := [some (.ref (64)), some (.int (nI (zkl b))), some (.ref (p)), some (.int (nI (xs.length))), some (.ref (r)), some (.int (nI (k))), some (.int (nI (16 + (zstf xs k).length))), some (.int (nI (k35 + 1))), none, none]) dX11_deriveE_126 (by decide) (by decide) rfl rfl ?_
        refine zp_goto (tgt := 111) dX11_deriveE_129 (by decide) ?_
        refine zp_pc (pc' := 111) rfl ?_
        rw [zfl_step eX35 eh37x (by omega) rfl]
        exact ih ((zkl b) - (k35 + 1)) (by omega) (k35 + 1) rfl (by omega)
  suffices K35 : zP g mX11_deriveE (zR 3 0 0) Qf 0 0 132 [some (.ref (64)), some (.int (nI (zkl b))), some (.ref (p)), some (.int (nI (xs.length))), some (.ref (r)), some (.int (nI (k))), some (.int (nI (16 + (zstf xs k).length))), some (.int (nI (zkl b))), none, none] [] (va_up h33x (82) (some (.inr (32, .inl (zfl if3 (0) (zkl b) (fun i => nI i)))))) n by
    have q := lp35 K35 ((zkl b) - 0) 0 rfl (Nat.zero_le _)
    rw [zfl_0, zup_same k33_2] at q
    exact q
  refine zp_nh (fun hY35 eY35 => ?_)
  have k39_0 := (congrFun eY35 (64)).trans ((va_up_ne _ _ (by omega)).trans k33_0)
  have k39_1 := (congrFun eY35 (80)).trans ((va_up_ne _ _ (by omega)).trans k33_1)
  have k39_2 : hY35 (82) = some (.inr (32, .inl (zfl if3 (0) (zkl b) (fun i => nI i)))) := by rw [eY35]; exact va_up_self _ _ _
  have k39_3 := (congrFun eY35 (83)).trans ((va_up_ne _ _ (by omega)).trans k33_3)
  have k39_4 := (congrFun eY35 (r)).trans ((va_up_ne _ _ (by omega)).trans k33_4)
  have k39_5 := (congrFun eY35 (p)).trans ((va_up_ne _ _ (by omega)).trans k33_5)
  have k39_6 := (congrFun eY35 (81)).trans ((va_up_ne _ _ (by omega)).trans k81)
  have sf40 := (zsm.fill eY35)
  have zf40 := zsh.fill eY35 k33_2
  have a82 : zar hY35 82 32 (zJ b) := zar.mk (L := zkl b) k39_2 (zJ_len b) (by omega) (by decide) (zJ_lt b) (fun j hj => by rw [zfl_in0 hj]; unfold zJ; rw [zrange_get hj])
  refine zp_iconst (v := nI (0)) dX11_deriveE_132 (by decide) ?_
  refine zp_istore (ls' := [some (.ref (64)), some (.int (nI (zkl b))), some (.ref (p)), some (.int (nI (xs.length))), some (.ref (r)), some (.int (nI (k))), some (.int (nI (16 + (zstf xs k).length))), some (.int (nI (0))), none, none]) dX11_deriveE_133 (by decide) rfl ?_
  refine zp_pc (pc' := 135) rfl ?_
  have sB : zsm h hY35 (zs9 r) := ((((((sf12).mono (fun i hi => by unfold zs9; unfold zon at hi; omega)).trans ((s13).mono (fun i hi => by unfold zs9; unfold zon at hi; omega))).trans ((s20).mono (fun i hi => by unfold zs9; unfold zon at hi; omega))).trans ((sf32).mono (fun i hi => by unfold zs9; unfold zon at hi; omega))).trans ((sw34).mono (fun i hi => by unfold zs9; unfold zon at hi; omega))).trans ((sf40).mono (fun i hi => by unfold zs9; unfold zon at hi; omega))
  have zB : zsh h hY35 := (((((zf12).trans z13).trans z20).trans zf32).trans zw34).trans zf40
  have W41 := zmw.sh hw (((((((sf12).mono (fun i hi => by unfold zwf; unfold zon at hi; omega)).trans ((s13).mono (fun i hi => by unfold zwf; unfold zon at hi; omega))).trans ((s20).mono (fun i hi => by unfold zwf; unfold zon at hi; omega))).trans ((sf32).mono (fun i hi => by unfold zwf; unfold zon at hi; omega))).trans ((sw34).mono (fun i hi => by unfold zwf; unfold zon at hi; omega))).trans ((sf40).mono (fun i hi => by unfold zwf; unfold zon at hi; omega))) ((((((zf12).trans z13).trans z20).trans zf32).trans zw34).trans zf40) (fun i hi => hi)
  have sxI : ∀ i, zs6 i → zwf i := fun i q => by unfold zs6 at q; unfold zwf; omega
  have lp : ∀ (m : Nat) (i : Nat) (h1 : ZH) (g81 g83 : Nat → Int32), m = zkl b / 16 + 1 - i → i ≤ zkl b / 16 + 1 → zsm hY35 h1 zs6 → zsh hY35 h1 → h1 81 = some (.inr (1000, .inl g81)) → h1 83 = some (.inr (48, .inl g83)) → zar h1 82 32 (zJ b) → (∀ j, j < (zstf xs k).length → g81 (16 + j) = nI ((zstf xs k).getD j 0)) → (∀ j, 4 ≤ j → j < 16 → g81 j = nI 0) → (∀ j, j < 16 * i → g83 j = nI ((zTT b (zstf xs k)).getD j 0)) → zP g mX11_deriveE (zR 3 0 0) Qf 0 0 135 [some (.ref (64)), some (.int (nI (zkl b))), some (.ref (p)), some (.int (nI (xs.length))), some (.ref (r)), some (.int (nI (k))), some (.int (nI (16 + (zstf xs k).length))), some (.int (nI (i))), none, none] [] h1 n := by
    intro m
    induction m using Nat.strongRecOn with
    | _ m ih =>
      intro i h1 g81 g83 hm hi s1 z1 e81 e83 a82 q1 q0 qT
      have o1 : h1 (64) = some (.inl (10, [.int (th), .ref (65), .ref (66), .ref (67), .ref (68), .ref (69), .ref (70), .ref (71), .ref (72), .ref (73), .ref (74), .ref (75), .ref (76), .ref (77), .ref (78), .ref (79), .ref (80), .ref (81), .ref (82), .ref (83), .ref (84), .int (nI (wt)), .int (nI (zbi un)), .int (rp), .int (wi), .int (pa), .int (be), .int (ru), .int (sa), .int (me), .int (se), .int (ta), .int (fa), .ref (85), .ref (86), .ref (87), .int (nI (mn)), .ref (88), .ref (89), .ref (90), .ref (91), .ref (92), .ref (93), .int (nI (tp)), .ref (94), .int (nI (ou))])) := (s1 _ (by unfold zs6; omega)).trans k39_0
      have r1 : h1 (r) = some (.inr (Nr, .inl if5)) := (s1 _ (by unfold zs6; omega)).trans k39_4
      have Wl := W41.sh s1 z1 sxI
      obtain ⟨if42, ih42⟩ := id (Wl.2.2.2.2.1)
      obtain ⟨la43, lb43, lc43, lf43, ld43, le43⟩ := id a82
      refine zp_bipush (v := nI (16)) dX11_deriveE_135 (by decide) ?_
      refine zp_iload dX11_deriveE_137 rfl ?_
      refine zn_imul dX11_deriveE_139 ?_
      refine zp_iload_n dX11_deriveE_140 rfl ?_
      refine zp_bipush (v := nI (16)) dX11_deriveE_141 (by decide) ?_
      refine zn_iadd dX11_deriveE_143 ?_
      refine zp_pc (pc' := 144) rfl ?_
      refine zn_icmp_ge (tgt := 289) dX11_deriveE_144 (by decide) (by omega) (by omega) (fun c144 => ?_) (fun c144 => ?_)
      · have ei : 16 * i = zkl b + 16 := by omega
        refine zp_iconst (v := nI (0)) dX11_deriveE_289 (by decide) ?_
        refine zp_istore (ls' := [some (.ref (64)), some (.int (nI (zkl b))), some (.ref (p)), some (.int (nI (xs.length))), some (.ref (r)), some (.int (nI (k))), some (.int (nI (16 + (zstf xs k).length))), some (.int (nI (0))), none, none]) dX11_deriveE_290 (by decide) rfl ?_
        refine zp_pc (pc' := 292) rfl ?_
        have lp44 : zP g mX11_deriveE (zR 3 0 0) Qf 0 0 321 [some (.ref (64)), some (.int (nI (zkl b))), some (.ref (p)), some (.int (nI (xs.length))), some (.ref (r)), some (.int (nI (k))), some (.int (nI (16 + (zstf xs k).length))), some (.int (nI (16))), none, none] [] (va_up h1 (80) (some (.inr (16, .inl (zfl if42 (0) (16) (fun i => nI ((zX b xs k).getD i 0))))))) n → ∀ (m k44 : Nat), m = (16) - k44 → k44 ≤ (16) → zP g mX11_deriveE (zR 3 0 0) Qf 0 0 292 [some (.ref (64)), some (.int (nI (zkl b))), some (.ref (p)), some (.int (nI (xs.length))), some (.ref (r)), some (.int (nI (k))), some (.int (nI (16 + (zstf xs k).length))), some (.int (nI (k44))), none, none] [] (va_up h1 (80) (some (.inr (16, .inl (zfl if42 (0) (k44) (fun i => nI ((zX b xs k).getD i 0))))))) n := by
          intro kk m
          induction m using Nat.strongRecOn with
          | _ m ih =>
            intro k44 hm44 hk44
            refine zp_nh (fun hX44 eX44 => ?_)
            have k45_0 := (congrFun eX44 (64)).trans ((va_up_ne _ _ (by omega)).trans o1)
            have k45_1 := (congrFun eX44 (r)).trans ((va_up_ne _ _ (by omega)).trans r1)
            have k45_2 := (congrFun eX44 (81)).trans ((va_up_ne _ _ (by omega)).trans e81)
            have k45_3 := (congrFun eX44 (83)).trans ((va_up_ne _ _ (by omega)).trans e83)
            have k45_4 : hX44 (80) = some (.inr (16, .inl (zfl if42 (0) (k44) (fun i => nI ((zX b xs k).getD i 0))))) := by rw [eX44]; exact va_up_self _ _ _
            have k45_5 := (congrFun eX44 (82)).trans ((va_up_ne _ _ (by omega)).trans ld43)
            refine zp_iload dX11_deriveE_292 rfl ?_
            refine zp_bipush (v := nI (16)) dX11_deriveE_294 (by decide) ?_
            refine zp_pc (pc' := 296) rfl ?_
            refine zn_icmp_ge (tgt := 321) dX11_deriveE_296 (by decide) (by omega) (by omega) (fun c296 => ?_) (fun c296 => ?_)
            · have e44 : k44 = (16) := by omega
              subst e44
              rw [eX44]
              exact kk
            · refine zp_aload_n dX11_deriveE_299 rfl ?_
              refine zp_get dX11_deriveE_300 gX11_56_10 k45_0 rfl ?_
              refine zp_iload dX11_deriveE_303 rfl ?_
              refine zp_aload_n dX11_deriveE_305 rfl ?_
              refine zp_get dX11_deriveE_306 gX11_65_10 k45_0 rfl ?_
              refine zp_iload_n dX11_deriveE_309 rfl ?_
              refine zp_iload dX11_deriveE_310 rfl ?_
              refine zn_iadd dX11_deriveE_312 ?_
              refine zp_pc (pc' := 313) rfl ?_
              refine zn_iald (j := (zkl b) + (k44)) dX11_deriveE_313 k45_3 (by omega) (by omega) ?_
              refine zp_i (y := nI ((zX b xs k).getD k44 0)) (by unfold zX; rw [qT _ (by omega), zpart_get (by omega)]) ?_
              refine zn_iast dX11_deriveE_314 (by omega) k45_4 (by omega) (by omega) ?_
              refine zp_nh (fun h46x eh46x => ?_)
              have k46_0 := (congrFun eh46x (64)).trans ((va_up_ne _ _ (by omega)).trans k45_0)
              have k46_1 := (congrFun eh46x (r)).trans ((va_up_ne _ _ (by omega)).trans k45_1)
              have k46_2 := (congrFun eh46x (81)).trans ((va_up_ne _ _ (by omega)).trans k45_2)
              have k46_3 := (congrFun eh46x (83)).trans ((va_up_ne _ _ (by omega)).trans k45_3)
              have k46_4 : h46x (80) = some (.inr (16, .inl (va_up (zfl if42 (0) (k44) (fun i => nI ((zX b xs k).getD i 0))) (k44) (nI ((zX b xs k).getD k44 0))))) := by rw [eh46x]; exact va_up_self _ _ _
              have k46_5 := (congrFun eh46x (82)).trans ((va_up_ne _ _ (by omega)).trans k45_5)
              have sw47 : zsm hX44 h46x (zon (80)) := zsm.rf.up eh46x rfl
              have zw47 : zsh hX44 h46x := zsh.fill eh46x k45_4
              refine zp_pc (pc' := 315) rfl ?_
              refine zn_iinc 1 (ls' := [some (.ref (64)), some (.int (nI (zkl b))), some (.ref (p)), some (.int (nI (xs.length))), some (.ref (r)), some (.int (nI (k))), some (.int (nI (16 + (zstf xs k).length))), some (.int (nI (k44 + 1))), none, none]) dX11_deriveE_315 (by decide) (by decide) rfl rfl ?_
              refine zp_goto (tgt := 292) dX11_deriveE_318 (by decide) ?_
              refine zp_pc (pc' := 292) rfl ?_
              rw [zfl_step eX44 eh46x (by omega) rfl]
              exact ih ((16) - (k44 + 1)) (by omega) (k44 + 1) rfl (by omega)
        suffices K44 : zP g mX11_deriveE (zR 3 0 0) Qf 0 0 321 [some (.ref (64)), some (.int (nI (zkl b))), some (.ref (p)), some (.int (nI (xs.length))), some (.ref (r)), some (.int (nI (k))), some (.int (nI (16 + (zstf xs k).length))), some (.int (nI (16))), none, none] [] (va_up h1 (80) (some (.inr (16, .inl (zfl if42 (0) (16) (fun i => nI ((zX b xs k).getD i 0))))))) n by
          have q := lp44 K44 ((16) - 0) 0 rfl (Nat.zero_le _)
          rw [zfl_0, zup_same ih42] at q
          exact q
        refine zp_nh (fun hY44 eY44 => ?_)
        have k48_0 := (congrFun eY44 (64)).trans ((va_up_ne _ _ (by omega)).trans o1)
        have k48_1 := (congrFun eY44 (r)).trans ((va_up_ne _ _ (by omega)).trans r1)
        have k48_2 := (congrFun eY44 (81)).trans ((va_up_ne _ _ (by omega)).trans e81)
        have k48_3 := (congrFun eY44 (83)).trans ((va_up_ne _ _ (by omega)).trans e83)
        have k48_4 : hY44 (80) = some (.inr (16, .inl (zfl if42 (0) (16) (fun i => nI ((zX b xs k).getD i 0))))) := by rw [eY44]; exact va_up_self _ _ _
        have k48_5 := (congrFun eY44 (82)).trans ((va_up_ne _ _ (by omega)).trans ld43)
        have sf49 := (zsm.fill eY44)
        have zf49 := zsh.fill eY44 ih42
        refine zp_iconst (v := nI (0)) dX11_deriveE_321 (by decide) ?_
        refine zp_istore (ls' := [some (.ref (64)), some (.int (nI (zkl b))), some (.ref (p)), some (.int (nI (xs.length))), some (.ref (r)), some (.int (nI (k))), some (.int (nI (16 + (zstf xs k).length))), some (.int (nI (0))), none, none]) dX11_deriveE_322 (by decide) rfl ?_
        refine zp_pc (pc' := 324) rfl ?_
        refine zp_ls (ls' := [some (.ref (64)), some (.int (nI (zkl b))), some (.ref (p)), some (.int (nI (xs.length))), some (.ref (r)), some (.int (nI (k))), some (.int (nI (16 + (zstf xs k).length))), some (.int (nI (16 * 0))), none, none]) rfl ?_
        have lX : (zX b xs k).length = 16 := by unfold zX; rw [zpart_len, zTT_len]; omega
        have lK : (zK b xs k).length = zkl b := by unfold zK; rw [zpart_len, zTT_len]; omega
        have bX : ∀ y ∈ zX b xs k, y < 256 := zpart_lt (zTT_lt tlt) _ _
        have bK : ∀ y ∈ zK b xs k, y < 256 := zpart_lt (zTT_lt tlt) _ _
        have aX : zar hY44 80 16 (zit b (zK b xs k) (zX b xs k) 0) := zar.mk (L := 16) k48_4 lX (by decide) (by decide) bX (fun j hj => zfl_in0 hj)
        have aK : zar hY44 83 48 (zK b xs k) := zar.mk (L := zkl b) k48_3 lK (by omega) (by decide) bK (fun j hj => by unfold zK; rw [qT j (by omega), zpart_get hj, Nat.zero_add])
        have sC : zsm h hY44 (zs9 r) := (sB.trans (s1.mono (fun i hi => by unfold zs9; unfold zs6 at hi; omega))).trans ((sf49).mono (fun i hi => by unfold zs9; unfold zon at hi; omega))
        have zC : zsh h hY44 := (zB.trans z1).trans (zf49)
        have W50 := zmw.sh Wl ((sf49).mono (fun i hi => by unfold zwf; unfold zon at hi; omega)) (zf49) (fun i hi => hi)
        have sxr : ∀ i, zs9 r i → zwf i := fun i q => by unfold zs9 at q; unfold zwf; omega
        have lq : ∀ (m : Nat) (c : Nat) (h3 : ZH) (gr : Nat → Int32), m = k - c → c ≤ k → zsm hY44 h3 (zs5 r) → zsh hY44 h3 → h3 r = some (.inr (Nr, .inl gr)) → zar h3 80 16 (zit b (zK b xs k) (zX b xs k) c) → zar h3 83 48 (zK b xs k) → (∀ j, j < k → j < 16 * c → gr j = nI ((zdce b xs k).getD j 0)) → zP g mX11_deriveE (zR 3 0 0) Qf 0 0 324 [some (.ref (64)), some (.int (nI (zkl b))), some (.ref (p)), some (.int (nI (xs.length))), some (.ref (r)), some (.int (nI (k))), some (.int (nI (16 + (zstf xs k).length))), some (.int (nI (16 * c))), none, none] [] h3 n := by
          intro m
          induction m using Nat.strongRecOn with
          | _ m ih =>
            intro c h3 gr hm3 hc3 s3 z3 er aI aK egr
            have o3 : h3 (64) = some (.inl (10, [.int (th), .ref (65), .ref (66), .ref (67), .ref (68), .ref (69), .ref (70), .ref (71), .ref (72), .ref (73), .ref (74), .ref (75), .ref (76), .ref (77), .ref (78), .ref (79), .ref (80), .ref (81), .ref (82), .ref (83), .ref (84), .int (nI (wt)), .int (nI (zbi un)), .int (rp), .int (wi), .int (pa), .int (be), .int (ru), .int (sa), .int (me), .int (se), .int (ta), .int (fa), .ref (85), .ref (86), .ref (87), .int (nI (mn)), .ref (88), .ref (89), .ref (90), .ref (91), .ref (92), .ref (93), .int (nI (tp)), .ref (94), .int (nI (ou))])) := (s3 _ (by unfold zs5; omega)).trans k48_0
            have W3 := W50.sh s3 z3 (fun i q => by unfold zs5 at q; unfold zwf; omega)
            obtain ⟨la51, lb51, lc51, lf51, ld51, le51⟩ := id aI
            obtain ⟨la52, lb52, lc52, lf52, ld52, le52⟩ := id aK
            refine zp_iload dX11_deriveE_324 rfl ?_
            refine zp_iload dX11_deriveE_326 rfl ?_
            refine zp_pc (pc' := 328) rfl ?_
            refine zn_icmp_ge (tgt := 391) dX11_deriveE_328 (by decide) (by omega) (by omega) (fun c328 => ?_) (fun c328 => ?_)
            · refine zp_pc (pc' := 391) rfl ?_
              refine zp_ret (v := none) dX11_deriveE_391 ⟨rfl, rfl⟩ (by decide) (by decide) ?_
              rw [hQ]
              exact ⟨rfl, rfl, sC.trans (s3.mono (fun i hi => by unfold zs9; unfold zs5 at hi; omega)), zC.trans z3, zar.mk (L := k) er (zdce_len b xs k) hrN hrM (zdce_lt lc6 k) (fun j hj => egr j hj (by omega))⟩
            · refine zp_aload_n dX11_deriveE_331 rfl ?_
              refine zp_aload_n dX11_deriveE_332 rfl ?_
              refine zp_get dX11_deriveE_333 gX11_65_10 o3 rfl ?_
              refine zp_iload_n dX11_deriveE_336 rfl ?_
              refine zp_aload_n dX11_deriveE_337 rfl ?_
              refine zp_get dX11_deriveE_338 gX11_56_10 o3 rfl ?_
              refine zp_pc (pc' := 341) rfl ?_
              refine zp_callV (As := [.ref (83), .int (nI (zkl b)), .ref (80)]) (k := 64) (st := []) (ci := 10) dX11_deriveE_341 cX11_186 rfl o3 rfl rfl (e_mcipher (b := b) (q := 83) (r := 80) W3.2.2.2.1 o3 aK aI (by omega) (by decide) lK (zit_len lX c)) (by decide) (by decide) (Nat.le_of_ble_eq_true rfl) (fun v53 h53 n53 q53 => ?_)
              obtain ⟨rfl, N53, s53, z53, d53⟩ := q53
              rw [N53]
              refine zp_nrm (cells' := 0) (slots' := 0) (st' := []) rfl rfl rfl ?_
              have m54 : h53 (64) = some (.inl (10, [.int (th), .ref (65), .ref (66), .ref (67), .ref (68), .ref (69), .ref (70), .ref (71), .ref (72), .ref (73), .ref (74), .ref (75), .ref (76), .ref (77), .ref (78), .ref (79), .ref (80), .ref (81), .ref (82), .ref (83), .ref (84), .int (nI (wt)), .int (nI (zbi un)), .int (rp), .int (wi), .int (pa), .int (be), .int (ru), .int (sa), .int (me), .int (se), .int (ta), .int (fa), .ref (85), .ref (86), .ref (87), .int (nI (mn)), .ref (88), .ref (89), .ref (90), .ref (91), .ref (92), .ref (93), .int (nI (tp)), .ref (94), .int (nI (ou))])) := (s53 _ (by unfold zs3; omega)).trans o3
              have m55 : h53 (r) = some (.inr (Nr, .inl gr)) := (s53 _ (by unfold zs3; omega)).trans er
              have m56 : h53 (83) = some (.inr (48, .inl lf52)) := (s53 _ (by unfold zs3; omega)).trans ld52
              have aN : zar h53 80 16 (zit b (zK b xs k) (zX b xs k) (c + 1)) := d53
              have aK' := aK.keep (s53 83 (by unfold zs3; omega))
              obtain ⟨la57, lb57, lc57, lf57, ld57, le57⟩ := id aN
              refine zp_iconst (v := nI (0)) dX11_deriveE_344 (by decide) ?_
              refine zp_istore (ls' := [some (.ref (64)), some (.int (nI (zkl b))), some (.ref (p)), some (.int (nI (xs.length))), some (.ref (r)), some (.int (nI (k))), some (.int (nI (16 + (zstf xs k).length))), some (.int (nI (16 * c))), some (.int (nI (0))), none]) dX11_deriveE_345 (by decide) rfl ?_
              refine zp_pc (pc' := 347) rfl ?_
              have lp58 : zP g mX11_deriveE (zR 3 0 0) Qf 0 0 385 [some (.ref (64)), some (.int (nI (zkl b))), some (.ref (p)), some (.int (nI (xs.length))), some (.ref (r)), some (.int (nI (k))), some (.int (nI (16 + (zstf xs k).length))), some (.int (nI (16 * c))), some (.int (nI (min 16 (k - 16 * c)))), none] [] (va_up h53 (r) (some (.inr (Nr, .inl (zfl gr (16 * c) (min 16 (k - 16 * c)) (fun i => nI ((zdce b xs k).getD (16 * c + i) 0))))))) n → ∀ (m k58 : Nat), m = (min 16 (k - 16 * c)) - k58 → k58 ≤ (min 16 (k - 16 * c)) → zP g mX11_deriveE (zR 3 0 0) Qf 0 0 347 [some (.ref (64)), some (.int (nI (zkl b))), some (.ref (p)), some (.int (nI (xs.length))), some (.ref (r)), some (.int (nI (k))), some (.int (nI (16 + (zstf xs k).length))), some (.int (nI (16 * c))), some (.int (nI (k58))), none] [] (va_up h53 (r) (some (.inr (Nr, .inl (zfl gr (16 * c) (k58) (fun i => nI ((zdce b xs k).getD (16 * c + i) 0))))))) n := by
                intro kk m
                induction m using Nat.strongRecOn with
                | _ m ih =>
                  intro k58 hm58 hk58
                  refine zp_nh (fun hX58 eX58 => ?_)
                  have k59_0 := (congrFun eX58 (64)).trans ((va_up_ne _ _ (by omega)).trans m54)
                  have k59_1 : hX58 (r) = some (.inr (Nr, .inl (zfl gr (16 * c) (k58) (fun i => nI ((zdce b xs k).getD (16 * c + i) 0))))) := by rw [eX58]; exact va_up_self _ _ _
                  have k59_2 := (congrFun eX58 (83)).trans ((va_up_ne _ _ (by omega)).trans m56)
                  have k59_3 := (congrFun eX58 (80)).trans ((va_up_ne _ _ (by omega)).trans ld57)
                  refine zp_iload dX11_deriveE_347 rfl ?_
                  refine zp_bipush (v := nI (16)) dX11_deriveE_349 (by decide) ?_
                  refine zp_pc (pc' := 351) rfl ?_
                  refine zn_icmp_ge (tgt := 385) dX11_deriveE_351 (by decide) (by omega) (by omega) (fun c351 => ?_) (fun c351 => ?_)
                  · have e58 : k58 = (min 16 (k - 16 * c)) := by omega
                    subst e58
                    rw [eX58]
                    exact kk
                  · refine zp_iload dX11_deriveE_354 rfl ?_
                    refine zp_iload dX11_deriveE_356 rfl ?_
                    refine zn_iadd dX11_deriveE_358 ?_
                    refine zp_iload dX11_deriveE_359 rfl ?_
                    refine zp_pc (pc' := 361) rfl ?_
                    refine zn_icmp_ge (tgt := 385) dX11_deriveE_361 (by decide) (by omega) (by omega) (fun c361 => ?_) (fun c361 => ?_)
                    · have e58 : k58 = (min 16 (k - 16 * c)) := by omega
                      subst e58
                      rw [eX58]
                      exact kk
                    · refine zp_aload dX11_deriveE_364 rfl ?_
                      refine zp_iload dX11_deriveE_366 rfl ?_
                      refine zp_iload dX11_deriveE_368 rfl ?_
                      refine zn_iadd dX11_deriveE_370 ?_
                      refine zp_aload_n dX11_deriveE_371 rfl ?_
                      refine zp_get dX11_deriveE_372 gX11_56_10 k59_0 rfl ?_
                      refine zp_iload dX11_deriveE_375 rfl ?_
                      refine zp_pc (pc' := 377) rfl ?_
                      refine zn_iald (j := k58) dX11_deriveE_377 k59_3 (by omega) (by omega) ?_
                      refine zp_i (y := nI ((zdce b xs k).getD (16 * c + k58) 0)) (by rw [le57 _ (by rw [zit_len lX]; omega), zdce_get b xs (by omega), show (16 * c + k58) / 16 = c by omega, show (16 * c + k58) % 16 = k58 by omega]) ?_
                      refine zn_iast dX11_deriveE_378 (by omega) k59_1 (by omega) (by omega) ?_
                      refine zp_nh (fun h60x eh60x => ?_)
                      have k60_0 := (congrFun eh60x (64)).trans ((va_up_ne _ _ (by omega)).trans k59_0)
                      have k60_1 : h60x (r) = some (.inr (Nr, .inl (va_up (zfl gr (16 * c) (k58) (fun i => nI ((zdce b xs k).getD (16 * c + i) 0))) ((16 * c) + (k58)) (nI ((zdce b xs k).getD (16 * c + k58) 0))))) := by rw [eh60x]; exact va_up_self _ _ _
                      have k60_2 := (congrFun eh60x (83)).trans ((va_up_ne _ _ (by omega)).trans k59_2)
                      have k60_3 := (congrFun eh60x (80)).trans ((va_up_ne _ _ (by omega)).trans k59_3)
                      have sw61 : zsm hX58 h60x (zon (r)) := zsm.rf.up eh60x rfl
                      have zw61 : zsh hX58 h60x := zsh.fill eh60x k59_1
                      refine zp_pc (pc' := 379) rfl ?_
                      refine zn_iinc 1 (ls' := [some (.ref (64)), some (.int (nI (zkl b))), some (.ref (p)), some (.int (nI (xs.length))), some (.ref (r)), some (.int (nI (k))), some (.int (nI (16 + (zstf xs k).length))), some (.int (nI (16 * c))), some (.int (nI (k58 + 1))), none]) dX11_deriveE_379 (by decide) (by decide) rfl rfl ?_
                      refine zp_goto (tgt := 347) dX11_deriveE_382 (by decide) ?_
                      refine zp_pc (pc' := 347) rfl ?_
                      rw [zfl_step eX58 eh60x (by omega) rfl]
                      exact ih ((min 16 (k - 16 * c)) - (k58 + 1)) (by omega) (k58 + 1) rfl (by omega)
              suffices K58 : zP g mX11_deriveE (zR 3 0 0) Qf 0 0 385 [some (.ref (64)), some (.int (nI (zkl b))), some (.ref (p)), some (.int (nI (xs.length))), some (.ref (r)), some (.int (nI (k))), some (.int (nI (16 + (zstf xs k).length))), some (.int (nI (16 * c))), some (.int (nI (min 16 (k - 16 * c)))), none] [] (va_up h53 (r) (some (.inr (Nr, .inl (zfl gr (16 * c) (min 16 (k - 16 * c)) (fun i => nI ((zdce b xs k).getD (16 * c + i) 0))))))) n by
                have q := lp58 K58 ((min 16 (k - 16 * c)) - 0) 0 rfl (Nat.zero_le _)
                rw [zfl_0, zup_same m55] at q
                exact q
              refine zp_nh (fun hY58 eY58 => ?_)
              have k62_0 := (congrFun eY58 (64)).trans ((va_up_ne _ _ (by omega)).trans m54)
              have k62_1 : hY58 (r) = some (.inr (Nr, .inl (zfl gr (16 * c) (min 16 (k - 16 * c)) (fun i => nI ((zdce b xs k).getD (16 * c + i) 0))))) := by rw [eY58]; exact va_up_self _ _ _
              have k62_2 := (congrFun eY58 (83)).trans ((va_up_ne _ _ (by omega)).trans m56)
              have k62_3 := (congrFun eY58 (80)).trans ((va_up_ne _ _ (by omega)).trans ld57)
              have sf63 := (zsm.fill eY58)
              have zf63 := zsh.fill eY58 m55
              refine zn_iinc 16 (ls' := [some (.ref (64)), some (.int (nI (zkl b))), some (.ref (p)), some (.int (nI (xs.length))), some (.ref (r)), some (.int (nI (k))), some (.int (nI (16 + (zstf xs k).length))), some (.int (nI (16 * c + 16))), some (.int (nI (min 16 (k - 16 * c)))), none]) dX11_deriveE_385 (by decide) (by decide) rfl rfl ?_
              refine zp_pc (pc' := 388) rfl ?_
              refine zp_ls (ls' := [some (.ref (64)), some (.int (nI (zkl b))), some (.ref (p)), some (.int (nI (xs.length))), some (.ref (r)), some (.int (nI (k))), some (.int (nI (16 + (zstf xs k).length))), some (.int (nI (16 * (c + 1)))), some (.int (nI (min 16 (k - 16 * c)))), none]) (by rw [Nat.mul_add]) ?_
              refine zp_goto (tgt := 324) dX11_deriveE_388 (by decide) ?_
              refine zp_pc (pc' := 324) rfl ?_
              refine zp_drop (ls' := [some (.ref (64)), some (.int (nI (zkl b))), some (.ref (p)), some (.int (nI (xs.length))), some (.ref (r)), some (.int (nI (k))), some (.int (nI (16 + (zstf xs k).length))), some (.int (nI (16 * (c + 1)))), none, none]) (fun i v hv => ?_) ?_
              · rcases i with _ | _ | _ | _ | _ | _ | _ | _ | _ | _ | i <;> simp at hv ⊢ <;> exact hv
              refine ih (k - (c + 1)) (by omega) (c + 1) hY58 _ rfl (by omega) (s3.trans (((s53).mono (fun i hi => by unfold zs5; unfold zs3 at hi; omega)).trans ((sf63).mono (fun i hi => by unfold zs5; unfold zon at hi; omega)))) (z3.trans ((z53).trans zf63)) k62_1 (aN.keep (sf63 _ (by unfold zon; omega))) (aK'.keep (sf63 _ (by unfold zon; omega))) (fun j hj hj2 => ?_)
              rcases Nat.lt_or_ge j (16 * c) with q | q
              · rw [zfl_out (Or.inl q)]; exact egr j hj q
              · obtain ⟨d, rfl⟩ := Nat.exists_eq_add_of_le q
                rw [zfl_in (by omega)]
        exact lq _ 0 hY44 _ rfl (Nat.zero_le _) zsm.rf zsh.rf k48_1 aX aK (fun j _ hj => absurd hj (by omega))
      · refine zp_aload_n dX11_deriveE_147 rfl ?_
        refine zp_get dX11_deriveE_148 gX11_59_10 o1 rfl ?_
        refine zp_iconst (v := nI (0)) dX11_deriveE_151 (by decide) ?_
        refine zp_iload dX11_deriveE_152 rfl ?_
        refine zp_iconst (v := nI (4)) dX11_deriveE_154 (by decide) ?_
        refine zp_pc (pc' := 155) rfl ?_
        refine zp_callS (As := [.ref (81), .int (nI (0)), .int (nI (i)), .int (nI (4))]) (st := []) dX11_deriveE_155 cX11_174 rfl (e_number (p := 81) (N := 1000) (at_ := 0) (v0 := nI i) (by decide) e81 (by decide) (by decide)) (by decide) (by decide) (Nat.le_of_ble_eq_true rfl) (fun v64 h64 n64 q64 => ?_)
        obtain ⟨rfl, N64, E64⟩ := q64
        rw [N64]
        refine zp_nrm (cells' := 0) (slots' := 0) (st' := []) rfl rfl rfl ?_
        have s64 := zsm.fill E64
        have z64 := zsh.fill E64 e81
        have n81_64 := congrFun E64 81
        rw [va_up_self, zn4_nI (by omega)] at n81_64
        have m65 : h64 (64) = some (.inl (10, [.int (th), .ref (65), .ref (66), .ref (67), .ref (68), .ref (69), .ref (70), .ref (71), .ref (72), .ref (73), .ref (74), .ref (75), .ref (76), .ref (77), .ref (78), .ref (79), .ref (80), .ref (81), .ref (82), .ref (83), .ref (84), .int (nI (wt)), .int (nI (zbi un)), .int (rp), .int (wi), .int (pa), .int (be), .int (ru), .int (sa), .int (me), .int (se), .int (ta), .int (fa), .ref (85), .ref (86), .ref (87), .int (nI (mn)), .ref (88), .ref (89), .ref (90), .ref (91), .ref (92), .ref (93), .int (nI (tp)), .ref (94), .int (nI (ou))])) := (s64 _ (by unfold zon; omega)).trans o1
        have m66 : h64 (r) = some (.inr (Nr, .inl if5)) := (s64 _ (by unfold zon; omega)).trans r1
        have m67 : h64 (83) = some (.inr (48, .inl g83)) := (s64 _ (by unfold zon; omega)).trans e83
        have m68 : h64 (80) = some (.inr (16, .inl if42)) := (s64 _ (by unfold zon; omega)).trans ih42
        have m69 : h64 (82) = some (.inr (32, .inl lf43)) := (s64 _ (by unfold zon; omega)).trans ld43
        refine zp_iconst (v := nI (0)) dX11_deriveE_158 (by decide) ?_
        refine zp_istore (ls' := [some (.ref (64)), some (.int (nI (zkl b))), some (.ref (p)), some (.int (nI (xs.length))), some (.ref (r)), some (.int (nI (k))), some (.int (nI (16 + (zstf xs k).length))), some (.int (nI (i))), some (.int (nI (0))), none]) dX11_deriveE_159 (by decide) rfl ?_
        refine zp_pc (pc' := 161) rfl ?_
        have lp70 : zP g mX11_deriveE (zR 3 0 0) Qf 0 0 182 [some (.ref (64)), some (.int (nI (zkl b))), some (.ref (p)), some (.int (nI (xs.length))), some (.ref (r)), some (.int (nI (k))), some (.int (nI (16 + (zstf xs k).length))), some (.int (nI (i))), some (.int (nI (16))), none] [] (va_up h64 (80) (some (.inr (16, .inl (zfl if42 (0) (16) (fun _ => nI 0)))))) n → ∀ (m k70 : Nat), m = (16) - k70 → k70 ≤ (16) → zP g mX11_deriveE (zR 3 0 0) Qf 0 0 161 [some (.ref (64)), some (.int (nI (zkl b))), some (.ref (p)), some (.int (nI (xs.length))), some (.ref (r)), some (.int (nI (k))), some (.int (nI (16 + (zstf xs k).length))), some (.int (nI (i))), some (.int (nI (k70))), none] [] (va_up h64 (80) (some (.inr (16, .inl (zfl if42 (0) (k70) (fun _ => nI 0)))))) n := by
          intro kk m
          induction m using Nat.strongRecOn with
          | _ m ih =>
            intro k70 hm70 hk70
            refine zp_nh (fun hX70 eX70 => ?_)
            have k71_0 := (congrFun eX70 (64)).trans ((va_up_ne _ _ (by omega)).trans m65)
            have k71_1 := (congrFun eX70 (r)).trans ((va_up_ne _ _ (by omega)).trans m66)
            have k71_2 := (congrFun eX70 (83)).trans ((va_up_ne _ _ (by omega)).trans m67)
            have k71_3 : hX70 (80) = some (.inr (16, .inl (zfl if42 (0) (k70) (fun _ => nI 0)))) := by rw [eX70]; exact va_up_self _ _ _
            have k71_4 := (congrFun eX70 (82)).trans ((va_up_ne _ _ (by omega)).trans m69)
            have k71_5 := (congrFun eX70 (81)).trans ((va_up_ne _ _ (by omega)).trans n81_64)
            refine zp_iload dX11_deriveE_161 rfl ?_
            refine zp_bipush (v := nI (16)) dX11_deriveE_163 (by decide) ?_
            refine zp_pc (pc' := 165) rfl ?_
            refine zn_icmp_ge (tgt := 182) dX11_deriveE_165 (by decide) (by omega) (by omega) (fun c165 => ?_) (fun c165 => ?_)
            · have e70 : k70 = (16) := by omega
              subst e70
              rw [eX70]
              exact kk
            · refine zp_aload_n dX11_deriveE_168 rfl ?_
              refine zp_get dX11_deriveE_169 gX11_56_10 k71_0 rfl ?_
              refine zp_iload dX11_deriveE_172 rfl ?_
              refine zp_iconst (v := nI (0)) dX11_deriveE_174 (by decide) ?_
              refine zn_iast dX11_deriveE_175 (by omega) k71_3 (by omega) (by omega) ?_
              refine zp_nh (fun h72x eh72x => ?_)
              have k72_0 := (congrFun eh72x (64)).trans ((va_up_ne _ _ (by omega)).trans k71_0)
              have k72_1 := (congrFun eh72x (r)).trans ((va_up_ne _ _ (by omega)).trans k71_1)
              have k72_2 := (congrFun eh72x (83)).trans ((va_up_ne _ _ (by omega)).trans k71_2)
              have k72_3 : h72x (80) = some (.inr (16, .inl (va_up (zfl if42 (0) (k70) (fun _ => nI 0)) (k70) (nI (0))))) := by rw [eh72x]; exact va_up_self _ _ _
              have k72_4 := (congrFun eh72x (82)).trans ((va_up_ne _ _ (by omega)).trans k71_4)
              have k72_5 := (congrFun eh72x (81)).trans ((va_up_ne _ _ (by omega)).trans k71_5)
              have sw73 : zsm hX70 h72x (zon (80)) := zsm.rf.up eh72x rfl
              have zw73 : zsh hX70 h72x := zsh.fill eh72x k71_3
              refine zp_pc (pc' := 176) rfl ?_
              refine zn_iinc 1 (ls' := [some (.ref (64)), some (.int (nI (zkl b))), some (.ref (p)), some (.int (nI (xs.length))), some (.ref (r)), some (.int (nI (k))), some (.int (nI (16 + (zstf xs k).length))), some (.int (nI (i))), some (.int (nI (k70 + 1))), none]) dX11_deriveE_176 (by decide) (by decide) rfl rfl ?_
              refine zp_goto (tgt := 161) dX11_deriveE_179 (by decide) ?_
              refine zp_pc (pc' := 161) rfl ?_
              rw [zfl_step eX70 eh72x (by omega) rfl]
              exact ih ((16) - (k70 + 1)) (by omega) (k70 + 1) rfl (by omega)
        suffices K70 : zP g mX11_deriveE (zR 3 0 0) Qf 0 0 182 [some (.ref (64)), some (.int (nI (zkl b))), some (.ref (p)), some (.int (nI (xs.length))), some (.ref (r)), some (.int (nI (k))), some (.int (nI (16 + (zstf xs k).length))), some (.int (nI (i))), some (.int (nI (16))), none] [] (va_up h64 (80) (some (.inr (16, .inl (zfl if42 (0) (16) (fun _ => nI 0)))))) n by
          have q := lp70 K70 ((16) - 0) 0 rfl (Nat.zero_le _)
          rw [zfl_0, zup_same m68] at q
          exact q
        refine zp_nh (fun hY70 eY70 => ?_)
        have k74_0 := (congrFun eY70 (64)).trans ((va_up_ne _ _ (by omega)).trans m65)
        have k74_1 := (congrFun eY70 (r)).trans ((va_up_ne _ _ (by omega)).trans m66)
        have k74_2 := (congrFun eY70 (83)).trans ((va_up_ne _ _ (by omega)).trans m67)
        have k74_3 : hY70 (80) = some (.inr (16, .inl (zfl if42 (0) (16) (fun _ => nI 0)))) := by rw [eY70]; exact va_up_self _ _ _
        have k74_4 := (congrFun eY70 (82)).trans ((va_up_ne _ _ (by omega)).trans m69)
        have k74_5 := (congrFun eY70 (81)).trans ((va_up_ne _ _ (by omega)).trans n81_64)
        have sf75 := (zsm.fill eY70)
        have zf75 := zsh.fill eY70 m68
        refine zp_iconst (v := nI (0)) dX11_deriveE_182 (by decide) ?_
        refine zp_istore (ls' := [some (.ref (64)), some (.int (nI (zkl b))), some (.ref (p)), some (.int (nI (xs.length))), some (.ref (r)), some (.int (nI (k))), some (.int (nI (16 + (zstf xs k).length))), some (.int (nI (i))), some (.int (nI (0))), none]) dX11_deriveE_183 (by decide) rfl ?_
        refine zp_pc (pc' := 185) rfl ?_
        refine zp_ls (ls' := [some (.ref (64)), some (.int (nI (zkl b))), some (.ref (p)), some (.int (nI (xs.length))), some (.ref (r)), some (.int (nI (k))), some (.int (nI (16 + (zstf xs k).length))), some (.int (nI (i))), some (.int (nI (16 * 0))), none]) rfl ?_
        have aF : zar hY70 81 1000 (zfu (zstf xs k) i) := zar.mk (L := 16 + (zstf xs k).length) k74_5 (zfu_len ..) (by omega) (by decide) (zfu_lt tlt i) (fun j hj => by
          rw [zfu_get]
          rcases Nat.lt_or_ge j 4 with q | q
          · rw [zfl_in0 q, if_pos q]
          · rw [zfl_out (Or.inr (by omega)), if_neg (by omega)]
            rcases Nat.lt_or_ge j 16 with q2 | q2
            · rw [q0 j q q2, if_pos q2]
            · rw [if_neg (by omega)]
              have := q1 (j - 16) (by omega)
              rwa [show 16 + (j - 16) = j by omega] at this)
        have aC : zar hY70 80 16 (zml b (zstf xs k) i 0) := zar.mk (L := 16) k74_3 (zml_len ..) (by decide) (by decide) (zml_lt tlt i 0) (fun j hj => by rw [zfl_in0 hj]; show _ = nI ((List.replicate 16 0).getD j 0); rw [zrep_get, if_pos hj])
        have a82 := (a82.keep (s64 _ (by unfold zon; omega))).keep (sf75 _ (by unfold zon; omega))
        have W76 := zmw.sh Wl (((s64).mono (fun i hi => by unfold zwf; unfold zon at hi; omega)).trans ((sf75).mono (fun i hi => by unfold zwf; unfold zon at hi; omega))) ((z64).trans zf75) (fun i hi => hi)
        have lc : ∀ (m : Nat) (c : Nat) (h2 : ZH), m = (zstf xs k).length / 16 + 1 - c → c ≤ (zstf xs k).length / 16 + 1 → zsm hY70 h2 zs4 → zsh hY70 h2 → zar h2 80 16 (zml b (zstf xs k) i c) → (∀ h2 : ZH, zsm hY70 h2 zs4 → zsh hY70 h2 → zar h2 80 16 (zml b (zstf xs k) i ((zstf xs k).length / 16 + 1)) → zP g mX11_deriveE (zR 3 0 0) Qf 0 0 247 [some (.ref (64)), some (.int (nI (zkl b))), some (.ref (p)), some (.int (nI (xs.length))), some (.ref (r)), some (.int (nI (k))), some (.int (nI (16 + (zstf xs k).length))), some (.int (nI (i))), some (.int (nI (16 * ((zstf xs k).length / 16 + 1)))), none] [] h2 n) → zP g mX11_deriveE (zR 3 0 0) Qf 0 0 185 [some (.ref (64)), some (.int (nI (zkl b))), some (.ref (p)), some (.int (nI (xs.length))), some (.ref (r)), some (.int (nI (k))), some (.int (nI (16 + (zstf xs k).length))), some (.int (nI (i))), some (.int (nI (16 * c))), none] [] h2 n := by
          intro m
          induction m using Nat.strongRecOn with
          | _ m ih =>
            intro c h2 hm2 hc2 s2 z2 aM K2
            have o2 : h2 (64) = some (.inl (10, [.int (th), .ref (65), .ref (66), .ref (67), .ref (68), .ref (69), .ref (70), .ref (71), .ref (72), .ref (73), .ref (74), .ref (75), .ref (76), .ref (77), .ref (78), .ref (79), .ref (80), .ref (81), .ref (82), .ref (83), .ref (84), .int (nI (wt)), .int (nI (zbi un)), .int (rp), .int (wi), .int (pa), .int (be), .int (ru), .int (sa), .int (me), .int (se), .int (ta), .int (fa), .ref (85), .ref (86), .ref (87), .int (nI (mn)), .ref (88), .ref (89), .ref (90), .ref (91), .ref (92), .ref (93), .int (nI (tp)), .ref (94), .int (nI (ou))])) := (s2 _ (by unfold zs4; omega)).trans k74_0
            have t2 : h2 (81) = some (.inr (1000, .inl (zfl g81 0 4 (fun i => nI ((znum (i) 4).getD i 0))))) := (s2 _ (by unfold zs4; omega)).trans k74_5
            have aF2 := aF.keep (s2 81 (by unfold zs4; omega))
            have a822 := a82.keep (s2 82 (by unfold zs4; omega))
            have W2 := W76.sh s2 z2 (fun i q => by unfold zs4 at q; unfold zwf; omega)
            obtain ⟨la77, lb77, lc77, lf77, ld77, le77⟩ := id aM
            obtain ⟨la78, lb78, lc78, lf78, ld78, le78⟩ := id aF2
            obtain ⟨la79, lb79, lc79, lf79, ld79, le79⟩ := id a822
            refine zp_iload dX11_deriveE_185 rfl ?_
            refine zp_iload dX11_deriveE_187 rfl ?_
            refine zp_pc (pc' := 189) rfl ?_
            refine zn_icmp_ge (tgt := 247) dX11_deriveE_189 (by decide) (by omega) (by omega) (fun c189 => ?_) (fun c189 => ?_)
            · have ec : c = (zstf xs k).length / 16 + 1 := by omega
              subst ec
              exact K2 h2 s2 z2 aM
            · refine zp_iconst (v := nI (0)) dX11_deriveE_192 (by decide) ?_
              refine zp_istore (ls' := [some (.ref (64)), some (.int (nI (zkl b))), some (.ref (p)), some (.int (nI (xs.length))), some (.ref (r)), some (.int (nI (k))), some (.int (nI (16 + (zstf xs k).length))), some (.int (nI (i))), some (.int (nI (16 * c))), some (.int (nI (0)))]) dX11_deriveE_193 (by decide) rfl ?_
              refine zp_pc (pc' := 195) rfl ?_
              have lp80 : zP g mX11_deriveE (zR 3 0 0) Qf 0 0 228 [some (.ref (64)), some (.int (nI (zkl b))), some (.ref (p)), some (.int (nI (xs.length))), some (.ref (r)), some (.int (nI (k))), some (.int (nI (16 + (zstf xs k).length))), some (.int (nI (i))), some (.int (nI (16 * c))), some (.int (nI (16)))] [] (va_up h2 (80) (some (.inr (16, .inl (zfl lf77 (0) (16) (fun i => nI ((zxor (zml b (zstf xs k) i c) (zfu (zstf xs k) i) (16 * c)).getD i 0))))))) n → ∀ (m k80 : Nat), m = (16) - k80 → k80 ≤ (16) → zP g mX11_deriveE (zR 3 0 0) Qf 0 0 195 [some (.ref (64)), some (.int (nI (zkl b))), some (.ref (p)), some (.int (nI (xs.length))), some (.ref (r)), some (.int (nI (k))), some (.int (nI (16 + (zstf xs k).length))), some (.int (nI (i))), some (.int (nI (16 * c))), some (.int (nI (k80)))] [] (va_up h2 (80) (some (.inr (16, .inl (zfl lf77 (0) (k80) (fun i => nI ((zxor (zml b (zstf xs k) i c) (zfu (zstf xs k) i) (16 * c)).getD i 0))))))) n := by
                intro kk m
                induction m using Nat.strongRecOn with
                | _ m ih =>
                  intro k80 hm80 hk80
                  refine zp_nh (fun hX80 eX80 => ?_)
                  have k81_0 := (congrFun eX80 (64)).trans ((va_up_ne _ _ (by omega)).trans o2)
                  have k81_1 := (congrFun eX80 (81)).trans ((va_up_ne _ _ (by omega)).trans ld78)
                  have k81_2 : hX80 (80) = some (.inr (16, .inl (zfl lf77 (0) (k80) (fun i => nI ((zxor (zml b (zstf xs k) i c) (zfu (zstf xs k) i) (16 * c)).getD i 0))))) := by rw [eX80]; exact va_up_self _ _ _
                  have k81_3 := (congrFun eX80 (82)).trans ((va_up_ne _ _ (by omega)).trans ld79)
                  refine zp_iload dX11_deriveE_195 rfl ?_
                  refine zp_bipush (v := nI (16)) dX11_deriveE_197 (by decide) ?_
                  refine zp_pc (pc' := 199) rfl ?_
                  refine zn_icmp_ge (tgt := 228) dX11_deriveE_199 (by decide) (by omega) (by omega) (fun c199 => ?_) (fun c199 => ?_)
                  · have e80 : k80 = (16) := by omega
                    subst e80
                    rw [eX80]
                    exact kk
                  · refine zp_aload_n dX11_deriveE_202 rfl ?_
                    refine zp_get dX11_deriveE_203 gX11_56_10 k81_0 rfl ?_
                    refine zp_iload dX11_deriveE_206 rfl ?_
                    refine zp_dup2 dX11_deriveE_208 rfl rfl ?_
                    refine zp_pc (pc' := 209) rfl ?_
                    refine zn_iald (j := k80) dX11_deriveE_209 k81_2 (by omega) (by omega) ?_
                    refine zp_i (y := nI ((zml b (zstf xs k) i c).getD k80 0)) (by rw [zfl_out (Or.inr (by omega))]; exact le77 _ (by rw [zml_len]; omega)) ?_
                    refine zp_aload_n dX11_deriveE_210 rfl ?_
                    refine zp_get dX11_deriveE_211 gX11_59_10 k81_0 rfl ?_
                    refine zp_iload dX11_deriveE_214 rfl ?_
                    refine zp_iload dX11_deriveE_216 rfl ?_
                    refine zn_iadd dX11_deriveE_218 ?_
                    refine zp_pc (pc' := 219) rfl ?_
                    refine zn_iald (j := (16 * c) + (k80)) dX11_deriveE_219 k81_1 (by omega) (by omega) ?_
                    refine zp_i (y := nI ((zfu (zstf xs k) i).getD (16 * c + k80) 0)) (le78 _ (by rw [zfu_len]; omega)) ?_
                    refine zp_ixor dX11_deriveE_220 ?_
                    refine zp_i (y := nI ((zxor (zml b (zstf xs k) i c) (zfu (zstf xs k) i) (16 * c)).getD k80 0)) (by rw [nx_xor, zxor_get _ _ _ (by rw [zml_len]; omega)]) ?_
                    refine zn_iast dX11_deriveE_221 (by omega) k81_2 (by omega) (by omega) ?_
                    refine zp_nh (fun h82x eh82x => ?_)
                    have k82_0 := (congrFun eh82x (64)).trans ((va_up_ne _ _ (by omega)).trans k81_0)
                    have k82_1 := (congrFun eh82x (81)).trans ((va_up_ne _ _ (by omega)).trans k81_1)
                    have k82_2 : h82x (80) = some (.inr (16, .inl (va_up (zfl lf77 (0) (k80) (fun i => nI ((zxor (zml b (zstf xs k) i c) (zfu (zstf xs k) i) (16 * c)).getD i 0))) (k80) (nI ((zxor (zml b (zstf xs k) i c) (zfu (zstf xs k) i) (16 * c)).getD k80 0))))) := by rw [eh82x]; exact va_up_self _ _ _
                    have k82_3 := (congrFun eh82x (82)).trans ((va_up_ne _ _ (by omega)).trans k81_3)
                    have sw83 : zsm hX80 h82x (zon (80)) := zsm.rf.up eh82x rfl
                    have zw83 : zsh hX80 h82x := zsh.fill eh82x k81_2
                    refine zp_pc (pc' := 222) rfl ?_
                    refine zn_iinc 1 (ls' := [some (.ref (64)), some (.int (nI (zkl b))), some (.ref (p)), some (.int (nI (xs.length))), some (.ref (r)), some (.int (nI (k))), some (.int (nI (16 + (zstf xs k).length))), some (.int (nI (i))), some (.int (nI (16 * c))), some (.int (nI (k80 + 1)))]) dX11_deriveE_222 (by decide) (by decide) rfl rfl ?_
                    refine zp_goto (tgt := 195) dX11_deriveE_225 (by decide) ?_
                    refine zp_pc (pc' := 195) rfl ?_
                    rw [zfl_step eX80 eh82x (by omega) rfl]
                    exact ih ((16) - (k80 + 1)) (by omega) (k80 + 1) rfl (by omega)
              suffices K80 : zP g mX11_deriveE (zR 3 0 0) Qf 0 0 228 [some (.ref (64)), some (.int (nI (zkl b))), some (.ref (p)), some (.int (nI (xs.length))), some (.ref (r)), some (.int (nI (k))), some (.int (nI (16 + (zstf xs k).length))), some (.int (nI (i))), some (.int (nI (16 * c))), some (.int (nI (16)))] [] (va_up h2 (80) (some (.inr (16, .inl (zfl lf77 (0) (16) (fun i => nI ((zxor (zml b (zstf xs k) i c) (zfu (zstf xs k) i) (16 * c)).getD i 0))))))) n by
                have q := lp80 K80 ((16) - 0) 0 rfl (Nat.zero_le _)
                rw [zfl_0, zup_same ld77] at q
                exact q
              refine zp_nh (fun hY80 eY80 => ?_)
              have k84_0 := (congrFun eY80 (64)).trans ((va_up_ne _ _ (by omega)).trans o2)
              have k84_1 := (congrFun eY80 (81)).trans ((va_up_ne _ _ (by omega)).trans ld78)
              have k84_2 : hY80 (80) = some (.inr (16, .inl (zfl lf77 (0) (16) (fun i => nI ((zxor (zml b (zstf xs k) i c) (zfu (zstf xs k) i) (16 * c)).getD i 0))))) := by rw [eY80]; exact va_up_self _ _ _
              have k84_3 := (congrFun eY80 (82)).trans ((va_up_ne _ _ (by omega)).trans ld79)
              have sf85 := (zsm.fill eY80)
              have zf85 := zsh.fill eY80 ld77
              refine zp_aload_n dX11_deriveE_228 rfl ?_
              refine zp_aload_n dX11_deriveE_229 rfl ?_
              refine zp_get dX11_deriveE_230 gX11_62_10 k84_0 rfl ?_
              refine zp_iload_n dX11_deriveE_233 rfl ?_
              refine zp_aload_n dX11_deriveE_234 rfl ?_
              refine zp_get dX11_deriveE_235 gX11_56_10 k84_0 rfl ?_
              refine zp_pc (pc' := 238) rfl ?_
              have aL : zar hY80 80 16 (zxor (zml b (zstf xs k) i c) (zfu (zstf xs k) i) (16 * c)) := zar.mk (L := 16) k84_2 (by rw [zxor_len, zml_len]) (by decide) (by decide) (zxor_lt lc77 lc78 _) (fun j hj => zfl_in0 hj)
              have a823 := a822.keep (sf85 _ (by unfold zon; omega))
              have W86 := zmw.sh W2 ((sf85).mono (fun i hi => by unfold zwf; unfold zon at hi; omega)) (zf85) (fun i hi => hi)
              refine zp_callV (As := [.ref (82), .int (nI (zkl b)), .ref (80)]) (k := 64) (st := []) (ci := 10) dX11_deriveE_238 cX11_186 rfl k84_0 rfl rfl (e_mcipher (b := b) (q := 82) (r := 80) W86.2.2.2.1 k84_0 a823 aL (by omega) (by decide) (zJ_len b) (by rw [zxor_len, zml_len])) (by decide) (by decide) (Nat.le_of_ble_eq_true rfl) (fun v87 h87 n87 q87 => ?_)
              obtain ⟨rfl, N87, s87, z87, d87⟩ := q87
              rw [N87]
              refine zp_nrm (cells' := 0) (slots' := 0) (st' := []) rfl rfl rfl ?_
              have m88 : h87 (64) = some (.inl (10, [.int (th), .ref (65), .ref (66), .ref (67), .ref (68), .ref (69), .ref (70), .ref (71), .ref (72), .ref (73), .ref (74), .ref (75), .ref (76), .ref (77), .ref (78), .ref (79), .ref (80), .ref (81), .ref (82), .ref (83), .ref (84), .int (nI (wt)), .int (nI (zbi un)), .int (rp), .int (wi), .int (pa), .int (be), .int (ru), .int (sa), .int (me), .int (se), .int (ta), .int (fa), .ref (85), .ref (86), .ref (87), .int (nI (mn)), .ref (88), .ref (89), .ref (90), .ref (91), .ref (92), .ref (93), .int (nI (tp)), .ref (94), .int (nI (ou))])) := (s87 _ (by unfold zs3; omega)).trans k84_0
              have m89 : h87 (81) = some (.inr (1000, .inl lf78)) := (s87 _ (by unfold zs3; omega)).trans k84_1
              have m90 : h87 (82) = some (.inr (32, .inl lf79)) := (s87 _ (by unfold zs3; omega)).trans k84_3
              rw [zml_succ] at d87
              refine zn_iinc 16 (ls' := [some (.ref (64)), some (.int (nI (zkl b))), some (.ref (p)), some (.int (nI (xs.length))), some (.ref (r)), some (.int (nI (k))), some (.int (nI (16 + (zstf xs k).length))), some (.int (nI (i))), some (.int (nI (16 * c + 16))), some (.int (nI (16)))]) dX11_deriveE_241 (by decide) (by decide) rfl rfl ?_
              refine zp_pc (pc' := 244) rfl ?_
              refine zp_ls (ls' := [some (.ref (64)), some (.int (nI (zkl b))), some (.ref (p)), some (.int (nI (xs.length))), some (.ref (r)), some (.int (nI (k))), some (.int (nI (16 + (zstf xs k).length))), some (.int (nI (i))), some (.int (nI (16 * (c + 1)))), some (.int (nI (16)))]) (by rw [Nat.mul_add]) ?_
              refine zp_goto (tgt := 185) dX11_deriveE_244 (by decide) ?_
              refine zp_pc (pc' := 185) rfl ?_
              refine zp_drop (ls' := [some (.ref (64)), some (.int (nI (zkl b))), some (.ref (p)), some (.int (nI (xs.length))), some (.ref (r)), some (.int (nI (k))), some (.int (nI (16 + (zstf xs k).length))), some (.int (nI (i))), some (.int (nI (16 * (c + 1)))), none]) (fun i v hv => ?_) ?_
              · rcases i with _ | _ | _ | _ | _ | _ | _ | _ | _ | _ | i <;> simp at hv ⊢ <;> exact hv
              exact ih ((zstf xs k).length / 16 + 1 - (c + 1)) (by omega) (c + 1) h87 rfl (by omega) (s2.trans (((sf85).mono (fun i hi => by unfold zs4; unfold zon at hi; omega)).trans ((s87).mono (fun i hi => by unfold zs4; unfold zs3 at hi; omega)))) (z2.trans ((zf85).trans z87)) d87 K2
        refine lc _ 0 hY70 rfl (Nat.zero_le _) zsm.rf zsh.rf aC (fun h2 s2 z2 aM => ?_)
        have o4 : h2 (64) = some (.inl (10, [.int (th), .ref (65), .ref (66), .ref (67), .ref (68), .ref (69), .ref (70), .ref (71), .ref (72), .ref (73), .ref (74), .ref (75), .ref (76), .ref (77), .ref (78), .ref (79), .ref (80), .ref (81), .ref (82), .ref (83), .ref (84), .int (nI (wt)), .int (nI (zbi un)), .int (rp), .int (wi), .int (pa), .int (be), .int (ru), .int (sa), .int (me), .int (se), .int (ta), .int (fa), .ref (85), .ref (86), .ref (87), .int (nI (mn)), .ref (88), .ref (89), .ref (90), .ref (91), .ref (92), .ref (93), .int (nI (tp)), .ref (94), .int (nI (ou))])) := (s2 _ (by unfold zs4; omega)).trans k74_0
        have t4 : h2 (81) = some (.inr (1000, .inl (zfl g81 0 4 (fun i => nI ((znum (i) 4).getD i 0))))) := (s2 _ (by unfold zs4; omega)).trans k74_5
        have d4 : h2 (83) = some (.inr (48, .inl g83)) := (s2 _ (by unfold zs4; omega)).trans k74_2
        have r4 : h2 (r) = some (.inr (Nr, .inl if5)) := (s2 _ (by unfold zs4; omega)).trans k74_1
        have a824 := a82.keep (s2 82 (by unfold zs4; omega))
        obtain ⟨la91, lb91, lc91, lf91, ld91, le91⟩ := id aM
        refine zp_iconst (v := nI (0)) dX11_deriveE_247 (by decide) ?_
        refine zp_istore (ls' := [some (.ref (64)), some (.int (nI (zkl b))), some (.ref (p)), some (.int (nI (xs.length))), some (.ref (r)), some (.int (nI (k))), some (.int (nI (16 + (zstf xs k).length))), some (.int (nI (i))), some (.int (nI (0))), none]) dX11_deriveE_248 (by decide) rfl ?_
        refine zp_pc (pc' := 250) rfl ?_
        have lp92 : zP g mX11_deriveE (zR 3 0 0) Qf 0 0 283 [some (.ref (64)), some (.int (nI (zkl b))), some (.ref (p)), some (.int (nI (xs.length))), some (.ref (r)), some (.int (nI (k))), some (.int (nI (16 + (zstf xs k).length))), some (.int (nI (i))), some (.int (nI (16))), none] [] (va_up h2 (83) (some (.inr (48, .inl (zfl g83 (16 * i) (16) (fun j => nI ((zTT b (zstf xs k)).getD (16 * i + j) 0))))))) n → ∀ (m k92 : Nat), m = (16) - k92 → k92 ≤ (16) → zP g mX11_deriveE (zR 3 0 0) Qf 0 0 250 [some (.ref (64)), some (.int (nI (zkl b))), some (.ref (p)), some (.int (nI (xs.length))), some (.ref (r)), some (.int (nI (k))), some (.int (nI (16 + (zstf xs k).length))), some (.int (nI (i))), some (.int (nI (k92))), none] [] (va_up h2 (83) (some (.inr (48, .inl (zfl g83 (16 * i) (k92) (fun j => nI ((zTT b (zstf xs k)).getD (16 * i + j) 0))))))) n := by
          intro kk m
          induction m using Nat.strongRecOn with
          | _ m ih =>
            intro k92 hm92 hk92
            refine zp_nh (fun hX92 eX92 => ?_)
            have k93_0 := (congrFun eX92 (64)).trans ((va_up_ne _ _ (by omega)).trans o4)
            have k93_1 := (congrFun eX92 (81)).trans ((va_up_ne _ _ (by omega)).trans t4)
            have k93_2 : hX92 (83) = some (.inr (48, .inl (zfl g83 (16 * i) (k92) (fun j => nI ((zTT b (zstf xs k)).getD (16 * i + j) 0))))) := by rw [eX92]; exact va_up_self _ _ _
            have k93_3 := (congrFun eX92 (r)).trans ((va_up_ne _ _ (by omega)).trans r4)
            have k93_4 := (congrFun eX92 (80)).trans ((va_up_ne _ _ (by omega)).trans ld91)
            refine zp_iload dX11_deriveE_250 rfl ?_
            refine zp_bipush (v := nI (16)) dX11_deriveE_252 (by decide) ?_
            refine zp_pc (pc' := 254) rfl ?_
            refine zn_icmp_ge (tgt := 283) dX11_deriveE_254 (by decide) (by omega) (by omega) (fun c254 => ?_) (fun c254 => ?_)
            · have e92 : k92 = (16) := by omega
              subst e92
              rw [eX92]
              exact kk
            · refine zp_aload_n dX11_deriveE_257 rfl ?_
              refine zp_get dX11_deriveE_258 gX11_65_10 k93_0 rfl ?_
              refine zp_bipush (v := nI (16)) dX11_deriveE_261 (by decide) ?_
              refine zp_iload dX11_deriveE_263 rfl ?_
              refine zn_imul dX11_deriveE_265 ?_
              refine zp_iload dX11_deriveE_266 rfl ?_
              refine zn_iadd dX11_deriveE_268 ?_
              refine zp_aload_n dX11_deriveE_269 rfl ?_
              refine zp_get dX11_deriveE_270 gX11_56_10 k93_0 rfl ?_
              refine zp_iload dX11_deriveE_273 rfl ?_
              refine zp_pc (pc' := 275) rfl ?_
              refine zn_iald (j := k92) dX11_deriveE_275 k93_4 (by omega) (by omega) ?_
              refine zp_i (y := nI ((zTT b (zstf xs k)).getD (16 * i + k92) 0)) (by rw [le91 _ (by rw [zml_len]; omega), zTT_get b _ (by omega) (by omega)]) ?_
              refine zn_iast dX11_deriveE_276 (by omega) k93_2 (by omega) (by omega) ?_
              refine zp_nh (fun h94x eh94x => ?_)
              have k94_0 := (congrFun eh94x (64)).trans ((va_up_ne _ _ (by omega)).trans k93_0)
              have k94_1 := (congrFun eh94x (81)).trans ((va_up_ne _ _ (by omega)).trans k93_1)
              have k94_2 : h94x (83) = some (.inr (48, .inl (va_up (zfl g83 (16 * i) (k92) (fun j => nI ((zTT b (zstf xs k)).getD (16 * i + j) 0))) (((16) * (i)) + (k92)) (nI ((zTT b (zstf xs k)).getD (16 * i + k92) 0))))) := by rw [eh94x]; exact va_up_self _ _ _
              have k94_3 := (congrFun eh94x (r)).trans ((va_up_ne _ _ (by omega)).trans k93_3)
              have k94_4 := (congrFun eh94x (80)).trans ((va_up_ne _ _ (by omega)).trans k93_4)
              have sw95 : zsm hX92 h94x (zon (83)) := zsm.rf.up eh94x rfl
              have zw95 : zsh hX92 h94x := zsh.fill eh94x k93_2
              refine zp_pc (pc' := 277) rfl ?_
              refine zn_iinc 1 (ls' := [some (.ref (64)), some (.int (nI (zkl b))), some (.ref (p)), some (.int (nI (xs.length))), some (.ref (r)), some (.int (nI (k))), some (.int (nI (16 + (zstf xs k).length))), some (.int (nI (i))), some (.int (nI (k92 + 1))), none]) dX11_deriveE_277 (by decide) (by decide) rfl rfl ?_
              refine zp_goto (tgt := 250) dX11_deriveE_280 (by decide) ?_
              refine zp_pc (pc' := 250) rfl ?_
              rw [zfl_step eX92 eh94x (by omega) rfl]
              exact ih ((16) - (k92 + 1)) (by omega) (k92 + 1) rfl (by omega)
        suffices K92 : zP g mX11_deriveE (zR 3 0 0) Qf 0 0 283 [some (.ref (64)), some (.int (nI (zkl b))), some (.ref (p)), some (.int (nI (xs.length))), some (.ref (r)), some (.int (nI (k))), some (.int (nI (16 + (zstf xs k).length))), some (.int (nI (i))), some (.int (nI (16))), none] [] (va_up h2 (83) (some (.inr (48, .inl (zfl g83 (16 * i) (16) (fun j => nI ((zTT b (zstf xs k)).getD (16 * i + j) 0))))))) n by
          have q := lp92 K92 ((16) - 0) 0 rfl (Nat.zero_le _)
          rw [zfl_0, zup_same d4] at q
          exact q
        refine zp_nh (fun hY92 eY92 => ?_)
        have k96_0 := (congrFun eY92 (64)).trans ((va_up_ne _ _ (by omega)).trans o4)
        have k96_1 := (congrFun eY92 (81)).trans ((va_up_ne _ _ (by omega)).trans t4)
        have k96_2 : hY92 (83) = some (.inr (48, .inl (zfl g83 (16 * i) (16) (fun j => nI ((zTT b (zstf xs k)).getD (16 * i + j) 0))))) := by rw [eY92]; exact va_up_self _ _ _
        have k96_3 := (congrFun eY92 (r)).trans ((va_up_ne _ _ (by omega)).trans r4)
        have k96_4 := (congrFun eY92 (80)).trans ((va_up_ne _ _ (by omega)).trans ld91)
        have sf97 := (zsm.fill eY92)
        have zf97 := zsh.fill eY92 d4
        refine zn_iinc 1 (ls' := [some (.ref (64)), some (.int (nI (zkl b))), some (.ref (p)), some (.int (nI (xs.length))), some (.ref (r)), some (.int (nI (k))), some (.int (nI (16 + (zstf xs k).length))), some (.int (nI (i + 1))), some (.int (nI (16))), none]) dX11_deriveE_283 (by decide) (by decide) rfl rfl ?_
        refine zp_goto (tgt := 135) dX11_deriveE_286 (by decide) ?_
        refine zp_pc (pc' := 135) rfl ?_
        refine zp_drop (ls' := [some (.ref (64)), some (.int (nI (zkl b))), some (.ref (p)), some (.int (nI (xs.length))), some (.ref (r)), some (.int (nI (k))), some (.int (nI (16 + (zstf xs k).length))), some (.int (nI (i + 1))), none, none]) (fun i v hv => ?_) ?_
        · rcases i with _ | _ | _ | _ | _ | _ | _ | _ | _ | _ | i <;> simp at hv ⊢ <;> exact hv
        refine ih (zkl b / 16 + 1 - (i + 1)) (by omega) (i + 1) hY92 _ _ rfl (by omega) (s1.trans (((((s64).mono (fun i hi => by unfold zs6; unfold zon at hi; omega)).trans ((sf75).mono (fun i hi => by unfold zs6; unfold zon at hi; omega))).trans ((s2).mono (fun i hi => by unfold zs6; unfold zs4 at hi; omega))).trans ((sf97).mono (fun i hi => by unfold zs6; unfold zon at hi; omega)))) (z1.trans ((((z64).trans zf75).trans z2).trans zf97)) k96_1 k96_2 (a824.keep (sf97 _ (by unfold zon; omega))) (fun j hj => by rw [zfl_out (Or.inr (by omega))]; exact q1 j hj) (fun j hj hj2 => by rw [zfl_out (Or.inr (by omega))]; exact q0 j hj hj2) (fun j hj => ?_)
        rcases Nat.lt_or_ge j (16 * i) with q | q
        · rw [zfl_out (Or.inl q)]; exact qT j q
        · obtain ⟨d, rfl⟩ := Nat.exists_eq_add_of_le q
          rw [zfl_in (by omega)]
  exact lp _ 0 hY35 _ _ rfl (Nat.zero_le _) zsm.rf zsh.rf k39_6 k39_3 a82 (fun j hj => q1 j hj) (fun j h4 hj => q0 j h4 hj) (fun j hj => absurd hj (by omega))
