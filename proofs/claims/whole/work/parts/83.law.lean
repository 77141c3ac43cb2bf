abbrev mL_law (nm : String) : ZM := (⟨RL, nm, "([I)Z"⟩, cL_law, 4, some .boolean)
theorem zMD.keep {t t' : Nat} {h h' : ZH} {T O : List Nat} {S : ZSup} {Gs : Nat → Option ZGn} (H : zMD t h (T, O, S, Gs)) {P : Nat → Prop} (hs : zsm h h' P) (hP : ∀ i, P i → (16 ≤ i ∧ i < 64) ∨ 107 ≤ i) (ht : t ≤ t') : zMD t' h' (T, O, S, Gs) := by
  obtain ⟨⟨th, mn, m1, s1, q1, q1'⟩, q2, q3, q4, ⟨A, q5, q5'⟩, q6, q7, q8, q9⟩ := H
  have k : ∀ i, 64 ≤ i → i ≤ 106 → h' i = h i := fun i a b => hs i (fun q => by have := hP i q; omega)
  have km : zmw h' := by
    obtain ⟨⟨u1, u2, u3, u4, u5, u6, u7, u8⟩, v2, v3, ⟨w1, w2, w3⟩, v5, v6, v7, v8, v9, v10, v11, v12, v13, v14⟩ := q2
    exact ⟨⟨u1.sm hs (fun i hi => by have := hP i hi; omega), (k _ (by omega) (by omega)).trans u2, (k _ (by omega) (by omega)).trans u3, u4.keep (k _ (by omega) (by omega)), u5.keep (k _ (by omega) (by omega)), u6.keep (k _ (by omega) (by omega)), u7.keep (k _ (by omega) (by omega)), u8.keep (k _ (by omega) (by omega))⟩, v2.keep (k _ (by omega) (by omega)), v3.keep (k _ (by omega) (by omega)), ⟨(k _ (by omega) (by omega)).trans w1, w2.keep (k _ (by omega) (by omega)), w3.keep (k _ (by omega) (by omega))⟩, v5.keep (k _ (by omega) (by omega)), v6.keep (k _ (by omega) (by omega)), v7.keep (k _ (by omega) (by omega)), v8.keep (k _ (by omega) (by omega)), v9.keep (k _ (by omega) (by omega)), v10.keep (k _ (by omega) (by omega)), v11.keep (k _ (by omega) (by omega)), v12.keep (k _ (by omega) (by omega)), v13.keep (k _ (by omega) (by omega)), v14.keep (k _ (by omega) (by omega))⟩
  exact ⟨⟨th, mn, m1, s1, (k _ (by omega) (by omega)).trans q1, q1'⟩, km, q3.keep (k _ (by omega) (by omega)), q4.keep (k _ (by omega) (by omega)), ⟨A, (k _ (by omega) (by omega)).trans q5, q5'⟩, q6.keep (k _ (by omega) (by omega)), q7.keep (k _ (by omega) (by omega)), fun j hj => (q8 j hj).off (k _ (by omega) (by omega)) (k _ (by omega) (by omega)) (k _ (by omega) (by omega)) ht, q9⟩
theorem zle6 {L i : Nat} (hL : L < 2 ^ 20) (hi : i < 2 ^ 20) (h : ¬ nI L - nI 6 < nI i) : i + 6 ≤ L := by
  rcases Nat.lt_or_ge L 6 with q | q
  · exfalso
    apply h
    rw [Int32.lt_iff_toInt_lt, nI_toInt (by omega)]
    have : L = 0 ∨ L = 1 ∨ L = 2 ∨ L = 3 ∨ L = 4 ∨ L = 5 := by omega
    have e : (nI L - nI 6).toInt < 0 := by rcases this with rfl | rfl | rfl | rfl | rfl | rfl <;> decide
    omega
  · rw [pk_sub q] at h
    have : ¬ L - 6 < i := fun u => h (nI_lt u (by omega))
    omega
set_option maxRecDepth 10000 in
set_option maxHeartbeats 2000000 in
theorem e_law {nm : String} {g : ZG} {h : ZH} {L : Nat} {xs : Nat → Int32} (hL : L ≤ 3072) (h0 : h 0 = some (.inr (L, .inl xs))) (ht : ztab h) : zP g (mL_law nm) room_1 (fun v _ _ => v = some (.int 1)) 0 0 0 [some (.ref (0)), none, none, none] [] h 16 := by
  obtain ⟨Qf, hQ⟩ : ∃ Qf : ZQ, Qf = (fun v _ _ => v = some (.int 1)) := ⟨_, rfl⟩
  rw [← hQ]
  refine zp_new dL_law_0 nL_7 (Nat.le_of_ble_eq_true rfl) (Nat.le_of_ble_eq_true rfl) ?_
  refine zp_nn (cells' := 1) (slots' := 5) (n' := 17) (st' := [.ref (16)]) rfl rfl rfl rfl ?_
  refine zp_nh (fun h201x eh201x => ?_)
  have k201_0 := (congrFun eh201x (0)).trans ((va_up_ne _ _ (by omega)).trans h0)
  have k201_1 : h201x (16) = some (.inl (8, [.null, .null, .null, .null, .null])) := by rw [eh201x]; exact va_up_self _ _ _
  have sw202 : zsm h h201x (zon (16)) := zsm.rf.up eh201x rfl
  have y203_0 := ht.sm sw202 (fun i hi => by unfold zon at hi; omega)
  refine zp_dup dL_law_3 rfl ?_
  refine zp_pc (pc' := 4) rfl ?_
  refine zp_callI (As := []) (k := 16) (st := [.ref (16)]) dL_law_4 cL_9 rfl (e_wellInit rfl y203_0 k201_1) (by decide) ⟨Nat.le_of_ble_eq_true rfl, Nat.le_of_ble_eq_true rfl⟩ (Nat.le_of_ble_eq_true rfl) (fun v204 h204 n204 q204 => ?_)
  obtain ⟨rfl, N204, s204, b16204, b17204, b19204, b21204, bk204, b63204⟩ := q204
  rw [N204]
  refine zp_nn (cells' := 48) (slots' := 10117) (n' := 64) (st' := [.ref (16)]) rfl rfl rfl rfl ?_
  have m205 : h204 (0) = some (.inr (L, .inl xs)) := (s204 _ (by unfold zbt; omega)).trans k201_0
  have y206_0 := y203_0.sm s204 (fun i hi => by unfold zbt at hi; omega)
  refine zp_astore_n (ls' := [some (.ref (0)), some (.ref (16)), none, none]) dL_law_7 (Nat.le_of_ble_eq_true rfl) rfl ?_
  refine zp_pc (pc' := 8) rfl ?_
  refine zp_new dL_law_8 nL_10 (Nat.le_of_ble_eq_true rfl) (Nat.le_of_ble_eq_true rfl) ?_
  refine zp_nn (cells' := 49) (slots' := 10163) (n' := 65) (st' := [.ref (64)]) rfl rfl rfl rfl ?_
  refine zp_nh (fun h207x eh207x => ?_)
  have k207_0 := (congrFun eh207x (0)).trans ((va_up_ne _ _ (by omega)).trans m205)
  have k207_1 : h207x (64) = some (.inl (10, [.int (0), .null, .null, .null, .null, .null, .null, .null, .null, .null, .null, .null, .null, .null, .null, .null, .null, .null, .null, .null, .null, .int (0), .int (0), .int (0), .int (0), .int (0), .int (0), .int (0), .int (0), .int (0), .int (0), .int (0), .int (0), .null, .null, .null, .int (0), .null, .null, .null, .null, .null, .null, .int (0), .null, .int (0)])) := by rw [eh207x]; exact va_up_self _ _ _
  have sw208 : zsm h204 h207x (zon (64)) := zsm.rf.up eh207x rfl
  have y209_0 := y206_0.sm sw208 (fun i hi => by unfold zon at hi; omega)
  refine zp_dup dL_law_11 rfl ?_
  refine zp_pc (pc' := 12) rfl ?_
  refine zp_callI (As := []) (k := 64) (st := [.ref (64)]) dL_law_12 cL_12 rfl (E_init rfl y209_0 k207_1) (by decide) ⟨Nat.le_of_ble_eq_true rfl, Nat.le_of_ble_eq_true rfl⟩ (Nat.le_of_ble_eq_true rfl) (fun v210 h210 n210 q210 => ?_)
  obtain ⟨rfl, N210, s210, m210⟩ := q210
  rw [N210]
  refine zp_nn (cells' := 91) (slots' := 23203) (n' := 107) (st' := [.ref (64)]) rfl rfl rfl rfl ?_
  have m211 : h210 (0) = some (.inr (L, .inl xs)) := (s210 _ (by unfold zbt; omega)).trans k207_0
  have y212_0 := y209_0.sm s210 (fun i hi => by unfold zbt at hi; omega)
  refine zp_astore_n (ls' := [some (.ref (0)), some (.ref (16)), some (.ref (64)), none]) dL_law_15 (Nat.le_of_ble_eq_true rfl) rfl ?_
  refine zp_iconst (v := nI (0)) dL_law_16 (by decide) ?_
  refine zp_istore_n (ls' := [some (.ref (0)), some (.ref (16)), some (.ref (64)), some (.int (nI (0)))]) dL_law_17 (Nat.le_of_ble_eq_true rfl) rfl ?_
  refine zp_pc (pc' := 18) rfl ?_
  have HB : zBA 107 0 h210 107 (fun _ => none) ([], [], zS0, fun _ => none) := ⟨((s210 16 (by unfold zbt; omega)).trans (sw208 16 (by unfold zon; omega))).trans b16204, (b17204.keep (sw208 _ (by unfold zon; omega)) (sw208 _ (by unfold zon; omega))).keep (s210 _ (by unfold zbt; omega)) (s210 _ (by unfold zbt; omega)), (b19204.keep (sw208 _ (by unfold zon; omega)) (sw208 _ (by unfold zon; omega))).keep (s210 _ (by unfold zbt; omega)) (s210 _ (by unfold zbt; omega)), (b21204.off (fun i h1 h2 => sw208 i (by unfold zon; omega))).off (fun i h1 h2 => s210 i (by unfold zbt; omega)), (bk204.off sw208 (fun i hi => by unfold zon at hi; omega)).off s210 (fun i hi => by unfold zbt at hi; omega), ⟨by decide, by decide⟩, ((s210 63 (by unfold zbt; omega)).trans (sw208 63 (by unfold zon; omega))).trans b63204, fun j hj => trivial, fun i j a b _ _ _ e => by cases e⟩
  refine zp_ls (ls' := [some (.ref (0)), some (.ref (16)), some (.ref (64)), some (.int (nI (6 * 0)))]) rfl ?_
  have lp : ∀ (m : Nat) (k t cc ss nn : Nat) (h1 : ZH) (T O : List Nat) (S : ZSup) (Gs : Nat → Option ZGn), m = 513 - k → k ≤ 513 → t ≤ 2 * k → cc ≤ 91 + 5 * k → ss ≤ 23203 + 239 * k → h1 0 = some (.inr (L, .inl xs)) → ztab h1 → zBW 107 t h1 nn (T, O, S, Gs) → zMD t h1 (T, O, S, Gs) → zP g (mL_law nm) room_1 Qf cc ss 18 [some (.ref (0)), some (.ref (16)), some (.ref (64)), some (.int (nI (6 * k)))] [] h1 nn := by
    intro m
    induction m using Nat.strongRecOn with
    | _ m ih =>
      intro k t cc ss nn h1 T O S Gs hm1 hk1 htt hcc hss e0 ht0 hB hM
      obtain ⟨w, rp, wi, pa, un, la, ru, sa, me, se, ta, fa⟩ := S
      obtain ⟨A, HB⟩ := hB
      refine zp_iload_n dL_law_18 rfl ?_
      refine zp_aload_n dL_law_19 rfl ?_
      refine zp_ilen dL_law_20 e0 ?_
      refine zp_bipush (v := nI (6)) dL_law_21 (by decide) ?_
      refine zp_isub dL_law_23 ?_
      refine zp_pc (pc' := 24) rfl ?_
      refine zp_icmp_gt (tgt := 759) dL_law_24 (by decide) (fun c24 => ?_) (fun c24 => ?_)
      · refine zp_iconst (v := nI (1)) dL_law_759 (by decide) ?_
        refine zp_pc (pc' := 760) rfl ?_
        refine zp_ret (v := (some (.int (nI (1))))) dL_law_760 ⟨⟨_, rfl, rfl⟩, rfl⟩ (by show cc ≤ 600000; omega) (by show ss ≤ 7302250; omega) ?_
        rw [hQ]
        rfl
      · have hi6 := zle6 (show L < 2 ^ 20 by omega) (show 6 * k < 2 ^ 20 by omega) c24
        refine zp_aload_n dL_law_27 rfl ?_
        refine zp_iload_n dL_law_28 rfl ?_
        refine zn_iald (j := 6 * k) dL_law_29 e0 (by omega) (by omega) ?_
        refine zp_bipush (v := nI (31)) dL_law_30 (by decide) ?_
        refine zp_iand dL_law_32 ?_
        refine zp_pc (pc' := 33) rfl ?_
        rcases zsw ((xs (6 * k)) &&& (nI (31))) 17 (by decide) with ⟨j, hj, ej⟩ | hx
        · refine zp_i (y := nI j) ej ?_
          have hj2 : j = 0 ∨ j = 1 ∨ j = 2 ∨ j = 3 ∨ j = 4 ∨ j = 5 ∨ j = 6 ∨ j = 7 ∨ j = 8 ∨ j = 9 ∨ j = 10 ∨ j = 11 ∨ j = 12 ∨ j = 13 ∨ j = 14 ∨ j = 15 ∨ j = 16 := by omega
          rcases hj2 with rfl | rfl | rfl | rfl | rfl | rfl | rfl | rfl | rfl | rfl | rfl | rfl | rfl | rfl | rfl | rfl | rfl
          · refine zp_tabIn (off := 83) (tgt := 116) dL_law_33 (by decide) (by decide) rfl (by decide) ?_
            refine zp_aload_n dL_law_116 rfl ?_
            refine zp_aload_n dL_law_117 rfl ?_
            refine zp_iload_n dL_law_118 rfl ?_
            refine zp_iconst (v := nI (1)) dL_law_119 (by decide) ?_
            refine zn_iadd dL_law_120 ?_
            refine zn_iald (j := (6 * k) + (1)) dL_law_121 e0 (by omega) (by omega) ?_
            refine zp_aload_n dL_law_122 rfl ?_
            refine zp_iload_n dL_law_123 rfl ?_
            refine zp_iconst (v := nI (2)) dL_law_124 (by decide) ?_
            refine zn_iadd dL_law_125 ?_
            refine zn_iald (j := (6 * k) + (2)) dL_law_126 e0 (by omega) (by omega) ?_
            refine zp_aload_n dL_law_127 rfl ?_
            refine zp_iload_n dL_law_128 rfl ?_
            refine zp_iconst (v := nI (3)) dL_law_129 (by decide) ?_
            refine zn_iadd dL_law_130 ?_
            refine zn_iald (j := (6 * k) + (3)) dL_law_131 e0 (by omega) (by omega) ?_
            refine zp_aload_n dL_law_132 rfl ?_
            refine zp_iload_n dL_law_133 rfl ?_
            refine zp_iconst (v := nI (4)) dL_law_134 (by decide) ?_
            refine zn_iadd dL_law_135 ?_
            refine zn_iald (j := (6 * k) + (4)) dL_law_136 e0 (by omega) (by omega) ?_
            refine zp_aload_n dL_law_137 rfl ?_
            refine zp_iload_n dL_law_138 rfl ?_
            refine zp_iconst (v := nI (5)) dL_law_139 (by decide) ?_
            refine zn_iadd dL_law_140 ?_
            refine zn_iald (j := (6 * k) + (5)) dL_law_141 e0 (by omega) (by omega) ?_
            refine zp_pc (pc' := 142) rfl ?_
            refine zp_callV (As := [.int (xs ((6 * k) + (1))), .int (xs ((6 * k) + (2))), .int (xs ((6 * k) + (3))), .int (xs ((6 * k) + (4))), .int (xs ((6 * k) + (5)))]) (k := 16) (st := []) (ci := 8) dL_law_142 cL_13 rfl HB.1 rfl rfl (e_feed HB) (by decide) ⟨by show cc + 0 ≤ 600000; omega, by show ss + 0 ≤ 7302250; omega⟩ (Nat.le_of_ble_eq_true rfl) (fun v213 h213 n213 q213 => ?_)
            obtain ⟨rfl, N213, s213, b213⟩ := q213
            rw [N213]
            refine zp_nrm (cells' := cc) (slots' := ss) (st' := [.int ((zqfeed (xs ((6 * k) + (1))) (xs ((6 * k) + (2))) (xs ((6 * k) + (3))) (xs ((6 * k) + (4))) (xs ((6 * k) + (5))) (T, O, (w, rp, wi, pa, un, la, ru, sa, me, se, ta, fa), Gs)).1)]) rfl rfl rfl ?_
            rw [N213] at b213
            have HM1 := hM.keep s213 (fun i hi => by unfold zxs at hi; omega) (Nat.le_refl _)
            have c1 : h213 0 = some (.inr (L, .inl xs)) := (s213 0 (by unfold zxs; omega)).trans e0
            have ht1 := ht0.sm s213 (fun i hi => by unfold zxs at hi; omega)
            obtain ⟨⟨th, mn, mq, sq, o64, -⟩, -⟩ := id HM1
            have o64 : h213 64 = some (.inl (10, [.int (th), .ref (65), .ref (66), .ref (67), .ref (68), .ref (69), .ref (70), .ref (71), .ref (72), .ref (73), .ref (74), .ref (75), .ref (76), .ref (77), .ref (78), .ref (79), .ref (80), .ref (81), .ref (82), .ref (83), .ref (84), .int (nI (w.length)), .int (nI (zbi un)), .int (rp), .int (wi), .int (pa), .int (la), .int (ru), .int (sa), .int (mq), .int (sq), .int (ta), .int (fa), .ref (85), .ref (86), .ref (87), .int (nI (mn)), .ref (88), .ref (89), .ref (90), .ref (91), .ref (92), .ref (93), .int (nI (T.length)), .ref (94), .int (nI (O.length))])) := o64
            refine zp_aload_n dL_law_145 rfl ?_
            refine zp_aload_n dL_law_146 rfl ?_
            refine zp_iload_n dL_law_147 rfl ?_
            refine zp_iconst (v := nI (1)) dL_law_148 (by decide) ?_
            refine zn_iadd dL_law_149 ?_
            refine zn_iald (j := (6 * k) + (1)) dL_law_150 c1 (by omega) (by omega) ?_
            refine zp_aload_n dL_law_151 rfl ?_
            refine zp_iload_n dL_law_152 rfl ?_
            refine zp_iconst (v := nI (2)) dL_law_153 (by decide) ?_
            refine zn_iadd dL_law_154 ?_
            refine zn_iald (j := (6 * k) + (2)) dL_law_155 c1 (by omega) (by omega) ?_
            refine zp_aload_n dL_law_156 rfl ?_
            refine zp_iload_n dL_law_157 rfl ?_
            refine zp_iconst (v := nI (3)) dL_law_158 (by decide) ?_
            refine zn_iadd dL_law_159 ?_
            refine zn_iald (j := (6 * k) + (3)) dL_law_160 c1 (by omega) (by omega) ?_
            refine zp_aload_n dL_law_161 rfl ?_
            refine zp_iload_n dL_law_162 rfl ?_
            refine zp_iconst (v := nI (4)) dL_law_163 (by decide) ?_
            refine zn_iadd dL_law_164 ?_
            refine zn_iald (j := (6 * k) + (4)) dL_law_165 c1 (by omega) (by omega) ?_
            refine zp_aload_n dL_law_166 rfl ?_
            refine zp_iload_n dL_law_167 rfl ?_
            refine zp_iconst (v := nI (5)) dL_law_168 (by decide) ?_
            refine zn_iadd dL_law_169 ?_
            refine zn_iald (j := (6 * k) + (5)) dL_law_170 c1 (by omega) (by omega) ?_
            refine zp_pc (pc' := 171) rfl ?_
            refine zp_callV (As := [.int (xs ((6 * k) + (1))), .int (xs ((6 * k) + (2))), .int (xs ((6 * k) + (3))), .int (xs ((6 * k) + (4))), .int (xs ((6 * k) + (5)))]) (k := 64) (st := [.int ((zqfeed (xs ((6 * k) + (1))) (xs ((6 * k) + (2))) (xs ((6 * k) + (3))) (xs ((6 * k) + (4))) (xs ((6 * k) + (5))) (T, O, (w, rp, wi, pa, un, la, ru, sa, me, se, ta, fa), Gs)).1)]) (ci := 10) dL_law_171 cL_17 rfl o64 rfl rfl (E_feed HM1) (by decide) ⟨by show cc + 0 ≤ 600000; omega, by show ss + 0 ≤ 7302250; omega⟩ (Nat.le_of_ble_eq_true rfl) (fun v214 h214 n214 q214 => ?_)
            obtain ⟨rfl, N214, s214, m214⟩ := q214
            rw [N214]
            refine zp_nrm (cells' := cc) (slots' := ss) (st' := [.int ((zqfeed (xs ((6 * k) + (1))) (xs ((6 * k) + (2))) (xs ((6 * k) + (3))) (xs ((6 * k) + (4))) (xs ((6 * k) + (5))) (T, O, (w, rp, wi, pa, un, la, ru, sa, me, se, ta, fa), Gs)).1), .int ((zqfeed (xs ((6 * k) + (1))) (xs ((6 * k) + (2))) (xs ((6 * k) + (3))) (xs ((6 * k) + (4))) (xs ((6 * k) + (5))) (T, O, (w, rp, wi, pa, un, la, ru, sa, me, se, ta, fa), Gs)).1)]) rfl rfl rfl ?_
            have c2 : h214 0 = some (.inr (L, .inl xs)) := (s214 0 (by unfold zmA; omega)).trans c1
            have ht2 := ht1.sm s214 (fun i hi => by unfold zmA at hi; omega)
            obtain ⟨⟨T2, O2, S2, Gs2⟩, e2⟩ : ∃ q : ZSt, q = (zqfeed (xs ((6 * k) + (1))) (xs ((6 * k) + (2))) (xs ((6 * k) + (3))) (xs ((6 * k) + (4))) (xs ((6 * k) + (5))) (T, O, (w, rp, wi, pa, un, la, ru, sa, me, se, ta, fa), Gs)).2 := ⟨_, rfl⟩
            rw [← e2] at b213 m214
            obtain ⟨A2, HB2⟩ := b213
            have HB3 := HB2.same s214 (fun i hi => by unfold zmA at hi; omega) (Nat.le_refl _) (Nat.le_refl _)
            refine zp_icmp_eq (tgt := 753) dL_law_174 (by decide) (fun c174 => ?_) (fun c174 => ?_)
            · refine zn_iinc 6 (ls' := [some (.ref (0)), some (.ref (16)), some (.ref (64)), some (.int (nI (6 * k + 6)))]) dL_law_753 (by decide) (Nat.le_of_ble_eq_true rfl) rfl rfl ?_
              refine zp_pc (pc' := 756) rfl ?_
              refine zp_ls (ls' := [some (.ref (0)), some (.ref (16)), some (.ref (64)), some (.int (nI (6 * (k + 1))))]) (by rw [Nat.mul_add]) ?_
              refine zp_goto (tgt := 18) dL_law_756 (by decide) ?_
              refine zp_pc (pc' := 18) rfl ?_
              exact ih (513 - (k + 1)) (by omega) (k + 1) (t + 2) (cc) (ss) nn h214 T2 O2 S2 Gs2 rfl (by omega) (by omega) (by omega) (by omega) c2 ht2 ⟨_, HB3⟩ m214
            · exact absurd rfl c174
          · refine zp_tabIn (off := 146) (tgt := 179) dL_law_33 (by decide) (by decide) rfl (by decide) ?_
            refine zp_aload_n dL_law_179 rfl ?_
            refine zp_aload_n dL_law_180 rfl ?_
            refine zp_iload_n dL_law_181 rfl ?_
            refine zp_iconst (v := nI (1)) dL_law_182 (by decide) ?_
            refine zn_iadd dL_law_183 ?_
            refine zn_iald (j := (6 * k) + (1)) dL_law_184 e0 (by omega) (by omega) ?_
            refine zp_pc (pc' := 185) rfl ?_
            refine zp_callV (As := [.int (xs ((6 * k) + (1)))]) (k := 16) (st := []) (ci := 8) dL_law_185 cL_18 rfl HB.1 rfl rfl (e_end HB) (by decide) ⟨by show cc + 0 ≤ 600000; omega, by show ss + 0 ≤ 7302250; omega⟩ (Nat.le_of_ble_eq_true rfl) (fun v215 h215 n215 q215 => ?_)
            obtain ⟨rfl, N215, s215, b215⟩ := q215
            rw [N215]
            refine zp_nrm (cells' := cc) (slots' := ss) (st' := [.int ((zqend (xs ((6 * k) + (1))) (T, O, (w, rp, wi, pa, un, la, ru, sa, me, se, ta, fa), Gs)).1)]) rfl rfl rfl ?_
            rw [N215] at b215
            have HM1 := hM.keep s215 (fun i hi => by unfold zxs at hi; omega) (Nat.le_refl _)
            have c1 : h215 0 = some (.inr (L, .inl xs)) := (s215 0 (by unfold zxs; omega)).trans e0
            have ht1 := ht0.sm s215 (fun i hi => by unfold zxs at hi; omega)
            obtain ⟨⟨th, mn, mq, sq, o64, -⟩, -⟩ := id HM1
            have o64 : h215 64 = some (.inl (10, [.int (th), .ref (65), .ref (66), .ref (67), .ref (68), .ref (69), .ref (70), .ref (71), .ref (72), .ref (73), .ref (74), .ref (75), .ref (76), .ref (77), .ref (78), .ref (79), .ref (80), .ref (81), .ref (82), .ref (83), .ref (84), .int (nI (w.length)), .int (nI (zbi un)), .int (rp), .int (wi), .int (pa), .int (la), .int (ru), .int (sa), .int (mq), .int (sq), .int (ta), .int (fa), .ref (85), .ref (86), .ref (87), .int (nI (mn)), .ref (88), .ref (89), .ref (90), .ref (91), .ref (92), .ref (93), .int (nI (T.length)), .ref (94), .int (nI (O.length))])) := o64
            refine zp_aload_n dL_law_188 rfl ?_
            refine zp_aload_n dL_law_189 rfl ?_
            refine zp_iload_n dL_law_190 rfl ?_
            refine zp_iconst (v := nI (1)) dL_law_191 (by decide) ?_
            refine zn_iadd dL_law_192 ?_
            refine zn_iald (j := (6 * k) + (1)) dL_law_193 c1 (by omega) (by omega) ?_
            refine zp_pc (pc' := 194) rfl ?_
            refine zp_callV (As := [.int (xs ((6 * k) + (1)))]) (k := 64) (st := [.int ((zqend (xs ((6 * k) + (1))) (T, O, (w, rp, wi, pa, un, la, ru, sa, me, se, ta, fa), Gs)).1)]) (ci := 10) dL_law_194 cL_22 rfl o64 rfl rfl (E_end HM1) (by decide) ⟨by show cc + 0 ≤ 600000; omega, by show ss + 0 ≤ 7302250; omega⟩ (Nat.le_of_ble_eq_true rfl) (fun v216 h216 n216 q216 => ?_)
            obtain ⟨rfl, N216, s216, m216⟩ := q216
            rw [N216]
            refine zp_nrm (cells' := cc) (slots' := ss) (st' := [.int ((zqend (xs ((6 * k) + (1))) (T, O, (w, rp, wi, pa, un, la, ru, sa, me, se, ta, fa), Gs)).1), .int ((zqend (xs ((6 * k) + (1))) (T, O, (w, rp, wi, pa, un, la, ru, sa, me, se, ta, fa), Gs)).1)]) rfl rfl rfl ?_
            have c2 : h216 0 = some (.inr (L, .inl xs)) := (s216 0 (by unfold zmA; omega)).trans c1
            have ht2 := ht1.sm s216 (fun i hi => by unfold zmA at hi; omega)
            obtain ⟨⟨T2, O2, S2, Gs2⟩, e2⟩ : ∃ q : ZSt, q = (zqend (xs ((6 * k) + (1))) (T, O, (w, rp, wi, pa, un, la, ru, sa, me, se, ta, fa), Gs)).2 := ⟨_, rfl⟩
            rw [← e2] at b215 m216
            obtain ⟨A2, HB2⟩ := b215
            have HB3 := HB2.same s216 (fun i hi => by unfold zmA at hi; omega) (Nat.le_refl _) (Nat.le_refl _)
            refine zp_icmp_eq (tgt := 753) dL_law_197 (by decide) (fun c197 => ?_) (fun c197 => ?_)
            · refine zn_iinc 6 (ls' := [some (.ref (0)), some (.ref (16)), some (.ref (64)), some (.int (nI (6 * k + 6)))]) dL_law_753 (by decide) (Nat.le_of_ble_eq_true rfl) rfl rfl ?_
              refine zp_pc (pc' := 756) rfl ?_
              refine zp_ls (ls' := [some (.ref (0)), some (.ref (16)), some (.ref (64)), some (.int (nI (6 * (k + 1))))]) (by rw [Nat.mul_add]) ?_
              refine zp_goto (tgt := 18) dL_law_756 (by decide) ?_
              refine zp_pc (pc' := 18) rfl ?_
              exact ih (513 - (k + 1)) (by omega) (k + 1) (t + 2) (cc) (ss) nn h216 T2 O2 S2 Gs2 rfl (by omega) (by omega) (by omega) (by omega) c2 ht2 ⟨_, HB3⟩ m216
            · exact absurd rfl c197
          · refine zp_tabIn (off := 169) (tgt := 202) dL_law_33 (by decide) (by decide) rfl (by decide) ?_
            refine zp_aload_n dL_law_202 rfl ?_
            refine zp_pc (pc' := 203) rfl ?_
            refine zp_callV (As := []) (k := 16) (st := []) (ci := 8) dL_law_203 cL_23 rfl HB.1 rfl rfl (e_supply HB) (by decide) ⟨by show cc + 0 ≤ 600000; omega, by show ss + 0 ≤ 7302250; omega⟩ (Nat.le_of_ble_eq_true rfl) (fun v217 h217 n217 q217 => ?_)
            obtain ⟨rfl, N217, s217, b217⟩ := q217
            rw [N217]
            refine zp_nrm (cells' := cc) (slots' := ss) (st' := [.int ((zqsupply (T, O, (w, rp, wi, pa, un, la, ru, sa, me, se, ta, fa), Gs)).1)]) rfl rfl rfl ?_
            rw [N217] at b217
            have HM1 := hM.keep s217 (fun i hi => by unfold zxs at hi; omega) (Nat.le_refl _)
            have c1 : h217 0 = some (.inr (L, .inl xs)) := (s217 0 (by unfold zxs; omega)).trans e0
            have ht1 := ht0.sm s217 (fun i hi => by unfold zxs at hi; omega)
            obtain ⟨⟨th, mn, mq, sq, o64, -⟩, -⟩ := id HM1
            have o64 : h217 64 = some (.inl (10, [.int (th), .ref (65), .ref (66), .ref (67), .ref (68), .ref (69), .ref (70), .ref (71), .ref (72), .ref (73), .ref (74), .ref (75), .ref (76), .ref (77), .ref (78), .ref (79), .ref (80), .ref (81), .ref (82), .ref (83), .ref (84), .int (nI (w.length)), .int (nI (zbi un)), .int (rp), .int (wi), .int (pa), .int (la), .int (ru), .int (sa), .int (mq), .int (sq), .int (ta), .int (fa), .ref (85), .ref (86), .ref (87), .int (nI (mn)), .ref (88), .ref (89), .ref (90), .ref (91), .ref (92), .ref (93), .int (nI (T.length)), .ref (94), .int (nI (O.length))])) := o64
            refine zp_aload_n dL_law_206 rfl ?_
            refine zp_pc (pc' := 207) rfl ?_
            refine zp_callV (As := []) (k := 64) (st := [.int ((zqsupply (T, O, (w, rp, wi, pa, un, la, ru, sa, me, se, ta, fa), Gs)).1)]) (ci := 10) dL_law_207 cL_27 rfl o64 rfl rfl (E_supply HM1) (by decide) ⟨by show cc + 0 ≤ 600000; omega, by show ss + 0 ≤ 7302250; omega⟩ (Nat.le_of_ble_eq_true rfl) (fun v218 h218 n218 q218 => ?_)
            obtain ⟨rfl, N218, s218, m218⟩ := q218
            rw [N218]
            refine zp_nrm (cells' := cc) (slots' := ss) (st' := [.int ((zqsupply (T, O, (w, rp, wi, pa, un, la, ru, sa, me, se, ta, fa), Gs)).1), .int ((zqsupply (T, O, (w, rp, wi, pa, un, la, ru, sa, me, se, ta, fa), Gs)).1)]) rfl rfl rfl ?_
            have c2 : h218 0 = some (.inr (L, .inl xs)) := (s218 0 (by unfold zmA; omega)).trans c1
            have ht2 := ht1.sm s218 (fun i hi => by unfold zmA at hi; omega)
            obtain ⟨⟨T2, O2, S2, Gs2⟩, e2⟩ : ∃ q : ZSt, q = (zqsupply (T, O, (w, rp, wi, pa, un, la, ru, sa, me, se, ta, fa), Gs)).2 := ⟨_, rfl⟩
            rw [← e2] at b217 m218
            obtain ⟨A2, HB2⟩ := b217
            have HB3 := HB2.same s218 (fun i hi => by unfold zmA at hi; omega) (Nat.le_refl _) (Nat.le_refl _)
            refine zp_icmp_eq (tgt := 753) dL_law_210 (by decide) (fun c210 => ?_) (fun c210 => ?_)
            · refine zn_iinc 6 (ls' := [some (.ref (0)), some (.ref (16)), some (.ref (64)), some (.int (nI (6 * k + 6)))]) dL_law_753 (by decide) (Nat.le_of_ble_eq_true rfl) rfl rfl ?_
              refine zp_pc (pc' := 756) rfl ?_
              refine zp_ls (ls' := [some (.ref (0)), some (.ref (16)), some (.ref (64)), some (.int (nI (6 * (k + 1))))]) (by rw [Nat.mul_add]) ?_
              refine zp_goto (tgt := 18) dL_law_756 (by decide) ?_
              refine zp_pc (pc' := 18) rfl ?_
              exact ih (513 - (k + 1)) (by omega) (k + 1) (t + 2) (cc) (ss) nn h218 T2 O2 S2 Gs2 rfl (by omega) (by omega) (by omega) (by omega) c2 ht2 ⟨_, HB3⟩ m218
            · exact absurd rfl c210
          · refine zp_tabIn (off := 182) (tgt := 215) dL_law_33 (by decide) (by decide) rfl (by decide) ?_
            refine zp_aload_n dL_law_215 rfl ?_
            refine zp_aload_n dL_law_216 rfl ?_
            refine zp_iload_n dL_law_217 rfl ?_
            refine zp_iconst (v := nI (1)) dL_law_218 (by decide) ?_
            refine zn_iadd dL_law_219 ?_
            refine zn_iald (j := (6 * k) + (1)) dL_law_220 e0 (by omega) (by omega) ?_
            refine zp_aload_n dL_law_221 rfl ?_
            refine zp_iload_n dL_law_222 rfl ?_
            refine zp_iconst (v := nI (2)) dL_law_223 (by decide) ?_
            refine zn_iadd dL_law_224 ?_
            refine zn_iald (j := (6 * k) + (2)) dL_law_225 e0 (by omega) (by omega) ?_
            refine zp_aload_n dL_law_226 rfl ?_
            refine zp_iload_n dL_law_227 rfl ?_
            refine zp_iconst (v := nI (3)) dL_law_228 (by decide) ?_
            refine zn_iadd dL_law_229 ?_
            refine zn_iald (j := (6 * k) + (3)) dL_law_230 e0 (by omega) (by omega) ?_
            refine zp_pc (pc' := 231) rfl ?_
            refine zp_callV (As := [.int (xs ((6 * k) + (1))), .int (xs ((6 * k) + (2))), .int (xs ((6 * k) + (3)))]) (k := 16) (st := []) (ci := 8) dL_law_231 cL_28 rfl HB.1 rfl rfl (e_tests HB) (by decide) ⟨by show cc + 0 ≤ 600000; omega, by show ss + 0 ≤ 7302250; omega⟩ (Nat.le_of_ble_eq_true rfl) (fun v219 h219 n219 q219 => ?_)
            obtain ⟨rfl, N219, s219, b219⟩ := q219
            rw [N219]
            refine zp_nrm (cells' := cc) (slots' := ss) (st' := [.int (nI (zbi (zqtests (xs ((6 * k) + (1))) (xs ((6 * k) + (2))) (xs ((6 * k) + (3))) (T, O, (w, rp, wi, pa, un, la, ru, sa, me, se, ta, fa), Gs)).1))]) rfl rfl rfl ?_
            rw [N219] at b219
            have HM1 := hM.keep s219 (fun i hi => by unfold zxs at hi; omega) (Nat.le_refl _)
            have c1 : h219 0 = some (.inr (L, .inl xs)) := (s219 0 (by unfold zxs; omega)).trans e0
            have ht1 := ht0.sm s219 (fun i hi => by unfold zxs at hi; omega)
            obtain ⟨⟨th, mn, mq, sq, o64, -⟩, -⟩ := id HM1
            have o64 : h219 64 = some (.inl (10, [.int (th), .ref (65), .ref (66), .ref (67), .ref (68), .ref (69), .ref (70), .ref (71), .ref (72), .ref (73), .ref (74), .ref (75), .ref (76), .ref (77), .ref (78), .ref (79), .ref (80), .ref (81), .ref (82), .ref (83), .ref (84), .int (nI (w.length)), .int (nI (zbi un)), .int (rp), .int (wi), .int (pa), .int (la), .int (ru), .int (sa), .int (mq), .int (sq), .int (ta), .int (fa), .ref (85), .ref (86), .ref (87), .int (nI (mn)), .ref (88), .ref (89), .ref (90), .ref (91), .ref (92), .ref (93), .int (nI (T.length)), .ref (94), .int (nI (O.length))])) := o64
            refine zp_aload_n dL_law_234 rfl ?_
            refine zp_aload_n dL_law_235 rfl ?_
            refine zp_iload_n dL_law_236 rfl ?_
            refine zp_iconst (v := nI (1)) dL_law_237 (by decide) ?_
            refine zn_iadd dL_law_238 ?_
            refine zn_iald (j := (6 * k) + (1)) dL_law_239 c1 (by omega) (by omega) ?_
            refine zp_aload_n dL_law_240 rfl ?_
            refine zp_iload_n dL_law_241 rfl ?_
            refine zp_iconst (v := nI (2)) dL_law_242 (by decide) ?_
            refine zn_iadd dL_law_243 ?_
            refine zn_iald (j := (6 * k) + (2)) dL_law_244 c1 (by omega) (by omega) ?_
            refine zp_aload_n dL_law_245 rfl ?_
            refine zp_iload_n dL_law_246 rfl ?_
            refine zp_iconst (v := nI (3)) dL_law_247 (by decide) ?_
            refine zn_iadd dL_law_248 ?_
            refine zn_iald (j := (6 * k) + (3)) dL_law_249 c1 (by omega) (by omega) ?_
            refine zp_pc (pc' := 250) rfl ?_
            refine zp_callV (As := [.int (xs ((6 * k) + (1))), .int (xs ((6 * k) + (2))), .int (xs ((6 * k) + (3)))]) (k := 64) (st := [.int (nI (zbi (zqtests (xs ((6 * k) + (1))) (xs ((6 * k) + (2))) (xs ((6 * k) + (3))) (T, O, (w, rp, wi, pa, un, la, ru, sa, me, se, ta, fa), Gs)).1))]) (ci := 10) dL_law_250 cL_32 rfl o64 rfl rfl (E_tests HM1) (by decide) ⟨by show cc + 0 ≤ 600000; omega, by show ss + 0 ≤ 7302250; omega⟩ (Nat.le_of_ble_eq_true rfl) (fun v220 h220 n220 q220 => ?_)
            obtain ⟨rfl, N220, s220, m220⟩ := q220
            rw [N220]
            refine zp_nrm (cells' := cc) (slots' := ss) (st' := [.int (nI (zbi (zqtests (xs ((6 * k) + (1))) (xs ((6 * k) + (2))) (xs ((6 * k) + (3))) (T, O, (w, rp, wi, pa, un, la, ru, sa, me, se, ta, fa), Gs)).1)), .int (nI (zbi (zqtests (xs ((6 * k) + (1))) (xs ((6 * k) + (2))) (xs ((6 * k) + (3))) (T, O, (w, rp, wi, pa, un, la, ru, sa, me, se, ta, fa), Gs)).1))]) rfl rfl rfl ?_
            have c2 : h220 0 = some (.inr (L, .inl xs)) := (s220 0 (by unfold zmA; omega)).trans c1
            have ht2 := ht1.sm s220 (fun i hi => by unfold zmA at hi; omega)
            obtain ⟨⟨T2, O2, S2, Gs2⟩, e2⟩ : ∃ q : ZSt, q = (zqtests (xs ((6 * k) + (1))) (xs ((6 * k) + (2))) (xs ((6 * k) + (3))) (T, O, (w, rp, wi, pa, un, la, ru, sa, me, se, ta, fa), Gs)).2 := ⟨_, rfl⟩
            rw [← e2] at b219 m220
            obtain ⟨A2, HB2⟩ := b219
            have HB3 := HB2.same s220 (fun i hi => by unfold zmA at hi; omega) (Nat.le_refl _) (Nat.le_refl _)
            refine zn_icmp_eq (tgt := 753) dL_law_253 (by decide) (by have := zbi_lt (zqtests (xs ((6 * k) + (1))) (xs ((6 * k) + (2))) (xs ((6 * k) + (3))) (T, O, (w, rp, wi, pa, un, la, ru, sa, me, se, ta, fa), Gs)).1; omega) (by have := zbi_lt (zqtests (xs ((6 * k) + (1))) (xs ((6 * k) + (2))) (xs ((6 * k) + (3))) (T, O, (w, rp, wi, pa, un, la, ru, sa, me, se, ta, fa), Gs)).1; omega) (fun c253 => ?_) (fun c253 => ?_)
            · refine zn_iinc 6 (ls' := [some (.ref (0)), some (.ref (16)), some (.ref (64)), some (.int (nI (6 * k + 6)))]) dL_law_753 (by decide) (Nat.le_of_ble_eq_true rfl) rfl rfl ?_
              refine zp_pc (pc' := 756) rfl ?_
              refine zp_ls (ls' := [some (.ref (0)), some (.ref (16)), some (.ref (64)), some (.int (nI (6 * (k + 1))))]) (by rw [Nat.mul_add]) ?_
              refine zp_goto (tgt := 18) dL_law_756 (by decide) ?_
              refine zp_pc (pc' := 18) rfl ?_
              exact ih (513 - (k + 1)) (by omega) (k + 1) (t + 2) (cc) (ss) nn h220 T2 O2 S2 Gs2 rfl (by omega) (by omega) (by omega) (by omega) c2 ht2 ⟨_, HB3⟩ m220
            · exact absurd rfl c253
          · refine zp_tabIn (off := 225) (tgt := 258) dL_law_33 (by decide) (by decide) rfl (by decide) ?_
            refine zp_aload_n dL_law_258 rfl ?_
            refine zp_aload_n dL_law_259 rfl ?_
            refine zp_iload_n dL_law_260 rfl ?_
            refine zp_iconst (v := nI (1)) dL_law_261 (by decide) ?_
            refine zn_iadd dL_law_262 ?_
            refine zn_iald (j := (6 * k) + (1)) dL_law_263 e0 (by omega) (by omega) ?_
            refine zp_pc (pc' := 264) rfl ?_
            refine zp_callV (As := [.int (xs ((6 * k) + (1)))]) (k := 16) (st := []) (ci := 8) dL_law_264 cL_33 rfl HB.1 rfl rfl (e_source HB) (by decide) ⟨by show cc + 0 ≤ 600000; omega, by show ss + 0 ≤ 7302250; omega⟩ (Nat.le_of_ble_eq_true rfl) (fun v221 h221 n221 q221 => ?_)
            obtain ⟨rfl, H221, N221⟩ := q221
            rw [N221, H221]
            refine zp_nrm (cells' := cc) (slots' := ss) (st' := [.int ((zqsource (xs ((6 * k) + (1))) (T, O, (w, rp, wi, pa, un, la, ru, sa, me, se, ta, fa), Gs)))]) rfl rfl rfl ?_
            have HM1 := hM
            obtain ⟨⟨th, mn, mq, sq, o64, -⟩, -⟩ := id HM1
            have o64 : h1 64 = some (.inl (10, [.int (th), .ref (65), .ref (66), .ref (67), .ref (68), .ref (69), .ref (70), .ref (71), .ref (72), .ref (73), .ref (74), .ref (75), .ref (76), .ref (77), .ref (78), .ref (79), .ref (80), .ref (81), .ref (82), .ref (83), .ref (84), .int (nI (w.length)), .int (nI (zbi un)), .int (rp), .int (wi), .int (pa), .int (la), .int (ru), .int (sa), .int (mq), .int (sq), .int (ta), .int (fa), .ref (85), .ref (86), .ref (87), .int (nI (mn)), .ref (88), .ref (89), .ref (90), .ref (91), .ref (92), .ref (93), .int (nI (T.length)), .ref (94), .int (nI (O.length))])) := o64
            refine zp_aload_n dL_law_267 rfl ?_
            refine zp_aload_n dL_law_268 rfl ?_
            refine zp_iload_n dL_law_269 rfl ?_
            refine zp_iconst (v := nI (1)) dL_law_270 (by decide) ?_
            refine zn_iadd dL_law_271 ?_
            refine zn_iald (j := (6 * k) + (1)) dL_law_272 e0 (by omega) (by omega) ?_
            refine zp_pc (pc' := 273) rfl ?_
            refine zp_callV (As := [.int (xs ((6 * k) + (1)))]) (k := 64) (st := [.int ((zqsource (xs ((6 * k) + (1))) (T, O, (w, rp, wi, pa, un, la, ru, sa, me, se, ta, fa), Gs)))]) (ci := 10) dL_law_273 cL_36 rfl o64 rfl rfl (E_source HM1) (by decide) ⟨by show cc + 0 ≤ 600000; omega, by show ss + 0 ≤ 7302250; omega⟩ (Nat.le_of_ble_eq_true rfl) (fun v222 h222 n222 q222 => ?_)
            obtain ⟨rfl, N222, s222, m222⟩ := q222
            rw [N222]
            refine zp_nrm (cells' := cc) (slots' := ss) (st' := [.int ((zqsource (xs ((6 * k) + (1))) (T, O, (w, rp, wi, pa, un, la, ru, sa, me, se, ta, fa), Gs))), .int ((zqsource (xs ((6 * k) + (1))) (T, O, (w, rp, wi, pa, un, la, ru, sa, me, se, ta, fa), Gs)))]) rfl rfl rfl ?_
            have c1 := e0
            have ht1 := ht0
            have c2 : h222 0 = some (.inr (L, .inl xs)) := (s222 0 (by unfold zmA; omega)).trans c1
            have ht2 := ht1.sm s222 (fun i hi => by unfold zmA at hi; omega)
            have HB3 := HB.same (t' := t + 2) s222 (fun i hi => by unfold zmA at hi; omega) (Nat.le_refl _) (by omega)
            refine zp_icmp_eq (tgt := 753) dL_law_276 (by decide) (fun c276 => ?_) (fun c276 => ?_)
            · refine zn_iinc 6 (ls' := [some (.ref (0)), some (.ref (16)), some (.ref (64)), some (.int (nI (6 * k + 6)))]) dL_law_753 (by decide) (Nat.le_of_ble_eq_true rfl) rfl rfl ?_
              refine zp_pc (pc' := 756) rfl ?_
              refine zp_ls (ls' := [some (.ref (0)), some (.ref (16)), some (.ref (64)), some (.int (nI (6 * (k + 1))))]) (by rw [Nat.mul_add]) ?_
              refine zp_goto (tgt := 18) dL_law_756 (by decide) ?_
              refine zp_pc (pc' := 18) rfl ?_
              exact ih (513 - (k + 1)) (by omega) (k + 1) (t + 2) (cc) (ss) nn h222 T O (w, rp, wi, pa, un, la, ru, sa, me, se, ta, fa) Gs rfl (by omega) (by omega) (by omega) (by omega) c2 ht2 ⟨_, HB3⟩ m222
            · exact absurd rfl c276
          · refine zp_tabIn (off := 248) (tgt := 281) dL_law_33 (by decide) (by decide) rfl (by decide) ?_
            refine zp_aload_n dL_law_281 rfl ?_
            refine zp_aload_n dL_law_282 rfl ?_
            refine zp_iload_n dL_law_283 rfl ?_
            refine zp_iconst (v := nI (1)) dL_law_284 (by decide) ?_
            refine zn_iadd dL_law_285 ?_
            refine zn_iald (j := (6 * k) + (1)) dL_law_286 e0 (by omega) (by omega) ?_
            refine zp_aload_n dL_law_287 rfl ?_
            refine zp_iload_n dL_law_288 rfl ?_
            refine zp_iconst (v := nI (2)) dL_law_289 (by decide) ?_
            refine zn_iadd dL_law_290 ?_
            refine zn_iald (j := (6 * k) + (2)) dL_law_291 e0 (by omega) (by omega) ?_
            refine zp_aload_n dL_law_292 rfl ?_
            refine zp_iload_n dL_law_293 rfl ?_
            refine zp_iconst (v := nI (3)) dL_law_294 (by decide) ?_
            refine zn_iadd dL_law_295 ?_
            refine zn_iald (j := (6 * k) + (3)) dL_law_296 e0 (by omega) (by omega) ?_
            refine zp_pc (pc' := 297) rfl ?_
            have jn223 : zP g (mL_law nm) room_1 Qf cc ss 305 [some (.ref (0)), some (.ref (16)), some (.ref (64)), some (.int (nI (6 * k)))] [.int (nI (zbi (decide (¬ xs ((6 * k) + (3)) = 0)))), .int (xs ((6 * k) + (2))), .int (xs ((6 * k) + (1))), .ref (16)] h1 nn → zP g (mL_law nm) room_1 Qf cc ss 297 [some (.ref (0)), some (.ref (16)), some (.ref (64)), some (.int (nI (6 * k)))] [.int (xs ((6 * k) + (3))), .int (xs ((6 * k) + (2))), .int (xs ((6 * k) + (1))), .ref (16)] h1 nn := by
              intro jk223
              refine zp_if_eq (tgt := 304) dL_law_297 (by decide) (fun c297 => ?_) (fun c297 => ?_)
              · refine zp_iconst (v := nI (0)) dL_law_304 (by decide) ?_
                refine zp_pc (pc' := 305) rfl ?_
                refine zp_i (y := nI (zbi (decide (¬ xs ((6 * k) + (3)) = 0)))) (by rw [show (decide (¬ xs ((6 * k) + (3)) = 0)) = false from decide_eq_false (fun q => q c297)]; rfl) ?_
                exact jk223
              · refine zp_iconst (v := nI (1)) dL_law_300 (by decide) ?_
                refine zp_goto (tgt := 305) dL_law_301 (by decide) ?_
                refine zp_pc (pc' := 305) rfl ?_
                refine zp_i (y := nI (zbi (decide (¬ xs ((6 * k) + (3)) = 0)))) (by rw [show (decide (¬ xs ((6 * k) + (3)) = 0)) = true from decide_eq_true c297]; rfl) ?_
                exact jk223
            refine jn223 ?_
            refine zp_aload_n dL_law_305 rfl ?_
            refine zp_iload_n dL_law_306 rfl ?_
            refine zp_iconst (v := nI (4)) dL_law_307 (by decide) ?_
            refine zn_iadd dL_law_308 ?_
            refine zn_iald (j := (6 * k) + (4)) dL_law_309 e0 (by omega) (by omega) ?_
            refine zp_pc (pc' := 310) rfl ?_
            refine zp_callV (As := [.int (xs ((6 * k) + (1))), .int (xs ((6 * k) + (2))), .int (nI (zbi (decide (¬ xs ((6 * k) + (3)) = 0)))), .int (xs ((6 * k) + (4)))]) (k := 16) (st := []) (ci := 8) dL_law_310 cL_37 rfl HB.1 rfl rfl (e_open HB (by omega)) (by decide) ⟨by show cc + 5 ≤ 600000; omega, by show ss + 239 ≤ 7302250; omega⟩ (Nat.le_of_ble_eq_true rfl) (fun v224 h224 n224 q224 => ?_)
            obtain ⟨rfl, ⟨n1224, n2224⟩, s224, b224⟩ := q224
            refine zp_nrm (cells' := cc + 5) (slots' := ss + 239) (st' := [.int ((zqopen (xs ((6 * k) + (1))) (xs ((6 * k) + (2))) (decide (¬ xs ((6 * k) + (3)) = 0)) (xs ((6 * k) + (4))) (T, O, (w, rp, wi, pa, un, la, ru, sa, me, se, ta, fa), Gs)).1)]) rfl rfl rfl ?_
            have HM1 := hM.keep s224 (fun i hi => by unfold zxs at hi; omega) (Nat.le_refl _)
            have c1 : h224 0 = some (.inr (L, .inl xs)) := (s224 0 (by unfold zxs; omega)).trans e0
            have ht1 := ht0.sm s224 (fun i hi => by unfold zxs at hi; omega)
            obtain ⟨⟨th, mn, mq, sq, o64, -⟩, -⟩ := id HM1
            have o64 : h224 64 = some (.inl (10, [.int (th), .ref (65), .ref (66), .ref (67), .ref (68), .ref (69), .ref (70), .ref (71), .ref (72), .ref (73), .ref (74), .ref (75), .ref (76), .ref (77), .ref (78), .ref (79), .ref (80), .ref (81), .ref (82), .ref (83), .ref (84), .int (nI (w.length)), .int (nI (zbi un)), .int (rp), .int (wi), .int (pa), .int (la), .int (ru), .int (sa), .int (mq), .int (sq), .int (ta), .int (fa), .ref (85), .ref (86), .ref (87), .int (nI (mn)), .ref (88), .ref (89), .ref (90), .ref (91), .ref (92), .ref (93), .int (nI (T.length)), .ref (94), .int (nI (O.length))])) := o64
            refine zp_aload_n dL_law_313 rfl ?_
            refine zp_aload_n dL_law_314 rfl ?_
            refine zp_iload_n dL_law_315 rfl ?_
            refine zp_iconst (v := nI (1)) dL_law_316 (by decide) ?_
            refine zn_iadd dL_law_317 ?_
            refine zn_iald (j := (6 * k) + (1)) dL_law_318 c1 (by omega) (by omega) ?_
            refine zp_aload_n dL_law_319 rfl ?_
            refine zp_iload_n dL_law_320 rfl ?_
            refine zp_iconst (v := nI (2)) dL_law_321 (by decide) ?_
            refine zn_iadd dL_law_322 ?_
            refine zn_iald (j := (6 * k) + (2)) dL_law_323 c1 (by omega) (by omega) ?_
            refine zp_aload_n dL_law_324 rfl ?_
            refine zp_iload_n dL_law_325 rfl ?_
            refine zp_iconst (v := nI (3)) dL_law_326 (by decide) ?_
            refine zn_iadd dL_law_327 ?_
            refine zn_iald (j := (6 * k) + (3)) dL_law_328 c1 (by omega) (by omega) ?_
            refine zp_pc (pc' := 329) rfl ?_
            have jn225 : zP g (mL_law nm) room_1 Qf (cc + 5) (ss + 239) 337 [some (.ref (0)), some (.ref (16)), some (.ref (64)), some (.int (nI (6 * k)))] [.int (nI (zbi (decide (¬ xs ((6 * k) + (3)) = 0)))), .int (xs ((6 * k) + (2))), .int (xs ((6 * k) + (1))), .ref (64), .int ((zqopen (xs ((6 * k) + (1))) (xs ((6 * k) + (2))) (decide (¬ xs ((6 * k) + (3)) = 0)) (xs ((6 * k) + (4))) (T, O, (w, rp, wi, pa, un, la, ru, sa, me, se, ta, fa), Gs)).1)] h224 n224 → zP g (mL_law nm) room_1 Qf (cc + 5) (ss + 239) 329 [some (.ref (0)), some (.ref (16)), some (.ref (64)), some (.int (nI (6 * k)))] [.int (xs ((6 * k) + (3))), .int (xs ((6 * k) + (2))), .int (xs ((6 * k) + (1))), .ref (64), .int ((zqopen (xs ((6 * k) + (1))) (xs ((6 * k) + (2))) (decide (¬ xs ((6 * k) + (3)) = 0)) (xs ((6 * k) + (4))) (T, O, (w, rp, wi, pa, un, la, ru, sa, me, se, ta, fa), Gs)).1)] h224 n224 := by
              intro jk225
              refine zp_if_eq (tgt := 336) dL_law_329 (by decide) (fun c329 => ?_) (fun c329 => ?_)
              · refine zp_iconst (v := nI (0)) dL_law_336 (by decide) ?_
                refine zp_pc (pc' := 337) rfl ?_
                refine zp_i (y := nI (zbi (decide (¬ xs ((6 * k) + (3)) = 0)))) (by rw [show (decide (¬ xs ((6 * k) + (3)) = 0)) = false from decide_eq_false (fun q => q c329)]; rfl) ?_
                exact jk225
              · refine zp_iconst (v := nI (1)) dL_law_332 (by decide) ?_
                refine zp_goto (tgt := 337) dL_law_333 (by decide) ?_
                refine zp_pc (pc' := 337) rfl ?_
                refine zp_i (y := nI (zbi (decide (¬ xs ((6 * k) + (3)) = 0)))) (by rw [show (decide (¬ xs ((6 * k) + (3)) = 0)) = true from decide_eq_true c329]; rfl) ?_
                exact jk225
            refine jn225 ?_
            refine zp_aload_n dL_law_337 rfl ?_
            refine zp_iload_n dL_law_338 rfl ?_
            refine zp_iconst (v := nI (4)) dL_law_339 (by decide) ?_
            refine zn_iadd dL_law_340 ?_
            refine zn_iald (j := (6 * k) + (4)) dL_law_341 c1 (by omega) (by omega) ?_
            refine zp_pc (pc' := 342) rfl ?_
            refine zp_callV (As := [.int (xs ((6 * k) + (1))), .int (xs ((6 * k) + (2))), .int (nI (zbi (decide (¬ xs ((6 * k) + (3)) = 0)))), .int (xs ((6 * k) + (4)))]) (k := 64) (st := [.int ((zqopen (xs ((6 * k) + (1))) (xs ((6 * k) + (2))) (decide (¬ xs ((6 * k) + (3)) = 0)) (xs ((6 * k) + (4))) (T, O, (w, rp, wi, pa, un, la, ru, sa, me, se, ta, fa), Gs)).1)]) (ci := 10) dL_law_342 cL_41 rfl o64 rfl rfl (E_open HM1 (by omega)) (by decide) ⟨by show cc + 5 + 0 ≤ 600000; omega, by show ss + 239 + 0 ≤ 7302250; omega⟩ (Nat.le_of_ble_eq_true rfl) (fun v226 h226 n226 q226 => ?_)
            obtain ⟨rfl, N226, s226, m226⟩ := q226
            rw [N226]
            refine zp_nrm (cells' := cc + 5) (slots' := ss + 239) (st' := [.int ((zqopen (xs ((6 * k) + (1))) (xs ((6 * k) + (2))) (decide (¬ xs ((6 * k) + (3)) = 0)) (xs ((6 * k) + (4))) (T, O, (w, rp, wi, pa, un, la, ru, sa, me, se, ta, fa), Gs)).1), .int ((zqopen (xs ((6 * k) + (1))) (xs ((6 * k) + (2))) (decide (¬ xs ((6 * k) + (3)) = 0)) (xs ((6 * k) + (4))) (T, O, (w, rp, wi, pa, un, la, ru, sa, me, se, ta, fa), Gs)).1)]) rfl rfl rfl ?_
            have c2 : h226 0 = some (.inr (L, .inl xs)) := (s226 0 (by unfold zmA; omega)).trans c1
            have ht2 := ht1.sm s226 (fun i hi => by unfold zmA at hi; omega)
            obtain ⟨⟨T2, O2, S2, Gs2⟩, e2⟩ : ∃ q : ZSt, q = (zqopen (xs ((6 * k) + (1))) (xs ((6 * k) + (2))) (decide (¬ xs ((6 * k) + (3)) = 0)) (xs ((6 * k) + (4))) (T, O, (w, rp, wi, pa, un, la, ru, sa, me, se, ta, fa), Gs)).2 := ⟨_, rfl⟩
            rw [← e2] at b224 m226
            obtain ⟨A2, HB2⟩ := b224
            have HB3 := HB2.same s226 (fun i hi => by unfold zmA at hi; omega) (Nat.le_refl _) (Nat.le_refl _)
            refine zp_icmp_eq (tgt := 753) dL_law_345 (by decide) (fun c345 => ?_) (fun c345 => ?_)
            · refine zn_iinc 6 (ls' := [some (.ref (0)), some (.ref (16)), some (.ref (64)), some (.int (nI (6 * k + 6)))]) dL_law_753 (by decide) (Nat.le_of_ble_eq_true rfl) rfl rfl ?_
              refine zp_pc (pc' := 756) rfl ?_
              refine zp_ls (ls' := [some (.ref (0)), some (.ref (16)), some (.ref (64)), some (.int (nI (6 * (k + 1))))]) (by rw [Nat.mul_add]) ?_
              refine zp_goto (tgt := 18) dL_law_756 (by decide) ?_
              refine zp_pc (pc' := 18) rfl ?_
              exact ih (513 - (k + 1)) (by omega) (k + 1) (t + 2) (cc + 5) (ss + 239) n224 h226 T2 O2 S2 Gs2 rfl (by omega) (by omega) (by omega) (by omega) c2 ht2 ⟨_, HB3⟩ m226
            · exact absurd rfl c345
          · refine zp_tabIn (off := 317) (tgt := 350) dL_law_33 (by decide) (by decide) rfl (by decide) ?_
            refine zp_aload_n dL_law_350 rfl ?_
            refine zp_aload_n dL_law_351 rfl ?_
            refine zp_iload_n dL_law_352 rfl ?_
            refine zp_iconst (v := nI (1)) dL_law_353 (by decide) ?_
            refine zn_iadd dL_law_354 ?_
            refine zn_iald (j := (6 * k) + (1)) dL_law_355 e0 (by omega) (by omega) ?_
            refine zp_pc (pc' := 356) rfl ?_
            refine zp_callV (As := [.int (xs ((6 * k) + (1)))]) (k := 16) (st := []) (ci := 8) dL_law_356 cL_42 rfl HB.1 rfl rfl (e_close HB) (by decide) ⟨by show cc + 0 ≤ 600000; omega, by show ss + 0 ≤ 7302250; omega⟩ (Nat.le_of_ble_eq_true rfl) (fun v227 h227 n227 q227 => ?_)
            obtain ⟨rfl, N227, s227, b227⟩ := q227
            rw [N227]
            refine zp_nrm (cells' := cc) (slots' := ss) (st' := [.int (nI (zbi (zqclose (xs ((6 * k) + (1))) (T, O, (w, rp, wi, pa, un, la, ru, sa, me, se, ta, fa), Gs)).1))]) rfl rfl rfl ?_
            rw [N227] at b227
            have HM1 := hM.keep s227 (fun i hi => by unfold zxs at hi; omega) (Nat.le_refl _)
            have c1 : h227 0 = some (.inr (L, .inl xs)) := (s227 0 (by unfold zxs; omega)).trans e0
            have ht1 := ht0.sm s227 (fun i hi => by unfold zxs at hi; omega)
            obtain ⟨⟨th, mn, mq, sq, o64, -⟩, -⟩ := id HM1
            have o64 : h227 64 = some (.inl (10, [.int (th), .ref (65), .ref (66), .ref (67), .ref (68), .ref (69), .ref (70), .ref (71), .ref (72), .ref (73), .ref (74), .ref (75), .ref (76), .ref (77), .ref (78), .ref (79), .ref (80), .ref (81), .ref (82), .ref (83), .ref (84), .int (nI (w.length)), .int (nI (zbi un)), .int (rp), .int (wi), .int (pa), .int (la), .int (ru), .int (sa), .int (mq), .int (sq), .int (ta), .int (fa), .ref (85), .ref (86), .ref (87), .int (nI (mn)), .ref (88), .ref (89), .ref (90), .ref (91), .ref (92), .ref (93), .int (nI (T.length)), .ref (94), .int (nI (O.length))])) := o64
            refine zp_aload_n dL_law_359 rfl ?_
            refine zp_aload_n dL_law_360 rfl ?_
            refine zp_iload_n dL_law_361 rfl ?_
            refine zp_iconst (v := nI (1)) dL_law_362 (by decide) ?_
            refine zn_iadd dL_law_363 ?_
            refine zn_iald (j := (6 * k) + (1)) dL_law_364 c1 (by omega) (by omega) ?_
            refine zp_pc (pc' := 365) rfl ?_
            refine zp_callV (As := [.int (xs ((6 * k) + (1)))]) (k := 64) (st := [.int (nI (zbi (zqclose (xs ((6 * k) + (1))) (T, O, (w, rp, wi, pa, un, la, ru, sa, me, se, ta, fa), Gs)).1))]) (ci := 10) dL_law_365 cL_46 rfl o64 rfl rfl (E_close HM1) (by decide) ⟨by show cc + 0 ≤ 600000; omega, by show ss + 0 ≤ 7302250; omega⟩ (Nat.le_of_ble_eq_true rfl) (fun v228 h228 n228 q228 => ?_)
            obtain ⟨rfl, N228, s228, m228⟩ := q228
            rw [N228]
            refine zp_nrm (cells' := cc) (slots' := ss) (st' := [.int (nI (zbi (zqclose (xs ((6 * k) + (1))) (T, O, (w, rp, wi, pa, un, la, ru, sa, me, se, ta, fa), Gs)).1)), .int (nI (zbi (zqclose (xs ((6 * k) + (1))) (T, O, (w, rp, wi, pa, un, la, ru, sa, me, se, ta, fa), Gs)).1))]) rfl rfl rfl ?_
            have c2 : h228 0 = some (.inr (L, .inl xs)) := (s228 0 (by unfold zmA; omega)).trans c1
            have ht2 := ht1.sm s228 (fun i hi => by unfold zmA at hi; omega)
            obtain ⟨⟨T2, O2, S2, Gs2⟩, e2⟩ : ∃ q : ZSt, q = (zqclose (xs ((6 * k) + (1))) (T, O, (w, rp, wi, pa, un, la, ru, sa, me, se, ta, fa), Gs)).2 := ⟨_, rfl⟩
            rw [← e2] at b227 m228
            obtain ⟨A2, HB2⟩ := b227
            have HB3 := HB2.same s228 (fun i hi => by unfold zmA at hi; omega) (Nat.le_refl _) (Nat.le_refl _)
            refine zn_icmp_eq (tgt := 753) dL_law_368 (by decide) (by have := zbi_lt (zqclose (xs ((6 * k) + (1))) (T, O, (w, rp, wi, pa, un, la, ru, sa, me, se, ta, fa), Gs)).1; omega) (by have := zbi_lt (zqclose (xs ((6 * k) + (1))) (T, O, (w, rp, wi, pa, un, la, ru, sa, me, se, ta, fa), Gs)).1; omega) (fun c368 => ?_) (fun c368 => ?_)
            · refine zn_iinc 6 (ls' := [some (.ref (0)), some (.ref (16)), some (.ref (64)), some (.int (nI (6 * k + 6)))]) dL_law_753 (by decide) (Nat.le_of_ble_eq_true rfl) rfl rfl ?_
              refine zp_pc (pc' := 756) rfl ?_
              refine zp_ls (ls' := [some (.ref (0)), some (.ref (16)), some (.ref (64)), some (.int (nI (6 * (k + 1))))]) (by rw [Nat.mul_add]) ?_
              refine zp_goto (tgt := 18) dL_law_756 (by decide) ?_
              refine zp_pc (pc' := 18) rfl ?_
              exact ih (513 - (k + 1)) (by omega) (k + 1) (t + 2) (cc) (ss) nn h228 T2 O2 S2 Gs2 rfl (by omega) (by omega) (by omega) (by omega) c2 ht2 ⟨_, HB3⟩ m228
            · exact absurd rfl c368
          · refine zp_tabIn (off := 340) (tgt := 373) dL_law_33 (by decide) (by decide) rfl (by decide) ?_
            refine zp_aload_n dL_law_373 rfl ?_
            refine zp_aload_n dL_law_374 rfl ?_
            refine zp_iload_n dL_law_375 rfl ?_
            refine zp_iconst (v := nI (1)) dL_law_376 (by decide) ?_
            refine zn_iadd dL_law_377 ?_
            refine zn_iald (j := (6 * k) + (1)) dL_law_378 e0 (by omega) (by omega) ?_
            refine zp_aload_n dL_law_379 rfl ?_
            refine zp_iload_n dL_law_380 rfl ?_
            refine zp_iconst (v := nI (2)) dL_law_381 (by decide) ?_
            refine zn_iadd dL_law_382 ?_
            refine zn_iald (j := (6 * k) + (2)) dL_law_383 e0 (by omega) (by omega) ?_
            refine zp_pc (pc' := 384) rfl ?_
            have jn229 : zP g (mL_law nm) room_1 Qf cc ss 392 [some (.ref (0)), some (.ref (16)), some (.ref (64)), some (.int (nI (6 * k)))] [.int (nI (zbi (decide (¬ xs ((6 * k) + (2)) = 0)))), .int (xs ((6 * k) + (1))), .ref (16)] h1 nn → zP g (mL_law nm) room_1 Qf cc ss 384 [some (.ref (0)), some (.ref (16)), some (.ref (64)), some (.int (nI (6 * k)))] [.int (xs ((6 * k) + (2))), .int (xs ((6 * k) + (1))), .ref (16)] h1 nn := by
              intro jk229
              refine zp_if_eq (tgt := 391) dL_law_384 (by decide) (fun c384 => ?_) (fun c384 => ?_)
              · refine zp_iconst (v := nI (0)) dL_law_391 (by decide) ?_
                refine zp_pc (pc' := 392) rfl ?_
                refine zp_i (y := nI (zbi (decide (¬ xs ((6 * k) + (2)) = 0)))) (by rw [show (decide (¬ xs ((6 * k) + (2)) = 0)) = false from decide_eq_false (fun q => q c384)]; rfl) ?_
                exact jk229
              · refine zp_iconst (v := nI (1)) dL_law_387 (by decide) ?_
                refine zp_goto (tgt := 392) dL_law_388 (by decide) ?_
                refine zp_pc (pc' := 392) rfl ?_
                refine zp_i (y := nI (zbi (decide (¬ xs ((6 * k) + (2)) = 0)))) (by rw [show (decide (¬ xs ((6 * k) + (2)) = 0)) = true from decide_eq_true c384]; rfl) ?_
                exact jk229
            refine jn229 ?_
            refine zp_pc (pc' := 392) rfl ?_
            refine zp_callV (As := [.int (xs ((6 * k) + (1))), .int (nI (zbi (decide (¬ xs ((6 * k) + (2)) = 0))))]) (k := 16) (st := []) (ci := 8) dL_law_392 cL_47 rfl HB.1 rfl rfl (e_reseed HB (by omega)) (by decide) ⟨by show cc + 0 ≤ 600000; omega, by show ss + 0 ≤ 7302250; omega⟩ (Nat.le_of_ble_eq_true rfl) (fun v230 h230 n230 q230 => ?_)
            obtain ⟨rfl, N230, s230, b230⟩ := q230
            rw [N230]
            refine zp_nrm (cells' := cc) (slots' := ss) (st' := [.int ((zqreseed (xs ((6 * k) + (1))) (decide (¬ xs ((6 * k) + (2)) = 0)) (T, O, (w, rp, wi, pa, un, la, ru, sa, me, se, ta, fa), Gs)).1)]) rfl rfl rfl ?_
            rw [N230] at b230
            have HM1 := hM.keep s230 (fun i hi => by unfold zxs at hi; omega) (Nat.le_refl _)
            have c1 : h230 0 = some (.inr (L, .inl xs)) := (s230 0 (by unfold zxs; omega)).trans e0
            have ht1 := ht0.sm s230 (fun i hi => by unfold zxs at hi; omega)
            obtain ⟨⟨th, mn, mq, sq, o64, -⟩, -⟩ := id HM1
            have o64 : h230 64 = some (.inl (10, [.int (th), .ref (65), .ref (66), .ref (67), .ref (68), .ref (69), .ref (70), .ref (71), .ref (72), .ref (73), .ref (74), .ref (75), .ref (76), .ref (77), .ref (78), .ref (79), .ref (80), .ref (81), .ref (82), .ref (83), .ref (84), .int (nI (w.length)), .int (nI (zbi un)), .int (rp), .int (wi), .int (pa), .int (la), .int (ru), .int (sa), .int (mq), .int (sq), .int (ta), .int (fa), .ref (85), .ref (86), .ref (87), .int (nI (mn)), .ref (88), .ref (89), .ref (90), .ref (91), .ref (92), .ref (93), .int (nI (T.length)), .ref (94), .int (nI (O.length))])) := o64
            refine zp_aload_n dL_law_395 rfl ?_
            refine zp_aload_n dL_law_396 rfl ?_
            refine zp_iload_n dL_law_397 rfl ?_
            refine zp_iconst (v := nI (1)) dL_law_398 (by decide) ?_
            refine zn_iadd dL_law_399 ?_
            refine zn_iald (j := (6 * k) + (1)) dL_law_400 c1 (by omega) (by omega) ?_
            refine zp_aload_n dL_law_401 rfl ?_
            refine zp_iload_n dL_law_402 rfl ?_
            refine zp_iconst (v := nI (2)) dL_law_403 (by decide) ?_
            refine zn_iadd dL_law_404 ?_
            refine zn_iald (j := (6 * k) + (2)) dL_law_405 c1 (by omega) (by omega) ?_
            refine zp_pc (pc' := 406) rfl ?_
            have jn231 : zP g (mL_law nm) room_1 Qf cc ss 414 [some (.ref (0)), some (.ref (16)), some (.ref (64)), some (.int (nI (6 * k)))] [.int (nI (zbi (decide (¬ xs ((6 * k) + (2)) = 0)))), .int (xs ((6 * k) + (1))), .ref (64), .int ((zqreseed (xs ((6 * k) + (1))) (decide (¬ xs ((6 * k) + (2)) = 0)) (T, O, (w, rp, wi, pa, un, la, ru, sa, me, se, ta, fa), Gs)).1)] h230 nn → zP g (mL_law nm) room_1 Qf cc ss 406 [some (.ref (0)), some (.ref (16)), some (.ref (64)), some (.int (nI (6 * k)))] [.int (xs ((6 * k) + (2))), .int (xs ((6 * k) + (1))), .ref (64), .int ((zqreseed (xs ((6 * k) + (1))) (decide (¬ xs ((6 * k) + (2)) = 0)) (T, O, (w, rp, wi, pa, un, la, ru, sa, me, se, ta, fa), Gs)).1)] h230 nn := by
              intro jk231
              refine zp_if_eq (tgt := 413) dL_law_406 (by decide) (fun c406 => ?_) (fun c406 => ?_)
              · refine zp_iconst (v := nI (0)) dL_law_413 (by decide) ?_
                refine zp_pc (pc' := 414) rfl ?_
                refine zp_i (y := nI (zbi (decide (¬ xs ((6 * k) + (2)) = 0)))) (by rw [show (decide (¬ xs ((6 * k) + (2)) = 0)) = false from decide_eq_false (fun q => q c406)]; rfl) ?_
                exact jk231
              · refine zp_iconst (v := nI (1)) dL_law_409 (by decide) ?_
                refine zp_goto (tgt := 414) dL_law_410 (by decide) ?_
                refine zp_pc (pc' := 414) rfl ?_
                refine zp_i (y := nI (zbi (decide (¬ xs ((6 * k) + (2)) = 0)))) (by rw [show (decide (¬ xs ((6 * k) + (2)) = 0)) = true from decide_eq_true c406]; rfl) ?_
                exact jk231
            refine jn231 ?_
            refine zp_pc (pc' := 414) rfl ?_
            refine zp_callV (As := [.int (xs ((6 * k) + (1))), .int (nI (zbi (decide (¬ xs ((6 * k) + (2)) = 0))))]) (k := 64) (st := [.int ((zqreseed (xs ((6 * k) + (1))) (decide (¬ xs ((6 * k) + (2)) = 0)) (T, O, (w, rp, wi, pa, un, la, ru, sa, me, se, ta, fa), Gs)).1)]) (ci := 10) dL_law_414 cL_51 rfl o64 rfl rfl (E_reseed HM1 (by omega)) (by decide) ⟨by show cc + 0 ≤ 600000; omega, by show ss + 0 ≤ 7302250; omega⟩ (Nat.le_of_ble_eq_true rfl) (fun v232 h232 n232 q232 => ?_)
            obtain ⟨rfl, N232, s232, m232⟩ := q232
            rw [N232]
            refine zp_nrm (cells' := cc) (slots' := ss) (st' := [.int ((zqreseed (xs ((6 * k) + (1))) (decide (¬ xs ((6 * k) + (2)) = 0)) (T, O, (w, rp, wi, pa, un, la, ru, sa, me, se, ta, fa), Gs)).1), .int ((zqreseed (xs ((6 * k) + (1))) (decide (¬ xs ((6 * k) + (2)) = 0)) (T, O, (w, rp, wi, pa, un, la, ru, sa, me, se, ta, fa), Gs)).1)]) rfl rfl rfl ?_
            have c2 : h232 0 = some (.inr (L, .inl xs)) := (s232 0 (by unfold zmA; omega)).trans c1
            have ht2 := ht1.sm s232 (fun i hi => by unfold zmA at hi; omega)
            obtain ⟨⟨T2, O2, S2, Gs2⟩, e2⟩ : ∃ q : ZSt, q = (zqreseed (xs ((6 * k) + (1))) (decide (¬ xs ((6 * k) + (2)) = 0)) (T, O, (w, rp, wi, pa, un, la, ru, sa, me, se, ta, fa), Gs)).2 := ⟨_, rfl⟩
            rw [← e2] at b230 m232
            obtain ⟨A2, HB2⟩ := b230
            have HB3 := HB2.same s232 (fun i hi => by unfold zmA at hi; omega) (Nat.le_refl _) (Nat.le_refl _)
            refine zp_icmp_eq (tgt := 753) dL_law_417 (by decide) (fun c417 => ?_) (fun c417 => ?_)
            · refine zn_iinc 6 (ls' := [some (.ref (0)), some (.ref (16)), some (.ref (64)), some (.int (nI (6 * k + 6)))]) dL_law_753 (by decide) (Nat.le_of_ble_eq_true rfl) rfl rfl ?_
              refine zp_pc (pc' := 756) rfl ?_
              refine zp_ls (ls' := [some (.ref (0)), some (.ref (16)), some (.ref (64)), some (.int (nI (6 * (k + 1))))]) (by rw [Nat.mul_add]) ?_
              refine zp_goto (tgt := 18) dL_law_756 (by decide) ?_
              refine zp_pc (pc' := 18) rfl ?_
              exact ih (513 - (k + 1)) (by omega) (k + 1) (t + 2) (cc) (ss) nn h232 T2 O2 S2 Gs2 rfl (by omega) (by omega) (by omega) (by omega) c2 ht2 ⟨_, HB3⟩ m232
            · exact absurd rfl c417
          · refine zp_tabIn (off := 389) (tgt := 422) dL_law_33 (by decide) (by decide) rfl (by decide) ?_
            refine zp_aload_n dL_law_422 rfl ?_
            refine zp_aload_n dL_law_423 rfl ?_
            refine zp_iload_n dL_law_424 rfl ?_
            refine zp_iconst (v := nI (1)) dL_law_425 (by decide) ?_
            refine zn_iadd dL_law_426 ?_
            refine zn_iald (j := (6 * k) + (1)) dL_law_427 e0 (by omega) (by omega) ?_
            refine zp_aload_n dL_law_428 rfl ?_
            refine zp_iload_n dL_law_429 rfl ?_
            refine zp_iconst (v := nI (2)) dL_law_430 (by decide) ?_
            refine zn_iadd dL_law_431 ?_
            refine zn_iald (j := (6 * k) + (2)) dL_law_432 e0 (by omega) (by omega) ?_
            refine zp_aload_n dL_law_433 rfl ?_
            refine zp_iload_n dL_law_434 rfl ?_
            refine zp_iconst (v := nI (3)) dL_law_435 (by decide) ?_
            refine zn_iadd dL_law_436 ?_
            refine zn_iald (j := (6 * k) + (3)) dL_law_437 e0 (by omega) (by omega) ?_
            refine zp_aload_n dL_law_438 rfl ?_
            refine zp_iload_n dL_law_439 rfl ?_
            refine zp_iconst (v := nI (4)) dL_law_440 (by decide) ?_
            refine zn_iadd dL_law_441 ?_
            refine zn_iald (j := (6 * k) + (4)) dL_law_442 e0 (by omega) (by omega) ?_
            refine zp_pc (pc' := 443) rfl ?_
            have jn233 : zP g (mL_law nm) room_1 Qf cc ss 451 [some (.ref (0)), some (.ref (16)), some (.ref (64)), some (.int (nI (6 * k)))] [.int (nI (zbi (decide (¬ xs ((6 * k) + (4)) = 0)))), .int (xs ((6 * k) + (3))), .int (xs ((6 * k) + (2))), .int (xs ((6 * k) + (1))), .ref (16)] h1 nn → zP g (mL_law nm) room_1 Qf cc ss 443 [some (.ref (0)), some (.ref (16)), some (.ref (64)), some (.int (nI (6 * k)))] [.int (xs ((6 * k) + (4))), .int (xs ((6 * k) + (3))), .int (xs ((6 * k) + (2))), .int (xs ((6 * k) + (1))), .ref (16)] h1 nn := by
              intro jk233
              refine zp_if_eq (tgt := 450) dL_law_443 (by decide) (fun c443 => ?_) (fun c443 => ?_)
              · refine zp_iconst (v := nI (0)) dL_law_450 (by decide) ?_
                refine zp_pc (pc' := 451) rfl ?_
                refine zp_i (y := nI (zbi (decide (¬ xs ((6 * k) + (4)) = 0)))) (by rw [show (decide (¬ xs ((6 * k) + (4)) = 0)) = false from decide_eq_false (fun q => q c443)]; rfl) ?_
                exact jk233
              · refine zp_iconst (v := nI (1)) dL_law_446 (by decide) ?_
                refine zp_goto (tgt := 451) dL_law_447 (by decide) ?_
                refine zp_pc (pc' := 451) rfl ?_
                refine zp_i (y := nI (zbi (decide (¬ xs ((6 * k) + (4)) = 0)))) (by rw [show (decide (¬ xs ((6 * k) + (4)) = 0)) = true from decide_eq_true c443]; rfl) ?_
                exact jk233
            refine jn233 ?_
            refine zp_pc (pc' := 451) rfl ?_
            refine zp_callV (As := [.int (xs ((6 * k) + (1))), .int (xs ((6 * k) + (2))), .int (xs ((6 * k) + (3))), .int (nI (zbi (decide (¬ xs ((6 * k) + (4)) = 0))))]) (k := 16) (st := []) (ci := 8) dL_law_451 cL_52 rfl HB.1 rfl rfl (e_draw HB (by omega)) (by decide) ⟨by show cc + 0 ≤ 600000; omega, by show ss + 0 ≤ 7302250; omega⟩ (Nat.le_of_ble_eq_true rfl) (fun v234 h234 n234 q234 => ?_)
            obtain ⟨rfl, N234, s234, b234⟩ := q234
            rw [N234]
            refine zp_nrm (cells' := cc) (slots' := ss) (st' := [.int ((zqdraw (xs ((6 * k) + (1))) (xs ((6 * k) + (2))) (xs ((6 * k) + (3))) (decide (¬ xs ((6 * k) + (4)) = 0)) (T, O, (w, rp, wi, pa, un, la, ru, sa, me, se, ta, fa), Gs)).1)]) rfl rfl rfl ?_
            rw [N234] at b234
            have HM1 := hM.keep s234 (fun i hi => by unfold zxs at hi; omega) (Nat.le_refl _)
            have c1 : h234 0 = some (.inr (L, .inl xs)) := (s234 0 (by unfold zxs; omega)).trans e0
            have ht1 := ht0.sm s234 (fun i hi => by unfold zxs at hi; omega)
            obtain ⟨⟨th, mn, mq, sq, o64, -⟩, -⟩ := id HM1
            have o64 : h234 64 = some (.inl (10, [.int (th), .ref (65), .ref (66), .ref (67), .ref (68), .ref (69), .ref (70), .ref (71), .ref (72), .ref (73), .ref (74), .ref (75), .ref (76), .ref (77), .ref (78), .ref (79), .ref (80), .ref (81), .ref (82), .ref (83), .ref (84), .int (nI (w.length)), .int (nI (zbi un)), .int (rp), .int (wi), .int (pa), .int (la), .int (ru), .int (sa), .int (mq), .int (sq), .int (ta), .int (fa), .ref (85), .ref (86), .ref (87), .int (nI (mn)), .ref (88), .ref (89), .ref (90), .ref (91), .ref (92), .ref (93), .int (nI (T.length)), .ref (94), .int (nI (O.length))])) := o64
            refine zp_aload_n dL_law_454 rfl ?_
            refine zp_aload_n dL_law_455 rfl ?_
            refine zp_iload_n dL_law_456 rfl ?_
            refine zp_iconst (v := nI (1)) dL_law_457 (by decide) ?_
            refine zn_iadd dL_law_458 ?_
            refine zn_iald (j := (6 * k) + (1)) dL_law_459 c1 (by omega) (by omega) ?_
            refine zp_aload_n dL_law_460 rfl ?_
            refine zp_iload_n dL_law_461 rfl ?_
            refine zp_iconst (v := nI (2)) dL_law_462 (by decide) ?_
            refine zn_iadd dL_law_463 ?_
            refine zn_iald (j := (6 * k) + (2)) dL_law_464 c1 (by omega) (by omega) ?_
            refine zp_aload_n dL_law_465 rfl ?_
            refine zp_iload_n dL_law_466 rfl ?_
            refine zp_iconst (v := nI (3)) dL_law_467 (by decide) ?_
            refine zn_iadd dL_law_468 ?_
            refine zn_iald (j := (6 * k) + (3)) dL_law_469 c1 (by omega) (by omega) ?_
            refine zp_aload_n dL_law_470 rfl ?_
            refine zp_iload_n dL_law_471 rfl ?_
            refine zp_iconst (v := nI (4)) dL_law_472 (by decide) ?_
            refine zn_iadd dL_law_473 ?_
            refine zn_iald (j := (6 * k) + (4)) dL_law_474 c1 (by omega) (by omega) ?_
            refine zp_pc (pc' := 475) rfl ?_
            have jn235 : zP g (mL_law nm) room_1 Qf cc ss 483 [some (.ref (0)), some (.ref (16)), some (.ref (64)), some (.int (nI (6 * k)))] [.int (nI (zbi (decide (¬ xs ((6 * k) + (4)) = 0)))), .int (xs ((6 * k) + (3))), .int (xs ((6 * k) + (2))), .int (xs ((6 * k) + (1))), .ref (64), .int ((zqdraw (xs ((6 * k) + (1))) (xs ((6 * k) + (2))) (xs ((6 * k) + (3))) (decide (¬ xs ((6 * k) + (4)) = 0)) (T, O, (w, rp, wi, pa, un, la, ru, sa, me, se, ta, fa), Gs)).1)] h234 nn → zP g (mL_law nm) room_1 Qf cc ss 475 [some (.ref (0)), some (.ref (16)), some (.ref (64)), some (.int (nI (6 * k)))] [.int (xs ((6 * k) + (4))), .int (xs ((6 * k) + (3))), .int (xs ((6 * k) + (2))), .int (xs ((6 * k) + (1))), .ref (64), .int ((zqdraw (xs ((6 * k) + (1))) (xs ((6 * k) + (2))) (xs ((6 * k) + (3))) (decide (¬ xs ((6 * k) + (4)) = 0)) (T, O, (w, rp, wi, pa, un, la, ru, sa, me, se, ta, fa), Gs)).1)] h234 nn := by
              intro jk235
              refine zp_if_eq (tgt := 482) dL_law_475 (by decide) (fun c475 => ?_) (fun c475 => ?_)
              · refine zp_iconst (v := nI (0)) dL_law_482 (by decide) ?_
                refine zp_pc (pc' := 483) rfl ?_
                refine zp_i (y := nI (zbi (decide (¬ xs ((6 * k) + (4)) = 0)))) (by rw [show (decide (¬ xs ((6 * k) + (4)) = 0)) = false from decide_eq_false (fun q => q c475)]; rfl) ?_
                exact jk235
              · refine zp_iconst (v := nI (1)) dL_law_478 (by decide) ?_
                refine zp_goto (tgt := 483) dL_law_479 (by decide) ?_
                refine zp_pc (pc' := 483) rfl ?_
                refine zp_i (y := nI (zbi (decide (¬ xs ((6 * k) + (4)) = 0)))) (by rw [show (decide (¬ xs ((6 * k) + (4)) = 0)) = true from decide_eq_true c475]; rfl) ?_
                exact jk235
            refine jn235 ?_
            refine zp_pc (pc' := 483) rfl ?_
            refine zp_callV (As := [.int (xs ((6 * k) + (1))), .int (xs ((6 * k) + (2))), .int (xs ((6 * k) + (3))), .int (nI (zbi (decide (¬ xs ((6 * k) + (4)) = 0))))]) (k := 64) (st := [.int ((zqdraw (xs ((6 * k) + (1))) (xs ((6 * k) + (2))) (xs ((6 * k) + (3))) (decide (¬ xs ((6 * k) + (4)) = 0)) (T, O, (w, rp, wi, pa, un, la, ru, sa, me, se, ta, fa), Gs)).1)]) (ci := 10) dL_law_483 cL_56 rfl o64 rfl rfl (E_draw HM1 (by omega)) (by decide) ⟨by show cc + 0 ≤ 600000; omega, by show ss + 0 ≤ 7302250; omega⟩ (Nat.le_of_ble_eq_true rfl) (fun v236 h236 n236 q236 => ?_)
            obtain ⟨rfl, N236, s236, m236⟩ := q236
            rw [N236]
            refine zp_nrm (cells' := cc) (slots' := ss) (st' := [.int ((zqdraw (xs ((6 * k) + (1))) (xs ((6 * k) + (2))) (xs ((6 * k) + (3))) (decide (¬ xs ((6 * k) + (4)) = 0)) (T, O, (w, rp, wi, pa, un, la, ru, sa, me, se, ta, fa), Gs)).1), .int ((zqdraw (xs ((6 * k) + (1))) (xs ((6 * k) + (2))) (xs ((6 * k) + (3))) (decide (¬ xs ((6 * k) + (4)) = 0)) (T, O, (w, rp, wi, pa, un, la, ru, sa, me, se, ta, fa), Gs)).1)]) rfl rfl rfl ?_
            have c2 : h236 0 = some (.inr (L, .inl xs)) := (s236 0 (by unfold zmA; omega)).trans c1
            have ht2 := ht1.sm s236 (fun i hi => by unfold zmA at hi; omega)
            obtain ⟨⟨T2, O2, S2, Gs2⟩, e2⟩ : ∃ q : ZSt, q = (zqdraw (xs ((6 * k) + (1))) (xs ((6 * k) + (2))) (xs ((6 * k) + (3))) (decide (¬ xs ((6 * k) + (4)) = 0)) (T, O, (w, rp, wi, pa, un, la, ru, sa, me, se, ta, fa), Gs)).2 := ⟨_, rfl⟩
            rw [← e2] at b234 m236
            obtain ⟨A2, HB2⟩ := b234
            have HB3 := HB2.same s236 (fun i hi => by unfold zmA at hi; omega) (Nat.le_refl _) (Nat.le_refl _)
            refine zp_icmp_eq (tgt := 753) dL_law_486 (by decide) (fun c486 => ?_) (fun c486 => ?_)
            · refine zn_iinc 6 (ls' := [some (.ref (0)), some (.ref (16)), some (.ref (64)), some (.int (nI (6 * k + 6)))]) dL_law_753 (by decide) (Nat.le_of_ble_eq_true rfl) rfl rfl ?_
              refine zp_pc (pc' := 756) rfl ?_
              refine zp_ls (ls' := [some (.ref (0)), some (.ref (16)), some (.ref (64)), some (.int (nI (6 * (k + 1))))]) (by rw [Nat.mul_add]) ?_
              refine zp_goto (tgt := 18) dL_law_756 (by decide) ?_
              refine zp_pc (pc' := 18) rfl ?_
              exact ih (513 - (k + 1)) (by omega) (k + 1) (t + 2) (cc) (ss) nn h236 T2 O2 S2 Gs2 rfl (by omega) (by omega) (by omega) (by omega) c2 ht2 ⟨_, HB3⟩ m236
            · exact absurd rfl c486
          · refine zp_tabIn (off := 458) (tgt := 491) dL_law_33 (by decide) (by decide) rfl (by decide) ?_
            refine zp_aload_n dL_law_491 rfl ?_
            refine zp_aload_n dL_law_492 rfl ?_
            refine zp_iload_n dL_law_493 rfl ?_
            refine zp_iconst (v := nI (1)) dL_law_494 (by decide) ?_
            refine zn_iadd dL_law_495 ?_
            refine zn_iald (j := (6 * k) + (1)) dL_law_496 e0 (by omega) (by omega) ?_
            refine zp_pc (pc' := 497) rfl ?_
            refine zp_callV (As := [.int (xs ((6 * k) + (1)))]) (k := 16) (st := []) (ci := 8) dL_law_497 cL_57 rfl HB.1 rfl rfl (e_drawn HB) (by decide) ⟨by show cc + 0 ≤ 600000; omega, by show ss + 0 ≤ 7302250; omega⟩ (Nat.le_of_ble_eq_true rfl) (fun v237 h237 n237 q237 => ?_)
            obtain ⟨rfl, H237, N237⟩ := q237
            rw [N237, H237]
            refine zp_nrm (cells' := cc) (slots' := ss) (st' := [.int ((zqdrawn (xs ((6 * k) + (1))) (T, O, (w, rp, wi, pa, un, la, ru, sa, me, se, ta, fa), Gs)))]) rfl rfl rfl ?_
            have HM1 := hM
            obtain ⟨⟨th, mn, mq, sq, o64, -⟩, -⟩ := id HM1
            have o64 : h1 64 = some (.inl (10, [.int (th), .ref (65), .ref (66), .ref (67), .ref (68), .ref (69), .ref (70), .ref (71), .ref (72), .ref (73), .ref (74), .ref (75), .ref (76), .ref (77), .ref (78), .ref (79), .ref (80), .ref (81), .ref (82), .ref (83), .ref (84), .int (nI (w.length)), .int (nI (zbi un)), .int (rp), .int (wi), .int (pa), .int (la), .int (ru), .int (sa), .int (mq), .int (sq), .int (ta), .int (fa), .ref (85), .ref (86), .ref (87), .int (nI (mn)), .ref (88), .ref (89), .ref (90), .ref (91), .ref (92), .ref (93), .int (nI (T.length)), .ref (94), .int (nI (O.length))])) := o64
            refine zp_aload_n dL_law_500 rfl ?_
            refine zp_aload_n dL_law_501 rfl ?_
            refine zp_iload_n dL_law_502 rfl ?_
            refine zp_iconst (v := nI (1)) dL_law_503 (by decide) ?_
            refine zn_iadd dL_law_504 ?_
            refine zn_iald (j := (6 * k) + (1)) dL_law_505 e0 (by omega) (by omega) ?_
            refine zp_pc (pc' := 506) rfl ?_
            refine zp_callV (As := [.int (xs ((6 * k) + (1)))]) (k := 64) (st := [.int ((zqdrawn (xs ((6 * k) + (1))) (T, O, (w, rp, wi, pa, un, la, ru, sa, me, se, ta, fa), Gs)))]) (ci := 10) dL_law_506 cL_60 rfl o64 rfl rfl (E_drawn HM1) (by decide) ⟨by show cc + 0 ≤ 600000; omega, by show ss + 0 ≤ 7302250; omega⟩ (Nat.le_of_ble_eq_true rfl) (fun v238 h238 n238 q238 => ?_)
            obtain ⟨rfl, N238, s238, m238⟩ := q238
            rw [N238]
            refine zp_nrm (cells' := cc) (slots' := ss) (st' := [.int ((zqdrawn (xs ((6 * k) + (1))) (T, O, (w, rp, wi, pa, un, la, ru, sa, me, se, ta, fa), Gs))), .int ((zqdrawn (xs ((6 * k) + (1))) (T, O, (w, rp, wi, pa, un, la, ru, sa, me, se, ta, fa), Gs)))]) rfl rfl rfl ?_
            have c1 := e0
            have ht1 := ht0
            have c2 : h238 0 = some (.inr (L, .inl xs)) := (s238 0 (by unfold zmA; omega)).trans c1
            have ht2 := ht1.sm s238 (fun i hi => by unfold zmA at hi; omega)
            have HB3 := HB.same (t' := t + 2) s238 (fun i hi => by unfold zmA at hi; omega) (Nat.le_refl _) (by omega)
            refine zp_icmp_eq (tgt := 753) dL_law_509 (by decide) (fun c509 => ?_) (fun c509 => ?_)
            · refine zn_iinc 6 (ls' := [some (.ref (0)), some (.ref (16)), some (.ref (64)), some (.int (nI (6 * k + 6)))]) dL_law_753 (by decide) (Nat.le_of_ble_eq_true rfl) rfl rfl ?_
              refine zp_pc (pc' := 756) rfl ?_
              refine zp_ls (ls' := [some (.ref (0)), some (.ref (16)), some (.ref (64)), some (.int (nI (6 * (k + 1))))]) (by rw [Nat.mul_add]) ?_
              refine zp_goto (tgt := 18) dL_law_756 (by decide) ?_
              refine zp_pc (pc' := 18) rfl ?_
              exact ih (513 - (k + 1)) (by omega) (k + 1) (t + 2) (cc) (ss) nn h238 T O (w, rp, wi, pa, un, la, ru, sa, me, se, ta, fa) Gs rfl (by omega) (by omega) (by omega) (by omega) c2 ht2 ⟨_, HB3⟩ m238
            · exact absurd rfl c509
          · refine zp_tabIn (off := 481) (tgt := 514) dL_law_33 (by decide) (by decide) rfl (by decide) ?_
            refine zp_aload_n dL_law_514 rfl ?_
            refine zp_aload_n dL_law_515 rfl ?_
            refine zp_iload_n dL_law_516 rfl ?_
            refine zp_iconst (v := nI (1)) dL_law_517 (by decide) ?_
            refine zn_iadd dL_law_518 ?_
            refine zn_iald (j := (6 * k) + (1)) dL_law_519 e0 (by omega) (by omega) ?_
            refine zp_aload_n dL_law_520 rfl ?_
            refine zp_iload_n dL_law_521 rfl ?_
            refine zp_iconst (v := nI (2)) dL_law_522 (by decide) ?_
            refine zn_iadd dL_law_523 ?_
            refine zn_iald (j := (6 * k) + (2)) dL_law_524 e0 (by omega) (by omega) ?_
            refine zp_pc (pc' := 525) rfl ?_
            refine zp_callV (As := [.int (xs ((6 * k) + (1))), .int (xs ((6 * k) + (2)))]) (k := 16) (st := []) (ci := 8) dL_law_525 cL_61 rfl HB.1 rfl rfl (e_generator HB) (by decide) ⟨by show cc + 0 ≤ 600000; omega, by show ss + 0 ≤ 7302250; omega⟩ (Nat.le_of_ble_eq_true rfl) (fun v239 h239 n239 q239 => ?_)
            obtain ⟨rfl, H239, N239⟩ := q239
            rw [N239, H239]
            refine zp_nrm (cells' := cc) (slots' := ss) (st' := [.int ((zqgen (xs ((6 * k) + (1))) (xs ((6 * k) + (2))) (T, O, (w, rp, wi, pa, un, la, ru, sa, me, se, ta, fa), Gs)))]) rfl rfl rfl ?_
            have HM1 := hM
            obtain ⟨⟨th, mn, mq, sq, o64, -⟩, -⟩ := id HM1
            have o64 : h1 64 = some (.inl (10, [.int (th), .ref (65), .ref (66), .ref (67), .ref (68), .ref (69), .ref (70), .ref (71), .ref (72), .ref (73), .ref (74), .ref (75), .ref (76), .ref (77), .ref (78), .ref (79), .ref (80), .ref (81), .ref (82), .ref (83), .ref (84), .int (nI (w.length)), .int (nI (zbi un)), .int (rp), .int (wi), .int (pa), .int (la), .int (ru), .int (sa), .int (mq), .int (sq), .int (ta), .int (fa), .ref (85), .ref (86), .ref (87), .int (nI (mn)), .ref (88), .ref (89), .ref (90), .ref (91), .ref (92), .ref (93), .int (nI (T.length)), .ref (94), .int (nI (O.length))])) := o64
            refine zp_aload_n dL_law_528 rfl ?_
            refine zp_aload_n dL_law_529 rfl ?_
            refine zp_iload_n dL_law_530 rfl ?_
            refine zp_iconst (v := nI (1)) dL_law_531 (by decide) ?_
            refine zn_iadd dL_law_532 ?_
            refine zn_iald (j := (6 * k) + (1)) dL_law_533 e0 (by omega) (by omega) ?_
            refine zp_aload_n dL_law_534 rfl ?_
            refine zp_iload_n dL_law_535 rfl ?_
            refine zp_iconst (v := nI (2)) dL_law_536 (by decide) ?_
            refine zn_iadd dL_law_537 ?_
            refine zn_iald (j := (6 * k) + (2)) dL_law_538 e0 (by omega) (by omega) ?_
            refine zp_pc (pc' := 539) rfl ?_
            refine zp_callV (As := [.int (xs ((6 * k) + (1))), .int (xs ((6 * k) + (2)))]) (k := 64) (st := [.int ((zqgen (xs ((6 * k) + (1))) (xs ((6 * k) + (2))) (T, O, (w, rp, wi, pa, un, la, ru, sa, me, se, ta, fa), Gs)))]) (ci := 10) dL_law_539 cL_65 rfl o64 rfl rfl (E_generator HM1) (by decide) ⟨by show cc + 0 ≤ 600000; omega, by show ss + 0 ≤ 7302250; omega⟩ (Nat.le_of_ble_eq_true rfl) (fun v240 h240 n240 q240 => ?_)
            obtain ⟨rfl, N240, s240, m240⟩ := q240
            rw [N240]
            refine zp_nrm (cells' := cc) (slots' := ss) (st' := [.int ((zqgen (xs ((6 * k) + (1))) (xs ((6 * k) + (2))) (T, O, (w, rp, wi, pa, un, la, ru, sa, me, se, ta, fa), Gs))), .int ((zqgen (xs ((6 * k) + (1))) (xs ((6 * k) + (2))) (T, O, (w, rp, wi, pa, un, la, ru, sa, me, se, ta, fa), Gs)))]) rfl rfl rfl ?_
            have c1 := e0
            have ht1 := ht0
            have c2 : h240 0 = some (.inr (L, .inl xs)) := (s240 0 (by unfold zmA; omega)).trans c1
            have ht2 := ht1.sm s240 (fun i hi => by unfold zmA at hi; omega)
            have HB3 := HB.same (t' := t + 2) s240 (fun i hi => by unfold zmA at hi; omega) (Nat.le_refl _) (by omega)
            refine zp_icmp_eq (tgt := 753) dL_law_542 (by decide) (fun c542 => ?_) (fun c542 => ?_)
            · refine zn_iinc 6 (ls' := [some (.ref (0)), some (.ref (16)), some (.ref (64)), some (.int (nI (6 * k + 6)))]) dL_law_753 (by decide) (Nat.le_of_ble_eq_true rfl) rfl rfl ?_
              refine zp_pc (pc' := 756) rfl ?_
              refine zp_ls (ls' := [some (.ref (0)), some (.ref (16)), some (.ref (64)), some (.int (nI (6 * (k + 1))))]) (by rw [Nat.mul_add]) ?_
              refine zp_goto (tgt := 18) dL_law_756 (by decide) ?_
              refine zp_pc (pc' := 18) rfl ?_
              exact ih (513 - (k + 1)) (by omega) (k + 1) (t + 2) (cc) (ss) nn h240 T O (w, rp, wi, pa, un, la, ru, sa, me, se, ta, fa) Gs rfl (by omega) (by omega) (by omega) (by omega) c2 ht2 ⟨_, HB3⟩ m240
            · exact absurd rfl c542
          · refine zp_tabIn (off := 514) (tgt := 547) dL_law_33 (by decide) (by decide) rfl (by decide) ?_
            refine zp_aload_n dL_law_547 rfl ?_
            refine zp_aload_n dL_law_548 rfl ?_
            refine zp_iload_n dL_law_549 rfl ?_
            refine zp_iconst (v := nI (1)) dL_law_550 (by decide) ?_
            refine zn_iadd dL_law_551 ?_
            refine zn_iald (j := (6 * k) + (1)) dL_law_552 e0 (by omega) (by omega) ?_
            refine zp_aload_n dL_law_553 rfl ?_
            refine zp_iload_n dL_law_554 rfl ?_
            refine zp_iconst (v := nI (2)) dL_law_555 (by decide) ?_
            refine zn_iadd dL_law_556 ?_
            refine zn_iald (j := (6 * k) + (2)) dL_law_557 e0 (by omega) (by omega) ?_
            refine zp_aload_n dL_law_558 rfl ?_
            refine zp_iload_n dL_law_559 rfl ?_
            refine zp_iconst (v := nI (3)) dL_law_560 (by decide) ?_
            refine zn_iadd dL_law_561 ?_
            refine zn_iald (j := (6 * k) + (3)) dL_law_562 e0 (by omega) (by omega) ?_
            refine zp_pc (pc' := 563) rfl ?_
            refine zp_callV (As := [.int (xs ((6 * k) + (1))), .int (xs ((6 * k) + (2))), .int (xs ((6 * k) + (3)))]) (k := 16) (st := []) (ci := 8) dL_law_563 cL_66 rfl HB.1 rfl rfl (e_state HB) (by decide) ⟨by show cc + 0 ≤ 600000; omega, by show ss + 0 ≤ 7302250; omega⟩ (Nat.le_of_ble_eq_true rfl) (fun v241 h241 n241 q241 => ?_)
            obtain ⟨rfl, H241, N241⟩ := q241
            rw [N241, H241]
            refine zp_nrm (cells' := cc) (slots' := ss) (st' := [.int ((zqstate (xs ((6 * k) + (1))) (xs ((6 * k) + (2))) (xs ((6 * k) + (3))) (T, O, (w, rp, wi, pa, un, la, ru, sa, me, se, ta, fa), Gs)))]) rfl rfl rfl ?_
            have HM1 := hM
            obtain ⟨⟨th, mn, mq, sq, o64, -⟩, -⟩ := id HM1
            have o64 : h1 64 = some (.inl (10, [.int (th), .ref (65), .ref (66), .ref (67), .ref (68), .ref (69), .ref (70), .ref (71), .ref (72), .ref (73), .ref (74), .ref (75), .ref (76), .ref (77), .ref (78), .ref (79), .ref (80), .ref (81), .ref (82), .ref (83), .ref (84), .int (nI (w.length)), .int (nI (zbi un)), .int (rp), .int (wi), .int (pa), .int (la), .int (ru), .int (sa), .int (mq), .int (sq), .int (ta), .int (fa), .ref (85), .ref (86), .ref (87), .int (nI (mn)), .ref (88), .ref (89), .ref (90), .ref (91), .ref (92), .ref (93), .int (nI (T.length)), .ref (94), .int (nI (O.length))])) := o64
            refine zp_aload_n dL_law_566 rfl ?_
            refine zp_aload_n dL_law_567 rfl ?_
            refine zp_iload_n dL_law_568 rfl ?_
            refine zp_iconst (v := nI (1)) dL_law_569 (by decide) ?_
            refine zn_iadd dL_law_570 ?_
            refine zn_iald (j := (6 * k) + (1)) dL_law_571 e0 (by omega) (by omega) ?_
            refine zp_aload_n dL_law_572 rfl ?_
            refine zp_iload_n dL_law_573 rfl ?_
            refine zp_iconst (v := nI (2)) dL_law_574 (by decide) ?_
            refine zn_iadd dL_law_575 ?_
            refine zn_iald (j := (6 * k) + (2)) dL_law_576 e0 (by omega) (by omega) ?_
            refine zp_aload_n dL_law_577 rfl ?_
            refine zp_iload_n dL_law_578 rfl ?_
            refine zp_iconst (v := nI (3)) dL_law_579 (by decide) ?_
            refine zn_iadd dL_law_580 ?_
            refine zn_iald (j := (6 * k) + (3)) dL_law_581 e0 (by omega) (by omega) ?_
            refine zp_pc (pc' := 582) rfl ?_
            refine zp_callV (As := [.int (xs ((6 * k) + (1))), .int (xs ((6 * k) + (2))), .int (xs ((6 * k) + (3)))]) (k := 64) (st := [.int ((zqstate (xs ((6 * k) + (1))) (xs ((6 * k) + (2))) (xs ((6 * k) + (3))) (T, O, (w, rp, wi, pa, un, la, ru, sa, me, se, ta, fa), Gs)))]) (ci := 10) dL_law_582 cL_70 rfl o64 rfl rfl (E_state HM1) (by decide) ⟨by show cc + 0 ≤ 600000; omega, by show ss + 0 ≤ 7302250; omega⟩ (Nat.le_of_ble_eq_true rfl) (fun v242 h242 n242 q242 => ?_)
            obtain ⟨rfl, N242, s242, m242⟩ := q242
            rw [N242]
            refine zp_nrm (cells' := cc) (slots' := ss) (st' := [.int ((zqstate (xs ((6 * k) + (1))) (xs ((6 * k) + (2))) (xs ((6 * k) + (3))) (T, O, (w, rp, wi, pa, un, la, ru, sa, me, se, ta, fa), Gs))), .int ((zqstate (xs ((6 * k) + (1))) (xs ((6 * k) + (2))) (xs ((6 * k) + (3))) (T, O, (w, rp, wi, pa, un, la, ru, sa, me, se, ta, fa), Gs)))]) rfl rfl rfl ?_
            have c1 := e0
            have ht1 := ht0
            have c2 : h242 0 = some (.inr (L, .inl xs)) := (s242 0 (by unfold zmA; omega)).trans c1
            have ht2 := ht1.sm s242 (fun i hi => by unfold zmA at hi; omega)
            have HB3 := HB.same (t' := t + 2) s242 (fun i hi => by unfold zmA at hi; omega) (Nat.le_refl _) (by omega)
            refine zp_icmp_eq (tgt := 753) dL_law_585 (by decide) (fun c585 => ?_) (fun c585 => ?_)
            · refine zn_iinc 6 (ls' := [some (.ref (0)), some (.ref (16)), some (.ref (64)), some (.int (nI (6 * k + 6)))]) dL_law_753 (by decide) (Nat.le_of_ble_eq_true rfl) rfl rfl ?_
              refine zp_pc (pc' := 756) rfl ?_
              refine zp_ls (ls' := [some (.ref (0)), some (.ref (16)), some (.ref (64)), some (.int (nI (6 * (k + 1))))]) (by rw [Nat.mul_add]) ?_
              refine zp_goto (tgt := 18) dL_law_756 (by decide) ?_
              refine zp_pc (pc' := 18) rfl ?_
              exact ih (513 - (k + 1)) (by omega) (k + 1) (t + 2) (cc) (ss) nn h242 T O (w, rp, wi, pa, un, la, ru, sa, me, se, ta, fa) Gs rfl (by omega) (by omega) (by omega) (by omega) c2 ht2 ⟨_, HB3⟩ m242
            · exact absurd rfl c585
          · refine zp_tabIn (off := 557) (tgt := 590) dL_law_33 (by decide) (by decide) rfl (by decide) ?_
            refine zp_aload_n dL_law_590 rfl ?_
            refine zp_aload_n dL_law_591 rfl ?_
            refine zp_iload_n dL_law_592 rfl ?_
            refine zp_iconst (v := nI (1)) dL_law_593 (by decide) ?_
            refine zn_iadd dL_law_594 ?_
            refine zn_iald (j := (6 * k) + (1)) dL_law_595 e0 (by omega) (by omega) ?_
            refine zp_pc (pc' := 596) rfl ?_
            have jn243 : zP g (mL_law nm) room_1 Qf cc ss 604 [some (.ref (0)), some (.ref (16)), some (.ref (64)), some (.int (nI (6 * k)))] [.int (nI (zbi (decide (¬ xs ((6 * k) + (1)) = 0)))), .ref (16)] h1 nn → zP g (mL_law nm) room_1 Qf cc ss 596 [some (.ref (0)), some (.ref (16)), some (.ref (64)), some (.int (nI (6 * k)))] [.int (xs ((6 * k) + (1))), .ref (16)] h1 nn := by
              intro jk243
              refine zp_if_eq (tgt := 603) dL_law_596 (by decide) (fun c596 => ?_) (fun c596 => ?_)
              · refine zp_iconst (v := nI (0)) dL_law_603 (by decide) ?_
                refine zp_pc (pc' := 604) rfl ?_
                refine zp_i (y := nI (zbi (decide (¬ xs ((6 * k) + (1)) = 0)))) (by rw [show (decide (¬ xs ((6 * k) + (1)) = 0)) = false from decide_eq_false (fun q => q c596)]; rfl) ?_
                exact jk243
              · refine zp_iconst (v := nI (1)) dL_law_599 (by decide) ?_
                refine zp_goto (tgt := 604) dL_law_600 (by decide) ?_
                refine zp_pc (pc' := 604) rfl ?_
                refine zp_i (y := nI (zbi (decide (¬ xs ((6 * k) + (1)) = 0)))) (by rw [show (decide (¬ xs ((6 * k) + (1)) = 0)) = true from decide_eq_true c596]; rfl) ?_
                exact jk243
            refine jn243 ?_
            refine zp_pc (pc' := 604) rfl ?_
            refine zp_callV (As := [.int (nI (zbi (decide (¬ xs ((6 * k) + (1)) = 0))))]) (k := 16) (st := []) (ci := 8) dL_law_604 cL_71 rfl HB.1 rfl rfl (e_digest HB) (by decide) ⟨by show cc + 0 ≤ 600000; omega, by show ss + 0 ≤ 7302250; omega⟩ (Nat.le_of_ble_eq_true rfl) (fun v244 h244 n244 q244 => ?_)
            obtain ⟨rfl, N244, s244, b244⟩ := q244
            rw [N244]
            refine zp_nrm (cells' := cc) (slots' := ss) (st' := [.int ((zqdigest (decide (¬ xs ((6 * k) + (1)) = 0)) (T, O, (w, rp, wi, pa, un, la, ru, sa, me, se, ta, fa), Gs)).1)]) rfl rfl rfl ?_
            rw [N244] at b244
            have HM1 := hM.keep s244 (fun i hi => by unfold zxs at hi; omega) (Nat.le_refl _)
            have c1 : h244 0 = some (.inr (L, .inl xs)) := (s244 0 (by unfold zxs; omega)).trans e0
            have ht1 := ht0.sm s244 (fun i hi => by unfold zxs at hi; omega)
            obtain ⟨⟨th, mn, mq, sq, o64, -⟩, -⟩ := id HM1
            have o64 : h244 64 = some (.inl (10, [.int (th), .ref (65), .ref (66), .ref (67), .ref (68), .ref (69), .ref (70), .ref (71), .ref (72), .ref (73), .ref (74), .ref (75), .ref (76), .ref (77), .ref (78), .ref (79), .ref (80), .ref (81), .ref (82), .ref (83), .ref (84), .int (nI (w.length)), .int (nI (zbi un)), .int (rp), .int (wi), .int (pa), .int (la), .int (ru), .int (sa), .int (mq), .int (sq), .int (ta), .int (fa), .ref (85), .ref (86), .ref (87), .int (nI (mn)), .ref (88), .ref (89), .ref (90), .ref (91), .ref (92), .ref (93), .int (nI (T.length)), .ref (94), .int (nI (O.length))])) := o64
            refine zp_aload_n dL_law_607 rfl ?_
            refine zp_aload_n dL_law_608 rfl ?_
            refine zp_iload_n dL_law_609 rfl ?_
            refine zp_iconst (v := nI (1)) dL_law_610 (by decide) ?_
            refine zn_iadd dL_law_611 ?_
            refine zn_iald (j := (6 * k) + (1)) dL_law_612 c1 (by omega) (by omega) ?_
            refine zp_pc (pc' := 613) rfl ?_
            have jn245 : zP g (mL_law nm) room_1 Qf cc ss 621 [some (.ref (0)), some (.ref (16)), some (.ref (64)), some (.int (nI (6 * k)))] [.int (nI (zbi (decide (¬ xs ((6 * k) + (1)) = 0)))), .ref (64), .int ((zqdigest (decide (¬ xs ((6 * k) + (1)) = 0)) (T, O, (w, rp, wi, pa, un, la, ru, sa, me, se, ta, fa), Gs)).1)] h244 nn → zP g (mL_law nm) room_1 Qf cc ss 613 [some (.ref (0)), some (.ref (16)), some (.ref (64)), some (.int (nI (6 * k)))] [.int (xs ((6 * k) + (1))), .ref (64), .int ((zqdigest (decide (¬ xs ((6 * k) + (1)) = 0)) (T, O, (w, rp, wi, pa, un, la, ru, sa, me, se, ta, fa), Gs)).1)] h244 nn := by
              intro jk245
              refine zp_if_eq (tgt := 620) dL_law_613 (by decide) (fun c613 => ?_) (fun c613 => ?_)
              · refine zp_iconst (v := nI (0)) dL_law_620 (by decide) ?_
                refine zp_pc (pc' := 621) rfl ?_
                refine zp_i (y := nI (zbi (decide (¬ xs ((6 * k) + (1)) = 0)))) (by rw [show (decide (¬ xs ((6 * k) + (1)) = 0)) = false from decide_eq_false (fun q => q c613)]; rfl) ?_
                exact jk245
              · refine zp_iconst (v := nI (1)) dL_law_616 (by decide) ?_
                refine zp_goto (tgt := 621) dL_law_617 (by decide) ?_
                refine zp_pc (pc' := 621) rfl ?_
                refine zp_i (y := nI (zbi (decide (¬ xs ((6 * k) + (1)) = 0)))) (by rw [show (decide (¬ xs ((6 * k) + (1)) = 0)) = true from decide_eq_true c613]; rfl) ?_
                exact jk245
            refine jn245 ?_
            refine zp_pc (pc' := 621) rfl ?_
            refine zp_callV (As := [.int (nI (zbi (decide (¬ xs ((6 * k) + (1)) = 0))))]) (k := 64) (st := [.int ((zqdigest (decide (¬ xs ((6 * k) + (1)) = 0)) (T, O, (w, rp, wi, pa, un, la, ru, sa, me, se, ta, fa), Gs)).1)]) (ci := 10) dL_law_621 cL_75 rfl o64 rfl rfl (E_digest HM1) (by decide) ⟨by show cc + 0 ≤ 600000; omega, by show ss + 0 ≤ 7302250; omega⟩ (Nat.le_of_ble_eq_true rfl) (fun v246 h246 n246 q246 => ?_)
            obtain ⟨rfl, N246, s246, m246⟩ := q246
            rw [N246]
            refine zp_nrm (cells' := cc) (slots' := ss) (st' := [.int ((zqdigest (decide (¬ xs ((6 * k) + (1)) = 0)) (T, O, (w, rp, wi, pa, un, la, ru, sa, me, se, ta, fa), Gs)).1), .int ((zqdigest (decide (¬ xs ((6 * k) + (1)) = 0)) (T, O, (w, rp, wi, pa, un, la, ru, sa, me, se, ta, fa), Gs)).1)]) rfl rfl rfl ?_
            have c2 : h246 0 = some (.inr (L, .inl xs)) := (s246 0 (by unfold zmA; omega)).trans c1
            have ht2 := ht1.sm s246 (fun i hi => by unfold zmA at hi; omega)
            obtain ⟨⟨T2, O2, S2, Gs2⟩, e2⟩ : ∃ q : ZSt, q = (zqdigest (decide (¬ xs ((6 * k) + (1)) = 0)) (T, O, (w, rp, wi, pa, un, la, ru, sa, me, se, ta, fa), Gs)).2 := ⟨_, rfl⟩
            rw [← e2] at b244 m246
            obtain ⟨A2, HB2⟩ := b244
            have HB3 := HB2.same s246 (fun i hi => by unfold zmA at hi; omega) (Nat.le_refl _) (Nat.le_refl _)
            refine zp_icmp_eq (tgt := 753) dL_law_624 (by decide) (fun c624 => ?_) (fun c624 => ?_)
            · refine zn_iinc 6 (ls' := [some (.ref (0)), some (.ref (16)), some (.ref (64)), some (.int (nI (6 * k + 6)))]) dL_law_753 (by decide) (Nat.le_of_ble_eq_true rfl) rfl rfl ?_
              refine zp_pc (pc' := 756) rfl ?_
              refine zp_ls (ls' := [some (.ref (0)), some (.ref (16)), some (.ref (64)), some (.int (nI (6 * (k + 1))))]) (by rw [Nat.mul_add]) ?_
              refine zp_goto (tgt := 18) dL_law_756 (by decide) ?_
              refine zp_pc (pc' := 18) rfl ?_
              exact ih (513 - (k + 1)) (by omega) (k + 1) (t + 2) (cc) (ss) nn h246 T2 O2 S2 Gs2 rfl (by omega) (by omega) (by omega) (by omega) c2 ht2 ⟨_, HB3⟩ m246
            · exact absurd rfl c624
          · refine zp_tabIn (off := 596) (tgt := 629) dL_law_33 (by decide) (by decide) rfl (by decide) ?_
            refine zp_aload_n dL_law_629 rfl ?_
            refine zp_aload_n dL_law_630 rfl ?_
            refine zp_iload_n dL_law_631 rfl ?_
            refine zp_iconst (v := nI (1)) dL_law_632 (by decide) ?_
            refine zn_iadd dL_law_633 ?_
            refine zn_iald (j := (6 * k) + (1)) dL_law_634 e0 (by omega) (by omega) ?_
            refine zp_pc (pc' := 635) rfl ?_
            have jn247 : zP g (mL_law nm) room_1 Qf cc ss 643 [some (.ref (0)), some (.ref (16)), some (.ref (64)), some (.int (nI (6 * k)))] [.int (nI (zbi (decide (¬ xs ((6 * k) + (1)) = 0)))), .ref (16)] h1 nn → zP g (mL_law nm) room_1 Qf cc ss 635 [some (.ref (0)), some (.ref (16)), some (.ref (64)), some (.int (nI (6 * k)))] [.int (xs ((6 * k) + (1))), .ref (16)] h1 nn := by
              intro jk247
              refine zp_if_eq (tgt := 642) dL_law_635 (by decide) (fun c635 => ?_) (fun c635 => ?_)
              · refine zp_iconst (v := nI (0)) dL_law_642 (by decide) ?_
                refine zp_pc (pc' := 643) rfl ?_
                refine zp_i (y := nI (zbi (decide (¬ xs ((6 * k) + (1)) = 0)))) (by rw [show (decide (¬ xs ((6 * k) + (1)) = 0)) = false from decide_eq_false (fun q => q c635)]; rfl) ?_
                exact jk247
              · refine zp_iconst (v := nI (1)) dL_law_638 (by decide) ?_
                refine zp_goto (tgt := 643) dL_law_639 (by decide) ?_
                refine zp_pc (pc' := 643) rfl ?_
                refine zp_i (y := nI (zbi (decide (¬ xs ((6 * k) + (1)) = 0)))) (by rw [show (decide (¬ xs ((6 * k) + (1)) = 0)) = true from decide_eq_true c635]; rfl) ?_
                exact jk247
            refine jn247 ?_
            refine zp_pc (pc' := 643) rfl ?_
            refine zp_callV (As := [.int (nI (zbi (decide (¬ xs ((6 * k) + (1)) = 0))))]) (k := 16) (st := []) (ci := 8) dL_law_643 cL_76 rfl HB.1 rfl rfl (e_cipher HB) (by decide) ⟨by show cc + 0 ≤ 600000; omega, by show ss + 0 ≤ 7302250; omega⟩ (Nat.le_of_ble_eq_true rfl) (fun v248 h248 n248 q248 => ?_)
            obtain ⟨rfl, N248, s248, b248⟩ := q248
            rw [N248]
            refine zp_nrm (cells' := cc) (slots' := ss) (st' := [.int (nI (zbi (zqcipher (decide (¬ xs ((6 * k) + (1)) = 0)) (T, O, (w, rp, wi, pa, un, la, ru, sa, me, se, ta, fa), Gs)).1))]) rfl rfl rfl ?_
            rw [N248] at b248
            have HM1 := hM.keep s248 (fun i hi => by unfold zxs at hi; omega) (Nat.le_refl _)
            have c1 : h248 0 = some (.inr (L, .inl xs)) := (s248 0 (by unfold zxs; omega)).trans e0
            have ht1 := ht0.sm s248 (fun i hi => by unfold zxs at hi; omega)
            obtain ⟨⟨th, mn, mq, sq, o64, -⟩, -⟩ := id HM1
            have o64 : h248 64 = some (.inl (10, [.int (th), .ref (65), .ref (66), .ref (67), .ref (68), .ref (69), .ref (70), .ref (71), .ref (72), .ref (73), .ref (74), .ref (75), .ref (76), .ref (77), .ref (78), .ref (79), .ref (80), .ref (81), .ref (82), .ref (83), .ref (84), .int (nI (w.length)), .int (nI (zbi un)), .int (rp), .int (wi), .int (pa), .int (la), .int (ru), .int (sa), .int (mq), .int (sq), .int (ta), .int (fa), .ref (85), .ref (86), .ref (87), .int (nI (mn)), .ref (88), .ref (89), .ref (90), .ref (91), .ref (92), .ref (93), .int (nI (T.length)), .ref (94), .int (nI (O.length))])) := o64
            refine zp_aload_n dL_law_646 rfl ?_
            refine zp_aload_n dL_law_647 rfl ?_
            refine zp_iload_n dL_law_648 rfl ?_
            refine zp_iconst (v := nI (1)) dL_law_649 (by decide) ?_
            refine zn_iadd dL_law_650 ?_
            refine zn_iald (j := (6 * k) + (1)) dL_law_651 c1 (by omega) (by omega) ?_
            refine zp_pc (pc' := 652) rfl ?_
            have jn249 : zP g (mL_law nm) room_1 Qf cc ss 660 [some (.ref (0)), some (.ref (16)), some (.ref (64)), some (.int (nI (6 * k)))] [.int (nI (zbi (decide (¬ xs ((6 * k) + (1)) = 0)))), .ref (64), .int (nI (zbi (zqcipher (decide (¬ xs ((6 * k) + (1)) = 0)) (T, O, (w, rp, wi, pa, un, la, ru, sa, me, se, ta, fa), Gs)).1))] h248 nn → zP g (mL_law nm) room_1 Qf cc ss 652 [some (.ref (0)), some (.ref (16)), some (.ref (64)), some (.int (nI (6 * k)))] [.int (xs ((6 * k) + (1))), .ref (64), .int (nI (zbi (zqcipher (decide (¬ xs ((6 * k) + (1)) = 0)) (T, O, (w, rp, wi, pa, un, la, ru, sa, me, se, ta, fa), Gs)).1))] h248 nn := by
              intro jk249
              refine zp_if_eq (tgt := 659) dL_law_652 (by decide) (fun c652 => ?_) (fun c652 => ?_)
              · refine zp_iconst (v := nI (0)) dL_law_659 (by decide) ?_
                refine zp_pc (pc' := 660) rfl ?_
                refine zp_i (y := nI (zbi (decide (¬ xs ((6 * k) + (1)) = 0)))) (by rw [show (decide (¬ xs ((6 * k) + (1)) = 0)) = false from decide_eq_false (fun q => q c652)]; rfl) ?_
                exact jk249
              · refine zp_iconst (v := nI (1)) dL_law_655 (by decide) ?_
                refine zp_goto (tgt := 660) dL_law_656 (by decide) ?_
                refine zp_pc (pc' := 660) rfl ?_
                refine zp_i (y := nI (zbi (decide (¬ xs ((6 * k) + (1)) = 0)))) (by rw [show (decide (¬ xs ((6 * k) + (1)) = 0)) = true from decide_eq_true c652]; rfl) ?_
                exact jk249
            refine jn249 ?_
            refine zp_pc (pc' := 660) rfl ?_
            refine zp_callV (As := [.int (nI (zbi (decide (¬ xs ((6 * k) + (1)) = 0))))]) (k := 64) (st := [.int (nI (zbi (zqcipher (decide (¬ xs ((6 * k) + (1)) = 0)) (T, O, (w, rp, wi, pa, un, la, ru, sa, me, se, ta, fa), Gs)).1))]) (ci := 10) dL_law_660 cL_80 rfl o64 rfl rfl (E_cipher HM1) (by decide) ⟨by show cc + 0 ≤ 600000; omega, by show ss + 0 ≤ 7302250; omega⟩ (Nat.le_of_ble_eq_true rfl) (fun v250 h250 n250 q250 => ?_)
            obtain ⟨rfl, N250, s250, m250⟩ := q250
            rw [N250]
            refine zp_nrm (cells' := cc) (slots' := ss) (st' := [.int (nI (zbi (zqcipher (decide (¬ xs ((6 * k) + (1)) = 0)) (T, O, (w, rp, wi, pa, un, la, ru, sa, me, se, ta, fa), Gs)).1)), .int (nI (zbi (zqcipher (decide (¬ xs ((6 * k) + (1)) = 0)) (T, O, (w, rp, wi, pa, un, la, ru, sa, me, se, ta, fa), Gs)).1))]) rfl rfl rfl ?_
            have c2 : h250 0 = some (.inr (L, .inl xs)) := (s250 0 (by unfold zmA; omega)).trans c1
            have ht2 := ht1.sm s250 (fun i hi => by unfold zmA at hi; omega)
            obtain ⟨⟨T2, O2, S2, Gs2⟩, e2⟩ : ∃ q : ZSt, q = (zqcipher (decide (¬ xs ((6 * k) + (1)) = 0)) (T, O, (w, rp, wi, pa, un, la, ru, sa, me, se, ta, fa), Gs)).2 := ⟨_, rfl⟩
            rw [← e2] at b248 m250
            obtain ⟨A2, HB2⟩ := b248
            have HB3 := HB2.same s250 (fun i hi => by unfold zmA at hi; omega) (Nat.le_refl _) (Nat.le_refl _)
            refine zn_icmp_eq (tgt := 753) dL_law_663 (by decide) (by have := zbi_lt (zqcipher (decide (¬ xs ((6 * k) + (1)) = 0)) (T, O, (w, rp, wi, pa, un, la, ru, sa, me, se, ta, fa), Gs)).1; omega) (by have := zbi_lt (zqcipher (decide (¬ xs ((6 * k) + (1)) = 0)) (T, O, (w, rp, wi, pa, un, la, ru, sa, me, se, ta, fa), Gs)).1; omega) (fun c663 => ?_) (fun c663 => ?_)
            · refine zn_iinc 6 (ls' := [some (.ref (0)), some (.ref (16)), some (.ref (64)), some (.int (nI (6 * k + 6)))]) dL_law_753 (by decide) (Nat.le_of_ble_eq_true rfl) rfl rfl ?_
              refine zp_pc (pc' := 756) rfl ?_
              refine zp_ls (ls' := [some (.ref (0)), some (.ref (16)), some (.ref (64)), some (.int (nI (6 * (k + 1))))]) (by rw [Nat.mul_add]) ?_
              refine zp_goto (tgt := 18) dL_law_756 (by decide) ?_
              refine zp_pc (pc' := 18) rfl ?_
              exact ih (513 - (k + 1)) (by omega) (k + 1) (t + 2) (cc) (ss) nn h250 T2 O2 S2 Gs2 rfl (by omega) (by omega) (by omega) (by omega) c2 ht2 ⟨_, HB3⟩ m250
            · exact absurd rfl c663
          · refine zp_tabIn (off := 635) (tgt := 668) dL_law_33 (by decide) (by decide) rfl (by decide) ?_
            refine zp_aload_n dL_law_668 rfl ?_
            refine zp_aload_n dL_law_669 rfl ?_
            refine zp_iload_n dL_law_670 rfl ?_
            refine zp_iconst (v := nI (1)) dL_law_671 (by decide) ?_
            refine zn_iadd dL_law_672 ?_
            refine zn_iald (j := (6 * k) + (1)) dL_law_673 e0 (by omega) (by omega) ?_
            refine zp_pc (pc' := 674) rfl ?_
            have jn251 : zP g (mL_law nm) room_1 Qf cc ss 682 [some (.ref (0)), some (.ref (16)), some (.ref (64)), some (.int (nI (6 * k)))] [.int (nI (zbi (decide (¬ xs ((6 * k) + (1)) = 0)))), .ref (16)] h1 nn → zP g (mL_law nm) room_1 Qf cc ss 674 [some (.ref (0)), some (.ref (16)), some (.ref (64)), some (.int (nI (6 * k)))] [.int (xs ((6 * k) + (1))), .ref (16)] h1 nn := by
              intro jk251
              refine zp_if_eq (tgt := 681) dL_law_674 (by decide) (fun c674 => ?_) (fun c674 => ?_)
              · refine zp_iconst (v := nI (0)) dL_law_681 (by decide) ?_
                refine zp_pc (pc' := 682) rfl ?_
                refine zp_i (y := nI (zbi (decide (¬ xs ((6 * k) + (1)) = 0)))) (by rw [show (decide (¬ xs ((6 * k) + (1)) = 0)) = false from decide_eq_false (fun q => q c674)]; rfl) ?_
                exact jk251
              · refine zp_iconst (v := nI (1)) dL_law_677 (by decide) ?_
                refine zp_goto (tgt := 682) dL_law_678 (by decide) ?_
                refine zp_pc (pc' := 682) rfl ?_
                refine zp_i (y := nI (zbi (decide (¬ xs ((6 * k) + (1)) = 0)))) (by rw [show (decide (¬ xs ((6 * k) + (1)) = 0)) = true from decide_eq_true c674]; rfl) ?_
                exact jk251
            refine jn251 ?_
            refine zp_pc (pc' := 682) rfl ?_
            refine zp_callV (As := [.int (nI (zbi (decide (¬ xs ((6 * k) + (1)) = 0))))]) (k := 16) (st := []) (ci := 8) dL_law_682 cL_81 rfl HB.1 rfl rfl (e_macq HB) (by decide) ⟨by show cc + 0 ≤ 600000; omega, by show ss + 0 ≤ 7302250; omega⟩ (Nat.le_of_ble_eq_true rfl) (fun v252 h252 n252 q252 => ?_)
            obtain ⟨rfl, N252, s252, b252⟩ := q252
            rw [N252]
            refine zp_nrm (cells' := cc) (slots' := ss) (st' := [.int (nI (zbi (zqmac (decide (¬ xs ((6 * k) + (1)) = 0)) (T, O, (w, rp, wi, pa, un, la, ru, sa, me, se, ta, fa), Gs)).1))]) rfl rfl rfl ?_
            rw [N252] at b252
            have HM1 := hM.keep s252 (fun i hi => by unfold zxs at hi; omega) (Nat.le_refl _)
            have c1 : h252 0 = some (.inr (L, .inl xs)) := (s252 0 (by unfold zxs; omega)).trans e0
            have ht1 := ht0.sm s252 (fun i hi => by unfold zxs at hi; omega)
            obtain ⟨⟨th, mn, mq, sq, o64, -⟩, -⟩ := id HM1
            have o64 : h252 64 = some (.inl (10, [.int (th), .ref (65), .ref (66), .ref (67), .ref (68), .ref (69), .ref (70), .ref (71), .ref (72), .ref (73), .ref (74), .ref (75), .ref (76), .ref (77), .ref (78), .ref (79), .ref (80), .ref (81), .ref (82), .ref (83), .ref (84), .int (nI (w.length)), .int (nI (zbi un)), .int (rp), .int (wi), .int (pa), .int (la), .int (ru), .int (sa), .int (mq), .int (sq), .int (ta), .int (fa), .ref (85), .ref (86), .ref (87), .int (nI (mn)), .ref (88), .ref (89), .ref (90), .ref (91), .ref (92), .ref (93), .int (nI (T.length)), .ref (94), .int (nI (O.length))])) := o64
            refine zp_aload_n dL_law_685 rfl ?_
            refine zp_aload_n dL_law_686 rfl ?_
            refine zp_iload_n dL_law_687 rfl ?_
            refine zp_iconst (v := nI (1)) dL_law_688 (by decide) ?_
            refine zn_iadd dL_law_689 ?_
            refine zn_iald (j := (6 * k) + (1)) dL_law_690 c1 (by omega) (by omega) ?_
            refine zp_pc (pc' := 691) rfl ?_
            have jn253 : zP g (mL_law nm) room_1 Qf cc ss 699 [some (.ref (0)), some (.ref (16)), some (.ref (64)), some (.int (nI (6 * k)))] [.int (nI (zbi (decide (¬ xs ((6 * k) + (1)) = 0)))), .ref (64), .int (nI (zbi (zqmac (decide (¬ xs ((6 * k) + (1)) = 0)) (T, O, (w, rp, wi, pa, un, la, ru, sa, me, se, ta, fa), Gs)).1))] h252 nn → zP g (mL_law nm) room_1 Qf cc ss 691 [some (.ref (0)), some (.ref (16)), some (.ref (64)), some (.int (nI (6 * k)))] [.int (xs ((6 * k) + (1))), .ref (64), .int (nI (zbi (zqmac (decide (¬ xs ((6 * k) + (1)) = 0)) (T, O, (w, rp, wi, pa, un, la, ru, sa, me, se, ta, fa), Gs)).1))] h252 nn := by
              intro jk253
              refine zp_if_eq (tgt := 698) dL_law_691 (by decide) (fun c691 => ?_) (fun c691 => ?_)
              · refine zp_iconst (v := nI (0)) dL_law_698 (by decide) ?_
                refine zp_pc (pc' := 699) rfl ?_
                refine zp_i (y := nI (zbi (decide (¬ xs ((6 * k) + (1)) = 0)))) (by rw [show (decide (¬ xs ((6 * k) + (1)) = 0)) = false from decide_eq_false (fun q => q c691)]; rfl) ?_
                exact jk253
              · refine zp_iconst (v := nI (1)) dL_law_694 (by decide) ?_
                refine zp_goto (tgt := 699) dL_law_695 (by decide) ?_
                refine zp_pc (pc' := 699) rfl ?_
                refine zp_i (y := nI (zbi (decide (¬ xs ((6 * k) + (1)) = 0)))) (by rw [show (decide (¬ xs ((6 * k) + (1)) = 0)) = true from decide_eq_true c691]; rfl) ?_
                exact jk253
            refine jn253 ?_
            refine zp_pc (pc' := 699) rfl ?_
            refine zp_callV (As := [.int (nI (zbi (decide (¬ xs ((6 * k) + (1)) = 0))))]) (k := 64) (st := [.int (nI (zbi (zqmac (decide (¬ xs ((6 * k) + (1)) = 0)) (T, O, (w, rp, wi, pa, un, la, ru, sa, me, se, ta, fa), Gs)).1))]) (ci := 10) dL_law_699 cL_84 rfl o64 rfl rfl (E_mac HM1) (by decide) ⟨by show cc + 0 ≤ 600000; omega, by show ss + 0 ≤ 7302250; omega⟩ (Nat.le_of_ble_eq_true rfl) (fun v254 h254 n254 q254 => ?_)
            obtain ⟨rfl, N254, s254, m254⟩ := q254
            rw [N254]
            refine zp_nrm (cells' := cc) (slots' := ss) (st' := [.int (nI (zbi (zqmac (decide (¬ xs ((6 * k) + (1)) = 0)) (T, O, (w, rp, wi, pa, un, la, ru, sa, me, se, ta, fa), Gs)).1)), .int (nI (zbi (zqmac (decide (¬ xs ((6 * k) + (1)) = 0)) (T, O, (w, rp, wi, pa, un, la, ru, sa, me, se, ta, fa), Gs)).1))]) rfl rfl rfl ?_
            have c2 : h254 0 = some (.inr (L, .inl xs)) := (s254 0 (by unfold zmA; omega)).trans c1
            have ht2 := ht1.sm s254 (fun i hi => by unfold zmA at hi; omega)
            obtain ⟨⟨T2, O2, S2, Gs2⟩, e2⟩ : ∃ q : ZSt, q = (zqmac (decide (¬ xs ((6 * k) + (1)) = 0)) (T, O, (w, rp, wi, pa, un, la, ru, sa, me, se, ta, fa), Gs)).2 := ⟨_, rfl⟩
            rw [← e2] at b252 m254
            obtain ⟨A2, HB2⟩ := b252
            have HB3 := HB2.same s254 (fun i hi => by unfold zmA at hi; omega) (Nat.le_refl _) (Nat.le_refl _)
            refine zn_icmp_eq (tgt := 753) dL_law_702 (by decide) (by have := zbi_lt (zqmac (decide (¬ xs ((6 * k) + (1)) = 0)) (T, O, (w, rp, wi, pa, un, la, ru, sa, me, se, ta, fa), Gs)).1; omega) (by have := zbi_lt (zqmac (decide (¬ xs ((6 * k) + (1)) = 0)) (T, O, (w, rp, wi, pa, un, la, ru, sa, me, se, ta, fa), Gs)).1; omega) (fun c702 => ?_) (fun c702 => ?_)
            · refine zn_iinc 6 (ls' := [some (.ref (0)), some (.ref (16)), some (.ref (64)), some (.int (nI (6 * k + 6)))]) dL_law_753 (by decide) (Nat.le_of_ble_eq_true rfl) rfl rfl ?_
              refine zp_pc (pc' := 756) rfl ?_
              refine zp_ls (ls' := [some (.ref (0)), some (.ref (16)), some (.ref (64)), some (.int (nI (6 * (k + 1))))]) (by rw [Nat.mul_add]) ?_
              refine zp_goto (tgt := 18) dL_law_756 (by decide) ?_
              refine zp_pc (pc' := 18) rfl ?_
              exact ih (513 - (k + 1)) (by omega) (k + 1) (t + 2) (cc) (ss) nn h254 T2 O2 S2 Gs2 rfl (by omega) (by omega) (by omega) (by omega) c2 ht2 ⟨_, HB3⟩ m254
            · exact absurd rfl c702
          · refine zp_tabIn (off := 674) (tgt := 707) dL_law_33 (by decide) (by decide) rfl (by decide) ?_
            refine zp_aload_n dL_law_707 rfl ?_
            refine zp_aload_n dL_law_708 rfl ?_
            refine zp_iload_n dL_law_709 rfl ?_
            refine zp_iconst (v := nI (1)) dL_law_710 (by decide) ?_
            refine zn_iadd dL_law_711 ?_
            refine zn_iald (j := (6 * k) + (1)) dL_law_712 e0 (by omega) (by omega) ?_
            refine zp_aload_n dL_law_713 rfl ?_
            refine zp_iload_n dL_law_714 rfl ?_
            refine zp_iconst (v := nI (2)) dL_law_715 (by decide) ?_
            refine zn_iadd dL_law_716 ?_
            refine zn_iald (j := (6 * k) + (2)) dL_law_717 e0 (by omega) (by omega) ?_
            refine zp_pc (pc' := 718) rfl ?_
            refine zp_callV (As := [.int (xs ((6 * k) + (1))), .int (xs ((6 * k) + (2)))]) (k := 16) (st := []) (ci := 8) dL_law_718 cL_85 rfl HB.1 rfl rfl (e_derive HB) (by decide) ⟨by show cc + 0 ≤ 600000; omega, by show ss + 0 ≤ 7302250; omega⟩ (Nat.le_of_ble_eq_true rfl) (fun v255 h255 n255 q255 => ?_)
            obtain ⟨rfl, N255, s255, b255⟩ := q255
            rw [N255]
            refine zp_nrm (cells' := cc) (slots' := ss) (st' := [.int (nI (zbi (zqderive (xs ((6 * k) + (1))) (xs ((6 * k) + (2))) (T, O, (w, rp, wi, pa, un, la, ru, sa, me, se, ta, fa), Gs)).1))]) rfl rfl rfl ?_
            rw [N255] at b255
            have HM1 := hM.keep s255 (fun i hi => by unfold zxs at hi; omega) (Nat.le_refl _)
            have c1 : h255 0 = some (.inr (L, .inl xs)) := (s255 0 (by unfold zxs; omega)).trans e0
            have ht1 := ht0.sm s255 (fun i hi => by unfold zxs at hi; omega)
            obtain ⟨⟨th, mn, mq, sq, o64, -⟩, -⟩ := id HM1
            have o64 : h255 64 = some (.inl (10, [.int (th), .ref (65), .ref (66), .ref (67), .ref (68), .ref (69), .ref (70), .ref (71), .ref (72), .ref (73), .ref (74), .ref (75), .ref (76), .ref (77), .ref (78), .ref (79), .ref (80), .ref (81), .ref (82), .ref (83), .ref (84), .int (nI (w.length)), .int (nI (zbi un)), .int (rp), .int (wi), .int (pa), .int (la), .int (ru), .int (sa), .int (mq), .int (sq), .int (ta), .int (fa), .ref (85), .ref (86), .ref (87), .int (nI (mn)), .ref (88), .ref (89), .ref (90), .ref (91), .ref (92), .ref (93), .int (nI (T.length)), .ref (94), .int (nI (O.length))])) := o64
            refine zp_aload_n dL_law_721 rfl ?_
            refine zp_aload_n dL_law_722 rfl ?_
            refine zp_iload_n dL_law_723 rfl ?_
            refine zp_iconst (v := nI (1)) dL_law_724 (by decide) ?_
            refine zn_iadd dL_law_725 ?_
            refine zn_iald (j := (6 * k) + (1)) dL_law_726 c1 (by omega) (by omega) ?_
            refine zp_aload_n dL_law_727 rfl ?_
            refine zp_iload_n dL_law_728 rfl ?_
            refine zp_iconst (v := nI (2)) dL_law_729 (by decide) ?_
            refine zn_iadd dL_law_730 ?_
            refine zn_iald (j := (6 * k) + (2)) dL_law_731 c1 (by omega) (by omega) ?_
            refine zp_pc (pc' := 732) rfl ?_
            refine zp_callV (As := [.int (xs ((6 * k) + (1))), .int (xs ((6 * k) + (2)))]) (k := 64) (st := [.int (nI (zbi (zqderive (xs ((6 * k) + (1))) (xs ((6 * k) + (2))) (T, O, (w, rp, wi, pa, un, la, ru, sa, me, se, ta, fa), Gs)).1))]) (ci := 10) dL_law_732 cL_89 rfl o64 rfl rfl (E_derive HM1) (by decide) ⟨by show cc + 0 ≤ 600000; omega, by show ss + 0 ≤ 7302250; omega⟩ (Nat.le_of_ble_eq_true rfl) (fun v256 h256 n256 q256 => ?_)
            obtain ⟨rfl, N256, s256, m256⟩ := q256
            rw [N256]
            refine zp_nrm (cells' := cc) (slots' := ss) (st' := [.int (nI (zbi (zqderive (xs ((6 * k) + (1))) (xs ((6 * k) + (2))) (T, O, (w, rp, wi, pa, un, la, ru, sa, me, se, ta, fa), Gs)).1)), .int (nI (zbi (zqderive (xs ((6 * k) + (1))) (xs ((6 * k) + (2))) (T, O, (w, rp, wi, pa, un, la, ru, sa, me, se, ta, fa), Gs)).1))]) rfl rfl rfl ?_
            have c2 : h256 0 = some (.inr (L, .inl xs)) := (s256 0 (by unfold zmA; omega)).trans c1
            have ht2 := ht1.sm s256 (fun i hi => by unfold zmA at hi; omega)
            obtain ⟨⟨T2, O2, S2, Gs2⟩, e2⟩ : ∃ q : ZSt, q = (zqderive (xs ((6 * k) + (1))) (xs ((6 * k) + (2))) (T, O, (w, rp, wi, pa, un, la, ru, sa, me, se, ta, fa), Gs)).2 := ⟨_, rfl⟩
            rw [← e2] at b255 m256
            obtain ⟨A2, HB2⟩ := b255
            have HB3 := HB2.same s256 (fun i hi => by unfold zmA at hi; omega) (Nat.le_refl _) (Nat.le_refl _)
            refine zn_icmp_eq (tgt := 753) dL_law_735 (by decide) (by have := zbi_lt (zqderive (xs ((6 * k) + (1))) (xs ((6 * k) + (2))) (T, O, (w, rp, wi, pa, un, la, ru, sa, me, se, ta, fa), Gs)).1; omega) (by have := zbi_lt (zqderive (xs ((6 * k) + (1))) (xs ((6 * k) + (2))) (T, O, (w, rp, wi, pa, un, la, ru, sa, me, se, ta, fa), Gs)).1; omega) (fun c735 => ?_) (fun c735 => ?_)
            · refine zn_iinc 6 (ls' := [some (.ref (0)), some (.ref (16)), some (.ref (64)), some (.int (nI (6 * k + 6)))]) dL_law_753 (by decide) (Nat.le_of_ble_eq_true rfl) rfl rfl ?_
              refine zp_pc (pc' := 756) rfl ?_
              refine zp_ls (ls' := [some (.ref (0)), some (.ref (16)), some (.ref (64)), some (.int (nI (6 * (k + 1))))]) (by rw [Nat.mul_add]) ?_
              refine zp_goto (tgt := 18) dL_law_756 (by decide) ?_
              refine zp_pc (pc' := 18) rfl ?_
              exact ih (513 - (k + 1)) (by omega) (k + 1) (t + 2) (cc) (ss) nn h256 T2 O2 S2 Gs2 rfl (by omega) (by omega) (by omega) (by omega) c2 ht2 ⟨_, HB3⟩ m256
            · exact absurd rfl c735
          · refine zp_tabIn (off := 707) (tgt := 740) dL_law_33 (by decide) (by decide) rfl (by decide) ?_
            refine zp_aload_n dL_law_740 rfl ?_
            refine zp_pc (pc' := 741) rfl ?_
            refine zp_callV (As := []) (k := 16) (st := []) (ci := 8) dL_law_741 cL_90 rfl HB.1 rfl rfl (e_size HB) (by decide) ⟨by show cc + 0 ≤ 600000; omega, by show ss + 0 ≤ 7302250; omega⟩ (Nat.le_of_ble_eq_true rfl) (fun v257 h257 n257 q257 => ?_)
            obtain ⟨rfl, H257, N257⟩ := q257
            rw [N257, H257]
            refine zp_nrm (cells' := cc) (slots' := ss) (st' := [.int ((zqsize (T, O, (w, rp, wi, pa, un, la, ru, sa, me, se, ta, fa), Gs)))]) rfl rfl rfl ?_
            have HM1 := hM
            obtain ⟨⟨th, mn, mq, sq, o64, -⟩, -⟩ := id HM1
            have o64 : h1 64 = some (.inl (10, [.int (th), .ref (65), .ref (66), .ref (67), .ref (68), .ref (69), .ref (70), .ref (71), .ref (72), .ref (73), .ref (74), .ref (75), .ref (76), .ref (77), .ref (78), .ref (79), .ref (80), .ref (81), .ref (82), .ref (83), .ref (84), .int (nI (w.length)), .int (nI (zbi un)), .int (rp), .int (wi), .int (pa), .int (la), .int (ru), .int (sa), .int (mq), .int (sq), .int (ta), .int (fa), .ref (85), .ref (86), .ref (87), .int (nI (mn)), .ref (88), .ref (89), .ref (90), .ref (91), .ref (92), .ref (93), .int (nI (T.length)), .ref (94), .int (nI (O.length))])) := o64
            refine zp_aload_n dL_law_744 rfl ?_
            refine zp_pc (pc' := 745) rfl ?_
            refine zp_callV (As := []) (k := 64) (st := [.int ((zqsize (T, O, (w, rp, wi, pa, un, la, ru, sa, me, se, ta, fa), Gs)))]) (ci := 10) dL_law_745 cL_93 rfl o64 rfl rfl (E_size HM1) (by decide) ⟨by show cc + 0 ≤ 600000; omega, by show ss + 0 ≤ 7302250; omega⟩ (Nat.le_of_ble_eq_true rfl) (fun v258 h258 n258 q258 => ?_)
            obtain ⟨rfl, N258, s258, m258⟩ := q258
            rw [N258]
            refine zp_nrm (cells' := cc) (slots' := ss) (st' := [.int ((zqsize (T, O, (w, rp, wi, pa, un, la, ru, sa, me, se, ta, fa), Gs))), .int ((zqsize (T, O, (w, rp, wi, pa, un, la, ru, sa, me, se, ta, fa), Gs)))]) rfl rfl rfl ?_
            have c1 := e0
            have ht1 := ht0
            have c2 : h258 0 = some (.inr (L, .inl xs)) := (s258 0 (by unfold zmA; omega)).trans c1
            have ht2 := ht1.sm s258 (fun i hi => by unfold zmA at hi; omega)
            have HB3 := HB.same (t' := t + 2) s258 (fun i hi => by unfold zmA at hi; omega) (Nat.le_refl _) (by omega)
            refine zp_icmp_eq (tgt := 753) dL_law_748 (by decide) (fun c748 => ?_) (fun c748 => ?_)
            · refine zn_iinc 6 (ls' := [some (.ref (0)), some (.ref (16)), some (.ref (64)), some (.int (nI (6 * k + 6)))]) dL_law_753 (by decide) (Nat.le_of_ble_eq_true rfl) rfl rfl ?_
              refine zp_pc (pc' := 756) rfl ?_
              refine zp_ls (ls' := [some (.ref (0)), some (.ref (16)), some (.ref (64)), some (.int (nI (6 * (k + 1))))]) (by rw [Nat.mul_add]) ?_
              refine zp_goto (tgt := 18) dL_law_756 (by decide) ?_
              refine zp_pc (pc' := 18) rfl ?_
              exact ih (513 - (k + 1)) (by omega) (k + 1) (t + 2) (cc) (ss) nn h258 T O (w, rp, wi, pa, un, la, ru, sa, me, se, ta, fa) Gs rfl (by omega) (by omega) (by omega) (by omega) c2 ht2 ⟨_, HB3⟩ m258
            · exact absurd rfl c748
        · refine zp_tabOut (tgt := 753) dL_law_33 hx (by decide) ?_
          refine zn_iinc 6 (ls' := [some (.ref (0)), some (.ref (16)), some (.ref (64)), some (.int (nI (6 * k + 6)))]) dL_law_753 (by decide) (Nat.le_of_ble_eq_true rfl) rfl rfl ?_
          refine zp_pc (pc' := 756) rfl ?_
          refine zp_ls (ls' := [some (.ref (0)), some (.ref (16)), some (.ref (64)), some (.int (nI (6 * (k + 1))))]) (by rw [Nat.mul_add]) ?_
          refine zp_goto (tgt := 18) dL_law_756 (by decide) ?_
          refine zp_pc (pc' := 18) rfl ?_
          exact ih (513 - (k + 1)) (by omega) (k + 1) t cc ss nn h1 T O (w, rp, wi, pa, un, la, ru, sa, me, se, ta, fa) Gs rfl (by omega) (by omega) (by omega) (by omega) e0 ht0 ⟨_, HB⟩ hM
  exact lp _ 0 0 _ _ _ h210 [] [] zS0 (fun _ => none) rfl (by decide) (by decide) (by decide) (by decide) m211 y212_0 ⟨_, HB⟩ m210
