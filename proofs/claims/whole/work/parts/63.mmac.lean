theorem zkey_lt (b : Bool) {xs : List Nat} {c : Nat} (hb : ∀ x ∈ xs, x < 256) (hc : c < 256) : ∀ x ∈ zkey b xs c, x < 256 := fun x hx => by
  obtain ⟨k, -, rfl⟩ := List.mem_map.mp hx
  exact Nat.xor_lt_two_pow (n := 8) (zgetD_lt hb k) hc
theorem zapp_lt {xs ys : List Nat} (h1 : ∀ x ∈ xs, x < 256) (h2 : ∀ x ∈ ys, x < 256) : ∀ x ∈ xs ++ ys, x < 256 := fun x hx => by
  rcases List.mem_append.mp hx with q | q
  · exact h1 x q
  · exact h2 x q
/-- two lists behind each other, as two loops lay them -/
theorem zfl2 {f : Nat → Int32} {xs ys : List Nat} {o : Nat} (ho : o = xs.length) : ∀ j, j < o + ys.length → zfl (zfl f 0 o (fun i => nI (xs.getD i 0))) o ys.length (fun i => nI (ys.getD i 0)) j = nI ((xs ++ ys).getD j 0) := fun j hj => by
  subst ho
  rcases Nat.lt_or_ge j xs.length with q | q
  · rw [zfl_out (Or.inl q), zfl_in0 q, zapp_getD1 q]
  · obtain ⟨d, rfl⟩ := Nat.exists_eq_add_of_le q
    rw [zfl_in (by omega), zapp_getD2]
theorem zgetD_ge {xs : List Nat} {j : Nat} (h : xs.length ≤ j) : xs.getD j 0 = 0 := by
  rw [List.getD_eq_getElem?_getD, List.getElem?_eq_none h]; rfl
theorem zar.take {h : ZH} {k N m : Nat} {xs : List Nat} (H : zar h k N xs) : zar h k N (xs.take m) := by
  obtain ⟨h1, h2, h3, f, h4, h5⟩ := H
  refine ⟨by rw [List.length_take]; omega, h2, fun x hx => h3 x (List.mem_of_mem_take hx), f, h4, fun j hj => ?_⟩
  rw [List.length_take] at hj
  rw [h5 j (by omega), List.getD_eq_getElem?_getD, List.getD_eq_getElem?_getD, List.getElem?_take, if_pos (by omega)]
theorem zn4_nI {k : Nat} (h : k < 2 ^ 32) : zn4 (nI k) = znum k 4 := by unfold zn4; rw [pk_tn h]
theorem zder_getD {b : Bool} {xs : List Nat} {k j : Nat} (hj : j < k) : (zder b xs k).getD j 0 = (zhash b ((j / (8 * zwb b) + 1) % 256 :: (znum (8 * k) 4 ++ xs))).getD (j % (8 * zwb b)) 0 := by
  have hz := zwb_or b
  have e : (zder b xs k).getD j 0 = (zcat b xs k k).getD j 0 := by
    unfold zder
    rw [List.getD_eq_getElem?_getD, List.getD_eq_getElem?_getD, List.getElem?_take, if_pos hj]
  have : k * 1 ≤ k * (8 * zwb b) := Nat.mul_le_mul_left _ (by omega)
  rw [e]
  unfold zcat
  rw [zflat_getD _ (8 * zwb b) (by omega) (fun _ => zhash_len _ _) k j (by omega)]
set_option maxRecDepth 10000 in
set_option maxHeartbeats 2000000 in
theorem e_mmac {g : ZG} {h : ZH} {n : Nat} {b : Bool} {q p Nq Np : Nat} {ks xs : List Nat} {th : Int32} {wt : Nat} {un : Bool} {rp wi pa be ru sa me se ta fa : Int32} {mn tp ou : Nat} (ht : zmtl h) (ho : h 64 = some (.inl (10, [.int (th), .ref (65), .ref (66), .ref (67), .ref (68), .ref (69), .ref (70), .ref (71), .ref (72), .ref (73), .ref (74), .ref (75), .ref (76), .ref (77), .ref (78), .ref (79), .ref (80), .ref (81), .ref (82), .ref (83), .ref (84), .int (nI (wt)), .int (nI (zbi un)), .int (rp), .int (wi), .int (pa), .int (be), .int (ru), .int (sa), .int (me), .int (se), .int (ta), .int (fa), .ref (85), .ref (86), .ref (87), .int (nI (mn)), .ref (88), .ref (89), .ref (90), .ref (91), .ref (92), .ref (93), .int (nI (tp)), .ref (94), .int (nI (ou))]))) (hi : zia h 75 1000) (hk : zar h q Nq ks) (hx : zar h p Np xs) (hq : q < 70 ∨ 75 < q) (hp : p < 70 ∨ 75 < p) (lk : ks.length = 8 * zwb b) (hl : xs.length ≤ 800) : zMt g mX11_mac (zR 4 0 0) [.ref (64), .int (nI (zbi b)), .ref (q), .ref (p), .int (nI (xs.length))] h n (fun v h' n' => v = none ∧ n' = n ∧ zsm h h' (zb3 70 75) ∧ zar h' 74 64 (zmac b ks xs) ∧ zmtl h' ∧ zia h' 75 1000) := by
  refine zMt.of [some (.ref (64)), some (.int (nI (zbi b))), some (.ref (q)), some (.ref (p)), some (.int (nI (xs.length))), none, none, none] (by decide) rfl (Nat.le_of_ble_eq_true rfl) ?_
  obtain ⟨Qf, hQ⟩ : ∃ Qf : ZQ, Qf = (fun v h' n' => v = none ∧ n' = n ∧ zsm h h' (zb3 70 75) ∧ zar h' 74 64 (zmac b ks xs) ∧ zmtl h' ∧ zia h' 75 1000) := ⟨_, rfl⟩
  rw [← hQ]
  have hz := zwb_or b
  have hb := zbi_lt b
  obtain ⟨f75, i75⟩ := id hi
  obtain ⟨k1, k2, k3, fk, k4, k5⟩ := id hk
  obtain ⟨x1, x2, x3, fx, x4, x5⟩ := id hx
  have z54 := zkey_len b ks 54
  have z92 := zkey_len b ks 92
  have cont : zP g mX11_mac (zR 4 0 0) Qf 0 0 14 [some (.ref (64)), some (.int (nI (zbi b))), some (.ref (q)), some (.ref (p)), some (.int (nI (xs.length))), some (.int (nI (16 * zwb b))), none, none] [] h n := by
    refine zp_iload_n dX11_mac_14 rfl ?_
    refine zp_pc (pc' := 15) rfl ?_
    refine zp_callS (As := [.int (nI (zbi b))]) (st := []) dX11_mac_15 cX11_166 rfl (e_sizeOf (b := b)) (by decide) (by decide) (Nat.le_of_ble_eq_true rfl) (fun v1 h1 n1 q1 => ?_)
    obtain ⟨rfl, H1, N1⟩ := q1
    rw [N1, H1]
    refine zp_nrm (cells' := 0) (slots' := 0) (st' := [.int (nI (8 * zwb b))]) rfl rfl rfl ?_
    refine zp_istore (ls' := [some (.ref (64)), some (.int (nI (zbi b))), some (.ref (q)), some (.ref (p)), some (.int (nI (xs.length))), some (.int (nI (16 * zwb b))), some (.int (nI (8 * zwb b))), none]) dX11_mac_18 (by decide) rfl ?_
    refine zp_iconst (v := nI (0)) dX11_mac_20 (by decide) ?_
    refine zp_istore (ls' := [some (.ref (64)), some (.int (nI (zbi b))), some (.ref (q)), some (.ref (p)), some (.int (nI (xs.length))), some (.int (nI (16 * zwb b))), some (.int (nI (8 * zwb b))), some (.int (nI (0)))]) dX11_mac_21 (by decide) rfl ?_
    refine zp_pc (pc' := 23) rfl ?_
    have lp2 : zP g mX11_mac (zR 4 0 0) Qf 0 0 61 [some (.ref (64)), some (.int (nI (zbi b))), some (.ref (q)), some (.ref (p)), some (.int (nI (xs.length))), some (.int (nI (16 * zwb b))), some (.int (nI (8 * zwb b))), some (.int (nI (16 * zwb b)))] [] (va_up h (75) (some (.inr (1000, .inl (zfl f75 (0) (16 * zwb b) (fun i => nI ((zkey b ks 54).getD i 0))))))) n → ∀ (m k2 : Nat), m = (16 * zwb b) - k2 → k2 ≤ (16 * zwb b) → zP g mX11_mac (zR 4 0 0) Qf 0 0 23 [some (.ref (64)), some (.int (nI (zbi b))), some (.ref (q)), some (.ref (p)), some (.int (nI (xs.length))), some (.int (nI (16 * zwb b))), some (.int (nI (8 * zwb b))), some (.int (nI (k2)))] [] (va_up h (75) (some (.inr (1000, .inl (zfl f75 (0) (k2) (fun i => nI ((zkey b ks 54).getD i 0))))))) n := by
      intro kk m
      induction m using Nat.strongRecOn with
      | _ m ih =>
        intro k2 hm2 hk2
        refine zp_nh (fun hX2 eX2 => ?_)
        have k3_0 := (congrFun eX2 (64)).trans ((va_up_ne _ _ (by omega)).trans ho)
        have k3_1 : hX2 (75) = some (.inr (1000, .inl (zfl f75 (0) (k2) (fun i => nI ((zkey b ks 54).getD i 0))))) := by rw [eX2]; exact va_up_self _ _ _
        have k3_2 := (congrFun eX2 (q)).trans ((va_up_ne _ _ (by omega)).trans k4)
        have k3_3 := (congrFun eX2 (p)).trans ((va_up_ne _ _ (by omega)).trans x4)
        refine zp_iload dX11_mac_23 rfl ?_
        refine zp_iload dX11_mac_25 rfl ?_
        refine zp_pc (pc' := 27) rfl ?_
        refine zn_icmp_ge (tgt := 61) dX11_mac_27 (by decide) (by omega) (by omega) (fun c27 => ?_) (fun c27 => ?_)
        · have e2 : k2 = (16 * zwb b) := by omega
          subst e2
          rw [eX2]
          exact kk
        · refine zp_aload_n dX11_mac_30 rfl ?_
          refine zp_get dX11_mac_31 gX11_41_10 k3_0 rfl ?_
          refine zp_iload dX11_mac_34 rfl ?_
          refine zp_iload dX11_mac_36 rfl ?_
          refine zp_iload dX11_mac_38 rfl ?_
          refine zp_pc (pc' := 40) rfl ?_
          refine zn_icmp_ge (tgt := 50) dX11_mac_40 (by decide) (by omega) (by omega) (fun c40 => ?_) (fun c40 => ?_)
          · refine zp_iconst (v := nI (0)) dX11_mac_50 (by decide) ?_
            refine zp_bipush (v := nI (54)) dX11_mac_51 (by decide) ?_
            refine zp_ixor dX11_mac_53 ?_
            refine zp_pc (pc' := 54) rfl ?_
            refine zn_iast dX11_mac_54 (by omega) k3_1 (by omega) (by omega) ?_
            refine zp_nh (fun h4x eh4x => ?_)
            have k4_0 := (congrFun eh4x (64)).trans ((va_up_ne _ _ (by omega)).trans k3_0)
            have k4_1 : h4x (75) = some (.inr (1000, .inl (va_up (zfl f75 (0) (k2) (fun i => nI ((zkey b ks 54).getD i 0))) (k2) ((nI (0)) ^^^ (nI (54)))))) := by rw [eh4x]; exact va_up_self _ _ _
            have k4_2 := (congrFun eh4x (q)).trans ((va_up_ne _ _ (by omega)).trans k3_2)
            have k4_3 := (congrFun eh4x (p)).trans ((va_up_ne _ _ (by omega)).trans k3_3)
            refine zn_iinc 1 (ls' := [some (.ref (64)), some (.int (nI (zbi b))), some (.ref (q)), some (.ref (p)), some (.int (nI (xs.length))), some (.int (nI (16 * zwb b))), some (.int (nI (8 * zwb b))), some (.int (nI (k2 + 1)))]) dX11_mac_55 (by decide) (by decide) rfl rfl ?_
            refine zp_goto (tgt := 23) dX11_mac_58 (by decide) ?_
            refine zp_pc (pc' := 23) rfl ?_
            rw [zfl_step eX2 eh4x (by omega) (by show _ = nI ((zkey b ks 54).getD k2 0); unfold zkey; rw [zmap_getD (by omega), nx_xor, zgetD_ge (by omega)])]
            exact ih ((16 * zwb b) - (k2 + 1)) (by omega) (k2 + 1) rfl (by omega)
          · refine zp_aload_n dX11_mac_43 rfl ?_
            refine zp_iload dX11_mac_44 rfl ?_
            refine zp_pc (pc' := 46) rfl ?_
            refine zn_iald (j := k2) dX11_mac_46 k3_2 (by omega) (by omega) ?_
            refine zp_i (y := nI (ks.getD k2 0)) (k5 _ (by omega)) ?_
            refine zp_goto (tgt := 51) dX11_mac_47 (by decide) ?_
            refine zp_bipush (v := nI (54)) dX11_mac_51 (by decide) ?_
            refine zp_ixor dX11_mac_53 ?_
            refine zp_pc (pc' := 54) rfl ?_
            refine zn_iast dX11_mac_54 (by omega) k3_1 (by omega) (by omega) ?_
            refine zp_nh (fun h5x eh5x => ?_)
            have k5_0 := (congrFun eh5x (64)).trans ((va_up_ne _ _ (by omega)).trans k3_0)
            have k5_1 : h5x (75) = some (.inr (1000, .inl (va_up (zfl f75 (0) (k2) (fun i => nI ((zkey b ks 54).getD i 0))) (k2) ((nI (ks.getD k2 0)) ^^^ (nI (54)))))) := by rw [eh5x]; exact va_up_self _ _ _
            have k5_2 := (congrFun eh5x (q)).trans ((va_up_ne _ _ (by omega)).trans k3_2)
            have k5_3 := (congrFun eh5x (p)).trans ((va_up_ne _ _ (by omega)).trans k3_3)
            refine zn_iinc 1 (ls' := [some (.ref (64)), some (.int (nI (zbi b))), some (.ref (q)), some (.ref (p)), some (.int (nI (xs.length))), some (.int (nI (16 * zwb b))), some (.int (nI (8 * zwb b))), some (.int (nI (k2 + 1)))]) dX11_mac_55 (by decide) (by decide) rfl rfl ?_
            refine zp_goto (tgt := 23) dX11_mac_58 (by decide) ?_
            refine zp_pc (pc' := 23) rfl ?_
            rw [zfl_step eX2 eh5x (by omega) (by show _ = nI ((zkey b ks 54).getD k2 0); unfold zkey; rw [zmap_getD (by omega), nx_xor])]
            exact ih ((16 * zwb b) - (k2 + 1)) (by omega) (k2 + 1) rfl (by omega)
    suffices K2 : zP g mX11_mac (zR 4 0 0) Qf 0 0 61 [some (.ref (64)), some (.int (nI (zbi b))), some (.ref (q)), some (.ref (p)), some (.int (nI (xs.length))), some (.int (nI (16 * zwb b))), some (.int (nI (8 * zwb b))), some (.int (nI (16 * zwb b)))] [] (va_up h (75) (some (.inr (1000, .inl (zfl f75 (0) (16 * zwb b) (fun i => nI ((zkey b ks 54).getD i 0))))))) n by
      have q := lp2 K2 ((16 * zwb b) - 0) 0 rfl (Nat.zero_le _)
      rw [zfl_0, zup_same i75] at q
      exact q
    refine zp_nh (fun hY2 eY2 => ?_)
    have k6_0 := (congrFun eY2 (64)).trans ((va_up_ne _ _ (by omega)).trans ho)
    have k6_1 : hY2 (75) = some (.inr (1000, .inl (zfl f75 (0) (16 * zwb b) (fun i => nI ((zkey b ks 54).getD i 0))))) := by rw [eY2]; exact va_up_self _ _ _
    have k6_2 := (congrFun eY2 (q)).trans ((va_up_ne _ _ (by omega)).trans k4)
    have k6_3 := (congrFun eY2 (p)).trans ((va_up_ne _ _ (by omega)).trans x4)
    refine zp_iconst (v := nI (0)) dX11_mac_61 (by decide) ?_
    refine zp_istore (ls' := [some (.ref (64)), some (.int (nI (zbi b))), some (.ref (q)), some (.ref (p)), some (.int (nI (xs.length))), some (.int (nI (16 * zwb b))), some (.int (nI (8 * zwb b))), some (.int (nI (0)))]) dX11_mac_62 (by decide) rfl ?_
    refine zp_pc (pc' := 64) rfl ?_
    have lp7 : zP g mX11_mac (zR 4 0 0) Qf 0 0 91 [some (.ref (64)), some (.int (nI (zbi b))), some (.ref (q)), some (.ref (p)), some (.int (nI (xs.length))), some (.int (nI (16 * zwb b))), some (.int (nI (8 * zwb b))), some (.int (nI (xs.length)))] [] (va_up hY2 (75) (some (.inr (1000, .inl (zfl (zfl f75 (0) (16 * zwb b) (fun i => nI ((zkey b ks 54).getD i 0))) (16 * zwb b) (xs.length) (fun i => nI (xs.getD i 0))))))) n → ∀ (m k7 : Nat), m = (xs.length) - k7 → k7 ≤ (xs.length) → zP g mX11_mac (zR 4 0 0) Qf 0 0 64 [some (.ref (64)), some (.int (nI (zbi b))), some (.ref (q)), some (.ref (p)), some (.int (nI (xs.length))), some (.int (nI (16 * zwb b))), some (.int (nI (8 * zwb b))), some (.int (nI (k7)))] [] (va_up hY2 (75) (some (.inr (1000, .inl (zfl (zfl f75 (0) (16 * zwb b) (fun i => nI ((zkey b ks 54).getD i 0))) (16 * zwb b) (k7) (fun i => nI (xs.getD i 0))))))) n := by
      intro kk m
      induction m using Nat.strongRecOn with
      | _ m ih =>
        intro k7 hm7 hk7
        refine zp_nh (fun hX7 eX7 => ?_)
        have k8_0 := (congrFun eX7 (64)).trans ((va_up_ne _ _ (by omega)).trans k6_0)
        have k8_1 : hX7 (75) = some (.inr (1000, .inl (zfl (zfl f75 (0) (16 * zwb b) (fun i => nI ((zkey b ks 54).getD i 0))) (16 * zwb b) (k7) (fun i => nI (xs.getD i 0))))) := by rw [eX7]; exact va_up_self _ _ _
        have k8_2 := (congrFun eX7 (q)).trans ((va_up_ne _ _ (by omega)).trans k6_2)
        have k8_3 := (congrFun eX7 (p)).trans ((va_up_ne _ _ (by omega)).trans k6_3)
        refine zp_iload dX11_mac_64 rfl ?_
        refine zp_iload dX11_mac_66 rfl ?_
        refine zp_pc (pc' := 68) rfl ?_
        refine zn_icmp_ge (tgt := 91) dX11_mac_68 (by decide) (by omega) (by omega) (fun c68 => ?_) (fun c68 => ?_)
        · have e7 : k7 = (xs.length) := by omega
          subst e7
          rw [eX7]
          exact kk
        · refine zp_aload_n dX11_mac_71 rfl ?_
          refine zp_get dX11_mac_72 gX11_41_10 k8_0 rfl ?_
          refine zp_iload dX11_mac_75 rfl ?_
          refine zp_iload dX11_mac_77 rfl ?_
          refine zn_iadd dX11_mac_79 ?_
          refine zp_aload_n dX11_mac_80 rfl ?_
          refine zp_iload dX11_mac_81 rfl ?_
          refine zp_pc (pc' := 83) rfl ?_
          refine zn_iald (j := k7) dX11_mac_83 k8_3 (by omega) (by omega) ?_
          refine zp_i (y := nI (xs.getD k7 0)) (x5 _ (by omega)) ?_
          refine zn_iast dX11_mac_84 (by omega) k8_1 (by omega) (by omega) ?_
          refine zp_nh (fun h9x eh9x => ?_)
          have k9_0 := (congrFun eh9x (64)).trans ((va_up_ne _ _ (by omega)).trans k8_0)
          have k9_1 : h9x (75) = some (.inr (1000, .inl (va_up (zfl (zfl f75 (0) (16 * zwb b) (fun i => nI ((zkey b ks 54).getD i 0))) (16 * zwb b) (k7) (fun i => nI (xs.getD i 0))) ((16 * zwb b) + (k7)) (nI (xs.getD k7 0))))) := by rw [eh9x]; exact va_up_self _ _ _
          have k9_2 := (congrFun eh9x (q)).trans ((va_up_ne _ _ (by omega)).trans k8_2)
          have k9_3 := (congrFun eh9x (p)).trans ((va_up_ne _ _ (by omega)).trans k8_3)
          refine zp_pc (pc' := 85) rfl ?_
          refine zn_iinc 1 (ls' := [some (.ref (64)), some (.int (nI (zbi b))), some (.ref (q)), some (.ref (p)), some (.int (nI (xs.length))), some (.int (nI (16 * zwb b))), some (.int (nI (8 * zwb b))), some (.int (nI (k7 + 1)))]) dX11_mac_85 (by decide) (by decide) rfl rfl ?_
          refine zp_goto (tgt := 64) dX11_mac_88 (by decide) ?_
          refine zp_pc (pc' := 64) rfl ?_
          rw [zfl_step eX7 eh9x (by omega) rfl]
          exact ih ((xs.length) - (k7 + 1)) (by omega) (k7 + 1) rfl (by omega)
    suffices K7 : zP g mX11_mac (zR 4 0 0) Qf 0 0 91 [some (.ref (64)), some (.int (nI (zbi b))), some (.ref (q)), some (.ref (p)), some (.int (nI (xs.length))), some (.int (nI (16 * zwb b))), some (.int (nI (8 * zwb b))), some (.int (nI (xs.length)))] [] (va_up hY2 (75) (some (.inr (1000, .inl (zfl (zfl f75 (0) (16 * zwb b) (fun i => nI ((zkey b ks 54).getD i 0))) (16 * zwb b) (xs.length) (fun i => nI (xs.getD i 0))))))) n by
      have q := lp7 K7 ((xs.length) - 0) 0 rfl (Nat.zero_le _)
      rw [zfl_0, zup_same k6_1] at q
      exact q
    refine zp_nh (fun hY7 eY7 => ?_)
    have k10_0 := (congrFun eY7 (64)).trans ((va_up_ne _ _ (by omega)).trans k6_0)
    have k10_1 : hY7 (75) = some (.inr (1000, .inl (zfl (zfl f75 (0) (16 * zwb b) (fun i => nI ((zkey b ks 54).getD i 0))) (16 * zwb b) (xs.length) (fun i => nI (xs.getD i 0))))) := by rw [eY7]; exact va_up_self _ _ _
    have k10_2 := (congrFun eY7 (q)).trans ((va_up_ne _ _ (by omega)).trans k6_2)
    have k10_3 := (congrFun eY7 (p)).trans ((va_up_ne _ _ (by omega)).trans k6_3)
    refine zp_aload_n dX11_mac_91 rfl ?_
    refine zp_iload_n dX11_mac_92 rfl ?_
    refine zp_aload_n dX11_mac_93 rfl ?_
    refine zp_get dX11_mac_94 gX11_41_10 k10_0 rfl ?_
    refine zp_iload dX11_mac_97 rfl ?_
    refine zp_iload dX11_mac_99 rfl ?_
    refine zn_iadd dX11_mac_101 ?_
    refine zp_pc (pc' := 102) rfl ?_
    have a1 : zar hY7 75 1000 (zkey b ks 54 ++ xs) := zar.mk (L := 16 * zwb b + xs.length) k10_1 (by rw [List.length_append, z54]) (by omega) (by decide) (zapp_lt (zkey_lt b k3 (by decide)) x3) (zfl2 z54.symm)
    have sB : zsm h hY7 (zon 75) := (((zsm.fill eY2)).mono (fun i hi => by unfold zon; unfold zon at hi; omega)).trans (((zsm.fill eY7)).mono (fun i hi => by unfold zon; unfold zon at hi; omega))
    have lL1 : (zkey b ks 54 ++ xs).length = 16 * zwb b + xs.length := by rw [List.length_append, z54]
    refine zp_i (y := nI ((zkey b ks 54 ++ xs).length)) (by rw [lL1]) ?_
    refine zp_callV (As := [.int (nI (zbi b)), .ref (75), .int (nI ((zkey b ks 54 ++ xs).length))]) (k := 64) (st := []) (ci := 10) dX11_mac_102 cX11_170 rfl k10_0 rfl rfl (e_mdigest (b := b) (p := 75) (ht.off sB (fun i hi => by unfold zon at hi; omega)) k10_0 a1 (by omega) (by omega)) (by decide) (by decide) (Nat.le_of_ble_eq_true rfl) (fun v11 h11 n11 q11 => ?_)
    obtain ⟨rfl, N11, s11, d11, t11⟩ := q11
    rw [N11]
    refine zp_nrm (cells' := 0) (slots' := 0) (st' := []) rfl rfl rfl ?_
    obtain ⟨y1, y2, y3, fd, y4, y5⟩ := id d11
    have yl := zhash_len b (zkey b ks 54 ++ xs)
    have m12 : h11 (64) = some (.inl (10, [.int (th), .ref (65), .ref (66), .ref (67), .ref (68), .ref (69), .ref (70), .ref (71), .ref (72), .ref (73), .ref (74), .ref (75), .ref (76), .ref (77), .ref (78), .ref (79), .ref (80), .ref (81), .ref (82), .ref (83), .ref (84), .int (nI (wt)), .int (nI (zbi un)), .int (rp), .int (wi), .int (pa), .int (be), .int (ru), .int (sa), .int (me), .int (se), .int (ta), .int (fa), .ref (85), .ref (86), .ref (87), .int (nI (mn)), .ref (88), .ref (89), .ref (90), .ref (91), .ref (92), .ref (93), .int (nI (tp)), .ref (94), .int (nI (ou))])) := (s11 _ (by unfold zb3; omega)).trans k10_0
    have m13 : h11 (75) = some (.inr (1000, .inl (zfl (zfl f75 (0) (16 * zwb b) (fun i => nI ((zkey b ks 54).getD i 0))) (16 * zwb b) (xs.length) (fun i => nI (xs.getD i 0))))) := (s11 _ (by unfold zb3; omega)).trans k10_1
    have m14 : h11 (q) = some (.inr (Nq, .inl fk)) := (s11 _ (by unfold zb3; omega)).trans k10_2
    have m15 : h11 (p) = some (.inr (Np, .inl fx)) := (s11 _ (by unfold zb3; omega)).trans k10_3
    refine zp_iconst (v := nI (0)) dX11_mac_105 (by decide) ?_
    refine zp_istore (ls' := [some (.ref (64)), some (.int (nI (zbi b))), some (.ref (q)), some (.ref (p)), some (.int (nI (xs.length))), some (.int (nI (16 * zwb b))), some (.int (nI (8 * zwb b))), some (.int (nI (0)))]) dX11_mac_106 (by decide) rfl ?_
    refine zp_pc (pc' := 108) rfl ?_
    have lp16 : zP g mX11_mac (zR 4 0 0) Qf 0 0 146 [some (.ref (64)), some (.int (nI (zbi b))), some (.ref (q)), some (.ref (p)), some (.int (nI (xs.length))), some (.int (nI (16 * zwb b))), some (.int (nI (8 * zwb b))), some (.int (nI (16 * zwb b)))] [] (va_up h11 (75) (some (.inr (1000, .inl (zfl (zfl (zfl f75 (0) (16 * zwb b) (fun i => nI ((zkey b ks 54).getD i 0))) (16 * zwb b) (xs.length) (fun i => nI (xs.getD i 0))) (0) (16 * zwb b) (fun i => nI ((zkey b ks 92).getD i 0))))))) n → ∀ (m k16 : Nat), m = (16 * zwb b) - k16 → k16 ≤ (16 * zwb b) → zP g mX11_mac (zR 4 0 0) Qf 0 0 108 [some (.ref (64)), some (.int (nI (zbi b))), some (.ref (q)), some (.ref (p)), some (.int (nI (xs.length))), some (.int (nI (16 * zwb b))), some (.int (nI (8 * zwb b))), some (.int (nI (k16)))] [] (va_up h11 (75) (some (.inr (1000, .inl (zfl (zfl (zfl f75 (0) (16 * zwb b) (fun i => nI ((zkey b ks 54).getD i 0))) (16 * zwb b) (xs.length) (fun i => nI (xs.getD i 0))) (0) (k16) (fun i => nI ((zkey b ks 92).getD i 0))))))) n := by
      intro kk m
      induction m using Nat.strongRecOn with
      | _ m ih =>
        intro k16 hm16 hk16
        refine zp_nh (fun hX16 eX16 => ?_)
        have k17_0 := (congrFun eX16 (64)).trans ((va_up_ne _ _ (by omega)).trans m12)
        have k17_1 : hX16 (75) = some (.inr (1000, .inl (zfl (zfl (zfl f75 (0) (16 * zwb b) (fun i => nI ((zkey b ks 54).getD i 0))) (16 * zwb b) (xs.length) (fun i => nI (xs.getD i 0))) (0) (k16) (fun i => nI ((zkey b ks 92).getD i 0))))) := by rw [eX16]; exact va_up_self _ _ _
        have k17_2 := (congrFun eX16 (q)).trans ((va_up_ne _ _ (by omega)).trans m14)
        have k17_3 := (congrFun eX16 (p)).trans ((va_up_ne _ _ (by omega)).trans m15)
        have k17_4 := (congrFun eX16 (74)).trans ((va_up_ne _ _ (by omega)).trans y4)
        refine zp_iload dX11_mac_108 rfl ?_
        refine zp_iload dX11_mac_110 rfl ?_
        refine zp_pc (pc' := 112) rfl ?_
        refine zn_icmp_ge (tgt := 146) dX11_mac_112 (by decide) (by omega) (by omega) (fun c112 => ?_) (fun c112 => ?_)
        · have e16 : k16 = (16 * zwb b) := by omega
          subst e16
          rw [eX16]
          exact kk
        · refine zp_aload_n dX11_mac_115 rfl ?_
          refine zp_get dX11_mac_116 gX11_41_10 k17_0 rfl ?_
          refine zp_iload dX11_mac_119 rfl ?_
          refine zp_iload dX11_mac_121 rfl ?_
          refine zp_iload dX11_mac_123 rfl ?_
          refine zp_pc (pc' := 125) rfl ?_
          refine zn_icmp_ge (tgt := 135) dX11_mac_125 (by decide) (by omega) (by omega) (fun c125 => ?_) (fun c125 => ?_)
          · refine zp_iconst (v := nI (0)) dX11_mac_135 (by decide) ?_
            refine zp_bipush (v := nI (92)) dX11_mac_136 (by decide) ?_
            refine zp_ixor dX11_mac_138 ?_
            refine zp_pc (pc' := 139) rfl ?_
            refine zn_iast dX11_mac_139 (by omega) k17_1 (by omega) (by omega) ?_
            refine zp_nh (fun h18x eh18x => ?_)
            have k18_0 := (congrFun eh18x (64)).trans ((va_up_ne _ _ (by omega)).trans k17_0)
            have k18_1 : h18x (75) = some (.inr (1000, .inl (va_up (zfl (zfl (zfl f75 (0) (16 * zwb b) (fun i => nI ((zkey b ks 54).getD i 0))) (16 * zwb b) (xs.length) (fun i => nI (xs.getD i 0))) (0) (k16) (fun i => nI ((zkey b ks 92).getD i 0))) (k16) ((nI (0)) ^^^ (nI (92)))))) := by rw [eh18x]; exact va_up_self _ _ _
            have k18_2 := (congrFun eh18x (q)).trans ((va_up_ne _ _ (by omega)).trans k17_2)
            have k18_3 := (congrFun eh18x (p)).trans ((va_up_ne _ _ (by omega)).trans k17_3)
            have k18_4 := (congrFun eh18x (74)).trans ((va_up_ne _ _ (by omega)).trans k17_4)
            refine zn_iinc 1 (ls' := [some (.ref (64)), some (.int (nI (zbi b))), some (.ref (q)), some (.ref (p)), some (.int (nI (xs.length))), some (.int (nI (16 * zwb b))), some (.int (nI (8 * zwb b))), some (.int (nI (k16 + 1)))]) dX11_mac_140 (by decide) (by decide) rfl rfl ?_
            refine zp_goto (tgt := 108) dX11_mac_143 (by decide) ?_
            refine zp_pc (pc' := 108) rfl ?_
            rw [zfl_step eX16 eh18x (by omega) (by show _ = nI ((zkey b ks 92).getD k16 0); unfold zkey; rw [zmap_getD (by omega), nx_xor, zgetD_ge (by omega)])]
            exact ih ((16 * zwb b) - (k16 + 1)) (by omega) (k16 + 1) rfl (by omega)
          · refine zp_aload_n dX11_mac_128 rfl ?_
            refine zp_iload dX11_mac_129 rfl ?_
            refine zp_pc (pc' := 131) rfl ?_
            refine zn_iald (j := k16) dX11_mac_131 k17_2 (by omega) (by omega) ?_
            refine zp_i (y := nI (ks.getD k16 0)) (k5 _ (by omega)) ?_
            refine zp_goto (tgt := 136) dX11_mac_132 (by decide) ?_
            refine zp_bipush (v := nI (92)) dX11_mac_136 (by decide) ?_
            refine zp_ixor dX11_mac_138 ?_
            refine zp_pc (pc' := 139) rfl ?_
            refine zn_iast dX11_mac_139 (by omega) k17_1 (by omega) (by omega) ?_
            refine zp_nh (fun h19x eh19x => ?_)
            have k19_0 := (congrFun eh19x (64)).trans ((va_up_ne _ _ (by omega)).trans k17_0)
            have k19_1 : h19x (75) = some (.inr (1000, .inl (va_up (zfl (zfl (zfl f75 (0) (16 * zwb b) (fun i => nI ((zkey b ks 54).getD i 0))) (16 * zwb b) (xs.length) (fun i => nI (xs.getD i 0))) (0) (k16) (fun i => nI ((zkey b ks 92).getD i 0))) (k16) ((nI (ks.getD k16 0)) ^^^ (nI (92)))))) := by rw [eh19x]; exact va_up_self _ _ _
            have k19_2 := (congrFun eh19x (q)).trans ((va_up_ne _ _ (by omega)).trans k17_2)
            have k19_3 := (congrFun eh19x (p)).trans ((va_up_ne _ _ (by omega)).trans k17_3)
            have k19_4 := (congrFun eh19x (74)).trans ((va_up_ne _ _ (by omega)).trans k17_4)
            refine zn_iinc 1 (ls' := [some (.ref (64)), some (.int (nI (zbi b))), some (.ref (q)), some (.ref (p)), some (.int (nI (xs.length))), some (.int (nI (16 * zwb b))), some (.int (nI (8 * zwb b))), some (.int (nI (k16 + 1)))]) dX11_mac_140 (by decide) (by decide) rfl rfl ?_
            refine zp_goto (tgt := 108) dX11_mac_143 (by decide) ?_
            refine zp_pc (pc' := 108) rfl ?_
            rw [zfl_step eX16 eh19x (by omega) (by show _ = nI ((zkey b ks 92).getD k16 0); unfold zkey; rw [zmap_getD (by omega), nx_xor])]
            exact ih ((16 * zwb b) - (k16 + 1)) (by omega) (k16 + 1) rfl (by omega)
    suffices K16 : zP g mX11_mac (zR 4 0 0) Qf 0 0 146 [some (.ref (64)), some (.int (nI (zbi b))), some (.ref (q)), some (.ref (p)), some (.int (nI (xs.length))), some (.int (nI (16 * zwb b))), some (.int (nI (8 * zwb b))), some (.int (nI (16 * zwb b)))] [] (va_up h11 (75) (some (.inr (1000, .inl (zfl (zfl (zfl f75 (0) (16 * zwb b) (fun i => nI ((zkey b ks 54).getD i 0))) (16 * zwb b) (xs.length) (fun i => nI (xs.getD i 0))) (0) (16 * zwb b) (fun i => nI ((zkey b ks 92).getD i 0))))))) n by
      have q := lp16 K16 ((16 * zwb b) - 0) 0 rfl (Nat.zero_le _)
      rw [zfl_0, zup_same m13] at q
      exact q
    refine zp_nh (fun hY16 eY16 => ?_)
    have k20_0 := (congrFun eY16 (64)).trans ((va_up_ne _ _ (by omega)).trans m12)
    have k20_1 : hY16 (75) = some (.inr (1000, .inl (zfl (zfl (zfl f75 (0) (16 * zwb b) (fun i => nI ((zkey b ks 54).getD i 0))) (16 * zwb b) (xs.length) (fun i => nI (xs.getD i 0))) (0) (16 * zwb b) (fun i => nI ((zkey b ks 92).getD i 0))))) := by rw [eY16]; exact va_up_self _ _ _
    have k20_2 := (congrFun eY16 (q)).trans ((va_up_ne _ _ (by omega)).trans m14)
    have k20_3 := (congrFun eY16 (p)).trans ((va_up_ne _ _ (by omega)).trans m15)
    have k20_4 := (congrFun eY16 (74)).trans ((va_up_ne _ _ (by omega)).trans y4)
    refine zp_iconst (v := nI (0)) dX11_mac_146 (by decide) ?_
    refine zp_istore (ls' := [some (.ref (64)), some (.int (nI (zbi b))), some (.ref (q)), some (.ref (p)), some (.int (nI (xs.length))), some (.int (nI (16 * zwb b))), some (.int (nI (8 * zwb b))), some (.int (nI (0)))]) dX11_mac_147 (by decide) rfl ?_
    refine zp_pc (pc' := 149) rfl ?_
    have lp21 : zP g mX11_mac (zR 4 0 0) Qf 0 0 179 [some (.ref (64)), some (.int (nI (zbi b))), some (.ref (q)), some (.ref (p)), some (.int (nI (xs.length))), some (.int (nI (16 * zwb b))), some (.int (nI (8 * zwb b))), some (.int (nI (8 * zwb b)))] [] (va_up hY16 (75) (some (.inr (1000, .inl (zfl (zfl (zfl (zfl f75 (0) (16 * zwb b) (fun i => nI ((zkey b ks 54).getD i 0))) (16 * zwb b) (xs.length) (fun i => nI (xs.getD i 0))) (0) (16 * zwb b) (fun i => nI ((zkey b ks 92).getD i 0))) (16 * zwb b) (8 * zwb b) (fun i => nI ((zhash b (zkey b ks 54 ++ xs)).getD i 0))))))) n → ∀ (m k21 : Nat), m = (8 * zwb b) - k21 → k21 ≤ (8 * zwb b) → zP g mX11_mac (zR 4 0 0) Qf 0 0 149 [some (.ref (64)), some (.int (nI (zbi b))), some (.ref (q)), some (.ref (p)), some (.int (nI (xs.length))), some (.int (nI (16 * zwb b))), some (.int (nI (8 * zwb b))), some (.int (nI (k21)))] [] (va_up hY16 (75) (some (.inr (1000, .inl (zfl (zfl (zfl (zfl f75 (0) (16 * zwb b) (fun i => nI ((zkey b ks 54).getD i 0))) (16 * zwb b) (xs.length) (fun i => nI (xs.getD i 0))) (0) (16 * zwb b) (fun i => nI ((zkey b ks 92).getD i 0))) (16 * zwb b) (k21) (fun i => nI ((zhash b (zkey b ks 54 ++ xs)).getD i 0))))))) n := by
      intro kk m
      induction m using Nat.strongRecOn with
      | _ m ih =>
        intro k21 hm21 hk21
        refine zp_nh (fun hX21 eX21 => ?_)
        have k22_0 := (congrFun eX21 (64)).trans ((va_up_ne _ _ (by omega)).trans k20_0)
        have k22_1 : hX21 (75) = some (.inr (1000, .inl (zfl (zfl (zfl (zfl f75 (0) (16 * zwb b) (fun i => nI ((zkey b ks 54).getD i 0))) (16 * zwb b) (xs.length) (fun i => nI (xs.getD i 0))) (0) (16 * zwb b) (fun i => nI ((zkey b ks 92).getD i 0))) (16 * zwb b) (k21) (fun i => nI ((zhash b (zkey b ks 54 ++ xs)).getD i 0))))) := by rw [eX21]; exact va_up_self _ _ _
        have k22_2 := (congrFun eX21 (q)).trans ((va_up_ne _ _ (by omega)).trans k20_2)
        have k22_3 := (congrFun eX21 (p)).trans ((va_up_ne _ _ (by omega)).trans k20_3)
        have k22_4 := (congrFun eX21 (74)).trans ((va_up_ne _ _ (by omega)).trans k20_4)
        refine zp_iload dX11_mac_149 rfl ?_
        refine zp_iload dX11_mac_151 rfl ?_
        refine zp_pc (pc' := 153) rfl ?_
        refine zn_icmp_ge (tgt := 179) dX11_mac_153 (by decide) (by omega) (by omega) (fun c153 => ?_) (fun c153 => ?_)
        · have e21 : k21 = (8 * zwb b) := by omega
          subst e21
          rw [eX21]
          exact kk
        · refine zp_aload_n dX11_mac_156 rfl ?_
          refine zp_get dX11_mac_157 gX11_41_10 k22_0 rfl ?_
          refine zp_iload dX11_mac_160 rfl ?_
          refine zp_iload dX11_mac_162 rfl ?_
          refine zn_iadd dX11_mac_164 ?_
          refine zp_aload_n dX11_mac_165 rfl ?_
          refine zp_get dX11_mac_166 gX11_38_10 k22_0 rfl ?_
          refine zp_iload dX11_mac_169 rfl ?_
          refine zp_pc (pc' := 171) rfl ?_
          refine zn_iald (j := k21) dX11_mac_171 k22_4 (by omega) (by omega) ?_
          refine zp_i (y := nI ((zhash b (zkey b ks 54 ++ xs)).getD k21 0)) (y5 _ (by omega)) ?_
          refine zn_iast dX11_mac_172 (by omega) k22_1 (by omega) (by omega) ?_
          refine zp_nh (fun h23x eh23x => ?_)
          have k23_0 := (congrFun eh23x (64)).trans ((va_up_ne _ _ (by omega)).trans k22_0)
          have k23_1 : h23x (75) = some (.inr (1000, .inl (va_up (zfl (zfl (zfl (zfl f75 (0) (16 * zwb b) (fun i => nI ((zkey b ks 54).getD i 0))) (16 * zwb b) (xs.length) (fun i => nI (xs.getD i 0))) (0) (16 * zwb b) (fun i => nI ((zkey b ks 92).getD i 0))) (16 * zwb b) (k21) (fun i => nI ((zhash b (zkey b ks 54 ++ xs)).getD i 0))) ((16 * zwb b) + (k21)) (nI ((zhash b (zkey b ks 54 ++ xs)).getD k21 0))))) := by rw [eh23x]; exact va_up_self _ _ _
          have k23_2 := (congrFun eh23x (q)).trans ((va_up_ne _ _ (by omega)).trans k22_2)
          have k23_3 := (congrFun eh23x (p)).trans ((va_up_ne _ _ (by omega)).trans k22_3)
          have k23_4 := (congrFun eh23x (74)).trans ((va_up_ne _ _ (by omega)).trans k22_4)
          refine zp_pc (pc' := 173) rfl ?_
          refine zn_iinc 1 (ls' := [some (.ref (64)), some (.int (nI (zbi b))), some (.ref (q)), some (.ref (p)), some (.int (nI (xs.length))), some (.int (nI (16 * zwb b))), some (.int (nI (8 * zwb b))), some (.int (nI (k21 + 1)))]) dX11_mac_173 (by decide) (by decide) rfl rfl ?_
          refine zp_goto (tgt := 149) dX11_mac_176 (by decide) ?_
          refine zp_pc (pc' := 149) rfl ?_
          rw [zfl_step eX21 eh23x (by omega) rfl]
          exact ih ((8 * zwb b) - (k21 + 1)) (by omega) (k21 + 1) rfl (by omega)
    suffices K21 : zP g mX11_mac (zR 4 0 0) Qf 0 0 179 [some (.ref (64)), some (.int (nI (zbi b))), some (.ref (q)), some (.ref (p)), some (.int (nI (xs.length))), some (.int (nI (16 * zwb b))), some (.int (nI (8 * zwb b))), some (.int (nI (8 * zwb b)))] [] (va_up hY16 (75) (some (.inr (1000, .inl (zfl (zfl (zfl (zfl f75 (0) (16 * zwb b) (fun i => nI ((zkey b ks 54).getD i 0))) (16 * zwb b) (xs.length) (fun i => nI (xs.getD i 0))) (0) (16 * zwb b) (fun i => nI ((zkey b ks 92).getD i 0))) (16 * zwb b) (8 * zwb b) (fun i => nI ((zhash b (zkey b ks 54 ++ xs)).getD i 0))))))) n by
      have q := lp21 K21 ((8 * zwb b) - 0) 0 rfl (Nat.zero_le _)
      rw [zfl_0, zup_same k20_1] at q
      exact q
    refine zp_nh (fun hY21 eY21 => ?_)
    have k24_0 := (congrFun eY21 (64)).trans ((va_up_ne _ _ (by omega)).trans k20_0)
    have k24_1 : hY21 (75) = some (.inr (1000, .inl (zfl (zfl (zfl (zfl f75 (0) (16 * zwb b) (fun i => nI ((zkey b ks 54).getD i 0))) (16 * zwb b) (xs.length) (fun i => nI (xs.getD i 0))) (0) (16 * zwb b) (fun i => nI ((zkey b ks 92).getD i 0))) (16 * zwb b) (8 * zwb b) (fun i => nI ((zhash b (zkey b ks 54 ++ xs)).getD i 0))))) := by rw [eY21]; exact va_up_self _ _ _
    have k24_2 := (congrFun eY21 (q)).trans ((va_up_ne _ _ (by omega)).trans k20_2)
    have k24_3 := (congrFun eY21 (p)).trans ((va_up_ne _ _ (by omega)).trans k20_3)
    have k24_4 := (congrFun eY21 (74)).trans ((va_up_ne _ _ (by omega)).trans k20_4)
    refine zp_aload_n dX11_mac_179 rfl ?_
    refine zp_iload_n dX11_mac_180 rfl ?_
    refine zp_aload_n dX11_mac_181 rfl ?_
    refine zp_get dX11_mac_182 gX11_41_10 k24_0 rfl ?_
    refine zp_iload dX11_mac_185 rfl ?_
    refine zp_iload dX11_mac_187 rfl ?_
    refine zn_iadd dX11_mac_189 ?_
    refine zp_pc (pc' := 190) rfl ?_
    have a2 : zar hY21 75 1000 (zkey b ks 92 ++ (zhash b (zkey b ks 54 ++ xs))) := zar.mk (L := 16 * zwb b + 8 * zwb b) k24_1 (by rw [List.length_append, z92, yl]) (by omega) (by decide) (zapp_lt (zkey_lt b k3 (by decide)) (zhash_lt b _)) (by rw [← yl]; exact zfl2 z92.symm)
    have sC : zsm h11 hY21 (zon 75) := (((zsm.fill eY16)).mono (fun i hi => by unfold zon; unfold zon at hi; omega)).trans (((zsm.fill eY21)).mono (fun i hi => by unfold zon; unfold zon at hi; omega))
    have lL2 : (zkey b ks 92 ++ (zhash b (zkey b ks 54 ++ xs))).length = 16 * zwb b + 8 * zwb b := by rw [List.length_append, z92, yl]
    refine zp_i (y := nI ((zkey b ks 92 ++ (zhash b (zkey b ks 54 ++ xs))).length)) (by rw [lL2]) ?_
    refine zp_callV (As := [.int (nI (zbi b)), .ref (75), .int (nI ((zkey b ks 92 ++ (zhash b (zkey b ks 54 ++ xs))).length))]) (k := 64) (st := []) (ci := 10) dX11_mac_190 cX11_170 rfl k24_0 rfl rfl (e_mdigest (b := b) (p := 75) (t11.off sC (fun i hi => by unfold zon at hi; omega)) k24_0 a2 (by omega) (by omega)) (by decide) (by decide) (Nat.le_of_ble_eq_true rfl) (fun v25 h25 n25 q25 => ?_)
    obtain ⟨rfl, N25, s25, d25, t25⟩ := q25
    rw [N25]
    refine zp_nrm (cells' := 0) (slots' := 0) (st' := []) rfl rfl rfl ?_
    have m26 : h25 (64) = some (.inl (10, [.int (th), .ref (65), .ref (66), .ref (67), .ref (68), .ref (69), .ref (70), .ref (71), .ref (72), .ref (73), .ref (74), .ref (75), .ref (76), .ref (77), .ref (78), .ref (79), .ref (80), .ref (81), .ref (82), .ref (83), .ref (84), .int (nI (wt)), .int (nI (zbi un)), .int (rp), .int (wi), .int (pa), .int (be), .int (ru), .int (sa), .int (me), .int (se), .int (ta), .int (fa), .ref (85), .ref (86), .ref (87), .int (nI (mn)), .ref (88), .ref (89), .ref (90), .ref (91), .ref (92), .ref (93), .int (nI (tp)), .ref (94), .int (nI (ou))])) := (s25 _ (by unfold zb3; omega)).trans k24_0
    have m27 : h25 (75) = some (.inr (1000, .inl (zfl (zfl (zfl (zfl f75 (0) (16 * zwb b) (fun i => nI ((zkey b ks 54).getD i 0))) (16 * zwb b) (xs.length) (fun i => nI (xs.getD i 0))) (0) (16 * zwb b) (fun i => nI ((zkey b ks 92).getD i 0))) (16 * zwb b) (8 * zwb b) (fun i => nI ((zhash b (zkey b ks 54 ++ xs)).getD i 0))))) := (s25 _ (by unfold zb3; omega)).trans k24_1
    have m28 : h25 (q) = some (.inr (Nq, .inl fk)) := (s25 _ (by unfold zb3; omega)).trans k24_2
    have m29 : h25 (p) = some (.inr (Np, .inl fx)) := (s25 _ (by unfold zb3; omega)).trans k24_3
    have sA : zsm h h25 (zb3 70 75) := (((((((zsm.fill eY2)).mono (fun i hi => by unfold zb3; unfold zon at hi; omega)).trans (((zsm.fill eY7)).mono (fun i hi => by unfold zb3; unfold zon at hi; omega))).trans ((s11).mono (fun i hi => by unfold zb3; unfold zb3 at hi; omega))).trans (((zsm.fill eY16)).mono (fun i hi => by unfold zb3; unfold zon at hi; omega))).trans (((zsm.fill eY21)).mono (fun i hi => by unfold zb3; unfold zon at hi; omega))).trans ((s25).mono (fun i hi => by unfold zb3; unfold zb3 at hi; omega))
    refine zp_ret (v := none) dX11_mac_193 ⟨rfl, rfl⟩ (by decide) (by decide) ?_
    rw [hQ]
    exact ⟨rfl, rfl, sA, d25, t25, ⟨_, m27⟩⟩
  refine zp_iload_n dX11_mac_0 rfl ?_
  refine zp_pc (pc' := 1) rfl ?_
  refine zn_if_eq (tgt := 10) dX11_mac_1 (by decide) (by omega) (fun c1 => ?_) (fun c1 => ?_)
  · have bb : b = false := by cases b; rfl; exact absurd c1 (by decide)
    refine zp_bipush (v := nI (64)) dX11_mac_10 (by decide) ?_
    refine zp_istore (ls' := [some (.ref (64)), some (.int (nI (zbi b))), some (.ref (q)), some (.ref (p)), some (.int (nI (xs.length))), some (.int (nI (64))), none, none]) dX11_mac_12 (by decide) rfl ?_
    refine zp_pc (pc' := 14) rfl ?_
    subst bb
    exact cont
  · have bb : b = true := by cases b; exact absurd rfl c1; rfl
    refine zp_sipush (v := nI (128)) dX11_mac_4 (by decide) ?_
    refine zp_goto (tgt := 12) dX11_mac_7 (by decide) ?_
    refine zp_istore (ls' := [some (.ref (64)), some (.int (nI (zbi b))), some (.ref (q)), some (.ref (p)), some (.int (nI (xs.length))), some (.int (nI (128))), none, none]) dX11_mac_12 (by decide) rfl ?_
    refine zp_pc (pc' := 14) rfl ?_
    subst bb
    exact cont
set_option maxRecDepth 10000 in
set_option maxHeartbeats 2000000 in
theorem e_mderive {g : ZG} {h : ZH} {n : Nat} {b : Bool} {p r Np Nr k : Nat} {xs : List Nat} {th : Int32} {wt : Nat} {un : Bool} {rp wi pa be ru sa me se ta fa : Int32} {mn tp ou : Nat} (ht : zmtl h) (ho : h 64 = some (.inl (10, [.int (th), .ref (65), .ref (66), .ref (67), .ref (68), .ref (69), .ref (70), .ref (71), .ref (72), .ref (73), .ref (74), .ref (75), .ref (76), .ref (77), .ref (78), .ref (79), .ref (80), .ref (81), .ref (82), .ref (83), .ref (84), .int (nI (wt)), .int (nI (zbi un)), .int (rp), .int (wi), .int (pa), .int (be), .int (ru), .int (sa), .int (me), .int (se), .int (ta), .int (fa), .ref (85), .ref (86), .ref (87), .int (nI (mn)), .ref (88), .ref (89), .ref (90), .ref (91), .ref (92), .ref (93), .int (nI (tp)), .ref (94), .int (nI (ou))]))) (hi : zia h 76 1000) (hx : zar h p Np xs) (hr : zia h r Nr) (hrN : k ≤ Nr) (hrM : Nr < 1000000) (hp : p < 70 ∨ 76 < p) (hr2 : 76 < r) (hpr : p ≠ r) (hl : xs.length ≤ 800) (hk : k ≤ 250) : zMt g mX11_derive (zR 4 0 0) [.ref (64), .int (nI (zbi b)), .ref (p), .int (nI (xs.length)), .ref (r), .int (nI (k))] h n (fun v h' n' => v = none ∧ n' = n ∧ zsm h h' (fun i => zb3 70 74 i ∨ i = 76 ∨ i = r) ∧ zar h' r Nr (zder b xs k) ∧ zmtl h' ∧ zia h' 76 1000) := by
  refine zMt.of [some (.ref (64)), some (.int (nI (zbi b))), some (.ref (p)), some (.int (nI (xs.length))), some (.ref (r)), some (.int (nI (k))), none, none, none] (by decide) rfl (Nat.le_of_ble_eq_true rfl) ?_
  obtain ⟨Qf, hQ⟩ : ∃ Qf : ZQ, Qf = (fun v h' n' => v = none ∧ n' = n ∧ zsm h h' (fun i => zb3 70 74 i ∨ i = 76 ∨ i = r) ∧ zar h' r Nr (zder b xs k) ∧ zmtl h' ∧ zia h' 76 1000) := ⟨_, rfl⟩
  rw [← hQ]
  have hz := zwb_or b
  obtain ⟨f76, i76⟩ := id hi
  obtain ⟨x1, x2, x3, fx, x4, x5⟩ := id hx
  obtain ⟨fr, r4⟩ := id hr
  refine zp_iload_n dX11_derive_0 rfl ?_
  refine zp_pc (pc' := 1) rfl ?_
  refine zp_callS (As := [.int (nI (zbi b))]) (st := []) dX11_derive_1 cX11_166 rfl (e_sizeOf (b := b)) (by decide) (by decide) (Nat.le_of_ble_eq_true rfl) (fun v1 h1 n1 q1 => ?_)
  obtain ⟨rfl, H1, N1⟩ := q1
  rw [N1, H1]
  refine zp_nrm (cells' := 0) (slots' := 0) (st' := [.int (nI (8 * zwb b))]) rfl rfl rfl ?_
  refine zp_istore (ls' := [some (.ref (64)), some (.int (nI (zbi b))), some (.ref (p)), some (.int (nI (xs.length))), some (.ref (r)), some (.int (nI (k))), some (.int (nI (8 * zwb b))), none, none]) dX11_derive_4 (by decide) rfl ?_
  refine zp_iconst (v := nI (0)) dX11_derive_6 (by decide) ?_
  refine zp_istore (ls' := [some (.ref (64)), some (.int (nI (zbi b))), some (.ref (p)), some (.int (nI (xs.length))), some (.ref (r)), some (.int (nI (k))), some (.int (nI (8 * zwb b))), some (.int (nI (0))), none]) dX11_derive_7 (by decide) rfl ?_
  refine zp_pc (pc' := 9) rfl ?_
  have lp2 : zP g mX11_derive (zR 4 0 0) Qf 0 0 34 [some (.ref (64)), some (.int (nI (zbi b))), some (.ref (p)), some (.int (nI (xs.length))), some (.ref (r)), some (.int (nI (k))), some (.int (nI (8 * zwb b))), some (.int (nI (xs.length))), none] [] (va_up h (76) (some (.inr (1000, .inl (zfl f76 (5) (xs.length) (fun i => nI (xs.getD i 0))))))) n → ∀ (m k2 : Nat), m = (xs.length) - k2 → k2 ≤ (xs.length) → zP g mX11_derive (zR 4 0 0) Qf 0 0 9 [some (.ref (64)), some (.int (nI (zbi b))), some (.ref (p)), some (.int (nI (xs.length))), some (.ref (r)), some (.int (nI (k))), some (.int (nI (8 * zwb b))), some (.int (nI (k2))), none] [] (va_up h (76) (some (.inr (1000, .inl (zfl f76 (5) (k2) (fun i => nI (xs.getD i 0))))))) n := by
    intro kk m
    induction m using Nat.strongRecOn with
    | _ m ih =>
      intro k2 hm2 hk2
      refine zp_nh (fun hX2 eX2 => ?_)
      have k3_0 := (congrFun eX2 (64)).trans ((va_up_ne _ _ (by omega)).trans ho)
      have k3_1 : hX2 (76) = some (.inr (1000, .inl (zfl f76 (5) (k2) (fun i => nI (xs.getD i 0))))) := by rw [eX2]; exact va_up_self _ _ _
      have k3_2 := (congrFun eX2 (p)).trans ((va_up_ne _ _ (by omega)).trans x4)
      have k3_3 := (congrFun eX2 (r)).trans ((va_up_ne _ _ (by omega)).trans r4)
      refine zp_iload dX11_derive_9 rfl ?_
      refine zp_iload_n dX11_derive_11 rfl ?_
      refine zp_pc (pc' := 12) rfl ?_
      refine zn_icmp_ge (tgt := 34) dX11_derive_12 (by decide) (by omega) (by omega) (fun c12 => ?_) (fun c12 => ?_)
      · have e2 : k2 = (xs.length) := by omega
        subst e2
        rw [eX2]
        exact kk
      · refine zp_aload_n dX11_derive_15 rfl ?_
        refine zp_get dX11_derive_16 gX11_44_10 k3_0 rfl ?_
        refine zp_iconst (v := nI (5)) dX11_derive_19 (by decide) ?_
        refine zp_iload dX11_derive_20 rfl ?_
        refine zn_iadd dX11_derive_22 ?_
        refine zp_aload_n dX11_derive_23 rfl ?_
        refine zp_iload dX11_derive_24 rfl ?_
        refine zp_pc (pc' := 26) rfl ?_
        refine zn_iald (j := k2) dX11_derive_26 k3_2 (by omega) (by omega) ?_
        refine zp_i (y := nI (xs.getD k2 0)) (x5 _ (by omega)) ?_
        refine zn_iast dX11_derive_27 (by omega) k3_1 (by omega) (by omega) ?_
        refine zp_nh (fun h4x eh4x => ?_)
        have k4_0 := (congrFun eh4x (64)).trans ((va_up_ne _ _ (by omega)).trans k3_0)
        have k4_1 : h4x (76) = some (.inr (1000, .inl (va_up (zfl f76 (5) (k2) (fun i => nI (xs.getD i 0))) ((5) + (k2)) (nI (xs.getD k2 0))))) := by rw [eh4x]; exact va_up_self _ _ _
        have k4_2 := (congrFun eh4x (p)).trans ((va_up_ne _ _ (by omega)).trans k3_2)
        have k4_3 := (congrFun eh4x (r)).trans ((va_up_ne _ _ (by omega)).trans k3_3)
        refine zp_pc (pc' := 28) rfl ?_
        refine zn_iinc 1 (ls' := [some (.ref (64)), some (.int (nI (zbi b))), some (.ref (p)), some (.int (nI (xs.length))), some (.ref (r)), some (.int (nI (k))), some (.int (nI (8 * zwb b))), some (.int (nI (k2 + 1))), none]) dX11_derive_28 (by decide) (by decide) rfl rfl ?_
        refine zp_goto (tgt := 9) dX11_derive_31 (by decide) ?_
        refine zp_pc (pc' := 9) rfl ?_
        rw [zfl_step eX2 eh4x (by omega) rfl]
        exact ih ((xs.length) - (k2 + 1)) (by omega) (k2 + 1) rfl (by omega)
  suffices K2 : zP g mX11_derive (zR 4 0 0) Qf 0 0 34 [some (.ref (64)), some (.int (nI (zbi b))), some (.ref (p)), some (.int (nI (xs.length))), some (.ref (r)), some (.int (nI (k))), some (.int (nI (8 * zwb b))), some (.int (nI (xs.length))), none] [] (va_up h (76) (some (.inr (1000, .inl (zfl f76 (5) (xs.length) (fun i => nI (xs.getD i 0))))))) n by
    have q := lp2 K2 ((xs.length) - 0) 0 rfl (Nat.zero_le _)
    rw [zfl_0, zup_same i76] at q
    exact q
  refine zp_nh (fun hY2 eY2 => ?_)
  have k5_0 := (congrFun eY2 (64)).trans ((va_up_ne _ _ (by omega)).trans ho)
  have k5_1 : hY2 (76) = some (.inr (1000, .inl (zfl f76 (5) (xs.length) (fun i => nI (xs.getD i 0))))) := by rw [eY2]; exact va_up_self _ _ _
  have k5_2 := (congrFun eY2 (p)).trans ((va_up_ne _ _ (by omega)).trans x4)
  have k5_3 := (congrFun eY2 (r)).trans ((va_up_ne _ _ (by omega)).trans r4)
  refine zp_aload_n dX11_derive_34 rfl ?_
  refine zp_get dX11_derive_35 gX11_44_10 k5_0 rfl ?_
  refine zp_iconst (v := nI (1)) dX11_derive_38 (by decide) ?_
  refine zp_bipush (v := nI (8)) dX11_derive_39 (by decide) ?_
  refine zp_iload dX11_derive_41 rfl ?_
  refine zn_imul dX11_derive_43 ?_
  refine zp_iconst (v := nI (4)) dX11_derive_44 (by decide) ?_
  refine zp_pc (pc' := 45) rfl ?_
  refine zp_callS (As := [.ref (76), .int (nI (1)), .int (nI ((8) * (k))), .int (nI (4))]) (st := []) dX11_derive_45 cX11_174 rfl (e_number (p := 76) (N := 1000) (at_ := 1) (v0 := nI (8 * k)) (by decide) k5_1 (by decide) (by decide)) (by decide) (by decide) (Nat.le_of_ble_eq_true rfl) (fun v6 h6 n6 q6 => ?_)
  obtain ⟨rfl, N6, E6⟩ := q6
  rw [N6]
  refine zp_nrm (cells' := 0) (slots' := 0) (st' := []) rfl rfl rfl ?_
  have s6 := zsm.fill E6
  have n76 := congrFun E6 76
  rw [va_up_self, zn4_nI (by omega)] at n76
  have m7 : h6 (64) = some (.inl (10, [.int (th), .ref (65), .ref (66), .ref (67), .ref (68), .ref (69), .ref (70), .ref (71), .ref (72), .ref (73), .ref (74), .ref (75), .ref (76), .ref (77), .ref (78), .ref (79), .ref (80), .ref (81), .ref (82), .ref (83), .ref (84), .int (nI (wt)), .int (nI (zbi un)), .int (rp), .int (wi), .int (pa), .int (be), .int (ru), .int (sa), .int (me), .int (se), .int (ta), .int (fa), .ref (85), .ref (86), .ref (87), .int (nI (mn)), .ref (88), .ref (89), .ref (90), .ref (91), .ref (92), .ref (93), .int (nI (tp)), .ref (94), .int (nI (ou))])) := (s6 _ (by unfold zon; omega)).trans k5_0
  have m8 : h6 (p) = some (.inr (Np, .inl fx)) := (s6 _ (by unfold zon; omega)).trans k5_2
  have m9 : h6 (r) = some (.inr (Nr, .inl fr)) := (s6 _ (by unfold zon; omega)).trans k5_3
  obtain ⟨fA9, efa⟩ : ∃ fA9 : Nat → Int32, fA9 = (zfl (zfl f76 (5) (xs.length) (fun i => nI (xs.getD i 0))) 1 4 (fun i => nI ((znum (8 * k) 4).getD i 0))) := ⟨_, rfl⟩
  rw [← efa] at n76
  have lX : (znum (8 * k) 4 ++ xs).length = 4 + xs.length := by rw [List.length_append, znum_len]
  have ha : ∀ j, j < 4 + xs.length → fA9 (1 + j) = nI ((znum (8 * k) 4 ++ xs).getD j 0) := fun j hj => by
    rw [efa]
    rcases Nat.lt_or_ge j 4 with q | q
    · rw [zfl_in q, zapp_getD1 (by rw [znum_len]; exact q)]
    · obtain ⟨d, rfl⟩ := Nat.exists_eq_add_of_le q
      have e4 := zapp_getD2 (xs := znum (8 * k) 4) (ys := xs) (i := d)
      rw [znum_len] at e4
      rw [zfl_out (Or.inr (by omega)), e4, show 1 + (4 + d) = 5 + d by omega, zfl_in (by omega)]
  refine zp_iconst (v := nI (0)) dX11_derive_48 (by decide) ?_
  refine zp_istore (ls' := [some (.ref (64)), some (.int (nI (zbi b))), some (.ref (p)), some (.int (nI (xs.length))), some (.ref (r)), some (.int (nI (k))), some (.int (nI (8 * zwb b))), some (.int (nI (0))), none]) dX11_derive_49 (by decide) rfl ?_
  refine zp_pc (pc' := 51) rfl ?_
  refine zp_ls (ls' := [some (.ref (64)), some (.int (nI (zbi b))), some (.ref (p)), some (.int (nI (xs.length))), some (.ref (r)), some (.int (nI (k))), some (.int (nI (8 * zwb b))), some (.int (nI (8 * zwb b * 0))), none]) (by rw [Nat.mul_zero]) ?_
  have sB : zsm h h6 (zon 76) := (((zsm.fill eY2)).mono (fun i hi => by unfold zon; unfold zon at hi; omega)).trans ((s6).mono (fun i hi => by unfold zon; unfold zon at hi; omega))
  have tB := ht.off sB (fun i hi => by unfold zon at hi; omega)
  have lp : ∀ (m : Nat) (c : Nat) (h1 : ZH) (gr ga : Nat → Int32), m = k - c → c ≤ k → zsm h6 h1 (fun i => zb3 70 74 i ∨ i = 76 ∨ i = r) → zmtl h1 → h1 r = some (.inr (Nr, .inl gr)) → h1 76 = some (.inr (1000, .inl ga)) → (∀ j, j < 4 + xs.length → ga (1 + j) = nI ((znum (8 * k) 4 ++ xs).getD j 0)) → (∀ j, j < k → j < 8 * zwb b * c → gr j = nI ((zder b xs k).getD j 0)) → zP g mX11_derive (zR 4 0 0) Qf 0 0 51 [some (.ref (64)), some (.int (nI (zbi b))), some (.ref (p)), some (.int (nI (xs.length))), some (.ref (r)), some (.int (nI (k))), some (.int (nI (8 * zwb b))), some (.int (nI (8 * zwb b * c))), none] [] h1 n := by
    intro m
    induction m using Nat.strongRecOn with
    | _ m ih =>
      intro c h1 gr ga hm hc s1 t1 er ea ega egr
      have o1 : h1 (64) = some (.inl (10, [.int (th), .ref (65), .ref (66), .ref (67), .ref (68), .ref (69), .ref (70), .ref (71), .ref (72), .ref (73), .ref (74), .ref (75), .ref (76), .ref (77), .ref (78), .ref (79), .ref (80), .ref (81), .ref (82), .ref (83), .ref (84), .int (nI (wt)), .int (nI (zbi un)), .int (rp), .int (wi), .int (pa), .int (be), .int (ru), .int (sa), .int (me), .int (se), .int (ta), .int (fa), .ref (85), .ref (86), .ref (87), .int (nI (mn)), .ref (88), .ref (89), .ref (90), .ref (91), .ref (92), .ref (93), .int (nI (tp)), .ref (94), .int (nI (ou))])) := (s1 _ (by unfold zb3; omega)).trans m7
      have p1 : h1 (p) = some (.inr (Np, .inl fx)) := (s1 _ (by unfold zb3; omega)).trans m8
      have hcB := Nat.mul_le_mul (show 8 * zwb b ≤ 64 by omega) (show c ≤ 250 by omega)
      have hc1 := Nat.mul_le_mul (show 1 ≤ 8 * zwb b by omega) (Nat.le_refl c)
      rw [Nat.one_mul] at hc1
      refine zp_iload dX11_derive_51 rfl ?_
      refine zp_iload dX11_derive_53 rfl ?_
      refine zp_pc (pc' := 55) rfl ?_
      refine zn_icmp_ge (tgt := 134) dX11_derive_55 (by decide) (by omega) (by omega) (fun c55 => ?_) (fun c55 => ?_)
      · refine zp_pc (pc' := 134) rfl ?_
        refine zp_ret (v := none) dX11_derive_134 ⟨rfl, rfl⟩ (by decide) (by decide) ?_
        rw [hQ]
        exact ⟨rfl, rfl, (sB.mono (fun i hi => Or.inr (Or.inl hi))).trans s1, zar.mk (L := k) er (zder_len b xs k) hrN hrM (zder_lt b xs k) (fun j hj => egr j hj (by omega)), t1, ⟨_, ea⟩⟩
      · have c7 : c ≤ 7 := by rcases Nat.lt_or_ge 7 c with q | q; have := Nat.mul_le_mul (Nat.le_refl (8 * zwb b)) q; omega; exact q
        refine zp_aload_n dX11_derive_58 rfl ?_
        refine zp_get dX11_derive_59 gX11_44_10 o1 rfl ?_
        refine zp_iconst (v := nI (0)) dX11_derive_62 (by decide) ?_
        refine zp_iload dX11_derive_63 rfl ?_
        refine zp_iload dX11_derive_65 rfl ?_
        refine zp_pc (pc' := 67) rfl ?_
        refine zn_idiv dX11_derive_67 (by omega) (by omega) (by omega) ?_
        refine zp_i (y := nI (c)) (by rw [Nat.mul_div_cancel_left _ (by omega)]) ?_
        refine zp_iconst (v := nI (1)) dX11_derive_68 (by decide) ?_
        refine zn_iadd dX11_derive_69 ?_
        refine zn_iast dX11_derive_70 (by omega) ea (by omega) (by omega) ?_
        refine zp_nh (fun h10x eh10x => ?_)
        have k10_0 := (congrFun eh10x (64)).trans ((va_up_ne _ _ (by omega)).trans o1)
        have k10_1 := (congrFun eh10x (p)).trans ((va_up_ne _ _ (by omega)).trans p1)
        have k10_2 := (congrFun eh10x (r)).trans ((va_up_ne _ _ (by omega)).trans er)
        have k10_3 : h10x (76) = some (.inr (1000, .inl (va_up ga (0) (nI ((c) + (1)))))) := by rw [eh10x]; exact va_up_self _ _ _
        refine zp_aload_n dX11_derive_71 rfl ?_
        refine zp_iload_n dX11_derive_72 rfl ?_
        refine zp_aload_n dX11_derive_73 rfl ?_
        refine zp_get dX11_derive_74 gX11_44_10 k10_0 rfl ?_
        refine zp_iconst (v := nI (5)) dX11_derive_77 (by decide) ?_
        refine zp_iload_n dX11_derive_78 rfl ?_
        refine zn_iadd dX11_derive_79 ?_
        refine zp_pc (pc' := 80) rfl ?_
        have a1 : zar h10x 76 1000 ((c + 1) % 256 :: (znum (8 * k) 4 ++ xs)) := zar.mk (L := 5 + xs.length) k10_3 (by rw [List.length_cons, lX]; omega) (by omega) (by decide) (fun y hy => by rcases List.mem_cons.mp hy with q | q; rw [q]; exact Nat.mod_lt _ (by decide); exact zapp_lt (znum_lt _ _) x3 y q) (fun j hj => by
          rcases j with _ | j
          · rw [va_up_self]; show _ = nI ((c + 1) % 256); rw [Nat.mod_eq_of_lt (by omega)]
          · rw [va_up_ne _ _ (by omega), Nat.add_comm j 1, ega j (by omega), Nat.add_comm 1 j]; rfl)
        have sE : zsm h1 h10x (zon 76) := zsm.fill eh10x
        have lY : ((c + 1) % 256 :: (znum (8 * k) 4 ++ xs)).length = 5 + xs.length := by rw [List.length_cons, lX]; omega
        refine zp_i (y := nI (((c + 1) % 256 :: (znum (8 * k) 4 ++ xs)).length)) (by rw [lY]) ?_
        refine zp_callV (As := [.int (nI (zbi b)), .ref (76), .int (nI (((c + 1) % 256 :: (znum (8 * k) 4 ++ xs)).length))]) (k := 64) (st := []) (ci := 10) dX11_derive_80 cX11_170 rfl k10_0 rfl rfl (e_mdigest (b := b) (p := 76) (t1.off sE (fun i hi => by unfold zon at hi; omega)) k10_0 a1 (by omega) (by omega)) (by decide) (by decide) (Nat.le_of_ble_eq_true rfl) (fun v11 h11 n11 q11 => ?_)
        obtain ⟨rfl, N11, s11, d11, t11⟩ := q11
        rw [N11]
        refine zp_nrm (cells' := 0) (slots' := 0) (st' := []) rfl rfl rfl ?_
        obtain ⟨y1, y2, y3, fd, y4, y5⟩ := id d11
        have yl := zhash_len b ((c + 1) % 256 :: (znum (8 * k) 4 ++ xs))
        have m12 : h11 (64) = some (.inl (10, [.int (th), .ref (65), .ref (66), .ref (67), .ref (68), .ref (69), .ref (70), .ref (71), .ref (72), .ref (73), .ref (74), .ref (75), .ref (76), .ref (77), .ref (78), .ref (79), .ref (80), .ref (81), .ref (82), .ref (83), .ref (84), .int (nI (wt)), .int (nI (zbi un)), .int (rp), .int (wi), .int (pa), .int (be), .int (ru), .int (sa), .int (me), .int (se), .int (ta), .int (fa), .ref (85), .ref (86), .ref (87), .int (nI (mn)), .ref (88), .ref (89), .ref (90), .ref (91), .ref (92), .ref (93), .int (nI (tp)), .ref (94), .int (nI (ou))])) := (s11 _ (by unfold zb3; omega)).trans k10_0
        have m13 : h11 (p) = some (.inr (Np, .inl fx)) := (s11 _ (by unfold zb3; omega)).trans k10_1
        have m14 : h11 (r) = some (.inr (Nr, .inl gr)) := (s11 _ (by unfold zb3; omega)).trans k10_2
        have m15 : h11 (76) = some (.inr (1000, .inl (va_up ga (0) (nI ((c) + (1)))))) := (s11 _ (by unfold zb3; omega)).trans k10_3
        refine zp_iconst (v := nI (0)) dX11_derive_83 (by decide) ?_
        refine zp_istore (ls' := [some (.ref (64)), some (.int (nI (zbi b))), some (.ref (p)), some (.int (nI (xs.length))), some (.ref (r)), some (.int (nI (k))), some (.int (nI (8 * zwb b))), some (.int (nI (8 * zwb b * c))), some (.int (nI (0)))]) dX11_derive_84 (by decide) rfl ?_
        refine zp_pc (pc' := 86) rfl ?_
        have lp16 : zP g mX11_derive (zR 4 0 0) Qf 0 0 124 [some (.ref (64)), some (.int (nI (zbi b))), some (.ref (p)), some (.int (nI (xs.length))), some (.ref (r)), some (.int (nI (k))), some (.int (nI (8 * zwb b))), some (.int (nI (8 * zwb b * c))), some (.int (nI (min (8 * zwb b) (k - 8 * zwb b * c))))] [] (va_up h11 (r) (some (.inr (Nr, .inl (zfl gr (8 * zwb b * c) (min (8 * zwb b) (k - 8 * zwb b * c)) (fun i => nI ((zder b xs k).getD (8 * zwb b * c + i) 0))))))) n → ∀ (m k16 : Nat), m = (min (8 * zwb b) (k - 8 * zwb b * c)) - k16 → k16 ≤ (min (8 * zwb b) (k - 8 * zwb b * c)) → zP g mX11_derive (zR 4 0 0) Qf 0 0 86 [some (.ref (64)), some (.int (nI (zbi b))), some (.ref (p)), some (.int (nI (xs.length))), some (.ref (r)), some (.int (nI (k))), some (.int (nI (8 * zwb b))), some (.int (nI (8 * zwb b * c))), some (.int (nI (k16)))] [] (va_up h11 (r) (some (.inr (Nr, .inl (zfl gr (8 * zwb b * c) (k16) (fun i => nI ((zder b xs k).getD (8 * zwb b * c + i) 0))))))) n := by
          intro kk m
          induction m using Nat.strongRecOn with
          | _ m ih =>
            intro k16 hm16 hk16
            refine zp_nh (fun hX16 eX16 => ?_)
            have k17_0 := (congrFun eX16 (64)).trans ((va_up_ne _ _ (by omega)).trans m12)
            have k17_1 := (congrFun eX16 (p)).trans ((va_up_ne _ _ (by omega)).trans m13)
            have k17_2 : hX16 (r) = some (.inr (Nr, .inl (zfl gr (8 * zwb b * c) (k16) (fun i => nI ((zder b xs k).getD (8 * zwb b * c + i) 0))))) := by rw [eX16]; exact va_up_self _ _ _
            have k17_3 := (congrFun eX16 (76)).trans ((va_up_ne _ _ (by omega)).trans m15)
            have k17_4 := (congrFun eX16 (74)).trans ((va_up_ne _ _ (by omega)).trans y4)
            refine zp_iload dX11_derive_86 rfl ?_
            refine zp_iload dX11_derive_88 rfl ?_
            refine zp_pc (pc' := 90) rfl ?_
            refine zn_icmp_ge (tgt := 124) dX11_derive_90 (by decide) (by omega) (by omega) (fun c90 => ?_) (fun c90 => ?_)
            · have e16 : k16 = (min (8 * zwb b) (k - 8 * zwb b * c)) := by omega
              subst e16
              rw [eX16]
              exact kk
            · refine zp_iload dX11_derive_93 rfl ?_
              refine zp_iload dX11_derive_95 rfl ?_
              refine zn_iadd dX11_derive_97 ?_
              refine zp_iload dX11_derive_98 rfl ?_
              refine zp_pc (pc' := 100) rfl ?_
              refine zn_icmp_ge (tgt := 124) dX11_derive_100 (by decide) (by omega) (by omega) (fun c100 => ?_) (fun c100 => ?_)
              · have e16 : k16 = (min (8 * zwb b) (k - 8 * zwb b * c)) := by omega
                subst e16
                rw [eX16]
                exact kk
              · refine zp_aload dX11_derive_103 rfl ?_
                refine zp_iload dX11_derive_105 rfl ?_
                refine zp_iload dX11_derive_107 rfl ?_
                refine zn_iadd dX11_derive_109 ?_
                refine zp_aload_n dX11_derive_110 rfl ?_
                refine zp_get dX11_derive_111 gX11_38_10 k17_0 rfl ?_
                refine zp_iload dX11_derive_114 rfl ?_
                refine zp_pc (pc' := 116) rfl ?_
                refine zn_iald (j := k16) dX11_derive_116 k17_4 (by omega) (by omega) ?_
                refine zp_i (y := nI ((zder b xs k).getD (8 * zwb b * c + k16) 0)) (by rw [y5 _ (by omega), zder_getD (by omega), Nat.mul_add_div (by omega), Nat.mul_add_mod, Nat.mod_eq_of_lt (show k16 < 8 * zwb b by omega), Nat.div_eq_of_lt (show k16 < 8 * zwb b by omega), Nat.add_zero]) ?_
                refine zn_iast dX11_derive_117 (by omega) k17_2 (by omega) (by omega) ?_
                refine zp_nh (fun h18x eh18x => ?_)
                have k18_0 := (congrFun eh18x (64)).trans ((va_up_ne _ _ (by omega)).trans k17_0)
                have k18_1 := (congrFun eh18x (p)).trans ((va_up_ne _ _ (by omega)).trans k17_1)
                have k18_2 : h18x (r) = some (.inr (Nr, .inl (va_up (zfl gr (8 * zwb b * c) (k16) (fun i => nI ((zder b xs k).getD (8 * zwb b * c + i) 0))) ((8 * zwb b * c) + (k16)) (nI ((zder b xs k).getD (8 * zwb b * c + k16) 0))))) := by rw [eh18x]; exact va_up_self _ _ _
                have k18_3 := (congrFun eh18x (76)).trans ((va_up_ne _ _ (by omega)).trans k17_3)
                have k18_4 := (congrFun eh18x (74)).trans ((va_up_ne _ _ (by omega)).trans k17_4)
                refine zp_pc (pc' := 118) rfl ?_
                refine zn_iinc 1 (ls' := [some (.ref (64)), some (.int (nI (zbi b))), some (.ref (p)), some (.int (nI (xs.length))), some (.ref (r)), some (.int (nI (k))), some (.int (nI (8 * zwb b))), some (.int (nI (8 * zwb b * c))), some (.int (nI (k16 + 1)))]) dX11_derive_118 (by decide) (by decide) rfl rfl ?_
                refine zp_goto (tgt := 86) dX11_derive_121 (by decide) ?_
                refine zp_pc (pc' := 86) rfl ?_
                rw [zfl_step eX16 eh18x (by omega) rfl]
                exact ih ((min (8 * zwb b) (k - 8 * zwb b * c)) - (k16 + 1)) (by omega) (k16 + 1) rfl (by omega)
        suffices K16 : zP g mX11_derive (zR 4 0 0) Qf 0 0 124 [some (.ref (64)), some (.int (nI (zbi b))), some (.ref (p)), some (.int (nI (xs.length))), some (.ref (r)), some (.int (nI (k))), some (.int (nI (8 * zwb b))), some (.int (nI (8 * zwb b * c))), some (.int (nI (min (8 * zwb b) (k - 8 * zwb b * c))))] [] (va_up h11 (r) (some (.inr (Nr, .inl (zfl gr (8 * zwb b * c) (min (8 * zwb b) (k - 8 * zwb b * c)) (fun i => nI ((zder b xs k).getD (8 * zwb b * c + i) 0))))))) n by
          have q := lp16 K16 ((min (8 * zwb b) (k - 8 * zwb b * c)) - 0) 0 rfl (Nat.zero_le _)
          rw [zfl_0, zup_same m14] at q
          exact q
        refine zp_nh (fun hY16 eY16 => ?_)
        have k19_0 := (congrFun eY16 (64)).trans ((va_up_ne _ _ (by omega)).trans m12)
        have k19_1 := (congrFun eY16 (p)).trans ((va_up_ne _ _ (by omega)).trans m13)
        have k19_2 : hY16 (r) = some (.inr (Nr, .inl (zfl gr (8 * zwb b * c) (min (8 * zwb b) (k - 8 * zwb b * c)) (fun i => nI ((zder b xs k).getD (8 * zwb b * c + i) 0))))) := by rw [eY16]; exact va_up_self _ _ _
        have k19_3 := (congrFun eY16 (76)).trans ((va_up_ne _ _ (by omega)).trans m15)
        have k19_4 := (congrFun eY16 (74)).trans ((va_up_ne _ _ (by omega)).trans y4)
        refine zp_iload dX11_derive_124 rfl ?_
        refine zp_iload dX11_derive_126 rfl ?_
        refine zp_pc (pc' := 128) rfl ?_
        refine zn_iadd dX11_derive_128 ?_
        refine zp_istore (ls' := [some (.ref (64)), some (.int (nI (zbi b))), some (.ref (p)), some (.int (nI (xs.length))), some (.ref (r)), some (.int (nI (k))), some (.int (nI (8 * zwb b))), some (.int (nI ((8 * zwb b * c) + (8 * zwb b)))), some (.int (nI (min (8 * zwb b) (k - 8 * zwb b * c))))]) dX11_derive_129 (by decide) rfl ?_
        refine zp_pc (pc' := 131) rfl ?_
        refine zp_ls (ls' := [some (.ref (64)), some (.int (nI (zbi b))), some (.ref (p)), some (.int (nI (xs.length))), some (.ref (r)), some (.int (nI (k))), some (.int (nI (8 * zwb b))), some (.int (nI (8 * zwb b * (c + 1)))), some (.int (nI (min (8 * zwb b) (k - 8 * zwb b * c))))]) (by rw [Nat.mul_add, Nat.mul_one]) ?_
        refine zp_goto (tgt := 51) dX11_derive_131 (by decide) ?_
        refine zp_pc (pc' := 51) rfl ?_
        refine zp_drop (ls' := [some (.ref (64)), some (.int (nI (zbi b))), some (.ref (p)), some (.int (nI (xs.length))), some (.ref (r)), some (.int (nI (k))), some (.int (nI (8 * zwb b))), some (.int (nI (8 * zwb b * (c + 1)))), none]) (fun i v hv => ?_) ?_
        · rcases i with _ | _ | _ | _ | _ | _ | _ | _ | _ | i <;> simp at hv ⊢ <;> exact hv
        have sF : zsm h11 hY16 (zon r) := (zsm.fill eY16)
        refine ih (k - (c + 1)) (by omega) (c + 1) hY16 _ _ rfl (by omega) ?_ (t11.off sF (fun i hi => by unfold zon at hi; omega)) k19_2 k19_3 (fun j hj => by rw [va_up_ne _ _ (by omega)]; exact ega j hj) (fun j hj hj2 => ?_)
        · exact ((s1.trans (sE.mono (fun i hi => Or.inr (Or.inl hi)))).trans (s11.mono (fun i hi => Or.inl hi))).trans (sF.mono (fun i hi => Or.inr (Or.inr hi)))
        · rw [Nat.mul_add, Nat.mul_one] at hj2
          rcases Nat.lt_or_ge j (8 * zwb b * c) with q | q
          · rw [zfl_out (Or.inl q)]; exact egr j hj q
          · obtain ⟨d, rfl⟩ := Nat.exists_eq_add_of_le q
            rw [zfl_in (by omega)]
  exact lp _ 0 h6 _ _ rfl (Nat.zero_le _) zsm.rf tB m9 n76 ha (fun j _ hj => absurd hj (by omega))
