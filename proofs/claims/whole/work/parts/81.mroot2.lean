set_option maxRecDepth 10000 in
set_option maxHeartbeats 2000000 in
theorem e_root {g : ZG} {h : ZH} {n : Nat} {p pw : Nat} {th : Int32} {wt : Nat} {un : Bool} {rp wi pa be ru sa me se ta fa : Int32} {mn tp ou : Nat} (ho : h 64 = some (.inl (10, [.int (th), .ref (65), .ref (66), .ref (67), .ref (68), .ref (69), .ref (70), .ref (71), .ref (72), .ref (73), .ref (74), .ref (75), .ref (76), .ref (77), .ref (78), .ref (79), .ref (80), .ref (81), .ref (82), .ref (83), .ref (84), .int (nI (wt)), .int (nI (zbi un)), .int (rp), .int (wi), .int (pa), .int (be), .int (ru), .int (sa), .int (me), .int (se), .int (ta), .int (fa), .ref (85), .ref (86), .ref (87), .int (nI (mn)), .ref (88), .ref (89), .ref (90), .ref (91), .ref (92), .ref (93), .int (nI (tp)), .ref (94), .int (nI (ou))]))) (h67 : zia h 67 5) (h68 : zia h 68 16) (h69 : zia h 69 16) (hpw : pw = 2 ∨ pw = 3) (hp : p < 1000) : zMt g mX11_root (zR 1 0 0) [.ref (64), .int (nI (p)), .int (nI (pw))] h n (fun v h' n' => v = some (.long (lN (zrt p pw % 2 ^ 64))) ∧ n' = n ∧ zsm h h' zsr3 ∧ zsh h h') := by
  refine zMt.of [some (.ref (64)), some (.int (nI (p))), some (.int (nI (pw))), none, none, none] (by decide) rfl (Nat.le_of_ble_eq_true rfl) ?_
  obtain ⟨Qf, hQ⟩ : ∃ Qf : ZQ, Qf = (fun v h' n' => v = some (.long (lN (zrt p pw % 2 ^ 64))) ∧ n' = n ∧ zsm h h' zsr3 ∧ zsh h h') := ⟨_, rfl⟩
  rw [← hQ]
  obtain ⟨if101, ih101⟩ := id (h67)
  refine zp_iconst (v := nI (0)) dX11_root_0 (by decide) ?_
  refine zp_istore_n (ls' := [some (.ref (64)), some (.int (nI (p))), some (.int (nI (pw))), some (.int (nI (0))), none, none]) dX11_root_1 (by decide) rfl ?_
  refine zp_pc (pc' := 2) rfl ?_
  have lp102 : zP g mX11_root (zR 1 0 0) Qf 0 0 20 [some (.ref (64)), some (.int (nI (p))), some (.int (nI (pw))), some (.int (nI (5))), none, none] [] (va_up h (67) (some (.inr (5, .inl (zfl if101 (0) (5) (fun _ => nI 0)))))) n → ∀ (m k102 : Nat), m = (5) - k102 → k102 ≤ (5) → zP g mX11_root (zR 1 0 0) Qf 0 0 2 [some (.ref (64)), some (.int (nI (p))), some (.int (nI (pw))), some (.int (nI (k102))), none, none] [] (va_up h (67) (some (.inr (5, .inl (zfl if101 (0) (k102) (fun _ => nI 0)))))) n := by
    intro kk m
    induction m using Nat.strongRecOn with
    | _ m ih =>
      intro k102 hm102 hk102
      refine zp_nh (fun hX102 eX102 => ?_)
      have k103_0 := (congrFun eX102 (64)).trans ((va_up_ne _ _ (by omega)).trans ho)
      have k103_1 : hX102 (67) = some (.inr (5, .inl (zfl if101 (0) (k102) (fun _ => nI 0)))) := by rw [eX102]; exact va_up_self _ _ _
      refine zp_iload_n dX11_root_2 rfl ?_
      refine zp_iconst (v := nI (5)) dX11_root_3 (by decide) ?_
      refine zp_pc (pc' := 4) rfl ?_
      refine zn_icmp_ge (tgt := 20) dX11_root_4 (by decide) (by omega) (by omega) (fun c4 => ?_) (fun c4 => ?_)
      · have e102 : k102 = (5) := by omega
        subst e102
        rw [eX102]
        exact kk
      · refine zp_aload_n dX11_root_7 rfl ?_
        refine zp_get dX11_root_8 gX11_16_10 k103_0 rfl ?_
        refine zp_iload_n dX11_root_11 rfl ?_
        refine zp_iconst (v := nI (0)) dX11_root_12 (by decide) ?_
        refine zn_iast dX11_root_13 (by omega) k103_1 (by omega) (by omega) ?_
        refine zp_nh (fun h104x eh104x => ?_)
        have k104_0 := (congrFun eh104x (64)).trans ((va_up_ne _ _ (by omega)).trans k103_0)
        have k104_1 : h104x (67) = some (.inr (5, .inl (va_up (zfl if101 (0) (k102) (fun _ => nI 0)) (k102) (nI (0))))) := by rw [eh104x]; exact va_up_self _ _ _
        have sw105 : zsm hX102 h104x (zon (67)) := zsm.rf.up eh104x rfl
        have zw105 : zsh hX102 h104x := zsh.fill eh104x k103_1
        refine zp_pc (pc' := 14) rfl ?_
        refine zn_iinc 1 (ls' := [some (.ref (64)), some (.int (nI (p))), some (.int (nI (pw))), some (.int (nI (k102 + 1))), none, none]) dX11_root_14 (by decide) (by decide) rfl rfl ?_
        refine zp_goto (tgt := 2) dX11_root_17 (by decide) ?_
        refine zp_pc (pc' := 2) rfl ?_
        rw [zfl_step eX102 eh104x (by omega) rfl]
        exact ih ((5) - (k102 + 1)) (by omega) (k102 + 1) rfl (by omega)
  suffices K102 : zP g mX11_root (zR 1 0 0) Qf 0 0 20 [some (.ref (64)), some (.int (nI (p))), some (.int (nI (pw))), some (.int (nI (5))), none, none] [] (va_up h (67) (some (.inr (5, .inl (zfl if101 (0) (5) (fun _ => nI 0)))))) n by
    have q := lp102 K102 ((5) - 0) 0 rfl (Nat.zero_le _)
    rw [zfl_0, zup_same ih101] at q
    exact q
  refine zp_nh (fun hY102 eY102 => ?_)
  have k106_0 := (congrFun eY102 (64)).trans ((va_up_ne _ _ (by omega)).trans ho)
  have k106_1 : hY102 (67) = some (.inr (5, .inl (zfl if101 (0) (5) (fun _ => nI 0)))) := by rw [eY102]; exact va_up_self _ _ _
  have sf107 := (zsm.fill eY102)
  have zf107 := zsh.fill eY102 ih101
  refine zp_bipush (v := nI (69)) dX11_root_20 (by decide) ?_
  refine zp_istore_n (ls' := [some (.ref (64)), some (.int (nI (p))), some (.int (nI (pw))), some (.int (nI (69))), none, none]) dX11_root_22 (by decide) rfl ?_
  refine zp_pc (pc' := 23) rfl ?_
  refine zp_ls (ls' := [some (.ref (64)), some (.int (nI (p))), some (.int (nI (pw))), some (.int (nI (70) + (-1))), none, none]) (by rw [show nI 70 + (-1) = nI 69 from zdec1 69]) ?_
  have sB : zsm h hY102 zsr3 := (sf107).mono (fun i hi => by unfold zsr3; unfold zon at hi; omega)
  have zB9 : zsh h hY102 := zf107
  have lp : ∀ (m : Nat) (b : Nat) (h1 : ZH) (f7 : Nat → Int32), m = b → b ≤ 70 → zsm h h1 zsr3 → zsh h h1 → h1 67 = some (.inr (5, .inl f7)) → (∀ k, k < 5 → f7 k = nI (zq16 (zrbs p pw (70 - b)) k)) → zP g mX11_root (zR 1 0 0) Qf 0 0 23 [some (.ref (64)), some (.int (nI (p))), some (.int (nI (pw))), some (.int (nI (b) + (-1))), none, none] [] h1 n := by
    intro m
    induction m using Nat.strongRecOn with
    | _ m ih =>
      intro b h1 f7 hm1 hb1 s1 z1 e7 q7
      have o1 : h1 64 = some (.inl (10, [.int (th), .ref (65), .ref (66), .ref (67), .ref (68), .ref (69), .ref (70), .ref (71), .ref (72), .ref (73), .ref (74), .ref (75), .ref (76), .ref (77), .ref (78), .ref (79), .ref (80), .ref (81), .ref (82), .ref (83), .ref (84), .int (nI (wt)), .int (nI (zbi un)), .int (rp), .int (wi), .int (pa), .int (be), .int (ru), .int (sa), .int (me), .int (se), .int (ta), .int (fa), .ref (85), .ref (86), .ref (87), .int (nI (mn)), .ref (88), .ref (89), .ref (90), .ref (91), .ref (92), .ref (93), .int (nI (tp)), .ref (94), .int (nI (ou))])) := (s1 _ (by unfold zsr3; omega)).trans ho
      rcases b with _ | b
      · refine zp_iload_n dX11_root_23 rfl ?_
        refine zp_pc (pc' := 24) rfl ?_
        refine zp_if_lt (tgt := 80) dX11_root_24 (by decide) (fun c24 => ?_) (fun c24 => ?_)
        · rw [Nat.sub_zero] at q7
          have ql := zq16_lt (zrbs p pw 70)
          have l0 := ql 0
          have l1 := ql 1
          have l2 := ql 2
          have l3 := ql 3
          refine zp_lconst (v := 0) dX11_root_80 (by decide) ?_
          refine zp_lstore_n (ls' := [some (.ref (64)), some (.int (nI (p))), some (.int (nI (pw))), some (.long (0)), none, none]) dX11_root_81 (by decide) rfl ?_
          refine zp_iconst (v := nI (3)) dX11_root_82 (by decide) ?_
          refine zp_istore (ls' := [some (.ref (64)), some (.int (nI (p))), some (.int (nI (pw))), some (.long (0)), none, some (.int (nI (3)))]) dX11_root_83 (by decide) rfl ?_
          refine zp_pc (pc' := 85) rfl ?_
          refine zp_iload dX11_root_85 rfl ?_
          refine zp_pc (pc' := 87) rfl ?_
          refine zn_if_lt (tgt := 110) dX11_root_87 (by decide) (by decide) ?_
          refine zp_lload_n dX11_root_90 rfl ?_
          refine zp_bipush (v := nI (16)) dX11_root_91 (by decide) ?_
          refine zp_pc (pc' := 93) rfl ?_
          refine zp_nrm (cells' := 0) (slots' := 0) (st' := [.int (nI (16)), .long (lN (0))]) rfl rfl rfl ?_
          refine zp_lshl dX11_root_93 ?_
          refine zp_l (y := lN ((0) * 65536)) (wb_shl _ (k := 16) (by decide)) ?_
          refine zp_aload_n dX11_root_94 rfl ?_
          refine zp_get dX11_root_95 gX11_16_10 o1 rfl ?_
          refine zp_iload dX11_root_98 rfl ?_
          refine zp_pc (pc' := 100) rfl ?_
          refine zn_iald (j := 3) dX11_root_100 e7 (by omega) (by omega) ?_
          refine zp_i (y := nI (zq16 (zrbs p pw 70) 3)) (q7 _ (by decide)) ?_
          refine zp_i2l dX11_root_101 ?_
          refine zp_l (y := lN (zq16 (zrbs p pw 70) 3)) (nI_l (by omega)) ?_
          refine zp_lor dX11_root_102 ?_
          refine zp_l (y := lN ((0) * 65536 + zq16 (zrbs p pw 70) 3)) (g_or (k := 16) (p := 65536) rfl (ql _) (by omega)) ?_
          refine zp_lstore_n (ls' := [some (.ref (64)), some (.int (nI (p))), some (.int (nI (pw))), some (.long (lN ((0) * 65536 + zq16 (zrbs p pw 70) 3))), none, some (.int (nI (3)))]) dX11_root_103 (by decide) rfl ?_
          refine zp_pc (pc' := 104) rfl ?_
          refine zp_ls (ls' := [some (.ref (64)), some (.int (nI (p))), some (.int (nI (pw))), some (.long (lN ((0) * 65536 + zq16 (zrbs p pw 70) 3))), none, some (.int (nI (2 + 1)))]) rfl ?_
          refine zn_idec (ls' := [some (.ref (64)), some (.int (nI (p))), some (.int (nI (pw))), some (.long (lN ((0) * 65536 + zq16 (zrbs p pw 70) 3))), none, some (.int (nI (2)))]) dX11_root_104 (by decide) rfl rfl ?_
          refine zp_goto (tgt := 85) dX11_root_107 (by decide) ?_
          refine zp_pc (pc' := 85) rfl ?_
          refine zp_iload dX11_root_85 rfl ?_
          refine zp_pc (pc' := 87) rfl ?_
          refine zn_if_lt (tgt := 110) dX11_root_87 (by decide) (by decide) ?_
          refine zp_lload_n dX11_root_90 rfl ?_
          refine zp_bipush (v := nI (16)) dX11_root_91 (by decide) ?_
          refine zp_pc (pc' := 93) rfl ?_
          refine zp_lshl dX11_root_93 ?_
          refine zp_l (y := lN (((0) * 65536 + zq16 (zrbs p pw 70) 3) * 65536)) (wb_shl _ (k := 16) (by decide)) ?_
          refine zp_aload_n dX11_root_94 rfl ?_
          refine zp_get dX11_root_95 gX11_16_10 o1 rfl ?_
          refine zp_iload dX11_root_98 rfl ?_
          refine zp_pc (pc' := 100) rfl ?_
          refine zn_iald (j := 2) dX11_root_100 e7 (by omega) (by omega) ?_
          refine zp_i (y := nI (zq16 (zrbs p pw 70) 2)) (q7 _ (by decide)) ?_
          refine zp_i2l dX11_root_101 ?_
          refine zp_l (y := lN (zq16 (zrbs p pw 70) 2)) (nI_l (by omega)) ?_
          refine zp_lor dX11_root_102 ?_
          refine zp_l (y := lN (((0) * 65536 + zq16 (zrbs p pw 70) 3) * 65536 + zq16 (zrbs p pw 70) 2)) (g_or (k := 16) (p := 65536) rfl (ql _) (by omega)) ?_
          refine zp_lstore_n (ls' := [some (.ref (64)), some (.int (nI (p))), some (.int (nI (pw))), some (.long (lN (((0) * 65536 + zq16 (zrbs p pw 70) 3) * 65536 + zq16 (zrbs p pw 70) 2))), none, some (.int (nI (2)))]) dX11_root_103 (by decide) rfl ?_
          refine zp_pc (pc' := 104) rfl ?_
          refine zp_ls (ls' := [some (.ref (64)), some (.int (nI (p))), some (.int (nI (pw))), some (.long (lN (((0) * 65536 + zq16 (zrbs p pw 70) 3) * 65536 + zq16 (zrbs p pw 70) 2))), none, some (.int (nI (1 + 1)))]) rfl ?_
          refine zn_idec (ls' := [some (.ref (64)), some (.int (nI (p))), some (.int (nI (pw))), some (.long (lN (((0) * 65536 + zq16 (zrbs p pw 70) 3) * 65536 + zq16 (zrbs p pw 70) 2))), none, some (.int (nI (1)))]) dX11_root_104 (by decide) rfl rfl ?_
          refine zp_goto (tgt := 85) dX11_root_107 (by decide) ?_
          refine zp_pc (pc' := 85) rfl ?_
          refine zp_iload dX11_root_85 rfl ?_
          refine zp_pc (pc' := 87) rfl ?_
          refine zn_if_lt (tgt := 110) dX11_root_87 (by decide) (by decide) ?_
          refine zp_lload_n dX11_root_90 rfl ?_
          refine zp_bipush (v := nI (16)) dX11_root_91 (by decide) ?_
          refine zp_pc (pc' := 93) rfl ?_
          refine zp_lshl dX11_root_93 ?_
          refine zp_l (y := lN ((((0) * 65536 + zq16 (zrbs p pw 70) 3) * 65536 + zq16 (zrbs p pw 70) 2) * 65536)) (wb_shl _ (k := 16) (by decide)) ?_
          refine zp_aload_n dX11_root_94 rfl ?_
          refine zp_get dX11_root_95 gX11_16_10 o1 rfl ?_
          refine zp_iload dX11_root_98 rfl ?_
          refine zp_pc (pc' := 100) rfl ?_
          refine zn_iald (j := 1) dX11_root_100 e7 (by omega) (by omega) ?_
          refine zp_i (y := nI (zq16 (zrbs p pw 70) 1)) (q7 _ (by decide)) ?_
          refine zp_i2l dX11_root_101 ?_
          refine zp_l (y := lN (zq16 (zrbs p pw 70) 1)) (nI_l (by omega)) ?_
          refine zp_lor dX11_root_102 ?_
          refine zp_l (y := lN ((((0) * 65536 + zq16 (zrbs p pw 70) 3) * 65536 + zq16 (zrbs p pw 70) 2) * 65536 + zq16 (zrbs p pw 70) 1)) (g_or (k := 16) (p := 65536) rfl (ql _) (by omega)) ?_
          refine zp_lstore_n (ls' := [some (.ref (64)), some (.int (nI (p))), some (.int (nI (pw))), some (.long (lN ((((0) * 65536 + zq16 (zrbs p pw 70) 3) * 65536 + zq16 (zrbs p pw 70) 2) * 65536 + zq16 (zrbs p pw 70) 1))), none, some (.int (nI (1)))]) dX11_root_103 (by decide) rfl ?_
          refine zp_pc (pc' := 104) rfl ?_
          refine zp_ls (ls' := [some (.ref (64)), some (.int (nI (p))), some (.int (nI (pw))), some (.long (lN ((((0) * 65536 + zq16 (zrbs p pw 70) 3) * 65536 + zq16 (zrbs p pw 70) 2) * 65536 + zq16 (zrbs p pw 70) 1))), none, some (.int (nI (0 + 1)))]) rfl ?_
          refine zn_idec (ls' := [some (.ref (64)), some (.int (nI (p))), some (.int (nI (pw))), some (.long (lN ((((0) * 65536 + zq16 (zrbs p pw 70) 3) * 65536 + zq16 (zrbs p pw 70) 2) * 65536 + zq16 (zrbs p pw 70) 1))), none, some (.int (nI (0)))]) dX11_root_104 (by decide) rfl rfl ?_
          refine zp_goto (tgt := 85) dX11_root_107 (by decide) ?_
          refine zp_pc (pc' := 85) rfl ?_
          refine zp_iload dX11_root_85 rfl ?_
          refine zp_pc (pc' := 87) rfl ?_
          refine zn_if_lt (tgt := 110) dX11_root_87 (by decide) (by decide) ?_
          refine zp_lload_n dX11_root_90 rfl ?_
          refine zp_bipush (v := nI (16)) dX11_root_91 (by decide) ?_
          refine zp_pc (pc' := 93) rfl ?_
          refine zp_lshl dX11_root_93 ?_
          refine zp_l (y := lN (((((0) * 65536 + zq16 (zrbs p pw 70) 3) * 65536 + zq16 (zrbs p pw 70) 2) * 65536 + zq16 (zrbs p pw 70) 1) * 65536)) (wb_shl _ (k := 16) (by decide)) ?_
          refine zp_aload_n dX11_root_94 rfl ?_
          refine zp_get dX11_root_95 gX11_16_10 o1 rfl ?_
          refine zp_iload dX11_root_98 rfl ?_
          refine zp_pc (pc' := 100) rfl ?_
          refine zn_iald (j := 0) dX11_root_100 e7 (by omega) (by omega) ?_
          refine zp_i (y := nI (zq16 (zrbs p pw 70) 0)) (q7 _ (by decide)) ?_
          refine zp_i2l dX11_root_101 ?_
          refine zp_l (y := lN (zq16 (zrbs p pw 70) 0)) (nI_l (by omega)) ?_
          refine zp_lor dX11_root_102 ?_
          refine zp_l (y := lN (((((0) * 65536 + zq16 (zrbs p pw 70) 3) * 65536 + zq16 (zrbs p pw 70) 2) * 65536 + zq16 (zrbs p pw 70) 1) * 65536 + zq16 (zrbs p pw 70) 0)) (g_or (k := 16) (p := 65536) rfl (ql _) (by omega)) ?_
          refine zp_lstore_n (ls' := [some (.ref (64)), some (.int (nI (p))), some (.int (nI (pw))), some (.long (lN (((((0) * 65536 + zq16 (zrbs p pw 70) 3) * 65536 + zq16 (zrbs p pw 70) 2) * 65536 + zq16 (zrbs p pw 70) 1) * 65536 + zq16 (zrbs p pw 70) 0))), none, some (.int (nI (0)))]) dX11_root_103 (by decide) rfl ?_
          refine zp_pc (pc' := 104) rfl ?_
          refine zp_iinc (v := nI (0) + (-1)) (ls' := [some (.ref (64)), some (.int (nI (p))), some (.int (nI (pw))), some (.long (lN (((((0) * 65536 + zq16 (zrbs p pw 70) 3) * 65536 + zq16 (zrbs p pw 70) 2) * 65536 + zq16 (zrbs p pw 70) 1) * 65536 + zq16 (zrbs p pw 70) 0))), none, some (.int (nI (0) + (-1)))]) dX11_root_104 (by decide) rfl rfl rfl ?_
          refine zp_goto (tgt := 85) dX11_root_107 (by decide) ?_
          refine zp_pc (pc' := 85) rfl ?_
          refine zp_iload dX11_root_85 rfl ?_
          refine zp_pc (pc' := 87) rfl ?_
          refine zp_if_lt (tgt := 110) dX11_root_87 (by decide) (fun c9 => ?_) (fun c9 => absurd (by decide) c9)
          refine zp_lload_n dX11_root_110 rfl ?_
          refine zp_pc (pc' := 111) rfl ?_
          refine zp_l (y := lN (zrt p pw % 2 ^ 64)) (by unfold zrt; rw [zlow64, Nat.zero_mul, Nat.zero_add]) ?_
          refine zp_ret (v := (some (.long (lN (zrt p pw % 2 ^ 64))))) dX11_root_111 ⟨rfl, rfl⟩ (by decide) (by decide) ?_
          rw [hQ]
          exact ⟨rfl, rfl, s1, z1⟩
        · exact absurd (show nI 0 + (-1) < 0 by decide) c24
      · refine zp_ls (ls' := [some (.ref (64)), some (.int (nI (p))), some (.int (nI (pw))), some (.int (nI (b))), none, none]) (by rw [zdec1]) ?_
        obtain ⟨m1, m2⟩ := zrbs_mul p pw (70 - (b + 1)) (by omega)
        rw [show 70 - (70 - (b + 1)) = b + 1 by omega] at m1 m2
        have b1 : 2 ^ b < 2 ^ (b + 1) := by rw [Nat.pow_succ]; have := Nat.pow_pos (n := b) (show 0 < 2 by decide); omega
        have hY : ((zrbs p pw (70 - (b + 1))) + 2 ^ b) < 2 ^ 70 := by omega
        have lowb := zbit_low m1
        have qd := zq16_lt (zrbs p pw (70 - (b + 1))) (b / 16)
        have br : b % 16 < 16 := by omega
        have zc := @zbit_eq (zrbs p pw (70 - (b + 1))) b
        have es : zrbs p pw (70 - b) = zstp p pw (zrbs p pw (70 - (b + 1))) b := by rw [show 70 - b = (70 - (b + 1)) + 1 by omega]; show zstp p pw (zrbs p pw (70 - (b + 1))) (69 - (70 - (b + 1))) = _; rw [show 69 - (70 - (b + 1)) = b by omega]
        refine zp_iload_n dX11_root_23 rfl ?_
        refine zp_pc (pc' := 24) rfl ?_
        refine zn_if_lt (tgt := 80) dX11_root_24 (by decide) (by omega) ?_
        refine zp_aload_n dX11_root_27 rfl ?_
        refine zp_get dX11_root_28 gX11_16_10 o1 rfl ?_
        refine zp_iload_n dX11_root_31 rfl ?_
        refine zp_bipush (v := nI (16)) dX11_root_32 (by decide) ?_
        refine zn_idiv dX11_root_34 (by omega) (by omega) (by omega) ?_
        refine zp_dup2 dX11_root_35 rfl rfl ?_
        refine zp_pc (pc' := 36) rfl ?_
        refine zn_iald (j := (b) / (16)) dX11_root_36 e7 (by omega) (by omega) ?_
        refine zp_i (y := nI (zq16 (zrbs p pw (70 - (b + 1))) (b / 16))) (q7 _ (by omega)) ?_
        refine zp_iconst (v := nI (1)) dX11_root_37 (by decide) ?_
        refine zp_iload_n dX11_root_38 rfl ?_
        refine zp_bipush (v := nI (16)) dX11_root_39 (by decide) ?_
        refine zn_irem dX11_root_41 (by omega) (by omega) (by omega) ?_
        refine zp_pc (pc' := 42) rfl ?_
        refine zp_ishl dX11_root_42 ?_
        refine zp_i (y := nI (2 ^ (b % 16))) (zset_bit _ br) ?_
        refine zp_ior dX11_root_43 ?_
        refine zp_i (y := nI (zq16 ((zrbs p pw (70 - (b + 1))) + 2 ^ b) (b / 16))) (by rw [nx_or, zor_bit lowb, zc m1, if_pos rfl]) ?_
        refine zn_iast dX11_root_44 (by omega) e7 (by omega) (by omega) ?_
        refine zp_nh (fun h109x eh109x => ?_)
        have k109_0 := (congrFun eh109x (64)).trans ((va_up_ne _ _ (by omega)).trans o1)
        have k109_1 : h109x (67) = some (.inr (5, .inl (va_up f7 ((b) / (16)) (nI (zq16 ((zrbs p pw (70 - (b + 1))) + 2 ^ b) (b / 16)))))) := by rw [eh109x]; exact va_up_self _ _ _
        have sw110 : zsm h1 h109x (zon (67)) := zsm.rf.up eh109x rfl
        have zw110 : zsh h1 h109x := zsh.fill eh109x e7
        refine zp_pc (pc' := 45) rfl ?_
        have q7Y : ∀ k, k < 5 → (va_up f7 ((b) / (16)) (nI (zq16 ((zrbs p pw (70 - (b + 1))) + 2 ^ b) (b / 16)))) k = nI (zq16 ((zrbs p pw (70 - (b + 1))) + 2 ^ b) k) := fun k hk => by
          by_cases e : k = b / 16
          · subst e; exact va_up_self _ _ _
          · rw [va_up_ne _ _ e, zc m1, if_neg e]; exact q7 k hk
        refine zp_aload_n dX11_root_45 rfl ?_
        refine zp_iload_n dX11_root_46 rfl ?_
        refine zp_iload_n dX11_root_47 rfl ?_
        refine zp_pc (pc' := 48) rfl ?_
        have i8 : zia h109x 68 16 := (z1.1 _ _ h68).keep (sw110 _ (by unfold zon; omega))
        have i9 : zia h109x 69 16 := (z1.1 _ _ h69).keep (sw110 _ (by unfold zon; omega))
        refine zp_callV (As := [.int (nI (p)), .int (nI (pw))]) (k := 64) (st := []) (ci := 10) dX11_root_48 cX11_136 rfl k109_0 rfl rfl (e_beyond (X := ((zrbs p pw (70 - (b + 1))) + 2 ^ b)) k109_0 k109_1 i8 i9 hY q7Y hpw hp) (by decide) (by decide) (Nat.le_of_ble_eq_true rfl) (fun v111 h111 n111 q111 => ?_)
        obtain ⟨rfl, N111, s111, z111⟩ := q111
        rw [N111]
        refine zp_nrm (cells' := 0) (slots' := 0) (st' := [.int (nI (zbi (decide (p * 65536 ^ (4 * pw) < ((zrbs p pw (70 - (b + 1))) + 2 ^ b) ^ pw))))]) rfl rfl rfl ?_
        have m112 : h111 (64) = some (.inl (10, [.int (th), .ref (65), .ref (66), .ref (67), .ref (68), .ref (69), .ref (70), .ref (71), .ref (72), .ref (73), .ref (74), .ref (75), .ref (76), .ref (77), .ref (78), .ref (79), .ref (80), .ref (81), .ref (82), .ref (83), .ref (84), .int (nI (wt)), .int (nI (zbi un)), .int (rp), .int (wi), .int (pa), .int (be), .int (ru), .int (sa), .int (me), .int (se), .int (ta), .int (fa), .ref (85), .ref (86), .ref (87), .int (nI (mn)), .ref (88), .ref (89), .ref (90), .ref (91), .ref (92), .ref (93), .int (nI (tp)), .ref (94), .int (nI (ou))])) := (s111 _ (by unfold zsr2; omega)).trans k109_0
        have m113 : h111 (67) = some (.inr (5, .inl (va_up f7 ((b) / (16)) (nI (zq16 ((zrbs p pw (70 - (b + 1))) + 2 ^ b) (b / 16)))))) := (s111 _ (by unfold zsr2; omega)).trans k109_1
        refine zn_if_eq (tgt := 74) dX11_root_51 (by decide) (by have := zbi_lt (decide (p * 65536 ^ (4 * pw) < ((zrbs p pw (70 - (b + 1))) + 2 ^ b) ^ pw)); omega) (fun c51 => ?_) (fun c51 => ?_)
        · have dF : (decide (p * 65536 ^ (4 * pw) < ((zrbs p pw (70 - (b + 1))) + 2 ^ b) ^ pw)) = false := by rcases Bool.eq_false_or_eq_true (decide (p * 65536 ^ (4 * pw) < ((zrbs p pw (70 - (b + 1))) + 2 ^ b) ^ pw)) with q | q; rw [q] at c51; exact absurd c51 (by decide); exact q
          have ey : zrbs p pw (70 - b) = ((zrbs p pw (70 - (b + 1))) + 2 ^ b) := es.trans (if_neg (of_decide_eq_false dF))
          refine zp_iinc (v := nI (b) + (-1)) (ls' := [some (.ref (64)), some (.int (nI (p))), some (.int (nI (pw))), some (.int (nI (b) + (-1))), none, none]) dX11_root_74 (by decide) rfl rfl rfl ?_
          refine zp_goto (tgt := 23) dX11_root_77 (by decide) ?_
          refine zp_pc (pc' := 23) rfl ?_
          exact ih b (by omega) b h111 _ rfl (by omega) (s1.trans (((sw110).mono (fun i hi => by unfold zsr3; unfold zon at hi; omega)).trans ((s111).mono (fun i hi => by unfold zsr3; unfold zsr2 at hi; omega)))) (z1.trans ((zw110).trans z111)) m113 (by rw [ey]; exact q7Y)
        · have dT : (decide (p * 65536 ^ (4 * pw) < ((zrbs p pw (70 - (b + 1))) + 2 ^ b) ^ pw)) = true := by rcases Bool.eq_false_or_eq_true (decide (p * 65536 ^ (4 * pw) < ((zrbs p pw (70 - (b + 1))) + 2 ^ b) ^ pw)) with q | q; exact q; rw [q] at c51; exact absurd rfl c51
          have ey : zrbs p pw (70 - b) = (zrbs p pw (70 - (b + 1))) := es.trans (if_pos (of_decide_eq_true dT))
          refine zp_aload_n dX11_root_54 rfl ?_
          refine zp_get dX11_root_55 gX11_16_10 m112 rfl ?_
          refine zp_iload_n dX11_root_58 rfl ?_
          refine zp_bipush (v := nI (16)) dX11_root_59 (by decide) ?_
          refine zn_idiv dX11_root_61 (by omega) (by omega) (by omega) ?_
          refine zp_dup2 dX11_root_62 rfl rfl ?_
          refine zp_pc (pc' := 63) rfl ?_
          refine zn_iald (j := (b) / (16)) dX11_root_63 m113 (by omega) (by omega) ?_
          refine zp_i (y := nI (zq16 (zrbs p pw (70 - (b + 1))) (b / 16) + 2 ^ (b % 16))) (by rw [q7Y _ (by omega), zc m1, if_pos rfl]) ?_
          refine zp_iconst (v := nI (1)) dX11_root_64 (by decide) ?_
          refine zp_iload_n dX11_root_65 rfl ?_
          refine zp_bipush (v := nI (16)) dX11_root_66 (by decide) ?_
          refine zn_irem dX11_root_68 (by omega) (by omega) (by omega) ?_
          refine zp_pc (pc' := 69) rfl ?_
          refine zp_ishl dX11_root_69 ?_
          refine zp_i (y := nI (2 ^ (b % 16))) (zset_bit _ br) ?_
          refine zp_iconst (v := (-1)) dX11_root_70 (by decide) ?_
          refine zp_ixor dX11_root_71 ?_
          refine zp_pc (pc' := 72) rfl ?_
          refine zp_iand dX11_root_72 ?_
          refine zp_i (y := nI (zq16 (zrbs p pw (70 - (b + 1))) (b / 16))) (zclr_bit qd br lowb) ?_
          refine zn_iast dX11_root_73 (by omega) m113 (by omega) (by omega) ?_
          refine zp_nh (fun h115x eh115x => ?_)
          have k115_0 := (congrFun eh115x (64)).trans ((va_up_ne _ _ (by omega)).trans m112)
          have k115_1 : h115x (67) = some (.inr (5, .inl (va_up (va_up f7 ((b) / (16)) (nI (zq16 ((zrbs p pw (70 - (b + 1))) + 2 ^ b) (b / 16)))) ((b) / (16)) (nI (zq16 (zrbs p pw (70 - (b + 1))) (b / 16)))))) := by rw [eh115x]; exact va_up_self _ _ _
          have sw116 : zsm h111 h115x (zon (67)) := zsm.rf.up eh115x rfl
          have zw116 : zsh h111 h115x := zsh.fill eh115x m113
          refine zp_iinc (v := nI (b) + (-1)) (ls' := [some (.ref (64)), some (.int (nI (p))), some (.int (nI (pw))), some (.int (nI (b) + (-1))), none, none]) dX11_root_74 (by decide) rfl rfl rfl ?_
          refine zp_goto (tgt := 23) dX11_root_77 (by decide) ?_
          refine zp_pc (pc' := 23) rfl ?_
          refine ih b (by omega) b h115x _ rfl (by omega) (s1.trans ((((sw110).mono (fun i hi => by unfold zsr3; unfold zon at hi; omega)).trans ((s111).mono (fun i hi => by unfold zsr3; unfold zsr2 at hi; omega))).trans ((sw116).mono (fun i hi => by unfold zsr3; unfold zon at hi; omega)))) (z1.trans (((zw110).trans z111).trans zw116)) k115_1 (fun k hk => ?_)
          rw [ey]
          by_cases e : k = b / 16
          · subst e; exact va_up_self _ _ _
          · rw [va_up_ne _ _ e, va_up_ne _ _ e]; exact q7 k hk
  exact lp _ 70 hY102 _ rfl (Nat.le_refl _) sB zB9 k106_1 (fun k hk => by rw [zfl_in0 hk, show zrbs p pw (70 - 70) = 0 from rfl, zq16_0])
set_option maxRecDepth 10000 in
set_option maxHeartbeats 2000000 in
theorem e_isPrime {g : ZG} {h : ZH} {n : Nat} {p : Nat} (hp : p < 410) (hp2 : 2 ≤ p) : zMt g mX11_isPrime (zR 0 0 0) [.int (nI (p))] h n (fun v h' n' => v = some (.int (nI (zbi (decide (p ∈ zPr))))) ∧ h' = h ∧ n' = n) := by
  refine zMt.of [some (.int (nI (p))), none, none] (by decide) rfl (Nat.le_of_ble_eq_true rfl) ?_
  obtain ⟨Qf, hQ⟩ : ∃ Qf : ZQ, Qf = (fun v h' n' => v = some (.int (nI (zbi (decide (p ∈ zPr))))) ∧ h' = h ∧ n' = n) := ⟨_, rfl⟩
  rw [← hQ]
  refine zp_iconst (v := nI (1)) dX11_isPrime_0 (by decide) ?_
  refine zp_istore_n (ls' := [some (.int (nI (p))), some (.int (nI (1))), none]) dX11_isPrime_1 (by decide) rfl ?_
  refine zp_iconst (v := nI (2)) dX11_isPrime_2 (by decide) ?_
  refine zp_istore_n (ls' := [some (.int (nI (p))), some (.int (nI (1))), some (.int (nI (2)))]) dX11_isPrime_3 (by decide) rfl ?_
  refine zp_pc (pc' := 4) rfl ?_
  refine zp_ls (ls' := [some (.int (nI (p))), some (.int (nI (zbi (zpk p 2)))), some (.int (nI (2)))]) rfl ?_
  have lp : ∀ (m : Nat) (k : Nat), m = 22 - k → 2 ≤ k → k ≤ 22 → (k = 2 ∨ (k - 1) * (k - 1) ≤ p) → zP g mX11_isPrime (zR 0 0 0) Qf 0 0 4 [some (.int (nI (p))), some (.int (nI (zbi (zpk p k)))), some (.int (nI (k)))] [] h n := by
    intro m
    induction m using Nat.strongRecOn with
    | _ m ih =>
      intro k hm1 hk1 hk2 hk3
      have kk := Nat.mul_le_mul hk2 hk2
      refine zp_iload_n dX11_isPrime_4 rfl ?_
      refine zp_iload_n dX11_isPrime_5 rfl ?_
      refine zn_imul dX11_isPrime_6 ?_
      refine zp_iload_n dX11_isPrime_7 rfl ?_
      refine zp_pc (pc' := 8) rfl ?_
      refine zn_icmp_gt (tgt := 33) dX11_isPrime_8 (by decide) (by omega) (by omega) (fun c8 => ?_) (fun c8 => ?_)
      · refine zp_iload_n dX11_isPrime_33 rfl ?_
        refine zp_pc (pc' := 34) rfl ?_
        refine zp_i (y := nI (zbi (decide (p ∈ zPr)))) (by rw [zpk_tab p hp k (by omega) hp2 hk1 c8 hk3]) ?_
        refine zp_ret (v := (some (.int (nI (zbi (decide (p ∈ zPr))))))) dX11_isPrime_34 ⟨⟨_, rfl, ((zfit_b _) g).1⟩, rfl⟩ (by decide) (by decide) ?_
        rw [hQ]
        exact ⟨rfl, rfl, rfl⟩
      · have k22 : k < 22 := Nat.not_le.mp (fun q => by have := Nat.mul_le_mul q q; omega)
        have sc := zpk_succ p k
        have pm := Nat.mod_lt p (show 0 < k by omega)
        refine zp_iload_n dX11_isPrime_11 rfl ?_
        refine zp_pc (pc' := 12) rfl ?_
        have jn101 : zP g mX11_isPrime (zR 0 0 0) Qf 0 0 26 [some (.int (nI (p))), some (.int (nI (zbi (zpk p k)))), some (.int (nI (k)))] [.int (nI (zbi (zpk p (k + 1))))] h n → zP g mX11_isPrime (zR 0 0 0) Qf 0 0 12 [some (.int (nI (p))), some (.int (nI (zbi (zpk p k)))), some (.int (nI (k)))] [.int (nI (zbi (zpk p k)))] h n := by
          intro jk101
          refine zn_if_eq (tgt := 25) dX11_isPrime_12 (by decide) (by have := zbi_lt (zpk p k); omega) (fun c12 => ?_) (fun c12 => ?_)
          · have dF : zpk p k = false := by rcases Bool.eq_false_or_eq_true (zpk p k) with q | q; rw [q] at c12; exact absurd c12 (by decide); exact q
            refine zp_iconst (v := nI (0)) dX11_isPrime_25 (by decide) ?_
            refine zp_pc (pc' := 26) rfl ?_
            refine zp_i (y := nI (zbi (zpk p (k + 1)))) (by rw [sc, dF]; rfl) ?_
            exact jk101
          · have dT : zpk p k = true := by rcases Bool.eq_false_or_eq_true (zpk p k) with q | q; exact q; rw [q] at c12; exact absurd rfl c12
            refine zp_iload_n dX11_isPrime_15 rfl ?_
            refine zp_iload_n dX11_isPrime_16 rfl ?_
            refine zn_irem dX11_isPrime_17 (by omega) (by omega) (by omega) ?_
            refine zp_pc (pc' := 18) rfl ?_
            refine zn_if_le (tgt := 25) dX11_isPrime_18 (by decide) (by omega) (fun c18 => ?_) (fun c18 => ?_)
            · refine zp_iconst (v := nI (0)) dX11_isPrime_25 (by decide) ?_
              refine zp_pc (pc' := 26) rfl ?_
              refine zp_i (y := nI (zbi (zpk p (k + 1)))) (by rw [sc, dT, show decide (k < 2 ∨ 0 < p % k) = false from decide_eq_false (by omega)]; rfl) ?_
              exact jk101
            · refine zp_iconst (v := nI (1)) dX11_isPrime_21 (by decide) ?_
              refine zp_goto (tgt := 26) dX11_isPrime_22 (by decide) ?_
              refine zp_pc (pc' := 26) rfl ?_
              refine zp_i (y := nI (zbi (zpk p (k + 1)))) (by rw [sc, dT, show decide (k < 2 ∨ 0 < p % k) = true from decide_eq_true (Or.inr c18)]; rfl) ?_
              exact jk101
        refine jn101 ?_
        refine zp_istore_n (ls' := [some (.int (nI (p))), some (.int (nI (zbi (zpk p (k + 1))))), some (.int (nI (k)))]) dX11_isPrime_26 (by decide) rfl ?_
        refine zn_iinc 1 (ls' := [some (.int (nI (p))), some (.int (nI (zbi (zpk p (k + 1))))), some (.int (nI (k + 1)))]) dX11_isPrime_27 (by decide) (by decide) rfl rfl ?_
        refine zp_goto (tgt := 4) dX11_isPrime_30 (by decide) ?_
        refine zp_pc (pc' := 4) rfl ?_
        exact ih (22 - (k + 1)) (by omega) (k + 1) rfl (by omega) (by omega) (Or.inr (by rw [Nat.add_sub_cancel]; omega))
  exact lp _ 2 rfl (by decide) (by decide) (Or.inl rfl)
set_option maxRecDepth 10000 in
set_option maxHeartbeats 2000000 in
theorem e_boxed {g : ZG} {h : ZH} {n : Nat} {b : Nat} (hb : b < 256) : zMt g mX11_boxed (zR 1 0 0) [.int (nI (b))] h n (fun v h' n' => v = some (.int (nI (zbn b))) ∧ h' = h ∧ n' = n) := by
  refine zMt.of [some (.int (nI (b))), none, none, none] (by decide) rfl (Nat.le_of_ble_eq_true rfl) ?_
  obtain ⟨Qf, hQ⟩ : ∃ Qf : ZQ, Qf = (fun v h' n' => v = some (.int (nI (zbn b))) ∧ h' = h ∧ n' = n) := ⟨_, rfl⟩
  rw [← hQ]
  have k32 : zP g mX11_boxed (zR 1 0 0) Qf 0 0 32 [some (.int (nI (b))), some (.int (nI (zoth b))), none, none] [] h n := by
    have ol := zoth_lt b
    refine zp_bipush (v := nI (99)) dX11_boxed_32 (by decide) ?_
    refine zp_istore_n (ls' := [some (.int (nI (b))), some (.int (nI (zoth b))), some (.int (nI (99))), none]) dX11_boxed_34 (by decide) rfl ?_
    refine zp_iconst (v := nI (0)) dX11_boxed_35 (by decide) ?_
    refine zp_istore_n (ls' := [some (.int (nI (b))), some (.int (nI (zoth b))), some (.int (nI (99))), some (.int (nI (0)))]) dX11_boxed_36 (by decide) rfl ?_
    refine zp_pc (pc' := 37) rfl ?_
    refine zp_ls (ls' := [some (.int (nI (b))), some (.int (nI (zoth b))), some (.int (nI (zaf (zoth b) 0))), some (.int (nI (0)))]) rfl ?_
    have l2 : ∀ (m : Nat) (k : Nat), m = 5 - k → k ≤ 5 → zP g mX11_boxed (zR 1 0 0) Qf 0 0 37 [some (.int (nI (b))), some (.int (nI (zoth b))), some (.int (nI (zaf (zoth b) k))), some (.int (nI (k)))] [] h n := by
      intro m
      induction m using Nat.strongRecOn with
      | _ m ih =>
        intro k hm2 hk2
        refine zp_iload_n dX11_boxed_37 rfl ?_
        refine zp_iconst (v := nI (5)) dX11_boxed_38 (by decide) ?_
        refine zp_pc (pc' := 39) rfl ?_
        refine zn_icmp_ge (tgt := 65) dX11_boxed_39 (by decide) (by omega) (by omega) (fun c39 => ?_) (fun c39 => ?_)
        · have e5 : k = 5 := by omega
          refine zp_iload_n dX11_boxed_65 rfl ?_
          refine zp_pc (pc' := 66) rfl ?_
          refine zp_i (y := nI (zbn b)) (by rw [e5, zaf_tab b hb]) ?_
          refine zp_ret (v := (some (.int (nI (zbn b))))) dX11_boxed_66 ⟨⟨_, rfl, rfl⟩, rfl⟩ (by decide) (by decide) ?_
          rw [hQ]
          exact ⟨rfl, rfl, rfl⟩
        · refine zp_iload_n dX11_boxed_42 rfl ?_
          refine zp_iload_n dX11_boxed_43 rfl ?_
          refine zp_iload_n dX11_boxed_44 rfl ?_
          refine zp_ishl dX11_boxed_45 ?_
          refine zp_iload_n dX11_boxed_46 rfl ?_
          refine zp_bipush (v := nI (8)) dX11_boxed_47 (by decide) ?_
          refine zp_iload_n dX11_boxed_49 rfl ?_
          refine zn_isub dX11_boxed_50 (by omega) ?_
          refine zp_ishr dX11_boxed_51 ?_
          refine zp_ior dX11_boxed_52 ?_
          refine zp_sipush (v := nI (255)) dX11_boxed_53 (by decide) ?_
          refine zp_pc (pc' := 56) rfl ?_
          refine zp_iand dX11_boxed_56 ?_
          refine zp_i (y := nI (zrl (zoth b) k)) (zrl_tab _ ol _ (by omega)) ?_
          refine zp_ixor dX11_boxed_57 ?_
          refine zp_i (y := nI (zaf (zoth b) (k + 1))) (nx_xor _ _) ?_
          refine zp_istore_n (ls' := [some (.int (nI (b))), some (.int (nI (zoth b))), some (.int (nI (zaf (zoth b) (k + 1)))), some (.int (nI (k)))]) dX11_boxed_58 (by decide) rfl ?_
          refine zn_iinc 1 (ls' := [some (.int (nI (b))), some (.int (nI (zoth b))), some (.int (nI (zaf (zoth b) (k + 1)))), some (.int (nI (k + 1)))]) dX11_boxed_59 (by decide) (by decide) rfl rfl ?_
          refine zp_goto (tgt := 37) dX11_boxed_62 (by decide) ?_
          refine zp_pc (pc' := 37) rfl ?_
          exact ih (5 - (k + 1)) (by omega) (k + 1) rfl (by omega)
    exact l2 _ 0 rfl (Nat.zero_le _)
  refine zp_iconst (v := nI (0)) dX11_boxed_0 (by decide) ?_
  refine zp_istore_n (ls' := [some (.int (nI (b))), some (.int (nI (0))), none, none]) dX11_boxed_1 (by decide) rfl ?_
  refine zp_iconst (v := nI (1)) dX11_boxed_2 (by decide) ?_
  refine zp_istore_n (ls' := [some (.int (nI (b))), some (.int (nI (0))), some (.int (nI (1))), none]) dX11_boxed_3 (by decide) rfl ?_
  refine zp_pc (pc' := 4) rfl ?_
  refine zp_ls (ls' := [some (.int (nI (b))), some (.int (nI (zbo b 1))), some (.int (nI (1))), none]) rfl ?_
  have lp : ∀ (m : Nat) (c : Nat), m = 256 - c → 1 ≤ c → c ≤ 256 → (c ≠ 1 → b ≠ 0) → zP g mX11_boxed (zR 1 0 0) Qf 0 0 4 [some (.int (nI (b))), some (.int (nI (zbo b c))), some (.int (nI (c))), none] [] h n := by
    intro m
    induction m using Nat.strongRecOn with
    | _ m ih =>
      intro c hm1 hc1 hc2 hcb
      refine zp_iload_n dX11_boxed_4 rfl ?_
      refine zp_sipush (v := nI (256)) dX11_boxed_5 (by decide) ?_
      refine zp_pc (pc' := 8) rfl ?_
      refine zn_icmp_ge (tgt := 32) dX11_boxed_8 (by decide) (by omega) (by omega) (fun c8 => ?_) (fun c8 => ?_)
      · have ec : c = 256 := by omega
        refine zp_ls (ls' := [some (.int (nI (b))), some (.int (nI (zoth b))), some (.int (nI (c))), none]) (by unfold zoth; rw [ec]; split; exact absurd ‹b = 0› (by omega); rfl) ?_
        refine zp_drop (ls' := [some (.int (nI (b))), some (.int (nI (zoth b))), none, none]) (fun i v hv => ?_) ?_
        · rcases i with _ | _ | _ | _ | i <;> simp at hv ⊢ <;> exact hv
        exact k32
      · refine zp_iload_n dX11_boxed_11 rfl ?_
        refine zp_pc (pc' := 12) rfl ?_
        refine zn_if_le (tgt := 32) dX11_boxed_12 (by decide) (by omega) (fun c12 => ?_) (fun c12 => ?_)
        · refine zp_ls (ls' := [some (.int (nI (b))), some (.int (nI (zoth b))), some (.int (nI (c))), none]) (by unfold zoth; rw [if_pos c12, show c = 1 by omega]; rfl) ?_
          refine zp_drop (ls' := [some (.int (nI (b))), some (.int (nI (zoth b))), none, none]) (fun i v hv => ?_) ?_
          · rcases i with _ | _ | _ | _ | i <;> simp at hv ⊢ <;> exact hv
          exact k32
        · refine zp_iload_n dX11_boxed_15 rfl ?_
          refine zp_iload_n dX11_boxed_16 rfl ?_
          refine zp_pc (pc' := 17) rfl ?_
          refine zp_callS (As := [.int (nI (b)), .int (nI (c))]) (st := []) dX11_boxed_17 cX11_178 rfl (e_times (a := b) (b := c) hb (by omega)) (by decide) (by decide) (Nat.le_of_ble_eq_true rfl) (fun v101 h101 n101 q101 => ?_)
          obtain ⟨rfl, H101, N101⟩ := q101
          rw [N101, H101]
          refine zp_nrm (cells' := 0) (slots' := 0) (st' := [.int (nI (ztm b c 8))]) rfl rfl rfl ?_
          have tl := ztm_lt hb c 8
          refine zp_iconst (v := nI (1)) dX11_boxed_20 (by decide) ?_
          refine zp_pc (pc' := 21) rfl ?_
          refine zn_icmp_ne (tgt := 26) dX11_boxed_21 (by decide) (by omega) (by omega) (fun c21 => ?_) (fun c21 => ?_)
          · refine zp_ls (ls' := [some (.int (nI (b))), some (.int (nI (zbo b (c + 1)))), some (.int (nI (c))), none]) (by rw [show zbo b (c + 1) = zbo b c from if_neg (fun q => c21 q.2)]) ?_
            refine zn_iinc 1 (ls' := [some (.int (nI (b))), some (.int (nI (zbo b (c + 1)))), some (.int (nI (c + 1))), none]) dX11_boxed_26 (by decide) (by decide) rfl rfl ?_
            refine zp_goto (tgt := 4) dX11_boxed_29 (by decide) ?_
            refine zp_pc (pc' := 4) rfl ?_
            exact ih (256 - (c + 1)) (by omega) (c + 1) rfl (by omega) (by omega) (fun _ => by omega)
          · refine zp_iload_n dX11_boxed_24 rfl ?_
            refine zp_istore_n (ls' := [some (.int (nI (b))), some (.int (nI (c))), some (.int (nI (c))), none]) dX11_boxed_25 (by decide) rfl ?_
            refine zp_pc (pc' := 26) rfl ?_
            refine zp_ls (ls' := [some (.int (nI (b))), some (.int (nI (zbo b (c + 1)))), some (.int (nI (c))), none]) (by rw [show zbo b (c + 1) = c from if_pos ⟨by omega, c21⟩]) ?_
            refine zn_iinc 1 (ls' := [some (.int (nI (b))), some (.int (nI (zbo b (c + 1)))), some (.int (nI (c + 1))), none]) dX11_boxed_26 (by decide) (by decide) rfl rfl ?_
            refine zp_goto (tgt := 4) dX11_boxed_29 (by decide) ?_
            refine zp_pc (pc' := 4) rfl ?_
            exact ih (256 - (c + 1)) (by omega) (c + 1) rfl (by omega) (by omega) (fun _ => by omega)
  exact lp _ 1 rfl (by decide) (by decide) (fun q => absurd rfl q)
