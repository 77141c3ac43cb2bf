set_option maxRecDepth 100000 in
theorem zxt_x : ∀ a, a < 256 → ∀ b, b < 256 → zxt (a ^^^ b) = zxt a ^^^ zxt b := by decide +kernel
def zst (b : Bool) (ks xs : List Nat) (c : Nat) : Nat → Nat := if c < zro b then zrd (zkf b ks) (fun k => xs.getD k 0) c else zef b ks xs
theorem zst_by {b : Bool} {ks xs : List Nat} (hk : ∀ x ∈ ks, x < 256) (hx : ∀ x ∈ xs, x < 256) (c : Nat) : zby (zst b ks xs c) := by
  unfold zst
  split
  · exact zby_rd (zkf_lt hk) (zby_of hx) c
  · exact zef_by hk hx
theorem zst_0 (b : Bool) (ks xs : List Nat) (k : Nat) : zst b ks xs 0 k = xs.getD k 0 ^^^ zkf b ks k := by
  have e : zst b ks xs 0 = zrd (zkf b ks) (fun k => xs.getD k 0) 0 := if_pos (by cases b <;> decide)
  rw [e]
  show xs.getD k 0 ^^^ zkf b ks (16 * 0 + k) = _
  rw [Nat.mul_zero, Nat.zero_add]
theorem zst_mid {b : Bool} {c : Nat} (h : c + 1 < zro b) (ks xs : List Nat) (k : Nat) : zst b ks xs (c + 1) k = zmx (zsb (zst b ks xs c)) k ^^^ zkf b ks (16 * (c + 1) + k) := by
  have e : zst b ks xs (c + 1) = zrd (zkf b ks) (fun k => xs.getD k 0) (c + 1) := if_pos h
  have e2 : zst b ks xs c = zrd (zkf b ks) (fun k => xs.getD k 0) c := if_pos (by omega)
  rw [e, e2]
  rfl
theorem zst_end {b : Bool} {c : Nat} (h : c + 1 = zro b) (ks xs : List Nat) (k : Nat) : zst b ks xs (c + 1) k = zsb (zst b ks xs c) k ^^^ zkf b ks (16 * (c + 1) + k) := by
  have e : zst b ks xs (c + 1) = zef b ks xs := if_neg (by omega)
  have e2 : zst b ks xs c = zrd (zkf b ks) (fun k => xs.getD k 0) c := if_pos (by omega)
  rw [e, e2]
  unfold zef
  rw [← h, Nat.add_sub_cancel]
  rfl
theorem zmx_m {s : Nat → Nat} (hs : zby s) {k : Nat} (hk : k < 16) : zxt (s k) ^^^ (s (zcl k 1) ^^^ zxt (s (zcl k 1))) ^^^ s (zcl k 2) ^^^ s (zcl k 3) = zmx s k := by
  unfold zmx
  rw [zxt_x _ (hs k hk) _ (hs _ (zcl_lt hk 1)), Nat.xor_comm (s (zcl k 1)) (zxt _), ← Nat.xor_assoc]
abbrev zs3 (r : Nat) : Nat → Prop := fun i => i = 78 ∨ i = 79 ∨ i = r
abbrev zs2o (r : Nat) : Nat → Prop := fun i => i = 79 ∨ i = r
set_option maxRecDepth 10000 in
set_option maxHeartbeats 2000000 in
theorem e_mcipher {g : ZG} {h : ZH} {n : Nat} {b : Bool} {q Nq r : Nat} {ks xs : List Nat} {th : Int32} {wt : Nat} {un : Bool} {rp wi pa be ru sa me se ta fa : Int32} {mn tp ou : Nat} (hc : zmcl h) (ho : h 64 = some (.inl (10, [.int (th), .ref (65), .ref (66), .ref (67), .ref (68), .ref (69), .ref (70), .ref (71), .ref (72), .ref (73), .ref (74), .ref (75), .ref (76), .ref (77), .ref (78), .ref (79), .ref (80), .ref (81), .ref (82), .ref (83), .ref (84), .int (nI (wt)), .int (nI (zbi un)), .int (rp), .int (wi), .int (pa), .int (be), .int (ru), .int (sa), .int (me), .int (se), .int (ta), .int (fa), .ref (85), .ref (86), .ref (87), .int (nI (mn)), .ref (88), .ref (89), .ref (90), .ref (91), .ref (92), .ref (93), .int (nI (tp)), .ref (94), .int (nI (ou))]))) (hk : zar h q Nq ks) (hx : zar h r 16 xs) (hq : q ≠ 78 ∧ q ≠ 79 ∧ q ≠ r) (hr : 79 < r) (lk : ks.length = zkl b) (lx : xs.length = 16) : zMt g mX11_cipher (zR 2 0 0) [.ref (64), .ref (q), .int (nI (zkl b)), .ref (r)] h n (fun v h' n' => v = none ∧ n' = n ∧ zsm h h' (zs3 r) ∧ zsh h h' ∧ zar h' r 16 (zenc b ks xs)) := by
  refine zMt.of [some (.ref (64)), some (.ref (q)), some (.int (nI (zkl b))), some (.ref (r)), none, none, none, none, none] (by decide) rfl (Nat.le_of_ble_eq_true rfl) ?_
  obtain ⟨Qf, hQ⟩ : ∃ Qf : ZQ, Qf = (fun v h' n' => v = none ∧ n' = n ∧ zsm h h' (zs3 r) ∧ zsh h h' ∧ zar h' r 16 (zenc b ks xs)) := ⟨_, rfl⟩
  rw [← hQ]
  have hz := zkl_or b
  obtain ⟨c1, ⟨f78, c2⟩, ⟨f79, c3⟩⟩ := id hc
  have k3 := hk.bytes
  obtain ⟨x1, x2, x3, fx, x4, x5⟩ := id hx
  refine zp_aload_n dX11_cipher_0 rfl ?_
  refine zp_aload_n dX11_cipher_1 rfl ?_
  refine zp_iload_n dX11_cipher_2 rfl ?_
  refine zp_pc (pc' := 3) rfl ?_
  refine zp_callV (As := [.ref (q), .int (nI (zkl b))]) (k := 64) (st := []) (ci := 10) dX11_cipher_3 cX11_182 rfl ho rfl rfl (e_spread hc ho hk (by omega) lk) (by decide) (by decide) (Nat.le_of_ble_eq_true rfl) (fun v1 h1 n1 q1 => ?_)
  obtain ⟨rfl, N1, s1, fk9, k78, kv⟩ := q1
  rw [N1]
  refine zp_nrm (cells' := 0) (slots' := 0) (st' := []) rfl rfl rfl ?_
  have m2 : h1 (64) = some (.inl (10, [.int (th), .ref (65), .ref (66), .ref (67), .ref (68), .ref (69), .ref (70), .ref (71), .ref (72), .ref (73), .ref (74), .ref (75), .ref (76), .ref (77), .ref (78), .ref (79), .ref (80), .ref (81), .ref (82), .ref (83), .ref (84), .int (nI (wt)), .int (nI (zbi un)), .int (rp), .int (wi), .int (pa), .int (be), .int (ru), .int (sa), .int (me), .int (se), .int (ta), .int (fa), .ref (85), .ref (86), .ref (87), .int (nI (mn)), .ref (88), .ref (89), .ref (90), .ref (91), .ref (92), .ref (93), .int (nI (tp)), .ref (94), .int (nI (ou))])) := (s1 _ (by unfold zon; omega)).trans ho
  have m3 : h1 (77) = some (.inr (256, .inl (fun j => zt_BOX.getD j 0))) := (s1 _ (by unfold zon; omega)).trans c1
  have m4 : h1 (79) = some (.inr (16, .inl f79)) := (s1 _ (by unfold zon; omega)).trans c3
  have m5 : h1 (r) = some (.inr (16, .inl fx)) := (s1 _ (by unfold zon; omega)).trans x4
  refine zp_iload_n dX11_cipher_6 rfl ?_
  refine zp_iconst (v := nI (4)) dX11_cipher_7 (by decide) ?_
  refine zp_pc (pc' := 8) rfl ?_
  refine zn_idiv dX11_cipher_8 (by omega) (by omega) (by omega) ?_
  refine zp_i (y := nI (zkl b / 4)) rfl ?_
  refine zp_bipush (v := nI (6)) dX11_cipher_9 (by decide) ?_
  refine zp_pc (pc' := 11) rfl ?_
  refine zn_iadd dX11_cipher_11 ?_
  refine zp_i (y := nI (zro b)) (by congr 1; omega) ?_
  refine zp_istore (ls' := [some (.ref (64)), some (.ref (q)), some (.int (nI (zkl b))), some (.ref (r)), some (.int (nI (zro b))), none, none, none, none]) dX11_cipher_12 (by decide) rfl ?_
  refine zp_iconst (v := nI (0)) dX11_cipher_14 (by decide) ?_
  refine zp_istore (ls' := [some (.ref (64)), some (.ref (q)), some (.int (nI (zkl b))), some (.ref (r)), some (.int (nI (zro b))), some (.int (nI (0))), none, none, none]) dX11_cipher_15 (by decide) rfl ?_
  refine zp_pc (pc' := 17) rfl ?_
  have lp6 : zP g mX11_cipher (zR 2 0 0) Qf 0 0 44 [some (.ref (64)), some (.ref (q)), some (.int (nI (zkl b))), some (.ref (r)), some (.int (nI (zro b))), some (.int (nI (16))), none, none, none] [] (va_up h1 (r) (some (.inr (16, .inl (zfl fx (0) (16) (fun i => nI (zst b ks xs 0 i))))))) n → ∀ (m k6 : Nat), m = (16) - k6 → k6 ≤ (16) → zP g mX11_cipher (zR 2 0 0) Qf 0 0 17 [some (.ref (64)), some (.ref (q)), some (.int (nI (zkl b))), some (.ref (r)), some (.int (nI (zro b))), some (.int (nI (k6))), none, none, none] [] (va_up h1 (r) (some (.inr (16, .inl (zfl fx (0) (k6) (fun i => nI (zst b ks xs 0 i))))))) n := by
    intro kk m
    induction m using Nat.strongRecOn with
    | _ m ih =>
      intro k6 hm6 hk6
      refine zp_nh (fun hX6 eX6 => ?_)
      have k7_0 := (congrFun eX6 (64)).trans ((va_up_ne _ _ (by omega)).trans m2)
      have k7_1 := (congrFun eX6 (77)).trans ((va_up_ne _ _ (by omega)).trans m3)
      have k7_2 := (congrFun eX6 (79)).trans ((va_up_ne _ _ (by omega)).trans m4)
      have k7_3 : hX6 (r) = some (.inr (16, .inl (zfl fx (0) (k6) (fun i => nI (zst b ks xs 0 i))))) := by rw [eX6]; exact va_up_self _ _ _
      have k7_4 := (congrFun eX6 (78)).trans ((va_up_ne _ _ (by omega)).trans k78)
      refine zp_iload dX11_cipher_17 rfl ?_
      refine zp_bipush (v := nI (16)) dX11_cipher_19 (by decide) ?_
      refine zp_pc (pc' := 21) rfl ?_
      refine zn_icmp_ge (tgt := 44) dX11_cipher_21 (by decide) (by omega) (by omega) (fun c21 => ?_) (fun c21 => ?_)
      · have e6 : k6 = (16) := by omega
        subst e6
        rw [eX6]
        exact kk
      · refine zp_aload_n dX11_cipher_24 rfl ?_
        refine zp_iload dX11_cipher_25 rfl ?_
        refine zp_dup2 dX11_cipher_27 rfl rfl ?_
        refine zp_pc (pc' := 28) rfl ?_
        refine zn_iald (j := k6) dX11_cipher_28 k7_3 (by omega) (by omega) ?_
        refine zp_i (y := nI (xs.getD k6 0)) (by rw [zfl_out (Or.inr (by omega))]; exact x5 _ (by omega)) ?_
        refine zp_aload_n dX11_cipher_29 rfl ?_
        refine zp_get dX11_cipher_30 gX11_50_10 k7_0 rfl ?_
        refine zp_iload dX11_cipher_33 rfl ?_
        refine zp_pc (pc' := 35) rfl ?_
        refine zn_iald (j := k6) dX11_cipher_35 k7_4 (by omega) (by omega) ?_
        refine zp_i (y := nI (zkf b ks k6)) (kv _ (by omega)) ?_
        refine zp_ixor dX11_cipher_36 ?_
        refine zp_i (y := nI (zst b ks xs 0 k6)) (by rw [nx_xor, zst_0]) ?_
        refine zn_iast dX11_cipher_37 (by omega) k7_3 (by omega) (by omega) ?_
        refine zp_nh (fun h8x eh8x => ?_)
        have k8_0 := (congrFun eh8x (64)).trans ((va_up_ne _ _ (by omega)).trans k7_0)
        have k8_1 := (congrFun eh8x (77)).trans ((va_up_ne _ _ (by omega)).trans k7_1)
        have k8_2 := (congrFun eh8x (79)).trans ((va_up_ne _ _ (by omega)).trans k7_2)
        have k8_3 : h8x (r) = some (.inr (16, .inl (va_up (zfl fx (0) (k6) (fun i => nI (zst b ks xs 0 i))) (k6) (nI (zst b ks xs 0 k6))))) := by rw [eh8x]; exact va_up_self _ _ _
        have k8_4 := (congrFun eh8x (78)).trans ((va_up_ne _ _ (by omega)).trans k7_4)
        have sw9 : zsm hX6 h8x (zon (r)) := zsm.rf.up eh8x rfl
        have zw9 : zsh hX6 h8x := zsh.fill eh8x k7_3
        refine zp_pc (pc' := 38) rfl ?_
        refine zn_iinc 1 (ls' := [some (.ref (64)), some (.ref (q)), some (.int (nI (zkl b))), some (.ref (r)), some (.int (nI (zro b))), some (.int (nI (k6 + 1))), none, none, none]) dX11_cipher_38 (by decide) (by decide) rfl rfl ?_
        refine zp_goto (tgt := 17) dX11_cipher_41 (by decide) ?_
        refine zp_pc (pc' := 17) rfl ?_
        rw [zfl_step eX6 eh8x (by omega) rfl]
        exact ih ((16) - (k6 + 1)) (by omega) (k6 + 1) rfl (by omega)
  suffices K6 : zP g mX11_cipher (zR 2 0 0) Qf 0 0 44 [some (.ref (64)), some (.ref (q)), some (.int (nI (zkl b))), some (.ref (r)), some (.int (nI (zro b))), some (.int (nI (16))), none, none, none] [] (va_up h1 (r) (some (.inr (16, .inl (zfl fx (0) (16) (fun i => nI (zst b ks xs 0 i))))))) n by
    have q := lp6 K6 ((16) - 0) 0 rfl (Nat.zero_le _)
    rw [zfl_0, zup_same m5] at q
    exact q
  refine zp_nh (fun hY6 eY6 => ?_)
  have k10_0 := (congrFun eY6 (64)).trans ((va_up_ne _ _ (by omega)).trans m2)
  have k10_1 := (congrFun eY6 (77)).trans ((va_up_ne _ _ (by omega)).trans m3)
  have k10_2 := (congrFun eY6 (79)).trans ((va_up_ne _ _ (by omega)).trans m4)
  have k10_3 : hY6 (r) = some (.inr (16, .inl (zfl fx (0) (16) (fun i => nI (zst b ks xs 0 i))))) := by rw [eY6]; exact va_up_self _ _ _
  have k10_4 := (congrFun eY6 (78)).trans ((va_up_ne _ _ (by omega)).trans k78)
  have sf11 := (zsm.fill eY6)
  have zf11 := zsh.fill eY6 m5
  refine zp_iconst (v := nI (1)) dX11_cipher_44 (by decide) ?_
  refine zp_istore (ls' := [some (.ref (64)), some (.ref (q)), some (.int (nI (zkl b))), some (.ref (r)), some (.int (nI (zro b))), some (.int (nI (1))), none, none, none]) dX11_cipher_45 (by decide) rfl ?_
  refine zp_pc (pc' := 47) rfl ?_
  refine zp_ls (ls' := [some (.ref (64)), some (.ref (q)), some (.int (nI (zkl b))), some (.ref (r)), some (.int (nI (zro b))), some (.int (nI (0 + 1))), none, none, none]) rfl ?_
  have sB : zsm h hY6 (zs3 r) := ((s1).mono (fun i hi => by unfold zs3; unfold zon at hi; omega)).trans ((sf11).mono (fun i hi => by unfold zs3; unfold zon at hi; omega))
  have lp : ∀ (m : Nat) (c : Nat) (h1 : ZH) (g79 gr : Nat → Int32), m = zro b - c → c ≤ zro b → zsm hY6 h1 (zs2o r) → h1 79 = some (.inr (16, .inl g79)) → h1 r = some (.inr (16, .inl gr)) → (∀ j, j < 16 → gr j = nI (zst b ks xs c j)) → zP g mX11_cipher (zR 2 0 0) Qf 0 0 47 [some (.ref (64)), some (.ref (q)), some (.int (nI (zkl b))), some (.ref (r)), some (.int (nI (zro b))), some (.int (nI (c + 1))), none, none, none] [] h1 n := by
    intro m
    induction m using Nat.strongRecOn with
    | _ m ih =>
      intro c h1 g79 gr hm hcR s1 e79 er egr
      have o1 : h1 (64) = some (.inl (10, [.int (th), .ref (65), .ref (66), .ref (67), .ref (68), .ref (69), .ref (70), .ref (71), .ref (72), .ref (73), .ref (74), .ref (75), .ref (76), .ref (77), .ref (78), .ref (79), .ref (80), .ref (81), .ref (82), .ref (83), .ref (84), .int (nI (wt)), .int (nI (zbi un)), .int (rp), .int (wi), .int (pa), .int (be), .int (ru), .int (sa), .int (me), .int (se), .int (ta), .int (fa), .ref (85), .ref (86), .ref (87), .int (nI (mn)), .ref (88), .ref (89), .ref (90), .ref (91), .ref (92), .ref (93), .int (nI (tp)), .ref (94), .int (nI (ou))])) := (s1 _ (by unfold zs2o; omega)).trans k10_0
      have b1 : h1 (77) = some (.inr (256, .inl (fun j => zt_BOX.getD j 0))) := (s1 _ (by unfold zs2o; omega)).trans k10_1
      have k1 : h1 (78) = some (.inr (240, .inl fk9)) := (s1 _ (by unfold zs2o; omega)).trans k10_4
      have hby := zst_by (b := b) (ks := ks) (xs := xs) k3 x3 c
      refine zp_iload dX11_cipher_47 rfl ?_
      refine zp_iload dX11_cipher_49 rfl ?_
      refine zp_pc (pc' := 51) rfl ?_
      refine zn_icmp_gt (tgt := 224) dX11_cipher_51 (by decide) (by omega) (by omega) (fun c51 => ?_) (fun c51 => ?_)
      · refine zp_pc (pc' := 224) rfl ?_
        have ec : c = zro b := by omega
        have sE : zsm h h1 (zs3 r) := sB.trans (s1.mono (fun i hi => by unfold zs3; unfold zs2o at hi; omega))
        refine zp_ret (v := none) dX11_cipher_224 ⟨rfl, rfl⟩ (by decide) (by decide) ?_
        rw [hQ]
        exact ⟨rfl, rfl, sE, zsh.of sE (fun k q => by
              unfold zs3 at q
              rcases q with rfl | rfl | rfl
              · exact ⟨_, _, _, c2, k1⟩
              · exact ⟨_, _, _, c3, e79⟩
              · exact ⟨_, _, _, x4, er⟩), zar.mk (L := 16) er (zenc_len ..) (Nat.le_refl _) (by decide) (zenc_lt k3 x3) (fun j hj => by rw [egr j hj, ec]; unfold zenc; rw [zmap_getD hj]; congr 1; unfold zst; rw [if_neg (Nat.lt_irrefl _)])⟩
      · refine zp_iconst (v := nI (0)) dX11_cipher_54 (by decide) ?_
        refine zp_istore (ls' := [some (.ref (64)), some (.ref (q)), some (.int (nI (zkl b))), some (.ref (r)), some (.int (nI (zro b))), some (.int (nI (c + 1))), some (.int (nI (0))), none, none]) dX11_cipher_55 (by decide) rfl ?_
        refine zp_pc (pc' := 57) rfl ?_
        have lp12 : zP g mX11_cipher (zR 2 0 0) Qf 0 0 96 [some (.ref (64)), some (.ref (q)), some (.int (nI (zkl b))), some (.ref (r)), some (.int (nI (zro b))), some (.int (nI (c + 1))), some (.int (nI (16))), none, none] [] (va_up h1 (79) (some (.inr (16, .inl (zfl g79 (0) (16) (fun i => nI (zsb (zst b ks xs c) i))))))) n → ∀ (m k12 : Nat), m = (16) - k12 → k12 ≤ (16) → zP g mX11_cipher (zR 2 0 0) Qf 0 0 57 [some (.ref (64)), some (.ref (q)), some (.int (nI (zkl b))), some (.ref (r)), some (.int (nI (zro b))), some (.int (nI (c + 1))), some (.int (nI (k12))), none, none] [] (va_up h1 (79) (some (.inr (16, .inl (zfl g79 (0) (k12) (fun i => nI (zsb (zst b ks xs c) i))))))) n := by
          intro kk m
          induction m using Nat.strongRecOn with
          | _ m ih =>
            intro k12 hm12 hk12
            refine zp_nh (fun hX12 eX12 => ?_)
            have k13_0 := (congrFun eX12 (64)).trans ((va_up_ne _ _ (by omega)).trans o1)
            have k13_1 := (congrFun eX12 (77)).trans ((va_up_ne _ _ (by omega)).trans b1)
            have k13_2 := (congrFun eX12 (78)).trans ((va_up_ne _ _ (by omega)).trans k1)
            have k13_3 : hX12 (79) = some (.inr (16, .inl (zfl g79 (0) (k12) (fun i => nI (zsb (zst b ks xs c) i))))) := by rw [eX12]; exact va_up_self _ _ _
            have k13_4 := (congrFun eX12 (r)).trans ((va_up_ne _ _ (by omega)).trans er)
            refine zp_iload dX11_cipher_57 rfl ?_
            refine zp_bipush (v := nI (16)) dX11_cipher_59 (by decide) ?_
            refine zp_pc (pc' := 61) rfl ?_
            refine zn_icmp_ge (tgt := 96) dX11_cipher_61 (by decide) (by omega) (by omega) (fun c61 => ?_) (fun c61 => ?_)
            · have e12 : k12 = (16) := by omega
              subst e12
              rw [eX12]
              exact kk
            · refine zp_aload_n dX11_cipher_64 rfl ?_
              refine zp_get dX11_cipher_65 gX11_53_10 k13_0 rfl ?_
              refine zp_iload dX11_cipher_68 rfl ?_
              refine zp_aload_n dX11_cipher_70 rfl ?_
              refine zp_get dX11_cipher_71 gX11_47_10 k13_0 rfl ?_
              refine zp_aload_n dX11_cipher_74 rfl ?_
              refine zp_iload dX11_cipher_75 rfl ?_
              refine zp_iconst (v := nI (4)) dX11_cipher_77 (by decide) ?_
              refine zp_iload dX11_cipher_78 rfl ?_
              refine zp_iconst (v := nI (4)) dX11_cipher_80 (by decide) ?_
              refine zn_irem dX11_cipher_81 (by omega) (by omega) (by omega) ?_
              refine zn_imul dX11_cipher_82 ?_
              refine zp_pc (pc' := 83) rfl ?_
              refine zn_iadd dX11_cipher_83 ?_
              refine zp_bipush (v := nI (16)) dX11_cipher_84 (by decide) ?_
              refine zn_irem dX11_cipher_86 (by omega) (by omega) (by omega) ?_
              refine zp_pc (pc' := 87) rfl ?_
              refine zn_iald (j := ((k12) + ((4) * ((k12) % (4)))) % (16)) dX11_cipher_87 k13_4 (by omega) (by omega) ?_
              refine zp_i (y := nI ((zst b ks xs c) (5 * k12 % 16))) (by rw [show (k12 + 4 * (k12 % 4)) % 16 = 5 * k12 % 16 by omega]; exact egr _ (Nat.mod_lt _ (by decide))) ?_
              have hv5 := hby (5 * k12 % 16) (Nat.mod_lt _ (by decide))
              refine zn_iald (j := (zst b ks xs c) (5 * k12 % 16)) dX11_cipher_88 k13_1 (by omega) (by omega) ?_
              refine zp_i (y := nI (zsb (zst b ks xs c) k12)) (zbox_at hv5) ?_
              refine zn_iast dX11_cipher_89 (by omega) k13_3 (by omega) (by omega) ?_
              refine zp_nh (fun h14x eh14x => ?_)
              have k14_0 := (congrFun eh14x (64)).trans ((va_up_ne _ _ (by omega)).trans k13_0)
              have k14_1 := (congrFun eh14x (77)).trans ((va_up_ne _ _ (by omega)).trans k13_1)
              have k14_2 := (congrFun eh14x (78)).trans ((va_up_ne _ _ (by omega)).trans k13_2)
              have k14_3 : h14x (79) = some (.inr (16, .inl (va_up (zfl g79 (0) (k12) (fun i => nI (zsb (zst b ks xs c) i))) (k12) (nI (zsb (zst b ks xs c) k12))))) := by rw [eh14x]; exact va_up_self _ _ _
              have k14_4 := (congrFun eh14x (r)).trans ((va_up_ne _ _ (by omega)).trans k13_4)
              have sw15 : zsm hX12 h14x (zon (79)) := zsm.rf.up eh14x rfl
              have zw15 : zsh hX12 h14x := zsh.fill eh14x k13_3
              refine zp_pc (pc' := 90) rfl ?_
              refine zn_iinc 1 (ls' := [some (.ref (64)), some (.ref (q)), some (.int (nI (zkl b))), some (.ref (r)), some (.int (nI (zro b))), some (.int (nI (c + 1))), some (.int (nI (k12 + 1))), none, none]) dX11_cipher_90 (by decide) (by decide) rfl rfl ?_
              refine zp_goto (tgt := 57) dX11_cipher_93 (by decide) ?_
              refine zp_pc (pc' := 57) rfl ?_
              rw [zfl_step eX12 eh14x (by omega) rfl]
              exact ih ((16) - (k12 + 1)) (by omega) (k12 + 1) rfl (by omega)
        suffices K12 : zP g mX11_cipher (zR 2 0 0) Qf 0 0 96 [some (.ref (64)), some (.ref (q)), some (.int (nI (zkl b))), some (.ref (r)), some (.int (nI (zro b))), some (.int (nI (c + 1))), some (.int (nI (16))), none, none] [] (va_up h1 (79) (some (.inr (16, .inl (zfl g79 (0) (16) (fun i => nI (zsb (zst b ks xs c) i))))))) n by
          have q := lp12 K12 ((16) - 0) 0 rfl (Nat.zero_le _)
          rw [zfl_0, zup_same e79] at q
          exact q
        refine zp_nh (fun hY12 eY12 => ?_)
        have k16_0 := (congrFun eY12 (64)).trans ((va_up_ne _ _ (by omega)).trans o1)
        have k16_1 := (congrFun eY12 (77)).trans ((va_up_ne _ _ (by omega)).trans b1)
        have k16_2 := (congrFun eY12 (78)).trans ((va_up_ne _ _ (by omega)).trans k1)
        have k16_3 : hY12 (79) = some (.inr (16, .inl (zfl g79 (0) (16) (fun i => nI (zsb (zst b ks xs c) i))))) := by rw [eY12]; exact va_up_self _ _ _
        have k16_4 := (congrFun eY12 (r)).trans ((va_up_ne _ _ (by omega)).trans er)
        have sf17 := (zsm.fill eY12)
        have zf17 := zsh.fill eY12 e79
        refine zp_iconst (v := nI (0)) dX11_cipher_96 (by decide) ?_
        refine zp_istore (ls' := [some (.ref (64)), some (.ref (q)), some (.int (nI (zkl b))), some (.ref (r)), some (.int (nI (zro b))), some (.int (nI (c + 1))), some (.int (nI (0))), none, none]) dX11_cipher_97 (by decide) rfl ?_
        refine zp_pc (pc' := 99) rfl ?_
        have hbz := zby_sb hby
        have lp18 : zP g mX11_cipher (zR 2 0 0) Qf 0 0 218 [some (.ref (64)), some (.ref (q)), some (.int (nI (zkl b))), some (.ref (r)), some (.int (nI (zro b))), some (.int (nI (c + 1))), some (.int (nI (16))), none, none] [] (va_up hY12 (r) (some (.inr (16, .inl (zfl gr (0) (16) (fun i => nI (zst b ks xs (c + 1) i))))))) n → ∀ (m k18 : Nat), m = (16) - k18 → k18 ≤ (16) → zP g mX11_cipher (zR 2 0 0) Qf 0 0 99 [some (.ref (64)), some (.ref (q)), some (.int (nI (zkl b))), some (.ref (r)), some (.int (nI (zro b))), some (.int (nI (c + 1))), some (.int (nI (k18))), none, none] [] (va_up hY12 (r) (some (.inr (16, .inl (zfl gr (0) (k18) (fun i => nI (zst b ks xs (c + 1) i))))))) n := by
          intro kk m
          induction m using Nat.strongRecOn with
          | _ m ih =>
            intro k18 hm18 hk18
            refine zp_nh (fun hX18 eX18 => ?_)
            have k19_0 := (congrFun eX18 (64)).trans ((va_up_ne _ _ (by omega)).trans k16_0)
            have k19_1 := (congrFun eX18 (77)).trans ((va_up_ne _ _ (by omega)).trans k16_1)
            have k19_2 := (congrFun eX18 (78)).trans ((va_up_ne _ _ (by omega)).trans k16_2)
            have k19_3 := (congrFun eX18 (79)).trans ((va_up_ne _ _ (by omega)).trans k16_3)
            have k19_4 : hX18 (r) = some (.inr (16, .inl (zfl gr (0) (k18) (fun i => nI (zst b ks xs (c + 1) i))))) := by rw [eX18]; exact va_up_self _ _ _
            refine zp_iload dX11_cipher_99 rfl ?_
            refine zp_bipush (v := nI (16)) dX11_cipher_101 (by decide) ?_
            refine zp_pc (pc' := 103) rfl ?_
            refine zn_icmp_ge (tgt := 218) dX11_cipher_103 (by decide) (by omega) (by omega) (fun c103 => ?_) (fun c103 => ?_)
            · have e18 : k18 = (16) := by omega
              subst e18
              rw [eX18]
              exact kk
            · refine zp_iload dX11_cipher_106 rfl ?_
              refine zp_iconst (v := nI (4)) dX11_cipher_108 (by decide) ?_
              refine zn_idiv dX11_cipher_109 (by omega) (by omega) (by omega) ?_
              refine zp_iconst (v := nI (4)) dX11_cipher_110 (by decide) ?_
              refine zn_imul dX11_cipher_111 ?_
              refine zp_istore (ls' := [some (.ref (64)), some (.ref (q)), some (.int (nI (zkl b))), some (.ref (r)), some (.int (nI (zro b))), some (.int (nI (c + 1))), some (.int (nI (k18))), some (.int (nI (((k18) / (4)) * (4)))), none]) dX11_cipher_112 (by decide) rfl ?_
              refine zp_aload_n dX11_cipher_114 rfl ?_
              refine zp_get dX11_cipher_115 gX11_53_10 k19_0 rfl ?_
              refine zp_iload dX11_cipher_118 rfl ?_
              refine zp_pc (pc' := 120) rfl ?_
              refine zn_iald (j := k18) dX11_cipher_120 k19_3 (by omega) (by omega) ?_
              refine zp_i (y := nI (zsb (zst b ks xs c) k18)) (zfl_in0 (by omega)) ?_
              refine zp_istore (ls' := [some (.ref (64)), some (.ref (q)), some (.int (nI (zkl b))), some (.ref (r)), some (.int (nI (zro b))), some (.int (nI (c + 1))), some (.int (nI (k18))), some (.int (nI (((k18) / (4)) * (4)))), some (.int (nI (zsb (zst b ks xs c) k18)))]) dX11_cipher_121 (by decide) rfl ?_
              refine zp_iload dX11_cipher_123 rfl ?_
              refine zp_iload dX11_cipher_125 rfl ?_
              refine zp_pc (pc' := 127) rfl ?_
              refine zn_icmp_ge (tgt := 192) dX11_cipher_127 (by decide) (by omega) (by omega) (fun c127 => ?_) (fun c127 => ?_)
              · refine zp_aload_n dX11_cipher_192 rfl ?_
                refine zp_iload dX11_cipher_193 rfl ?_
                refine zp_iload dX11_cipher_195 rfl ?_
                refine zp_aload_n dX11_cipher_197 rfl ?_
                refine zp_get dX11_cipher_198 gX11_50_10 k19_0 rfl ?_
                refine zp_bipush (v := nI (16)) dX11_cipher_201 (by decide) ?_
                refine zp_iload dX11_cipher_203 rfl ?_
                refine zn_imul dX11_cipher_205 ?_
                refine zp_iload dX11_cipher_206 rfl ?_
                refine zn_iadd dX11_cipher_208 ?_
                refine zp_pc (pc' := 209) rfl ?_
                refine zn_iald (j := ((16) * (c + 1)) + (k18)) dX11_cipher_209 k19_2 (by omega) (by omega) ?_
                refine zp_i (y := nI (zkf b ks (16 * (c + 1) + k18))) (kv _ (by omega)) ?_
                refine zp_ixor dX11_cipher_210 ?_
                refine zp_i (y := nI (zst b ks xs (c + 1) k18)) (by rw [nx_xor, zst_end (by omega)]) ?_
                refine zn_iast dX11_cipher_211 (by omega) k19_4 (by omega) (by omega) ?_
                refine zp_nh (fun h20x eh20x => ?_)
                have k20_0 := (congrFun eh20x (64)).trans ((va_up_ne _ _ (by omega)).trans k19_0)
                have k20_1 := (congrFun eh20x (77)).trans ((va_up_ne _ _ (by omega)).trans k19_1)
                have k20_2 := (congrFun eh20x (78)).trans ((va_up_ne _ _ (by omega)).trans k19_2)
                have k20_3 := (congrFun eh20x (79)).trans ((va_up_ne _ _ (by omega)).trans k19_3)
                have k20_4 : h20x (r) = some (.inr (16, .inl (va_up (zfl gr (0) (k18) (fun i => nI (zst b ks xs (c + 1) i))) (k18) (nI (zst b ks xs (c + 1) k18))))) := by rw [eh20x]; exact va_up_self _ _ _
                have sw21 : zsm hX18 h20x (zon (r)) := zsm.rf.up eh20x rfl
                have zw21 : zsh hX18 h20x := zsh.fill eh20x k19_4
                refine zp_pc (pc' := 212) rfl ?_
                refine zn_iinc 1 (ls' := [some (.ref (64)), some (.ref (q)), some (.int (nI (zkl b))), some (.ref (r)), some (.int (nI (zro b))), some (.int (nI (c + 1))), some (.int (nI (k18 + 1))), some (.int (nI (((k18) / (4)) * (4)))), some (.int (nI (zsb (zst b ks xs c) k18)))]) dX11_cipher_212 (by decide) (by decide) rfl rfl ?_
                refine zp_goto (tgt := 99) dX11_cipher_215 (by decide) ?_
                refine zp_pc (pc' := 99) rfl ?_
                refine zp_drop (ls' := [some (.ref (64)), some (.ref (q)), some (.int (nI (zkl b))), some (.ref (r)), some (.int (nI (zro b))), some (.int (nI (c + 1))), some (.int (nI (k18 + 1))), none, none]) (fun i v hv => ?_) ?_
                · rcases i with _ | _ | _ | _ | _ | _ | _ | _ | _ | i <;> simp at hv ⊢ <;> exact hv
                rw [zfl_step eX18 eh20x (by omega) rfl]
                exact ih ((16) - (k18 + 1)) (by omega) (k18 + 1) rfl (by omega)
              · refine zp_aload_n dX11_cipher_130 rfl ?_
                refine zp_get dX11_cipher_131 gX11_53_10 k19_0 rfl ?_
                refine zp_iload dX11_cipher_134 rfl ?_
                refine zp_pc (pc' := 136) rfl ?_
                refine zn_iald (j := k18) dX11_cipher_136 k19_3 (by omega) (by omega) ?_
                refine zp_i (y := nI (zsb (zst b ks xs c) k18)) (zfl_in0 (by omega)) ?_
                refine zp_iconst (v := nI (2)) dX11_cipher_137 (by decide) ?_
                refine zp_pc (pc' := 138) rfl ?_
                refine zp_callS (As := [.int (nI (zsb (zst b ks xs c) k18)), .int (nI (2))]) (st := []) dX11_cipher_138 cX11_178 rfl (e_times (a := zsb (zst b ks xs c) k18) (b := 2) (hbz _ (by omega)) (by decide)) (by decide) (by decide) (Nat.le_of_ble_eq_true rfl) (fun v22 h22 n22 q22 => ?_)
                obtain ⟨rfl, H22, N22⟩ := q22
                rw [N22, H22]
                refine zp_nrm (cells' := 0) (slots' := 0) (st' := [.int (nI (ztm (zsb (zst b ks xs c) k18) 2 8))]) rfl rfl rfl ?_
                refine zp_i (y := nI (zxt (zsb (zst b ks xs c) k18))) (by rw [ztm_2]) ?_
                refine zp_aload_n dX11_cipher_141 rfl ?_
                refine zp_get dX11_cipher_142 gX11_53_10 k19_0 rfl ?_
                refine zp_iload dX11_cipher_145 rfl ?_
                refine zp_iload dX11_cipher_147 rfl ?_
                refine zp_iconst (v := nI (1)) dX11_cipher_149 (by decide) ?_
                refine zn_iadd dX11_cipher_150 ?_
                refine zp_iconst (v := nI (4)) dX11_cipher_151 (by decide) ?_
                refine zn_irem dX11_cipher_152 (by omega) (by omega) (by omega) ?_
                refine zn_iadd dX11_cipher_153 ?_
                refine zp_pc (pc' := 154) rfl ?_
                refine zn_iald (j := (((k18) / (4)) * (4)) + (((k18) + (1)) % (4))) dX11_cipher_154 k19_3 (by omega) (by omega) ?_
                refine zp_i (y := nI (zsb (zst b ks xs c) (zcl k18 1))) (zfl_in0 (zcl_lt (show k18 < 16 by omega) _)) ?_
                refine zp_iconst (v := nI (3)) dX11_cipher_155 (by decide) ?_
                refine zp_pc (pc' := 156) rfl ?_
                refine zp_callS (As := [.int (nI (zsb (zst b ks xs c) (zcl k18 1))), .int (nI (3))]) (st := [.int (nI (zxt (zsb (zst b ks xs c) k18)))]) dX11_cipher_156 cX11_178 rfl (e_times (a := zsb (zst b ks xs c) (zcl k18 1)) (b := 3) (hbz _ (zcl_lt (show k18 < 16 by omega) _)) (by decide)) (by decide) (by decide) (Nat.le_of_ble_eq_true rfl) (fun v23 h23 n23 q23 => ?_)
                obtain ⟨rfl, H23, N23⟩ := q23
                rw [N23, H23]
                refine zp_nrm (cells' := 0) (slots' := 0) (st' := [.int (nI (ztm (zsb (zst b ks xs c) (zcl k18 1)) 3 8)), .int (nI (zxt (zsb (zst b ks xs c) k18)))]) rfl rfl rfl ?_
                refine zp_i (y := nI (zsb (zst b ks xs c) (zcl k18 1) ^^^ zxt (zsb (zst b ks xs c) (zcl k18 1)))) (by rw [ztm_3]) ?_
                refine zp_ixor dX11_cipher_159 ?_
                refine zp_i (y := nI (zxt (zsb (zst b ks xs c) k18) ^^^ (zsb (zst b ks xs c) (zcl k18 1) ^^^ zxt (zsb (zst b ks xs c) (zcl k18 1))))) (by rw [nx_xor]) ?_
                refine zp_aload_n dX11_cipher_160 rfl ?_
                refine zp_get dX11_cipher_161 gX11_53_10 k19_0 rfl ?_
                refine zp_iload dX11_cipher_164 rfl ?_
                refine zp_iload dX11_cipher_166 rfl ?_
                refine zp_iconst (v := nI (2)) dX11_cipher_168 (by decide) ?_
                refine zn_iadd dX11_cipher_169 ?_
                refine zp_iconst (v := nI (4)) dX11_cipher_170 (by decide) ?_
                refine zn_irem dX11_cipher_171 (by omega) (by omega) (by omega) ?_
                refine zn_iadd dX11_cipher_172 ?_
                refine zp_pc (pc' := 173) rfl ?_
                refine zn_iald (j := (((k18) / (4)) * (4)) + (((k18) + (2)) % (4))) dX11_cipher_173 k19_3 (by omega) (by omega) ?_
                refine zp_i (y := nI (zsb (zst b ks xs c) (zcl k18 2))) (zfl_in0 (zcl_lt (show k18 < 16 by omega) _)) ?_
                refine zp_ixor dX11_cipher_174 ?_
                refine zp_i (y := nI (zxt (zsb (zst b ks xs c) k18) ^^^ (zsb (zst b ks xs c) (zcl k18 1) ^^^ zxt (zsb (zst b ks xs c) (zcl k18 1))) ^^^ zsb (zst b ks xs c) (zcl k18 2))) (by rw [nx_xor]) ?_
                refine zp_aload_n dX11_cipher_175 rfl ?_
                refine zp_get dX11_cipher_176 gX11_53_10 k19_0 rfl ?_
                refine zp_iload dX11_cipher_179 rfl ?_
                refine zp_iload dX11_cipher_181 rfl ?_
                refine zp_iconst (v := nI (3)) dX11_cipher_183 (by decide) ?_
                refine zn_iadd dX11_cipher_184 ?_
                refine zp_iconst (v := nI (4)) dX11_cipher_185 (by decide) ?_
                refine zn_irem dX11_cipher_186 (by omega) (by omega) (by omega) ?_
                refine zn_iadd dX11_cipher_187 ?_
                refine zp_pc (pc' := 188) rfl ?_
                refine zn_iald (j := (((k18) / (4)) * (4)) + (((k18) + (3)) % (4))) dX11_cipher_188 k19_3 (by omega) (by omega) ?_
                refine zp_i (y := nI (zsb (zst b ks xs c) (zcl k18 3))) (zfl_in0 (zcl_lt (show k18 < 16 by omega) _)) ?_
                refine zp_ixor dX11_cipher_189 ?_
                refine zp_i (y := nI (zmx (zsb (zst b ks xs c)) k18)) (by rw [nx_xor, zmx_m hbz (by omega)]) ?_
                refine zp_istore (ls' := [some (.ref (64)), some (.ref (q)), some (.int (nI (zkl b))), some (.ref (r)), some (.int (nI (zro b))), some (.int (nI (c + 1))), some (.int (nI (k18))), some (.int (nI (((k18) / (4)) * (4)))), some (.int (nI (zmx (zsb (zst b ks xs c)) k18)))]) dX11_cipher_190 (by decide) rfl ?_
                refine zp_pc (pc' := 192) rfl ?_
                refine zp_aload_n dX11_cipher_192 rfl ?_
                refine zp_iload dX11_cipher_193 rfl ?_
                refine zp_iload dX11_cipher_195 rfl ?_
                refine zp_aload_n dX11_cipher_197 rfl ?_
                refine zp_get dX11_cipher_198 gX11_50_10 k19_0 rfl ?_
                refine zp_bipush (v := nI (16)) dX11_cipher_201 (by decide) ?_
                refine zp_iload dX11_cipher_203 rfl ?_
                refine zn_imul dX11_cipher_205 ?_
                refine zp_iload dX11_cipher_206 rfl ?_
                refine zn_iadd dX11_cipher_208 ?_
                refine zp_pc (pc' := 209) rfl ?_
                refine zn_iald (j := ((16) * (c + 1)) + (k18)) dX11_cipher_209 k19_2 (by omega) (by omega) ?_
                refine zp_i (y := nI (zkf b ks (16 * (c + 1) + k18))) (kv _ (by omega)) ?_
                refine zp_ixor dX11_cipher_210 ?_
                refine zp_i (y := nI (zst b ks xs (c + 1) k18)) (by rw [nx_xor, zst_mid (by omega)]) ?_
                refine zn_iast dX11_cipher_211 (by omega) k19_4 (by omega) (by omega) ?_
                refine zp_nh (fun h24x eh24x => ?_)
                have k24_0 := (congrFun eh24x (64)).trans ((va_up_ne _ _ (by omega)).trans k19_0)
                have k24_1 := (congrFun eh24x (77)).trans ((va_up_ne _ _ (by omega)).trans k19_1)
                have k24_2 := (congrFun eh24x (78)).trans ((va_up_ne _ _ (by omega)).trans k19_2)
                have k24_3 := (congrFun eh24x (79)).trans ((va_up_ne _ _ (by omega)).trans k19_3)
                have k24_4 : h24x (r) = some (.inr (16, .inl (va_up (zfl gr (0) (k18) (fun i => nI (zst b ks xs (c + 1) i))) (k18) (nI (zst b ks xs (c + 1) k18))))) := by rw [eh24x]; exact va_up_self _ _ _
                have sw25 : zsm hX18 h24x (zon (r)) := zsm.rf.up eh24x rfl
                have zw25 : zsh hX18 h24x := zsh.fill eh24x k19_4
                refine zp_pc (pc' := 212) rfl ?_
                refine zn_iinc 1 (ls' := [some (.ref (64)), some (.ref (q)), some (.int (nI (zkl b))), some (.ref (r)), some (.int (nI (zro b))), some (.int (nI (c + 1))), some (.int (nI (k18 + 1))), some (.int (nI (((k18) / (4)) * (4)))), some (.int (nI (zmx (zsb (zst b ks xs c)) k18)))]) dX11_cipher_212 (by decide) (by decide) rfl rfl ?_
                refine zp_goto (tgt := 99) dX11_cipher_215 (by decide) ?_
                refine zp_pc (pc' := 99) rfl ?_
                refine zp_drop (ls' := [some (.ref (64)), some (.ref (q)), some (.int (nI (zkl b))), some (.ref (r)), some (.int (nI (zro b))), some (.int (nI (c + 1))), some (.int (nI (k18 + 1))), none, none]) (fun i v hv => ?_) ?_
                · rcases i with _ | _ | _ | _ | _ | _ | _ | _ | _ | i <;> simp at hv ⊢ <;> exact hv
                rw [zfl_step eX18 eh24x (by omega) rfl]
                exact ih ((16) - (k18 + 1)) (by omega) (k18 + 1) rfl (by omega)
        suffices K18 : zP g mX11_cipher (zR 2 0 0) Qf 0 0 218 [some (.ref (64)), some (.ref (q)), some (.int (nI (zkl b))), some (.ref (r)), some (.int (nI (zro b))), some (.int (nI (c + 1))), some (.int (nI (16))), none, none] [] (va_up hY12 (r) (some (.inr (16, .inl (zfl gr (0) (16) (fun i => nI (zst b ks xs (c + 1) i))))))) n by
          have q := lp18 K18 ((16) - 0) 0 rfl (Nat.zero_le _)
          rw [zfl_0, zup_same k16_4] at q
          exact q
        refine zp_nh (fun hY18 eY18 => ?_)
        have k26_0 := (congrFun eY18 (64)).trans ((va_up_ne _ _ (by omega)).trans k16_0)
        have k26_1 := (congrFun eY18 (77)).trans ((va_up_ne _ _ (by omega)).trans k16_1)
        have k26_2 := (congrFun eY18 (78)).trans ((va_up_ne _ _ (by omega)).trans k16_2)
        have k26_3 := (congrFun eY18 (79)).trans ((va_up_ne _ _ (by omega)).trans k16_3)
        have k26_4 : hY18 (r) = some (.inr (16, .inl (zfl gr (0) (16) (fun i => nI (zst b ks xs (c + 1) i))))) := by rw [eY18]; exact va_up_self _ _ _
        have sf27 := (zsm.fill eY18)
        have zf27 := zsh.fill eY18 k16_4
        refine zn_iinc 1 (ls' := [some (.ref (64)), some (.ref (q)), some (.int (nI (zkl b))), some (.ref (r)), some (.int (nI (zro b))), some (.int (nI (c + 1 + 1))), some (.int (nI (16))), none, none]) dX11_cipher_218 (by decide) (by decide) rfl rfl ?_
        refine zp_goto (tgt := 47) dX11_cipher_221 (by decide) ?_
        refine zp_pc (pc' := 47) rfl ?_
        refine zp_drop (ls' := [some (.ref (64)), some (.ref (q)), some (.int (nI (zkl b))), some (.ref (r)), some (.int (nI (zro b))), some (.int (nI (c + 1 + 1))), none, none, none]) (fun i v hv => ?_) ?_
        · rcases i with _ | _ | _ | _ | _ | _ | _ | _ | _ | i <;> simp at hv ⊢ <;> exact hv
        exact ih (zro b - (c + 1)) (by omega) (c + 1) hY18 _ _ rfl (by omega) (s1.trans (((sf17).mono (fun i hi => by unfold zs2o; unfold zon at hi; omega)).trans ((sf27).mono (fun i hi => by unfold zs2o; unfold zon at hi; omega)))) k26_3 k26_4 (fun j hj => zfl_in0 hj)
  exact lp _ 0 hY6 _ _ rfl (Nat.zero_le _) zsm.rf k10_2 k10_3 (fun j hj => zfl_in0 hj)
