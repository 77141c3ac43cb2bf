set_option maxRecDepth 100000 in
theorem zxt_x : ∀ a, a < 256 → ∀ b, b < 256 → zxt (a ^^^ b) = zxt a ^^^ zxt b := by decide +kernel
def zst (b : Bool) (ks xs : List Nat) (c : Nat) : Nat → Nat := if c < zro b then zrd (zkf b ks) (fun k => xs.getD k 0) c else zef b ks xs
theorem zst_by {b : Bool} {ks xs : List Nat} (hk : ∀ x ∈ ks, x < 256) (hx : ∀ x ∈ xs, x < 256) (c : Nat) : zby (zst b ks xs c) := by
  unfold zst
  split
  · exact zby_rd (zkf_lt hk) (zby_of hx) c
  · exact zef_by hk hx
theorem zst_0 (b : Bool) (ks xs : List Nat) (k : Nat) : zst b ks xs 0 k = xs.getD k 0 ^^^ zkf b ks k := by
  have e : zst b ks xs 0 = zrd (zkf b ks) (fun k => xs.getD k 0) 0 := if_pos (by cases b <;> decide)
  rw [e]
  show xs.getD k 0 ^^^ zkf b ks (16 * 0 + k) = _
  rw [Nat.mul_zero, Nat.zero_add]
theorem zst_mid {b : Bool} {c : Nat} (h : c + 1 < zro b) (ks xs : List Nat) (k : Nat) : zst b ks xs (c + 1) k = zmx (zsb (zst b ks xs c)) k ^^^ zkf b ks (16 * (c + 1) + k) := by
  have e : zst b ks xs (c + 1) = zrd (zkf b ks) (fun k => xs.getD k 0) (c + 1) := if_pos h
  have e2 : zst b ks xs c = zrd (zkf b ks) (fun k => xs.getD k 0) c := if_pos (by omega)
  rw [e, e2]
  rfl
theorem zst_end {b : Bool} {c : Nat} (h : c + 1 = zro b) (ks xs : List Nat) (k : Nat) : zst b ks xs (c + 1) k = zsb (zst b ks xs c) k ^^^ zkf b ks (16 * (c + 1) + k) := by
  have e : zst b ks xs (c + 1) = zef b ks xs := if_neg (by omega)
  have e2 : zst b ks xs c = zrd (zkf b ks) (fun k => xs.getD k 0) c := if_pos (by omega)
  rw [e, e2]
  unfold zef
  rw [← h, Nat.add_sub_cancel]
  rfl
theorem zmx_m {s : Nat → Nat} (hs : zby s) {k : Nat} (hk : k < 16) : zxt (s k) ^^^ (s (zcl k 1) ^^^ zxt (s (zcl k 1))) ^^^ s (zcl k 2) ^^^ s (zcl k 3) = zmx s k := by
  unfold zmx
  rw [zxt_x _ (hs k hk) _ (hs _ (zcl_lt hk 1)), Nat.xor_comm (s (zcl k 1)) (zxt _), ← Nat.xor_assoc]
abbrev zs3 (r : Nat) : Nat → Prop := fun i => i = 78 ∨ i = 79 ∨ i = r
abbrev zs2o (r : Nat) : Nat → Prop := fun i => i = 79 ∨ i = r
set_option maxRecDepth 10000 in
set_option maxHeartbeats 2000000 in
theorem e_mcipher {g : ZG} {h : ZH} {n : Nat} {b : Bool} {q Nq r : Nat} {ks xs : List Nat} {th : Int32} {wt : Nat} {un : Bool} {rp wi pa be ru sa me se ta fa : Int32} {mn tp ou : Nat} (hc : zmcl h) (ho : h 64 = some (.inl (10, [.int (th), .ref (65), .ref (66), .ref (67), .ref (68), .ref (69), .ref (70), .ref (71), .ref (72), .ref (73), .ref (74), .ref (75), .ref (76), .ref (77), .ref (78), .ref (79), .ref (80), .ref (81), .ref (82), .ref (83), .ref (84), .int (nI (wt)), .int (nI (zbi un)), .int (rp), .int (wi), .int (pa), .int (be), .int (ru), .int (sa), .int (me), .int (se), .int (ta), .int (fa), .ref (85), .ref (86), .ref (87), .int (nI (mn)), .ref (88), .ref (89), .ref (90), .ref (91), .ref (92), .ref (93), .int (nI (tp)), .ref (94), .int (nI (ou))]))) (hk : zar h q Nq ks) (hx : zar h r 16 xs) (hq : q ≠ 78 ∧ q ≠ 79 ∧ q ≠ r) (hr : 79 < r) (lk : ks.length = zkl b) (lx : xs.length = 16) : zMt g mX11_cipher (zR 2 0 0) [.ref (64), .ref (q), .int (nI (zkl b)), .ref (r)] h n (fun v h' n' => v = none ∧ n' = n ∧ zsm h h' (zs3 r) ∧ zsh h h' ∧ zar h' r 16 (zenc b ks xs)) := by
  refine zMt.of [some (.ref (64)), some (.ref (q)), some (.int (nI (zkl b))), some (.ref (r)), none, none, none, none, none] (by decide) rfl (Nat.le_of_ble_eq_true rfl) ?_
  obtain ⟨Qf, hQ⟩ : ∃ Qf : ZQ, Qf = (fun v h' n' => v = none ∧ n' = n ∧ zsm h h' (zs3 r) ∧ zsh h h' ∧ zar h' r 16 (zenc b ks xs)) := ⟨_, rfl⟩
  rw [← hQ]
  have hz := zkl_or b
  obtain ⟨c1, ⟨f78, c2⟩, ⟨f79, c3⟩⟩ := id hc
  have k3 := hk.bytes
  obtain ⟨x1, x2, x3, fx, x4, x5⟩ := id hx
  refine zp_aload_n dX11_cipher_0 rfl ?_
  refine zp_aload_n dX11_cipher_1 rfl ?_
  refine zp_iload_n dX11_cipher_2 rfl ?_
  refine zp_pc (pc' := 3) rfl ?_
  refine zp_callV (As := [.ref (q), .int (nI (zkl b))]) (k := 64) (st := []) (ci := 10) dX11_cipher_3 cX11_182 rfl ho rfl rfl (e_mspread hc ho hk (by omega) lk) (by decide) (by decide) (Nat.le_of_ble_eq_true rfl) (fun v101 h101 n101 q101 => ?_)
  obtain ⟨rfl, N101, s101, fk9, k78, kv⟩ := q101
  rw [N101]
  refine zp_nrm (cells' := 0) (slots' := 0) (st' := []) rfl rfl rfl ?_
  have m102 : h101 (64) = some (.inl (10, [.int (th), .ref (65), .ref (66), .ref (67), .ref (68), .ref (69), .ref (70), .ref (71), .ref (72), .ref (73), .ref (74), .ref (75), .ref (76), .ref (77), .ref (78), .ref (79), .ref (80), .ref (81), .ref (82), .ref (83), .ref (84), .int (nI (wt)), .int (nI (zbi un)), .int (rp), .int (wi), .int (pa), .int (be), .int (ru), .int (sa), .int (me), .int (se), .int (ta), .int (fa), .ref (85), .ref (86), .ref (87), .int (nI (mn)), .ref (88), .ref (89), .ref (90), .ref (91), .ref (92), .ref (93), .int (nI (tp)), .ref (94), .int (nI (ou))])) := (s101 _ (by unfold zon; omega)).trans ho
  have m103 : h101 (77) = some (.inr (256, .inl (fun j => zt_BOX.getD j 0))) := (s101 _ (by unfold zon; omega)).trans c1
  have m104 : h101 (79) = some (.inr (16, .inl f79)) := (s101 _ (by unfold zon; omega)).trans c3
  have m105 : h101 (r) = some (.inr (16, .inl fx)) := (s101 _ (by unfold zon; omega)).trans x4
  refine zp_iload_n dX11_cipher_6 rfl ?_
  refine zp_iconst (v := nI (4)) dX11_cipher_7 (by decide) ?_
  refine zp_pc (pc' := 8) rfl ?_
  refine zn_idiv dX11_cipher_8 (by omega) (by omega) (by omega) ?_
  refine zp_i (y := nI (zkl b / 4)) rfl ?_
  refine zp_bipush (v := nI (6)) dX11_cipher_9 (by decide) ?_
  refine zp_pc (pc' := 11) rfl ?_
  refine zn_iadd dX11_cipher_11 ?_
  refine zp_i (y := nI (zro b)) (by congr 1; omega) ?_
  refine zp_istore (ls' := [some (.ref (64)), some (.ref (q)), some (.int (nI (zkl b))), some (.ref (r)), some (.int (nI (zro b))), none, none, none, none]) dX11_cipher_12 (by decide) rfl ?_
  refine zp_iconst (v := nI (0)) dX11_cipher_14 (by decide) ?_
  refine zp_istore (ls' := [some (.ref (64)), some (.ref (q)), some (.int (nI (zkl b))), some (.ref (r)), some (.int (nI (zro b))), some (.int (nI (0))), none, none, none]) dX11_cipher_15 (by decide) rfl ?_
  refine zp_pc (pc' := 17) rfl ?_
  have lp106 : zP g mX11_cipher (zR 2 0 0) Qf 0 0 44 [some (.ref (64)), some (.ref (q)), some (.int (nI (zkl b))), some (.ref (r)), some (.int (nI (zro b))), some (.int (nI (16))), none, none, none] [] (va_up h101 (r) (some (.inr (16, .inl (zfl fx (0) (16) (fun i => nI (zst b ks xs 0 i))))))) n → ∀ (m k106 : Nat), m = (16) - k106 → k106 ≤ (16) → zP g mX11_cipher (zR 2 0 0) Qf 0 0 17 [some (.ref (64)), some (.ref (q)), some (.int (nI (zkl b))), some (.ref (r)), some (.int (nI (zro b))), some (.int (nI (k106))), none, none, none] [] (va_up h101 (r) (some (.inr (16, .inl (zfl fx (0) (k106) (fun i => nI (zst b ks xs 0 i))))))) n := by
    intro kk m
    induction m using Nat.strongRecOn with
    | _ m ih =>
      intro k106 hm106 hk106
      refine zp_nh (fun hX106 eX106 => ?_)
      have k107_0 := (congrFun eX106 (64)).trans ((va_up_ne _ _ (by omega)).trans m102)
      have k107_1 := (congrFun eX106 (77)).trans ((va_up_ne _ _ (by omega)).trans m103)
      have k107_2 := (congrFun eX106 (79)).trans ((va_up_ne _ _ (by omega)).trans m104)
      have k107_3 : hX106 (r) = some (.inr (16, .inl (zfl fx (0) (k106) (fun i => nI (zst b ks xs 0 i))))) := by rw [eX106]; exact va_up_self _ _ _
      have k107_4 := (congrFun eX106 (78)).trans ((va_up_ne _ _ (by omega)).trans k78)
      refine zp_iload dX11_cipher_17 rfl ?_
      refine zp_bipush (v := nI (16)) dX11_cipher_19 (by decide) ?_
      refine zp_pc (pc' := 21) rfl ?_
      refine zn_icmp_ge (tgt := 44) dX11_cipher_21 (by decide) (by omega) (by omega) (fun c21 => ?_) (fun c21 => ?_)
      · have e106 : k106 = (16) := by omega
        subst e106
        rw [eX106]
        exact kk
      · refine zp_aload_n dX11_cipher_24 rfl ?_
        refine zp_iload dX11_cipher_25 rfl ?_
        refine zp_dup2 dX11_cipher_27 rfl rfl ?_
        refine zp_pc (pc' := 28) rfl ?_
        refine zn_iald (j := k106) dX11_cipher_28 k107_3 (by omega) (by omega) ?_
        refine zp_i (y := nI (xs.getD k106 0)) (by rw [zfl_out (Or.inr (by omega))]; exact x5 _ (by omega)) ?_
        refine zp_aload_n dX11_cipher_29 rfl ?_
        refine zp_get dX11_cipher_30 gX11_50_10 k107_0 rfl ?_
        refine zp_iload dX11_cipher_33 rfl ?_
        refine zp_pc (pc' := 35) rfl ?_
        refine zn_iald (j := k106) dX11_cipher_35 k107_4 (by omega) (by omega) ?_
        refine zp_i (y := nI (zkf b ks k106)) (kv _ (by omega)) ?_
        refine zp_ixor dX11_cipher_36 ?_
        refine zp_i (y := nI (zst b ks xs 0 k106)) (by rw [nx_xor, zst_0]) ?_
        refine zn_iast dX11_cipher_37 (by omega) k107_3 (by omega) (by omega) ?_
        refine zp_nh (fun h108x eh108x => ?_)
        have k108_0 := (congrFun eh108x (64)).trans ((va_up_ne _ _ (by omega)).trans k107_0)
        have k108_1 := (congrFun eh108x (77)).trans ((va_up_ne _ _ (by omega)).trans k107_1)
        have k108_2 := (congrFun eh108x (79)).trans ((va_up_ne _ _ (by omega)).trans k107_2)
        have k108_3 : h108x (r) = some (.inr (16, .inl (va_up (zfl fx (0) (k106) (fun i => nI (zst b ks xs 0 i))) (k106) (nI (zst b ks xs 0 k106))))) := by rw [eh108x]; exact va_up_self _ _ _
        have k108_4 := (congrFun eh108x (78)).trans ((va_up_ne _ _ (by omega)).trans k107_4)
        have sw109 : zsm hX106 h108x (zon (r)) := zsm.rf.up eh108x rfl
        have zw109 : zsh hX106 h108x := zsh.fill eh108x k107_3
        refine zp_pc (pc' := 38) rfl ?_
        refine zn_iinc 1 (ls' := [some (.ref (64)), some (.ref (q)), some (.int (nI (zkl b))), some (.ref (r)), some (.int (nI (zro b))), some (.int (nI (k106 + 1))), none, none, none]) dX11_cipher_38 (by decide) (by decide) rfl rfl ?_
        refine zp_goto (tgt := 17) dX11_cipher_41 (by decide) ?_
        refine zp_pc (pc' := 17) rfl ?_
        rw [zfl_step eX106 eh108x (by omega) rfl]
        exact ih ((16) - (k106 + 1)) (by omega) (k106 + 1) rfl (by omega)
  suffices K106 : zP g mX11_cipher (zR 2 0 0) Qf 0 0 44 [some (.ref (64)), some (.ref (q)), some (.int (nI (zkl b))), some (.ref (r)), some (.int (nI (zro b))), some (.int (nI (16))), none, none, none] [] (va_up h101 (r) (some (.inr (16, .inl (zfl fx (0) (16) (fun i => nI (zst b ks xs 0 i))))))) n by
    have q := lp106 K106 ((16) - 0) 0 rfl (Nat.zero_le _)
    rw [zfl_0, zup_same m105] at q
    exact q
  refine zp_nh (fun hY106 eY106 => ?_)
  have k110_0 := (congrFun eY106 (64)).trans ((va_up_ne _ _ (by omega)).trans m102)
  have k110_1 := (congrFun eY106 (77)).trans ((va_up_ne _ _ (by omega)).trans m103)
  have k110_2 := (congrFun eY106 (79)).trans ((va_up_ne _ _ (by omega)).trans m104)
  have k110_3 : hY106 (r) = some (.inr (16, .inl (zfl fx (0) (16) (fun i => nI (zst b ks xs 0 i))))) := by rw [eY106]; exact va_up_self _ _ _
  have k110_4 := (congrFun eY106 (78)).trans ((va_up_ne _ _ (by omega)).trans k78)
  have sf111 := (zsm.fill eY106)
  have zf111 := zsh.fill eY106 m105
  refine zp_iconst (v := nI (1)) dX11_cipher_44 (by decide) ?_
  refine zp_istore (ls' := [some (.ref (64)), some (.ref (q)), some (.int (nI (zkl b))), some (.ref (r)), some (.int (nI (zro b))), some (.int (nI (1))), none, none, none]) dX11_cipher_45 (by decide) rfl ?_
  refine zp_pc (pc' := 47) rfl ?_
  refine zp_ls (ls' := [some (.ref (64)), some (.ref (q)), some (.int (nI (zkl b))), some (.ref (r)), some (.int (nI (zro b))), some (.int (nI (0 + 1))), none, none, none]) rfl ?_
  have sB : zsm h hY106 (zs3 r) := ((s101).mono (fun i hi => by unfold zs3; unfold zon at hi; omega)).trans ((sf111).mono (fun i hi => by unfold zs3; unfold zon at hi; omega))
  have lp : ∀ (m : Nat) (c : Nat) (h1 : ZH) (g79 gr : Nat → Int32), m = zro b - c → c ≤ zro b → zsm hY106 h1 (zs2o r) → h1 79 = some (.inr (16, .inl g79)) → h1 r = some (.inr (16, .inl gr)) → (∀ j, j < 16 → gr j = nI (zst b ks xs c j)) → zP g mX11_cipher (zR 2 0 0) Qf 0 0 47 [some (.ref (64)), some (.ref (q)), some (.int (nI (zkl b))), some (.ref (r)), some (.int (nI (zro b))), some (.int (nI (c + 1))), none, none, none] [] h1 n := by
    intro m
    induction m using Nat.strongRecOn with
    | _ m ih =>
      intro c h1 g79 gr hm hcR s1 e79 er egr
      have o1 : h1 (64) = some (.inl (10, [.int (th), .ref (65), .ref (66), .ref (67), .ref (68), .ref (69), .ref (70), .ref (71), .ref (72), .ref (73), .ref (74), .ref (75), .ref (76), .ref (77), .ref (78), .ref (79), .ref (80), .ref (81), .ref (82), .ref (83), .ref (84), .int (nI (wt)), .int (nI (zbi un)), .int (rp), .int (wi), .int (pa), .int (be), .int (ru), .int (sa), .int (me), .int (se), .int (ta), .int (fa), .ref (85), .ref (86), .ref (87), .int (nI (mn)), .ref (88), .ref (89), .ref (90), .ref (91), .ref (92), .ref (93), .int (nI (tp)), .ref (94), .int (nI (ou))])) := (s1 _ (by unfold zs2o; omega)).trans k110_0
      have b1 : h1 (77) = some (.inr (256, .inl (fun j => zt_BOX.getD j 0))) := (s1 _ (by unfold zs2o; omega)).trans k110_1
      have k1 : h1 (78) = some (.inr (240, .inl fk9)) := (s1 _ (by unfold zs2o; omega)).trans k110_4
      have hby := zst_by (b := b) (ks := ks) (xs := xs) k3 x3 c
      refine zp_iload dX11_cipher_47 rfl ?_
      refine zp_iload dX11_cipher_49 rfl ?_
      refine zp_pc (pc' := 51) rfl ?_
      refine zn_icmp_gt (tgt := 224) dX11_cipher_51 (by decide) (by omega) (by omega) (fun c51 => ?_) (fun c51 => ?_)
      · refine zp_pc (pc' := 224) rfl ?_
        have ec : c = zro b := by omega
        have sE : zsm h h1 (zs3 r) := sB.trans (s1.mono (fun i hi => by unfold zs3; unfold zs2o at hi; omega))
        refine zp_ret (v := none) dX11_cipher_224 ⟨rfl, rfl⟩ (by decide) (by decide) ?_
        rw [hQ]
        exact ⟨rfl, rfl, sE, zsh.of sE (fun k q => by
              unfold zs3 at q
              rcases q with rfl | rfl | rfl
              · exact ⟨_, _, _, c2, k1⟩
              · exact ⟨_, _, _, c3, e79⟩
              · exact ⟨_, _, _, x4, er⟩), zar.mk (L := 16) er (zenc_len ..) (Nat.le_refl _) (by decide) (zenc_lt k3 x3) (fun j hj => by rw [egr j hj, ec]; unfold zenc; rw [zmap_getD hj]; congr 1; unfold zst; rw [if_neg (Nat.lt_irrefl _)])⟩
      · refine zp_iconst (v := nI (0)) dX11_cipher_54 (by decide) ?_
        refine zp_istore (ls' := [some (.ref (64)), some (.ref (q)), some (.int (nI (zkl b))), some (.ref (r)), some (.int (nI (zro b))), some (.int (nI (c + 1))), some (.int (nI (0))), none, none]) dX11_cipher_55 (by decide) rfl ?_
        refine zp_pc (pc' := 57) rfl ?_
        have lp112 : zP g mX11_cipher (zR 2 0 0) Qf 0 0 96 [some (.ref (64)), some (.ref (q)), some (.int (nI (zkl b))), some (.ref (r)), some (.int (nI (zro b))), some (.int (nI (c + 1))), some (.int (nI (16))), none, none] [] (va_up h1 (79) (some (.inr (16, .inl (zfl g79 (0) (16) (fun i => nI (zsb (zst b ks xs c) i))))))) n → ∀ (m k112 : Nat), m = (16) - k112 → k112 ≤ (16) → zP g mX11_cipher (zR 2 0 0) Qf 0 0 57 [some (.ref (64)), some (.ref (q)), some (.int (nI (zkl b))), some (.ref (r)), some (.int (nI (zro b))), some (.int (nI (c + 1))), some (.int (nI (k112))), none, none] [] (va_up h1 (79) (some (.inr (16, .inl (zfl g79 (0) (k112) (fun i => nI (zsb (zst b ks xs c) i))))))) n := by
          intro kk m
          induction m using Nat.strongRecOn with
          | _ m ih =>
            intro k112 hm112 hk112
            refine zp_nh (fun hX112 eX112 => ?_)
            have k113_0 := (congrFun eX112 (64)).trans ((va_up_ne _ _ (by omega)).trans o1)
            have k113_1 := (congrFun eX112 (77)).trans ((va_up_ne _ _ (by omega)).trans b1)
            have k113_2 := (congrFun eX112 (78)).trans ((va_up_ne _ _ (by omega)).trans k1)
            have k113_3 : hX112 (79) = some (.inr (16, .inl (zfl g79 (0) (k112) (fun i => nI (zsb (zst b ks xs c) i))))) := by rw [eX112]; exact va_up_self _ _ _
            have k113_4 := (congrFun eX112 (r)).trans ((va_up_ne _ _ (by omega)).trans er)
            refine zp_iload dX11_cipher_57 rfl ?_
            refine zp_bipush (v := nI (16)) dX11_cipher_59 (by decide) ?_
            refine zp_pc (pc' := 61) rfl ?_
            refine zn_icmp_ge (tgt := 96) dX11_cipher_61 (by decide) (by omega) (by omega) (fun c61 => ?_) (fun c61 => ?_)
            · have e112 : k112 = (16) := by omega
              subst e112
              rw [eX112]
              exact kk
            · refine zp_aload_n dX11_cipher_64 rfl ?_
              refine zp_get dX11_cipher_65 gX11_53_10 k113_0 rfl ?_
              refine zp_iload dX11_cipher_68 rfl ?_
              refine zp_aload_n dX11_cipher_70 rfl ?_
              refine zp_get dX11_cipher_71 gX11_47_10 k113_0 rfl ?_
              refine zp_aload_n dX11_cipher_74 rfl ?_
              refine zp_iload dX11_cipher_75 rfl ?_
              refine zp_iconst (v := nI (4)) dX11_cipher_77 (by decide) ?_
              refine zp_iload dX11_cipher_78 rfl ?_
              refine zp_iconst (v := nI (4)) dX11_cipher_80 (by decide) ?_
              refine zn_irem dX11_cipher_81 (by omega) (by omega) (by omega) ?_
              refine zn_imul dX11_cipher_82 ?_
              refine zp_pc (pc' := 83) rfl ?_
              refine zn_iadd dX11_cipher_83 ?_
              refine zp_bipush (v := nI (16)) dX11_cipher_84 (by decide) ?_
              refine zn_irem dX11_cipher_86 (by omega) (by omega) (by omega) ?_
              refine zp_pc (pc' := 87) rfl ?_
              refine zn_iald (j := ((k112) + ((4) * ((k112) % (4)))) % (16)) dX11_cipher_87 k113_4 (by omega) (by omega) ?_
              refine zp_i (y := nI ((zst b ks xs c) (5 * k112 % 16))) (by rw [show (k112 + 4 * (k112 % 4)) % 16 = 5 * k112 % 16 by omega]; exact egr _ (Nat.mod_lt _ (by decide))) ?_
              have hv5 := hby (5 * k112 % 16) (Nat.mod_lt _ (by decide))
              refine zn_iald (j := (zst b ks xs c) (5 * k112 % 16)) dX11_cipher_88 k113_1 (by omega) (by omega) ?_
              refine zp_i (y := nI (zsb (zst b ks xs c) k112)) (zbox_at hv5) ?_
              refine zn_iast dX11_cipher_89 (by omega) k113_3 (by omega) (by omega) ?_
              refine zp_nh (fun h114x eh114x => ?_)
              have k114_0 := (congrFun eh114x (64)).trans ((va_up_ne _ _ (by omega)).trans k113_0)
              have k114_1 := (congrFun eh114x (77)).trans ((va_up_ne _ _ (by omega)).trans k113_1)
              have k114_2 := (congrFun eh114x (78)).trans ((va_up_ne _ _ (by omega)).trans k113_2)
              have k114_3 : h114x (79) = some (.inr (16, .inl (va_up (zfl g79 (0) (k112) (fun i => nI (zsb (zst b ks xs c) i))) (k112) (nI (zsb (zst b ks xs c) k112))))) := by rw [eh114x]; exact va_up_self _ _ _
              have k114_4 := (congrFun eh114x (r)).trans ((va_up_ne _ _ (by omega)).trans k113_4)
              have sw115 : zsm hX112 h114x (zon (79)) := zsm.rf.up eh114x rfl
              have zw115 : zsh hX112 h114x := zsh.fill eh114x k113_3
              refine zp_pc (pc' := 90) rfl ?_
              refine zn_iinc 1 (ls' := [some (.ref (64)), some (.ref (q)), some (.int (nI (zkl b))), some (.ref (r)), some (.int (nI (zro b))), some (.int (nI (c + 1))), some (.int (nI (k112 + 1))), none, none]) dX11_cipher_90 (by decide) (by decide) rfl rfl ?_
              refine zp_goto (tgt := 57) dX11_cipher_93 (by decide) ?_
              refine zp_pc (pc' := 57) rfl ?_
              rw [zfl_step eX112 eh114x (by omega) rfl]
              exact ih ((16) - (k112 + 1)) (by omega) (k112 + 1) rfl (by omega)
        suffices K112 : zP g mX11_cipher (zR 2 0 0) Qf 0 0 96 [some (.ref (64)), some (.ref (q)), some (.int (nI (zkl b))), some (.ref (r)), some (.int (nI (zro b))), some (.int (nI (c + 1))), some (.int (nI (16))), none, none] [] (va_up h1 (79) (some (.inr (16, .inl (zfl g79 (0) (16) (fun i => nI (zsb (zst b ks xs c) i))))))) n by
          have q := lp112 K112 ((16) - 0) 0 rfl (Nat.zero_le _)
          rw [zfl_0, zup_same e79] at q
          exact q
        refine zp_nh (fun hY112 eY112 => ?_)
        have k116_0 := (congrFun eY112 (64)).trans ((va_up_ne _ _ (by omega)).trans o1)
        have k116_1 := (congrFun eY112 (77)).trans ((va_up_ne _ _ (by omega)).trans b1)
        have k116_2 := (congrFun eY112 (78)).trans ((va_up_ne _ _ (by omega)).trans k1)
        have k116_3 : hY112 (79) = some (.inr (16, .inl (zfl g79 (0) (16) (fun i => nI (zsb (zst b ks xs c) i))))) := by rw [eY112]; exact va_up_self _ _ _
        have k116_4 := (congrFun eY112 (r)).trans ((va_up_ne _ _ (by omega)).trans er)
        have sf117 := (zsm.fill eY112)
        have zf117 := zsh.fill eY112 e79
        refine zp_iconst (v := nI (0)) dX11_cipher_96 (by decide) ?_
        refine zp_istore (ls' := [some (.ref (64)), some (.ref (q)), some (.int (nI (zkl b))), some (.ref (r)), some (.int (nI (zro b))), some (.int (nI (c + 1))), some (.int (nI (0))), none, none]) dX11_cipher_97 (by decide) rfl ?_
        refine zp_pc (pc' := 99) rfl ?_
        have hbz := zby_sb hby
        have lp118 : zP g mX11_cipher (zR 2 0 0) Qf 0 0 218 [some (.ref (64)), some (.ref (q)), some (.int (nI (zkl b))), some (.ref (r)), some (.int (nI (zro b))), some (.int (nI (c + 1))), some (.int (nI (16))), none, none] [] (va_up hY112 (r) (some (.inr (16, .inl (zfl gr (0) (16) (fun i => nI (zst b ks xs (c + 1) i))))))) n → ∀ (m k118 : Nat), m = (16) - k118 → k118 ≤ (16) → zP g mX11_cipher (zR 2 0 0) Qf 0 0 99 [some (.ref (64)), some (.ref (q)), some (.int (nI (zkl b))), some (.ref (r)), some (.int (nI (zro b))), some (.int (nI (c + 1))), some (.int (nI (k118))), none, none] [] (va_up hY112 (r) (some (.inr (16, .inl (zfl gr (0) (k118) (fun i => nI (zst b ks xs (c + 1) i))))))) n := by
          intro kk m
          induction m using Nat.strongRecOn with
          | _ m ih =>
            intro k118 hm118 hk118
            refine zp_nh (fun hX118 eX118 => ?_)
            have k119_0 := (congrFun eX118 (64)).trans ((va_up_ne _ _ (by omega)).trans k116_0)
            have k119_1 := (congrFun eX118 (77)).trans ((va_up_ne _ _ (by omega)).trans k116_1)
            have k119_2 := (congrFun eX118 (78)).trans ((va_up_ne _ _ (by omega)).trans k116_2)
            have k119_3 := (congrFun eX118 (79)).trans ((va_up_ne _ _ (by omega)).trans k116_3)
            have k119_4 : hX118 (r) = some (.inr (16, .inl (zfl gr (0) (k118) (fun i => nI (zst b ks xs (c + 1) i))))) := by rw [eX118]; exact va_up_self _ _ _
            refine zp_iload dX11_cipher_99 rfl ?_
            refine zp_bipush (v := nI (16)) dX11_cipher_101 (by decide) ?_
            refine zp_pc (pc' := 103) rfl ?_
            refine zn_icmp_ge (tgt := 218) dX11_cipher_103 (by decide) (by omega) (by omega) (fun c103 => ?_) (fun c103 => ?_)
            · have e118 : k118 = (16) := by omega
              subst e118
              rw [eX118]
              exact kk
            · refine zp_iload dX11_cipher_106 rfl ?_
              refine zp_iconst (v := nI (4)) dX11_cipher_108 (by decide) ?_
              refine zn_idiv dX11_cipher_109 (by omega) (by omega) (by omega) ?_
              refine zp_iconst (v := nI (4)) dX11_cipher_110 (by decide) ?_
              refine zn_imul dX11_cipher_111 ?_
              refine zp_istore (ls' := [some (.ref (64)), some (.ref (q)), some (.int (nI (zkl b))), some (.ref (r)), some (.int (nI (zro b))), some (.int (nI (c + 1))), some (.int (nI (k118))), some (.int (nI (((k118) / (4)) * (4)))), none]) dX11_cipher_112 (by decide) rfl ?_
              refine zp_aload_n dX11_cipher_114 rfl ?_
              refine zp_get dX11_cipher_115 gX11_53_10 k119_0 rfl ?_
              refine zp_iload dX11_cipher_118 rfl ?_
              refine zp_pc (pc' := 120) rfl ?_
              refine zn_iald (j := k118) dX11_cipher_120 k119_3 (by omega) (by omega) ?_
              refine zp_i (y := nI (zsb (zst b ks xs c) k118)) (zfl_in0 (by omega)) ?_
              refine zp_istore (ls' := [some (.ref (64)), some (.ref (q)), some (.int (nI (zkl b))), some (.ref (r)), some (.int (nI (zro b))), some (.int (nI (c + 1))), some (.int (nI (k118))), some (.int (nI (((k118) / (4)) * (4)))), some (.int (nI (zsb (zst b ks xs c) k118)))]) dX11_cipher_121 (by decide) rfl ?_
              refine zp_iload dX11_cipher_123 rfl ?_
              refine zp_iload dX11_cipher_125 rfl ?_
              refine zp_pc (pc' := 127) rfl ?_
              refine zn_icmp_ge (tgt := 192) dX11_cipher_127 (by decide) (by omega) (by omega) (fun c127 => ?_) (fun c127 => ?_)
              · refine zp_aload_n dX11_cipher_192 rfl ?_
                refine zp_iload dX11_cipher_193 rfl ?_
                refine zp_iload dX11_cipher_195 rfl ?_
                refine zp_aload_n dX11_cipher_197 rfl ?_
                refine zp_get dX11_cipher_198 gX11_50_10 k119_0 rfl ?_
                refine zp_bipush (v := nI (16)) dX11_cipher_201 (by decide) ?_
                refine zp_iload dX11_cipher_203 rfl ?_
                refine zn_imul dX11_cipher_205 ?_
                refine zp_iload dX11_cipher_206 rfl ?_
                refine zn_iadd dX11_cipher_208 ?_
                refine zp_pc (pc' := 209) rfl ?_
                refine zn_iald (j := ((16) * (c + 1)) + (k118)) dX11_cipher_209 k119_2 (by omega) (by omega) ?_
                refine zp_i (y := nI (zkf b ks (16 * (c + 1) + k118))) (kv _ (by omega)) ?_
                refine zp_ixor dX11_cipher_210 ?_
                refine zp_i (y := nI (zst b ks xs (c + 1) k118)) (by rw [nx_xor, zst_end (by omega)]) ?_
                refine zn_iast dX11_cipher_211 (by omega) k119_4 (by omega) (by omega) ?_
                refine zp_nh (fun h120x eh120x => ?_)
                have k120_0 := (congrFun eh120x (64)).trans ((va_up_ne _ _ (by omega)).trans k119_0)
                have k120_1 := (congrFun eh120x (77)).trans ((va_up_ne _ _ (by omega)).trans k119_1)
                have k120_2 := (congrFun eh120x (78)).trans ((va_up_ne _ _ (by omega)).trans k119_2)
                have k120_3 := (congrFun eh120x (79)).trans ((va_up_ne _ _ (by omega)).trans k119_3)
                have k120_4 : h120x (r) = some (.inr (16, .inl (va_up (zfl gr (0) (k118) (fun i => nI (zst b ks xs (c + 1) i))) (k118) (nI (zst b ks xs (c + 1) k118))))) := by rw [eh120x]; exact va_up_self _ _ _
                have sw121 : zsm hX118 h120x (zon (r)) := zsm.rf.up eh120x rfl
                have zw121 : zsh hX118 h120x := zsh.fill eh120x k119_4
                refine zp_pc (pc' := 212) rfl ?_
                refine zn_iinc 1 (ls' := [some (.ref (64)), some (.ref (q)), some (.int (nI (zkl b))), some (.ref (r)), some (.int (nI (zro b))), some (.int (nI (c + 1))), some (.int (nI (k118 + 1))), some (.int (nI (((k118) / (4)) * (4)))), some (.int (nI (zsb (zst b ks xs c) k118)))]) dX11_cipher_212 (by decide) (by decide) rfl rfl ?_
                refine zp_goto (tgt := 99) dX11_cipher_215 (by decide) ?_
                refine zp_pc (pc' := 99) rfl ?_
                refine zp_drop (ls' := [some (.ref (64)), some (.ref (q)), some (.int (nI (zkl b))), some (.ref (r)), some (.int (nI (zro b))), some (.int (nI (c + 1))), some (.int (nI (k118 + 1))), none, none]) (fun i v hv => ?_) ?_
                · rcases i with _ | _ | _ | _ | _ | _ | _ | _ | _ | i <;> simp at hv ⊢ <;> exact hv
                rw [zfl_step eX118 eh120x (by omega) rfl]
                exact ih ((16) - (k118 + 1)) (by omega) (k118 + 1) rfl (by omega)
              · refine zp_aload_n dX11_cipher_130 rfl ?_
                refine zp_get dX11_cipher_131 gX11_53_10 k119_0 rfl ?_
                refine zp_iload dX11_cipher_134 rfl ?_
                refine zp_pc (pc' := 136) rfl ?_
                refine zn_iald (j := k118) dX11_cipher_136 k119_3 (by omega) (by omega) ?_
                refine zp_i (y := nI (zsb (zst b ks xs c) k118)) (zfl_in0 (by omega)) ?_
                refine zp_iconst (v := nI (2)) dX11_cipher_137 (by decide) ?_
                refine zp_pc (pc' := 138) rfl ?_
                refine zp_callS (As := [.int (nI (zsb (zst b ks xs c) k118)), .int (nI (2))]) (st := []) dX11_cipher_138 cX11_178 rfl (e_times (a := zsb (zst b ks xs c) k118) (b := 2) (hbz _ (by omega)) (by decide)) (by decide) (by decide) (Nat.le_of_ble_eq_true rfl) (fun v122 h122 n122 q122 => ?_)
                obtain ⟨rfl, H122, N122⟩ := q122
                rw [N122, H122]
                refine zp_nrm (cells' := 0) (slots' := 0) (st' := [.int (nI (ztm (zsb (zst b ks xs c) k118) 2 8))]) rfl rfl rfl ?_
                refine zp_i (y := nI (zxt (zsb (zst b ks xs c) k118))) (by rw [ztm_2]) ?_
                refine zp_aload_n dX11_cipher_141 rfl ?_
                refine zp_get dX11_cipher_142 gX11_53_10 k119_0 rfl ?_
                refine zp_iload dX11_cipher_145 rfl ?_
                refine zp_iload dX11_cipher_147 rfl ?_
                refine zp_iconst (v := nI (1)) dX11_cipher_149 (by decide) ?_
                refine zn_iadd dX11_cipher_150 ?_
                refine zp_iconst (v := nI (4)) dX11_cipher_151 (by decide) ?_
                refine zn_irem dX11_cipher_152 (by omega) (by omega) (by omega) ?_
                refine zn_iadd dX11_cipher_153 ?_
                refine zp_pc (pc' := 154) rfl ?_
                refine zn_iald (j := (((k118) / (4)) * (4)) + (((k118) + (1)) % (4))) dX11_cipher_154 k119_3 (by omega) (by omega) ?_
                refine zp_i (y := nI (zsb (zst b ks xs c) (zcl k118 1))) (zfl_in0 (zcl_lt (show k118 < 16 by omega) _)) ?_
                refine zp_iconst (v := nI (3)) dX11_cipher_155 (by decide) ?_
                refine zp_pc (pc' := 156) rfl ?_
                refine zp_callS (As := [.int (nI (zsb (zst b ks xs c) (zcl k118 1))), .int (nI (3))]) (st := [.int (nI (zxt (zsb (zst b ks xs c) k118)))]) dX11_cipher_156 cX11_178 rfl (e_times (a := zsb (zst b ks xs c) (zcl k118 1)) (b := 3) (hbz _ (zcl_lt (show k118 < 16 by omega) _)) (by decide)) (by decide) (by decide) (Nat.le_of_ble_eq_true rfl) (fun v123 h123 n123 q123 => ?_)
                obtain ⟨rfl, H123, N123⟩ := q123
                rw [N123, H123]
                refine zp_nrm (cells' := 0) (slots' := 0) (st' := [.int (nI (ztm (zsb (zst b ks xs c) (zcl k118 1)) 3 8)), .int (nI (zxt (zsb (zst b ks xs c) k118)))]) rfl rfl rfl ?_
                refine zp_i (y := nI (zsb (zst b ks xs c) (zcl k118 1) ^^^ zxt (zsb (zst b ks xs c) (zcl k118 1)))) (by rw [ztm_3]) ?_
                refine zp_ixor dX11_cipher_159 ?_
                refine zp_i (y := nI (zxt (zsb (zst b ks xs c) k118) ^^^ (zsb (zst b ks xs c) (zcl k118 1) ^^^ zxt (zsb (zst b ks xs c) (zcl k118 1))))) (by rw [nx_xor]) ?_
                refine zp_aload_n dX11_cipher_160 rfl ?_
                refine zp_get dX11_cipher_161 gX11_53_10 k119_0 rfl ?_
                refine zp_iload dX11_cipher_164 rfl ?_
                refine zp_iload dX11_cipher_166 rfl ?_
                refine zp_iconst (v := nI (2)) dX11_cipher_168 (by decide) ?_
                refine zn_iadd dX11_cipher_169 ?_
                refine zp_iconst (v := nI (4)) dX11_cipher_170 (by decide) ?_
                refine zn_irem dX11_cipher_171 (by omega) (by omega) (by omega) ?_
                refine zn_iadd dX11_cipher_172 ?_
                refine zp_pc (pc' := 173) rfl ?_
                refine zn_iald (j := (((k118) / (4)) * (4)) + (((k118) + (2)) % (4))) dX11_cipher_173 k119_3 (by omega) (by omega) ?_
                refine zp_i (y := nI (zsb (zst b ks xs c) (zcl k118 2))) (zfl_in0 (zcl_lt (show k118 < 16 by omega) _)) ?_
                refine zp_ixor dX11_cipher_174 ?_
                refine zp_i (y := nI (zxt (zsb (zst b ks xs c) k118) ^^^ (zsb (zst b ks xs c) (zcl k118 1) ^^^ zxt (zsb (zst b ks xs c) (zcl k118 1))) ^^^ zsb (zst b ks xs c) (zcl k118 2))) (by rw [nx_xor]) ?_
                refine zp_aload_n dX11_cipher_175 rfl ?_
                refine zp_get dX11_cipher_176 gX11_53_10 k119_0 rfl ?_
                refine zp_iload dX11_cipher_179 rfl ?_
                refine zp_iload dX11_cipher_181 rfl ?_
                refine zp_iconst (v := nI (3)) dX11_cipher_183 (by decide) ?_
                refine zn_iadd dX11_cipher_184 ?_
                refine zp_iconst (v := nI (4)) dX11_cipher_185 (by decide) ?_
                refine zn_irem dX11_cipher_186 (by omega) (by omega) (by omega) ?_
                refine zn_iadd dX11_cipher_187 ?_
                refine zp_pc (pc' := 188) rfl ?_
                refine zn_iald (j := (((k118) / (4)) * (4)) + (((k118) + (3)) % (4))) dX11_cipher_188 k119_3 (by omega) (by omega) ?_
                refine zp_i (y := nI (zsb (zst b ks xs c) (zcl k118 3))) (zfl_in0 (zcl_lt (show k118 < 16 by omega) _)) ?_
                refine zp_ixor dX11_cipher_189 ?_
                refine zp_i (y := nI (zmx (zsb (zst b ks xs c)) k118)) (by rw [nx_xor, zmx_m hbz (by omega)]) ?_
                refine zp_istore (ls' := [some (.ref (64)), some (.ref (q)), some (.int (nI (zkl b))), some (.ref (r)), some (.int (nI (zro b))), some (.int (nI (c + 1))), some (.int (nI (k118))), some (.int (nI (((k118) / (4)) * (4)))), some (.int (nI (zmx (zsb (zst b ks xs c)) k118)))]) dX11_cipher_190 (by decide) rfl ?_
                refine zp_pc (pc' := 192) rfl ?_
                refine zp_aload_n dX11_cipher_192 rfl ?_
                refine zp_iload dX11_cipher_193 rfl ?_
                refine zp_iload dX11_cipher_195 rfl ?_
                refine zp_aload_n dX11_cipher_197 rfl ?_
                refine zp_get dX11_cipher_198 gX11_50_10 k119_0 rfl ?_
                refine zp_bipush (v := nI (16)) dX11_cipher_201 (by decide) ?_
                refine zp_iload dX11_cipher_203 rfl ?_
                refine zn_imul dX11_cipher_205 ?_
                refine zp_iload dX11_cipher_206 rfl ?_
                refine zn_iadd dX11_cipher_208 ?_
                refine zp_pc (pc' := 209) rfl ?_
                refine zn_iald (j := ((16) * (c + 1)) + (k118)) dX11_cipher_209 k119_2 (by omega) (by omega) ?_
                refine zp_i (y := nI (zkf b ks (16 * (c + 1) + k118))) (kv _ (by omega)) ?_
                refine zp_ixor dX11_cipher_210 ?_
                refine zp_i (y := nI (zst b ks xs (c + 1) k118)) (by rw [nx_xor, zst_mid (by omega)]) ?_
                refine zn_iast dX11_cipher_211 (by omega) k119_4 (by omega) (by omega) ?_
                refine zp_nh (fun h124x eh124x => ?_)
                have k124_0 := (congrFun eh124x (64)).trans ((va_up_ne _ _ (by omega)).trans k119_0)
                have k124_1 := (congrFun eh124x (77)).trans ((va_up_ne _ _ (by omega)).trans k119_1)
                have k124_2 := (congrFun eh124x (78)).trans ((va_up_ne _ _ (by omega)).trans k119_2)
                have k124_3 := (congrFun eh124x (79)).trans ((va_up_ne _ _ (by omega)).trans k119_3)
                have k124_4 : h124x (r) = some (.inr (16, .inl (va_up (zfl gr (0) (k118) (fun i => nI (zst b ks xs (c + 1) i))) (k118) (nI (zst b ks xs (c + 1) k118))))) := by rw [eh124x]; exact va_up_self _ _ _
                have sw125 : zsm hX118 h124x (zon (r)) := zsm.rf.up eh124x rfl
                have zw125 : zsh hX118 h124x := zsh.fill eh124x k119_4
                refine zp_pc (pc' := 212) rfl ?_
                refine zn_iinc 1 (ls' := [some (.ref (64)), some (.ref (q)), some (.int (nI (zkl b))), some (.ref (r)), some (.int (nI (zro b))), some (.int (nI (c + 1))), some (.int (nI (k118 + 1))), some (.int (nI (((k118) / (4)) * (4)))), some (.int (nI (zmx (zsb (zst b ks xs c)) k118)))]) dX11_cipher_212 (by decide) (by decide) rfl rfl ?_
                refine zp_goto (tgt := 99) dX11_cipher_215 (by decide) ?_
                refine zp_pc (pc' := 99) rfl ?_
                refine zp_drop (ls' := [some (.ref (64)), some (.ref (q)), some (.int (nI (zkl b))), some (.ref (r)), some (.int (nI (zro b))), some (.int (nI (c + 1))), some (.int (nI (k118 + 1))), none, none]) (fun i v hv => ?_) ?_
                · rcases i with _ | _ | _ | _ | _ | _ | _ | _ | _ | i <;> simp at hv ⊢ <;> exact hv
                rw [zfl_step eX118 eh124x (by omega) rfl]
                exact ih ((16) - (k118 + 1)) (by omega) (k118 + 1) rfl (by omega)
        suffices K118 : zP g mX11_cipher (zR 2 0 0) Qf 0 0 218 [some (.ref (64)), some (.ref (q)), some (.int (nI (zkl b))), some (.ref (r)), some (.int (nI (zro b))), some (.int (nI (c + 1))), some (.int (nI (16))), none, none] [] (va_up hY112 (r) (some (.inr (16, .inl (zfl gr (0) (16) (fun i => nI (zst b ks xs (c + 1) i))))))) n by
          have q := lp118 K118 ((16) - 0) 0 rfl (Nat.zero_le _)
          rw [zfl_0, zup_same k116_4] at q
          exact q
        refine zp_nh (fun hY118 eY118 => ?_)
        have k126_0 := (congrFun eY118 (64)).trans ((va_up_ne _ _ (by omega)).trans k116_0)
        have k126_1 := (congrFun eY118 (77)).trans ((va_up_ne _ _ (by omega)).trans k116_1)
        have k126_2 := (congrFun eY118 (78)).trans ((va_up_ne _ _ (by omega)).trans k116_2)
        have k126_3 := (congrFun eY118 (79)).trans ((va_up_ne _ _ (by omega)).trans k116_3)
        have k126_4 : hY118 (r) = some (.inr (16, .inl (zfl gr (0) (16) (fun i => nI (zst b ks xs (c + 1) i))))) := by rw [eY118]; exact va_up_self _ _ _
        have sf127 := (zsm.fill eY118)
        have zf127 := zsh.fill eY118 k116_4
        refine zn_iinc 1 (ls' := [some (.ref (64)), some (.ref (q)), some (.int (nI (zkl b))), some (.ref (r)), some (.int (nI (zro b))), some (.int (nI (c + 1 + 1))), some (.int (nI (16))), none, none]) dX11_cipher_218 (by decide) (by decide) rfl rfl ?_
        refine zp_goto (tgt := 47) dX11_cipher_221 (by decide) ?_
        refine zp_pc (pc' := 47) rfl ?_
        refine zp_drop (ls' := [some (.ref (64)), some (.ref (q)), some (.int (nI (zkl b))), some (.ref (r)), some (.int (nI (zro b))), some (.int (nI (c + 1 + 1))), none, none, none]) (fun i v hv => ?_) ?_
        · rcases i with _ | _ | _ | _ | _ | _ | _ | _ | _ | i <;> simp at hv ⊢ <;> exact hv
        exact ih (zro b - (c + 1)) (by omega) (c + 1) hY118 _ _ rfl (by omega) (s1.trans (((sf117).mono (fun i hi => by unfold zs2o; unfold zon at hi; omega)).trans ((sf127).mono (fun i hi => by unfold zs2o; unfold zon at hi; omega)))) k126_3 k126_4 (fun j hj => zfl_in0 hj)
  exact lp _ 0 hY106 _ _ rfl (Nat.zero_le _) zsm.rf k110_2 k110_3 (fun j hj => zfl_in0 hj)
