theorem zshr8 {m d : Nat} (hm : m < 2 ^ 31) (hd : d < 4) : (nI m >>> (nI (8 * d) &&& 31)) &&& nI 255 = nI (m / 2 ^ (8 * d) % 256) := by
  rw [pk_shrN hm (nI (8 * d) &&& 31) (8 * d) (by
    have : d = 0 ∨ d = 1 ∨ d = 2 ∨ d = 3 := by omega
    rcases this with rfl | rfl | rfl | rfl <;> decide), zandN (by have := Nat.div_le_self m (2 ^ (8 * d)); omega)]
theorem zlbyte2 (v : Int64) {c : Nat} (hc : c < 8) : (((v.toUInt64 >>> ((nI (8 * c)).toInt64.toUInt64 &&& Int64.toUInt64 63)).toInt64) &&& 255).toInt32 = nI (zdig v.toBitVec.toNat c) := by
  rw [Int64.toInt32_and]
  refine (zlbyte v hc).trans ?_
  unfold zdig
  rw [show (256 : Nat) ^ c = 2 ^ (8 * c) by rw [Nat.pow_mul]]
theorem zflat_getD (u : Nat → List Nat) (c : Nat) (hc : 0 < c) (hu : ∀ k, (u k).length = c) : ∀ n i, i < n * c → ((List.range n).flatMap u).getD i 0 = (u (i / c)).getD (i % c) 0
  | 0, i, h => by omega
  | n + 1, i, h => by
    rw [← zflat_succ]
    have l := zflat_len u c hu n
    rcases Nat.lt_or_ge i (n * c) with q | q
    · rw [zapp_getD1 (by omega)]; exact zflat_getD u c hc hu n i q
    · obtain ⟨j, rfl⟩ := Nat.exists_eq_add_of_le q
      have hj : j < c := by rw [Nat.succ_mul] at h; omega
      rw [← l, zapp_getD2, l, Nat.mul_comm n c, Nat.mul_add_div hc, Nat.mul_add_mod, Nat.mod_eq_of_lt hj, Nat.div_eq_of_lt hj, Nat.add_zero]
theorem zhash_getD (b : Bool) (xs : List Nat) {i : Nat} (h : i < 8 * zwb b) : (zhash b xs).getD i 0 = zdig (z8f (zblk b xs (ztot b xs.length / (16 * zwb b))) (i / zwb b)).toBitVec.toNat (zwb b - 1 - i % zwb b) := by
  have hz := zwb_or b
  unfold zhash
  rw [zflat_getD _ (zwb b) (by omega) (fun k => znum_len _ _) 8 i h, znum_getD _ (Nat.mod_lt _ (by omega))]
theorem ztot_big (b : Bool) (k : Nat) : k + 1 + 2 * zwb b ≤ ztot b k ∧ ztot b k ≤ k + 18 * zwb b + 1 ∧ ztot b k % (16 * zwb b) = 0 := by
  cases b <;> simp only [ztot, zwb] <;> omega
theorem zpad_hi {b : Bool} {xs : List Nat} {k : Nat} (hl : xs.length ≤ 1000) (h1 : xs.length < k) (h2 : ztot b xs.length ≤ k + 4) (h3 : k < ztot b xs.length) : (nI (8 * xs.length) >>> (nI (8 * (ztot b xs.length - 1 - k)) &&& 31)) &&& nI 255 = zpad b xs k := by
  obtain ⟨d, hd, ed⟩ : ∃ d, d < 4 ∧ ztot b xs.length - 1 - k = d := ⟨_, by omega, rfl⟩
  rw [ed, zshr8 (by omega) hd]
  unfold zpad
  rw [if_neg (by omega), if_neg (by omega)]
  have hd4 : d = 0 ∨ d = 1 ∨ d = 2 ∨ d = 3 := by omega
  rcases hd4 with rfl | rfl | rfl | rfl
  · rw [if_neg (by omega), if_pos (by omega)]; congr 1; omega
  · rw [if_pos (by omega)]; congr 1; omega
  · rw [if_neg (by omega), if_neg (by omega)]; congr 1; omega
  · rw [if_neg (by omega), if_neg (by omega)]; congr 1; omega
/-- what the reference's digests work with -/
def zmtl (h : ZH) : Prop := ztab h ∧ h 65 = some (.inr (80, .inr (.inl (fun j => zt_ROUND.getD j 0)))) ∧ h 66 = some (.inr (8, .inr (.inl (fun j => zt_FIRST.getD j 0)))) ∧ zia h 70 1200 ∧ zla h 71 80 ∧ zla h 72 8 ∧ zla h 73 8 ∧ zia h 74 64
theorem zmtl.off {h h' : ZH} (H : zmtl h) {S : Nat → Prop} (hs : zsm h h' S) (ho : ∀ i, S i → 16 ≤ i ∧ i < 65 ∨ 66 < i ∧ i < 70 ∨ 74 < i) : zmtl h' := by
  obtain ⟨h1, h2, h3, h4, h5, h6, h7, h8⟩ := H
  have k : ∀ i, (65 ≤ i ∧ i ≤ 66) ∨ (70 ≤ i ∧ i ≤ 74) → h' i = h i := fun i q => hs i (fun p => by have := ho i p; omega)
  exact ⟨h1.sm hs (fun i hi => by have := ho i hi; omega), (k _ (by omega)).trans h2, (k _ (by omega)).trans h3, h4.keep (k _ (by omega)), h5.keep (k _ (by omega)), h6.keep (k _ (by omega)), h7.keep (k _ (by omega)), h8.keep (k _ (by omega))⟩
set_option maxRecDepth 10000 in
set_option maxHeartbeats 2000000 in
theorem e_mdigest {g : ZG} {h : ZH} {n : Nat} {b : Bool} {p N : Nat} {xs : List Nat} {th : Int32} {wt : Nat} {un : Bool} {rp wi pa be ru sa me se ta fa : Int32} {mn tp ou : Nat} (ht : zmtl h) (ho : h 64 = some (.inl (10, [.int (th), .ref (65), .ref (66), .ref (67), .ref (68), .ref (69), .ref (70), .ref (71), .ref (72), .ref (73), .ref (74), .ref (75), .ref (76), .ref (77), .ref (78), .ref (79), .ref (80), .ref (81), .ref (82), .ref (83), .ref (84), .int (nI (wt)), .int (nI (zbi un)), .int (rp), .int (wi), .int (pa), .int (be), .int (ru), .int (sa), .int (me), .int (se), .int (ta), .int (fa), .ref (85), .ref (86), .ref (87), .int (nI (mn)), .ref (88), .ref (89), .ref (90), .ref (91), .ref (92), .ref (93), .int (nI (tp)), .ref (94), .int (nI (ou))]))) (hx : zar h p N xs) (hp : p < 70 ∨ 74 < p) (hl : xs.length ≤ 1000) : zMt g mX11_digest (zR 3 0 0) [.ref (64), .int (nI (zbi b)), .ref (p), .int (nI (xs.length))] h n (fun v h' n' => v = none ∧ n' = n ∧ zsm h h' (zb3 70 74) ∧ zar h' 74 64 (zhash b xs) ∧ zmtl h') := by
  refine zMt.of [some (.ref (64)), some (.int (nI (zbi b))), some (.ref (p)), some (.int (nI (xs.length))), none, none, none, none, none] (by decide) rfl (Nat.le_of_ble_eq_true rfl) ?_
  obtain ⟨Qf, hQ⟩ : ∃ Qf : ZQ, Qf = (fun v h' n' => v = none ∧ n' = n ∧ zsm h h' (zb3 70 74) ∧ zar h' 74 64 (zhash b xs) ∧ zmtl h') := ⟨_, rfl⟩
  rw [← hQ]
  have hz := zwb_or b
  have hb := zbi_lt b
  have tb := ztot_big b xs.length
  obtain ⟨t1, t2, t3, ⟨f70, t4⟩, ⟨f71, t5⟩, ⟨f72, t6⟩, ⟨f73, t7⟩, ⟨f74, t8⟩⟩ := id ht
  obtain ⟨x1, x2, x3, fx, x4, x5⟩ := id hx
  have cont : zP g mX11_digest (zR 3 0 0) Qf 0 0 27 [some (.ref (64)), some (.int (nI (zbi b))), some (.ref (p)), some (.int (nI (xs.length))), some (.int (nI (8 * zwb b))), some (.int (nI (16 * zwb b))), none, none, none] [] h n := by
    refine zp_iload_n dX11_digest_27 rfl ?_
    refine zp_iconst (v := nI (1)) dX11_digest_28 (by decide) ?_
    refine zn_iadd dX11_digest_29 ?_
    refine zp_iload dX11_digest_30 rfl ?_
    refine zp_bipush (v := nI (8)) dX11_digest_32 (by decide) ?_
    refine zn_idiv dX11_digest_34 (by omega) (by omega) (by omega) ?_
    refine zn_iadd dX11_digest_35 ?_
    refine zp_iload dX11_digest_36 rfl ?_
    refine zn_iadd dX11_digest_38 ?_
    refine zp_iconst (v := nI (1)) dX11_digest_39 (by decide) ?_
    refine zn_isub dX11_digest_40 (by omega) ?_
    refine zp_iload dX11_digest_41 rfl ?_
    refine zp_pc (pc' := 43) rfl ?_
    refine zn_idiv dX11_digest_43 (by omega) (by omega) (by omega) ?_
    refine zp_iload dX11_digest_44 rfl ?_
    refine zp_pc (pc' := 46) rfl ?_
    refine zn_imul dX11_digest_46 ?_
    refine zp_i (y := nI (ztot b xs.length)) (by unfold ztot; rw [show 16 * zwb b / 8 = 2 * zwb b by omega]) ?_
    refine zp_istore (ls' := [some (.ref (64)), some (.int (nI (zbi b))), some (.ref (p)), some (.int (nI (xs.length))), some (.int (nI (8 * zwb b))), some (.int (nI (16 * zwb b))), some (.int (nI (ztot b xs.length))), none, none]) dX11_digest_47 (by decide) rfl ?_
    refine zp_iconst (v := nI (0)) dX11_digest_49 (by decide) ?_
    refine zp_istore (ls' := [some (.ref (64)), some (.int (nI (zbi b))), some (.ref (p)), some (.int (nI (xs.length))), some (.int (nI (8 * zwb b))), some (.int (nI (16 * zwb b))), some (.int (nI (ztot b xs.length))), some (.int (nI (0))), none]) dX11_digest_50 (by decide) rfl ?_
    refine zp_pc (pc' := 52) rfl ?_
    have lp1 : zP g mX11_digest (zR 3 0 0) Qf 0 0 129 [some (.ref (64)), some (.int (nI (zbi b))), some (.ref (p)), some (.int (nI (xs.length))), some (.int (nI (8 * zwb b))), some (.int (nI (16 * zwb b))), some (.int (nI (ztot b xs.length))), some (.int (nI (ztot b xs.length))), none] [] (va_up h (70) (some (.inr (1200, .inl (zfl f70 (0) (ztot b xs.length) (zpad b xs)))))) n → ∀ (m k1 : Nat), m = (ztot b xs.length) - k1 → k1 ≤ (ztot b xs.length) → zP g mX11_digest (zR 3 0 0) Qf 0 0 52 [some (.ref (64)), some (.int (nI (zbi b))), some (.ref (p)), some (.int (nI (xs.length))), some (.int (nI (8 * zwb b))), some (.int (nI (16 * zwb b))), some (.int (nI (ztot b xs.length))), some (.int (nI (k1))), none] [] (va_up h (70) (some (.inr (1200, .inl (zfl f70 (0) (k1) (zpad b xs)))))) n := by
      intro kk m
      induction m using Nat.strongRecOn with
      | _ m ih =>
        intro k1 hm1 hk1
        refine zp_nh (fun hX1 eX1 => ?_)
        have k2_0 := (congrFun eX1 (64)).trans ((va_up_ne _ _ (by omega)).trans ho)
        have k2_1 := (congrFun eX1 (65)).trans ((va_up_ne _ _ (by omega)).trans t2)
        have k2_2 := (congrFun eX1 (66)).trans ((va_up_ne _ _ (by omega)).trans t3)
        have k2_3 : hX1 (70) = some (.inr (1200, .inl (zfl f70 (0) (k1) (zpad b xs)))) := by rw [eX1]; exact va_up_self _ _ _
        have k2_4 := (congrFun eX1 (71)).trans ((va_up_ne _ _ (by omega)).trans t5)
        have k2_5 := (congrFun eX1 (72)).trans ((va_up_ne _ _ (by omega)).trans t6)
        have k2_6 := (congrFun eX1 (73)).trans ((va_up_ne _ _ (by omega)).trans t7)
        have k2_7 := (congrFun eX1 (74)).trans ((va_up_ne _ _ (by omega)).trans t8)
        have k2_8 := (congrFun eX1 (p)).trans ((va_up_ne _ _ (by omega)).trans x4)
        refine zp_iload dX11_digest_52 rfl ?_
        refine zp_iload dX11_digest_54 rfl ?_
        refine zp_pc (pc' := 56) rfl ?_
        refine zn_icmp_ge (tgt := 129) dX11_digest_56 (by decide) (by omega) (by omega) (fun c56 => ?_) (fun c56 => ?_)
        · have e1 : k1 = (ztot b xs.length) := by omega
          subst e1
          rw [eX1]
          exact kk
        · refine zp_aload_n dX11_digest_59 rfl ?_
          refine zp_get dX11_digest_60 gX11_26_10 k2_0 rfl ?_
          refine zp_iload dX11_digest_63 rfl ?_
          refine zp_iload dX11_digest_65 rfl ?_
          refine zp_iload_n dX11_digest_67 rfl ?_
          refine zp_pc (pc' := 68) rfl ?_
          refine zn_icmp_ge (tgt := 78) dX11_digest_68 (by decide) (by omega) (by omega) (fun c68 => ?_) (fun c68 => ?_)
          · refine zp_iload dX11_digest_78 rfl ?_
            refine zp_iload_n dX11_digest_80 rfl ?_
            refine zp_pc (pc' := 81) rfl ?_
            refine zn_icmp_ne (tgt := 90) dX11_digest_81 (by decide) (by omega) (by omega) (fun c81 => ?_) (fun c81 => ?_)
            · refine zp_iload dX11_digest_90 rfl ?_
              refine zp_iload dX11_digest_92 rfl ?_
              refine zp_iconst (v := nI (4)) dX11_digest_94 (by decide) ?_
              refine zn_isub dX11_digest_95 (by omega) ?_
              refine zp_pc (pc' := 96) rfl ?_
              refine zn_icmp_lt (tgt := 121) dX11_digest_96 (by decide) (by omega) (by omega) (fun c96 => ?_) (fun c96 => ?_)
              · refine zp_iconst (v := nI (0)) dX11_digest_121 (by decide) ?_
                refine zp_pc (pc' := 122) rfl ?_
                refine zn_iast dX11_digest_122 (by omega) k2_3 (by omega) (by omega) ?_
                refine zp_nh (fun h3x eh3x => ?_)
                have k3_0 := (congrFun eh3x (64)).trans ((va_up_ne _ _ (by omega)).trans k2_0)
                have k3_1 := (congrFun eh3x (65)).trans ((va_up_ne _ _ (by omega)).trans k2_1)
                have k3_2 := (congrFun eh3x (66)).trans ((va_up_ne _ _ (by omega)).trans k2_2)
                have k3_3 : h3x (70) = some (.inr (1200, .inl (va_up (zfl f70 (0) (k1) (zpad b xs)) (k1) (nI (0))))) := by rw [eh3x]; exact va_up_self _ _ _
                have k3_4 := (congrFun eh3x (71)).trans ((va_up_ne _ _ (by omega)).trans k2_4)
                have k3_5 := (congrFun eh3x (72)).trans ((va_up_ne _ _ (by omega)).trans k2_5)
                have k3_6 := (congrFun eh3x (73)).trans ((va_up_ne _ _ (by omega)).trans k2_6)
                have k3_7 := (congrFun eh3x (74)).trans ((va_up_ne _ _ (by omega)).trans k2_7)
                have k3_8 := (congrFun eh3x (p)).trans ((va_up_ne _ _ (by omega)).trans k2_8)
                refine zn_iinc 1 (ls' := [some (.ref (64)), some (.int (nI (zbi b))), some (.ref (p)), some (.int (nI (xs.length))), some (.int (nI (8 * zwb b))), some (.int (nI (16 * zwb b))), some (.int (nI (ztot b xs.length))), some (.int (nI (k1 + 1))), none]) dX11_digest_123 (by decide) (by decide) rfl rfl ?_
                refine zp_goto (tgt := 52) dX11_digest_126 (by decide) ?_
                refine zp_pc (pc' := 52) rfl ?_
                rw [zfl_step eX1 eh3x (by omega) (by show _ = zpad b xs k1; unfold zpad; rw [if_neg (by omega), if_neg (by omega), if_neg (by omega), if_neg (by omega)])]
                exact ih ((ztot b xs.length) - (k1 + 1)) (by omega) (k1 + 1) rfl (by omega)
              · refine zp_bipush (v := nI (8)) dX11_digest_99 (by decide) ?_
                refine zp_iload_n dX11_digest_101 rfl ?_
                refine zn_imul dX11_digest_102 ?_
                refine zp_bipush (v := nI (8)) dX11_digest_103 (by decide) ?_
                refine zp_iload dX11_digest_105 rfl ?_
                refine zp_iconst (v := nI (1)) dX11_digest_107 (by decide) ?_
                refine zn_isub dX11_digest_108 (by omega) ?_
                refine zp_iload dX11_digest_109 rfl ?_
                refine zn_isub dX11_digest_111 (by omega) ?_
                refine zn_imul dX11_digest_112 ?_
                refine zp_ishr dX11_digest_113 ?_
                refine zp_sipush (v := nI (255)) dX11_digest_114 (by decide) ?_
                refine zp_pc (pc' := 117) rfl ?_
                refine zp_pc (pc' := 117) rfl ?_
                refine zp_iand dX11_digest_117 ?_
                refine zp_i (y := zpad b xs k1) (zpad_hi hl (by omega) (by omega) (by omega)) ?_
                refine zp_goto (tgt := 122) dX11_digest_118 (by decide) ?_
                refine zp_pc (pc' := 122) rfl ?_
                refine zn_iast dX11_digest_122 (by omega) k2_3 (by omega) (by omega) ?_
                refine zp_nh (fun h4x eh4x => ?_)
                have k4_0 := (congrFun eh4x (64)).trans ((va_up_ne _ _ (by omega)).trans k2_0)
                have k4_1 := (congrFun eh4x (65)).trans ((va_up_ne _ _ (by omega)).trans k2_1)
                have k4_2 := (congrFun eh4x (66)).trans ((va_up_ne _ _ (by omega)).trans k2_2)
                have k4_3 : h4x (70) = some (.inr (1200, .inl (va_up (zfl f70 (0) (k1) (zpad b xs)) (k1) (zpad b xs k1)))) := by rw [eh4x]; exact va_up_self _ _ _
                have k4_4 := (congrFun eh4x (71)).trans ((va_up_ne _ _ (by omega)).trans k2_4)
                have k4_5 := (congrFun eh4x (72)).trans ((va_up_ne _ _ (by omega)).trans k2_5)
                have k4_6 := (congrFun eh4x (73)).trans ((va_up_ne _ _ (by omega)).trans k2_6)
                have k4_7 := (congrFun eh4x (74)).trans ((va_up_ne _ _ (by omega)).trans k2_7)
                have k4_8 := (congrFun eh4x (p)).trans ((va_up_ne _ _ (by omega)).trans k2_8)
                refine zn_iinc 1 (ls' := [some (.ref (64)), some (.int (nI (zbi b))), some (.ref (p)), some (.int (nI (xs.length))), some (.int (nI (8 * zwb b))), some (.int (nI (16 * zwb b))), some (.int (nI (ztot b xs.length))), some (.int (nI (k1 + 1))), none]) dX11_digest_123 (by decide) (by decide) rfl rfl ?_
                refine zp_goto (tgt := 52) dX11_digest_126 (by decide) ?_
                refine zp_pc (pc' := 52) rfl ?_
                rw [zfl_step eX1 eh4x (by omega) rfl]
                exact ih ((ztot b xs.length) - (k1 + 1)) (by omega) (k1 + 1) rfl (by omega)
            · refine zp_sipush (v := nI (128)) dX11_digest_84 (by decide) ?_
              refine zp_goto (tgt := 122) dX11_digest_87 (by decide) ?_
              refine zp_pc (pc' := 122) rfl ?_
              refine zn_iast dX11_digest_122 (by omega) k2_3 (by omega) (by omega) ?_
              refine zp_nh (fun h5x eh5x => ?_)
              have k5_0 := (congrFun eh5x (64)).trans ((va_up_ne _ _ (by omega)).trans k2_0)
              have k5_1 := (congrFun eh5x (65)).trans ((va_up_ne _ _ (by omega)).trans k2_1)
              have k5_2 := (congrFun eh5x (66)).trans ((va_up_ne _ _ (by omega)).trans k2_2)
              have k5_3 : h5x (70) = some (.inr (1200, .inl (va_up (zfl f70 (0) (k1) (zpad b xs)) (k1) (nI (128))))) := by rw [eh5x]; exact va_up_self _ _ _
              have k5_4 := (congrFun eh5x (71)).trans ((va_up_ne _ _ (by omega)).trans k2_4)
              have k5_5 := (congrFun eh5x (72)).trans ((va_up_ne _ _ (by omega)).trans k2_5)
              have k5_6 := (congrFun eh5x (73)).trans ((va_up_ne _ _ (by omega)).trans k2_6)
              have k5_7 := (congrFun eh5x (74)).trans ((va_up_ne _ _ (by omega)).trans k2_7)
              have k5_8 := (congrFun eh5x (p)).trans ((va_up_ne _ _ (by omega)).trans k2_8)
              refine zn_iinc 1 (ls' := [some (.ref (64)), some (.int (nI (zbi b))), some (.ref (p)), some (.int (nI (xs.length))), some (.int (nI (8 * zwb b))), some (.int (nI (16 * zwb b))), some (.int (nI (ztot b xs.length))), some (.int (nI (k1 + 1))), none]) dX11_digest_123 (by decide) (by decide) rfl rfl ?_
              refine zp_goto (tgt := 52) dX11_digest_126 (by decide) ?_
              refine zp_pc (pc' := 52) rfl ?_
              rw [zfl_step eX1 eh5x (by omega) (by show _ = zpad b xs k1; unfold zpad; rw [if_neg (by omega), if_pos (by omega)])]
              exact ih ((ztot b xs.length) - (k1 + 1)) (by omega) (k1 + 1) rfl (by omega)
          · refine zp_aload_n dX11_digest_71 rfl ?_
            refine zp_iload dX11_digest_72 rfl ?_
            refine zp_pc (pc' := 74) rfl ?_
            refine zn_iald (j := k1) dX11_digest_74 k2_8 (by omega) (by omega) ?_
            refine zp_i (y := nI (xs.getD k1 0)) (x5 _ (by omega)) ?_
            refine zp_goto (tgt := 122) dX11_digest_75 (by decide) ?_
            refine zp_pc (pc' := 122) rfl ?_
            refine zn_iast dX11_digest_122 (by omega) k2_3 (by omega) (by omega) ?_
            refine zp_nh (fun h6x eh6x => ?_)
            have k6_0 := (congrFun eh6x (64)).trans ((va_up_ne _ _ (by omega)).trans k2_0)
            have k6_1 := (congrFun eh6x (65)).trans ((va_up_ne _ _ (by omega)).trans k2_1)
            have k6_2 := (congrFun eh6x (66)).trans ((va_up_ne _ _ (by omega)).trans k2_2)
            have k6_3 : h6x (70) = some (.inr (1200, .inl (va_up (zfl f70 (0) (k1) (zpad b xs)) (k1) (nI (xs.getD k1 0))))) := by rw [eh6x]; exact va_up_self _ _ _
            have k6_4 := (congrFun eh6x (71)).trans ((va_up_ne _ _ (by omega)).trans k2_4)
            have k6_5 := (congrFun eh6x (72)).trans ((va_up_ne _ _ (by omega)).trans k2_5)
            have k6_6 := (congrFun eh6x (73)).trans ((va_up_ne _ _ (by omega)).trans k2_6)
            have k6_7 := (congrFun eh6x (74)).trans ((va_up_ne _ _ (by omega)).trans k2_7)
            have k6_8 := (congrFun eh6x (p)).trans ((va_up_ne _ _ (by omega)).trans k2_8)
            refine zn_iinc 1 (ls' := [some (.ref (64)), some (.int (nI (zbi b))), some (.ref (p)), some (.int (nI (xs.length))), some (.int (nI (8 * zwb b))), some (.int (nI (16 * zwb b))), some (.int (nI (ztot b xs.length))), some (.int (nI (k1 + 1))), none]) dX11_digest_123 (by decide) (by decide) rfl rfl ?_
            refine zp_goto (tgt := 52) dX11_digest_126 (by decide) ?_
            refine zp_pc (pc' := 52) rfl ?_
            rw [zfl_step eX1 eh6x (by omega) (by show _ = zpad b xs k1; unfold zpad; rw [if_pos (by omega)])]
            exact ih ((ztot b xs.length) - (k1 + 1)) (by omega) (k1 + 1) rfl (by omega)
    suffices K1 : zP g mX11_digest (zR 3 0 0) Qf 0 0 129 [some (.ref (64)), some (.int (nI (zbi b))), some (.ref (p)), some (.int (nI (xs.length))), some (.int (nI (8 * zwb b))), some (.int (nI (16 * zwb b))), some (.int (nI (ztot b xs.length))), some (.int (nI (ztot b xs.length))), none] [] (va_up h (70) (some (.inr (1200, .inl (zfl f70 (0) (ztot b xs.length) (zpad b xs)))))) n by
      have q := lp1 K1 ((ztot b xs.length) - 0) 0 rfl (Nat.zero_le _)
      rw [zfl_0, zup_same t4] at q
      exact q
    refine zp_nh (fun hY1 eY1 => ?_)
    have k7_0 := (congrFun eY1 (64)).trans ((va_up_ne _ _ (by omega)).trans ho)
    have k7_1 := (congrFun eY1 (65)).trans ((va_up_ne _ _ (by omega)).trans t2)
    have k7_2 := (congrFun eY1 (66)).trans ((va_up_ne _ _ (by omega)).trans t3)
    have k7_3 : hY1 (70) = some (.inr (1200, .inl (zfl f70 (0) (ztot b xs.length) (zpad b xs)))) := by rw [eY1]; exact va_up_self _ _ _
    have k7_4 := (congrFun eY1 (71)).trans ((va_up_ne _ _ (by omega)).trans t5)
    have k7_5 := (congrFun eY1 (72)).trans ((va_up_ne _ _ (by omega)).trans t6)
    have k7_6 := (congrFun eY1 (73)).trans ((va_up_ne _ _ (by omega)).trans t7)
    have k7_7 := (congrFun eY1 (74)).trans ((va_up_ne _ _ (by omega)).trans t8)
    have k7_8 := (congrFun eY1 (p)).trans ((va_up_ne _ _ (by omega)).trans x4)
    refine zp_iconst (v := nI (0)) dX11_digest_129 (by decide) ?_
    refine zp_istore (ls' := [some (.ref (64)), some (.int (nI (zbi b))), some (.ref (p)), some (.int (nI (xs.length))), some (.int (nI (8 * zwb b))), some (.int (nI (16 * zwb b))), some (.int (nI (ztot b xs.length))), some (.int (nI (0))), none]) dX11_digest_130 (by decide) rfl ?_
    refine zp_pc (pc' := 132) rfl ?_
    have lp8 : zP g mX11_digest (zR 3 0 0) Qf 0 0 176 [some (.ref (64)), some (.int (nI (zbi b))), some (.ref (p)), some (.int (nI (xs.length))), some (.int (nI (8 * zwb b))), some (.int (nI (16 * zwb b))), some (.int (nI (ztot b xs.length))), some (.int (nI (8))), none] [] (va_up hY1 (72) (some (.inr (8, .inr (.inl (zfl f72 (0) (8) (fun i => zcut b (zt_FIRST.getD i 0)))))))) n → ∀ (m k8 : Nat), m = (8) - k8 → k8 ≤ (8) → zP g mX11_digest (zR 3 0 0) Qf 0 0 132 [some (.ref (64)), some (.int (nI (zbi b))), some (.ref (p)), some (.int (nI (xs.length))), some (.int (nI (8 * zwb b))), some (.int (nI (16 * zwb b))), some (.int (nI (ztot b xs.length))), some (.int (nI (k8))), none] [] (va_up hY1 (72) (some (.inr (8, .inr (.inl (zfl f72 (0) (k8) (fun i => zcut b (zt_FIRST.getD i 0)))))))) n := by
      intro kk m
      induction m using Nat.strongRecOn with
      | _ m ih =>
        intro k8 hm8 hk8
        refine zp_nh (fun hX8 eX8 => ?_)
        have k9_0 := (congrFun eX8 (64)).trans ((va_up_ne _ _ (by omega)).trans k7_0)
        have k9_1 := (congrFun eX8 (65)).trans ((va_up_ne _ _ (by omega)).trans k7_1)
        have k9_2 := (congrFun eX8 (66)).trans ((va_up_ne _ _ (by omega)).trans k7_2)
        have k9_3 := (congrFun eX8 (70)).trans ((va_up_ne _ _ (by omega)).trans k7_3)
        have k9_4 := (congrFun eX8 (71)).trans ((va_up_ne _ _ (by omega)).trans k7_4)
        have k9_5 : hX8 (72) = some (.inr (8, .inr (.inl (zfl f72 (0) (k8) (fun i => zcut b (zt_FIRST.getD i 0)))))) := by rw [eX8]; exact va_up_self _ _ _
        have k9_6 := (congrFun eX8 (73)).trans ((va_up_ne _ _ (by omega)).trans k7_6)
        have k9_7 := (congrFun eX8 (74)).trans ((va_up_ne _ _ (by omega)).trans k7_7)
        have k9_8 := (congrFun eX8 (p)).trans ((va_up_ne _ _ (by omega)).trans k7_8)
        refine zp_iload dX11_digest_132 rfl ?_
        refine zp_bipush (v := nI (8)) dX11_digest_134 (by decide) ?_
        refine zp_pc (pc' := 136) rfl ?_
        refine zn_icmp_ge (tgt := 176) dX11_digest_136 (by decide) (by omega) (by omega) (fun c136 => ?_) (fun c136 => ?_)
        · have e8 : k8 = (8) := by omega
          subst e8
          rw [eX8]
          exact kk
        · refine zp_aload_n dX11_digest_139 rfl ?_
          refine zp_get dX11_digest_140 gX11_32_10 k9_0 rfl ?_
          refine zp_iload dX11_digest_143 rfl ?_
          refine zp_iload_n dX11_digest_145 rfl ?_
          refine zp_pc (pc' := 146) rfl ?_
          refine zn_if_eq (tgt := 159) dX11_digest_146 (by decide) (by omega) (fun c146 => ?_) (fun c146 => ?_)
          · have bb : b = false := by cases b; rfl; exact absurd c146 (by decide)
            refine zp_aload_n dX11_digest_159 rfl ?_
            refine zp_get dX11_digest_160 gX11_13_10 k9_0 rfl ?_
            refine zp_iload dX11_digest_163 rfl ?_
            refine zn_lald (j := k8) dX11_digest_165 k9_2 (by omega) (by omega) ?_
            refine zp_bipush (v := nI (32)) dX11_digest_166 (by decide) ?_
            refine zp_lushr dX11_digest_168 ?_
            refine zp_pc (pc' := 169) rfl ?_
            refine zn_last dX11_digest_169 (by omega) k9_5 (by omega) (by omega) ?_
            refine zp_nh (fun h10x eh10x => ?_)
            have k10_0 := (congrFun eh10x (64)).trans ((va_up_ne _ _ (by omega)).trans k9_0)
            have k10_1 := (congrFun eh10x (65)).trans ((va_up_ne _ _ (by omega)).trans k9_1)
            have k10_2 := (congrFun eh10x (66)).trans ((va_up_ne _ _ (by omega)).trans k9_2)
            have k10_3 := (congrFun eh10x (70)).trans ((va_up_ne _ _ (by omega)).trans k9_3)
            have k10_4 := (congrFun eh10x (71)).trans ((va_up_ne _ _ (by omega)).trans k9_4)
            have k10_5 : h10x (72) = some (.inr (8, .inr (.inl (va_up (zfl f72 (0) (k8) (fun i => zcut b (zt_FIRST.getD i 0))) (k8) (((((fun j => zt_FIRST.getD j 0) (k8) : Int64)).toUInt64 >>> (((nI (32) : Int32)).toInt64.toUInt64 &&& Int64.toUInt64 63)).toInt64))))) := by rw [eh10x]; exact va_up_self _ _ _
            have k10_6 := (congrFun eh10x (73)).trans ((va_up_ne _ _ (by omega)).trans k9_6)
            have k10_7 := (congrFun eh10x (74)).trans ((va_up_ne _ _ (by omega)).trans k9_7)
            have k10_8 := (congrFun eh10x (p)).trans ((va_up_ne _ _ (by omega)).trans k9_8)
            refine zn_iinc 1 (ls' := [some (.ref (64)), some (.int (nI (zbi b))), some (.ref (p)), some (.int (nI (xs.length))), some (.int (nI (8 * zwb b))), some (.int (nI (16 * zwb b))), some (.int (nI (ztot b xs.length))), some (.int (nI (k8 + 1))), none]) dX11_digest_170 (by decide) (by decide) rfl rfl ?_
            refine zp_goto (tgt := 132) dX11_digest_173 (by decide) ?_
            refine zp_pc (pc' := 132) rfl ?_
            rw [zfl_stepL eX8 eh10x (by omega) (by rw [bb]; rfl)]
            exact ih ((8) - (k8 + 1)) (by omega) (k8 + 1) rfl (by omega)
          · have bb : b = true := by cases b; exact absurd rfl c146; rfl
            refine zp_aload_n dX11_digest_149 rfl ?_
            refine zp_get dX11_digest_150 gX11_13_10 k9_0 rfl ?_
            refine zp_iload dX11_digest_153 rfl ?_
            refine zn_lald (j := k8) dX11_digest_155 k9_2 (by omega) (by omega) ?_
            refine zp_pc (pc' := 156) rfl ?_
            refine zp_goto (tgt := 169) dX11_digest_156 (by decide) ?_
            refine zp_pc (pc' := 169) rfl ?_
            refine zn_last dX11_digest_169 (by omega) k9_5 (by omega) (by omega) ?_
            refine zp_nh (fun h11x eh11x => ?_)
            have k11_0 := (congrFun eh11x (64)).trans ((va_up_ne _ _ (by omega)).trans k9_0)
            have k11_1 := (congrFun eh11x (65)).trans ((va_up_ne _ _ (by omega)).trans k9_1)
            have k11_2 := (congrFun eh11x (66)).trans ((va_up_ne _ _ (by omega)).trans k9_2)
            have k11_3 := (congrFun eh11x (70)).trans ((va_up_ne _ _ (by omega)).trans k9_3)
            have k11_4 := (congrFun eh11x (71)).trans ((va_up_ne _ _ (by omega)).trans k9_4)
            have k11_5 : h11x (72) = some (.inr (8, .inr (.inl (va_up (zfl f72 (0) (k8) (fun i => zcut b (zt_FIRST.getD i 0))) (k8) ((fun j => zt_FIRST.getD j 0) (k8)))))) := by rw [eh11x]; exact va_up_self _ _ _
            have k11_6 := (congrFun eh11x (73)).trans ((va_up_ne _ _ (by omega)).trans k9_6)
            have k11_7 := (congrFun eh11x (74)).trans ((va_up_ne _ _ (by omega)).trans k9_7)
            have k11_8 := (congrFun eh11x (p)).trans ((va_up_ne _ _ (by omega)).trans k9_8)
            refine zn_iinc 1 (ls' := [some (.ref (64)), some (.int (nI (zbi b))), some (.ref (p)), some (.int (nI (xs.length))), some (.int (nI (8 * zwb b))), some (.int (nI (16 * zwb b))), some (.int (nI (ztot b xs.length))), some (.int (nI (k8 + 1))), none]) dX11_digest_170 (by decide) (by decide) rfl rfl ?_
            refine zp_goto (tgt := 132) dX11_digest_173 (by decide) ?_
            refine zp_pc (pc' := 132) rfl ?_
            rw [zfl_stepL eX8 eh11x (by omega) (by rw [bb]; exact (zcut_t _).symm)]
            exact ih ((8) - (k8 + 1)) (by omega) (k8 + 1) rfl (by omega)
    suffices K8 : zP g mX11_digest (zR 3 0 0) Qf 0 0 176 [some (.ref (64)), some (.int (nI (zbi b))), some (.ref (p)), some (.int (nI (xs.length))), some (.int (nI (8 * zwb b))), some (.int (nI (16 * zwb b))), some (.int (nI (ztot b xs.length))), some (.int (nI (8))), none] [] (va_up hY1 (72) (some (.inr (8, .inr (.inl (zfl f72 (0) (8) (fun i => zcut b (zt_FIRST.getD i 0)))))))) n by
      have q := lp8 K8 ((8) - 0) 0 rfl (Nat.zero_le _)
      rw [zfl_0, zup_same k7_5] at q
      exact q
    refine zp_nh (fun hY8 eY8 => ?_)
    have k12_0 := (congrFun eY8 (64)).trans ((va_up_ne _ _ (by omega)).trans k7_0)
    have k12_1 := (congrFun eY8 (65)).trans ((va_up_ne _ _ (by omega)).trans k7_1)
    have k12_2 := (congrFun eY8 (66)).trans ((va_up_ne _ _ (by omega)).trans k7_2)
    have k12_3 := (congrFun eY8 (70)).trans ((va_up_ne _ _ (by omega)).trans k7_3)
    have k12_4 := (congrFun eY8 (71)).trans ((va_up_ne _ _ (by omega)).trans k7_4)
    have k12_5 : hY8 (72) = some (.inr (8, .inr (.inl (zfl f72 (0) (8) (fun i => zcut b (zt_FIRST.getD i 0)))))) := by rw [eY8]; exact va_up_self _ _ _
    have k12_6 := (congrFun eY8 (73)).trans ((va_up_ne _ _ (by omega)).trans k7_6)
    have k12_7 := (congrFun eY8 (74)).trans ((va_up_ne _ _ (by omega)).trans k7_7)
    have k12_8 := (congrFun eY8 (p)).trans ((va_up_ne _ _ (by omega)).trans k7_8)
    refine zp_iconst (v := nI (0)) dX11_digest_176 (by decide) ?_
    refine zp_istore (ls' := [some (.ref (64)), some (.int (nI (zbi b))), some (.ref (p)), some (.int (nI (xs.length))), some (.int (nI (8 * zwb b))), some (.int (nI (16 * zwb b))), some (.int (nI (ztot b xs.length))), some (.int (nI (0))), none]) dX11_digest_177 (by decide) rfl ?_
    refine zp_pc (pc' := 179) rfl ?_
    refine zp_ls (ls' := [some (.ref (64)), some (.int (nI (zbi b))), some (.ref (p)), some (.int (nI (xs.length))), some (.int (nI (8 * zwb b))), some (.int (nI (16 * zwb b))), some (.int (nI (ztot b xs.length))), some (.int (nI (16 * zwb b * 0))), none]) (by rw [Nat.mul_zero]) ?_
    obtain ⟨B, eB⟩ : ∃ B, B = ztot b xs.length / (16 * zwb b) := ⟨_, rfl⟩
    have hB : 16 * zwb b * B = ztot b xs.length := by rw [eB]; exact Nat.mul_div_cancel' (Nat.dvd_of_mod_eq_zero tb.2.2)
    have fin : ∀ (h1 : ZH) (g1 g2 g3 : Nat → Int64), zsm hY8 h1 (zb3 71 73) → h1 71 = some (.inr (80, .inr (.inl g1))) → h1 72 = some (.inr (8, .inr (.inl g2))) → h1 73 = some (.inr (8, .inr (.inl g3))) → (∀ j, j < 8 → g2 j = z8f (zblk b xs B) j) → zP g mX11_digest (zR 3 0 0) Qf 0 0 204 [some (.ref (64)), some (.int (nI (zbi b))), some (.ref (p)), some (.int (nI (xs.length))), some (.int (nI (8 * zwb b))), some (.int (nI (16 * zwb b))), some (.int (nI (ztot b xs.length))), none, none] [] h1 n := by
      intro h1 g1 g2 g3 s1 e71 e72 e73 eg2
      have m13 : h1 (64) = some (.inl (10, [.int (th), .ref (65), .ref (66), .ref (67), .ref (68), .ref (69), .ref (70), .ref (71), .ref (72), .ref (73), .ref (74), .ref (75), .ref (76), .ref (77), .ref (78), .ref (79), .ref (80), .ref (81), .ref (82), .ref (83), .ref (84), .int (nI (wt)), .int (nI (zbi un)), .int (rp), .int (wi), .int (pa), .int (be), .int (ru), .int (sa), .int (me), .int (se), .int (ta), .int (fa), .ref (85), .ref (86), .ref (87), .int (nI (mn)), .ref (88), .ref (89), .ref (90), .ref (91), .ref (92), .ref (93), .int (nI (tp)), .ref (94), .int (nI (ou))])) := (s1 _ (by unfold zb3; omega)).trans k12_0
      have m14 : h1 (65) = some (.inr (80, .inr (.inl (fun j => zt_ROUND.getD j 0)))) := (s1 _ (by unfold zb3; omega)).trans k12_1
      have m15 : h1 (66) = some (.inr (8, .inr (.inl (fun j => zt_FIRST.getD j 0)))) := (s1 _ (by unfold zb3; omega)).trans k12_2
      have m16 : h1 (70) = some (.inr (1200, .inl (zfl f70 (0) (ztot b xs.length) (zpad b xs)))) := (s1 _ (by unfold zb3; omega)).trans k12_3
      have m17 : h1 (74) = some (.inr (64, .inl f74)) := (s1 _ (by unfold zb3; omega)).trans k12_7
      have m18 : h1 (p) = some (.inr (N, .inl fx)) := (s1 _ (by unfold zb3; omega)).trans k12_8
      refine zp_iload dX11_digest_204 rfl ?_
      refine zp_bipush (v := nI (8)) dX11_digest_206 (by decide) ?_
      refine zp_pc (pc' := 208) rfl ?_
      refine zn_idiv dX11_digest_208 (by omega) (by omega) (by omega) ?_
      refine zp_i (y := nI (zwb b)) (by rw [Nat.mul_div_cancel_left _ (by decide)]) ?_
      refine zp_istore (ls' := [some (.ref (64)), some (.int (nI (zbi b))), some (.ref (p)), some (.int (nI (xs.length))), some (.int (nI (8 * zwb b))), some (.int (nI (16 * zwb b))), some (.int (nI (ztot b xs.length))), some (.int (nI (zwb b))), none]) dX11_digest_209 (by decide) rfl ?_
      refine zp_iconst (v := nI (0)) dX11_digest_211 (by decide) ?_
      refine zp_istore (ls' := [some (.ref (64)), some (.int (nI (zbi b))), some (.ref (p)), some (.int (nI (xs.length))), some (.int (nI (8 * zwb b))), some (.int (nI (16 * zwb b))), some (.int (nI (ztot b xs.length))), some (.int (nI (zwb b))), some (.int (nI (0)))]) dX11_digest_212 (by decide) rfl ?_
      refine zp_pc (pc' := 214) rfl ?_
      have lp19 : zP g mX11_digest (zR 3 0 0) Qf 0 0 266 [some (.ref (64)), some (.int (nI (zbi b))), some (.ref (p)), some (.int (nI (xs.length))), some (.int (nI (8 * zwb b))), some (.int (nI (16 * zwb b))), some (.int (nI (ztot b xs.length))), some (.int (nI (zwb b))), some (.int (nI (8 * zwb b)))] [] (va_up h1 (74) (some (.inr (64, .inl (zfl f74 (0) (8 * zwb b) (fun i => nI ((zhash b xs).getD i 0))))))) n → ∀ (m k19 : Nat), m = (8 * zwb b) - k19 → k19 ≤ (8 * zwb b) → zP g mX11_digest (zR 3 0 0) Qf 0 0 214 [some (.ref (64)), some (.int (nI (zbi b))), some (.ref (p)), some (.int (nI (xs.length))), some (.int (nI (8 * zwb b))), some (.int (nI (16 * zwb b))), some (.int (nI (ztot b xs.length))), some (.int (nI (zwb b))), some (.int (nI (k19)))] [] (va_up h1 (74) (some (.inr (64, .inl (zfl f74 (0) (k19) (fun i => nI ((zhash b xs).getD i 0))))))) n := by
        intro kk m
        induction m using Nat.strongRecOn with
        | _ m ih =>
          intro k19 hm19 hk19
          refine zp_nh (fun hX19 eX19 => ?_)
          have k20_0 := (congrFun eX19 (64)).trans ((va_up_ne _ _ (by omega)).trans m13)
          have k20_1 := (congrFun eX19 (65)).trans ((va_up_ne _ _ (by omega)).trans m14)
          have k20_2 := (congrFun eX19 (66)).trans ((va_up_ne _ _ (by omega)).trans m15)
          have k20_3 := (congrFun eX19 (70)).trans ((va_up_ne _ _ (by omega)).trans m16)
          have k20_4 : hX19 (74) = some (.inr (64, .inl (zfl f74 (0) (k19) (fun i => nI ((zhash b xs).getD i 0))))) := by rw [eX19]; exact va_up_self _ _ _
          have k20_5 := (congrFun eX19 (p)).trans ((va_up_ne _ _ (by omega)).trans m18)
          have k20_6 := (congrFun eX19 (71)).trans ((va_up_ne _ _ (by omega)).trans e71)
          have k20_7 := (congrFun eX19 (72)).trans ((va_up_ne _ _ (by omega)).trans e72)
          have k20_8 := (congrFun eX19 (73)).trans ((va_up_ne _ _ (by omega)).trans e73)
          refine zp_iload dX11_digest_214 rfl ?_
          refine zp_bipush (v := nI (8)) dX11_digest_216 (by decide) ?_
          refine zp_iload dX11_digest_218 rfl ?_
          refine zn_imul dX11_digest_220 ?_
          refine zp_pc (pc' := 221) rfl ?_
          refine zn_icmp_ge (tgt := 266) dX11_digest_221 (by decide) (by omega) (by omega) (fun c221 => ?_) (fun c221 => ?_)
          · have e19 : k19 = (8 * zwb b) := by omega
            subst e19
            rw [eX19]
            exact kk
          · have kd8 : k19 / zwb b < 8 := (Nat.div_lt_iff_lt_mul (by omega)).mpr (by omega)
            have km := Nat.mod_lt k19 (show zwb b > 0 by omega)
            refine zp_aload_n dX11_digest_224 rfl ?_
            refine zp_get dX11_digest_225 gX11_38_10 k20_0 rfl ?_
            refine zp_iload dX11_digest_228 rfl ?_
            refine zp_aload_n dX11_digest_230 rfl ?_
            refine zp_get dX11_digest_231 gX11_32_10 k20_0 rfl ?_
            refine zp_iload dX11_digest_234 rfl ?_
            refine zp_iload dX11_digest_236 rfl ?_
            refine zn_idiv dX11_digest_238 (by omega) (by omega) (by omega) ?_
            refine zp_pc (pc' := 239) rfl ?_
            refine zn_lald (j := (k19) / (zwb b)) dX11_digest_239 k20_7 (by omega) (by omega) ?_
            refine zp_l (y := z8f (zblk b xs B) (k19 / zwb b)) (eg2 _ kd8) ?_
            refine zp_bipush (v := nI (8)) dX11_digest_240 (by decide) ?_
            refine zp_iload dX11_digest_242 rfl ?_
            refine zp_iconst (v := nI (1)) dX11_digest_244 (by decide) ?_
            refine zn_isub dX11_digest_245 (by omega) ?_
            refine zp_iload dX11_digest_246 rfl ?_
            refine zp_iload dX11_digest_248 rfl ?_
            refine zn_irem dX11_digest_250 (by omega) (by omega) (by omega) ?_
            refine zn_isub dX11_digest_251 (by omega) ?_
            refine zn_imul dX11_digest_252 ?_
            refine zp_lushr dX11_digest_253 ?_
            refine zp_ldc2 dX11_digest_254 kcX11_155 ?_
            refine zp_land dX11_digest_257 ?_
            refine zp_pc (pc' := 258) rfl ?_
            refine zp_pc (pc' := 258) rfl ?_
            refine zp_l2i dX11_digest_258 ?_
            refine zp_i (y := nI ((zhash b xs).getD k19 0)) (by rw [zhash_getD b xs (by omega), ← eB]; exact zlbyte2 _ (by omega)) ?_
            refine zn_iast dX11_digest_259 (by omega) k20_4 (by omega) (by omega) ?_
            refine zp_nh (fun h21x eh21x => ?_)
            have k21_0 := (congrFun eh21x (64)).trans ((va_up_ne _ _ (by omega)).trans k20_0)
            have k21_1 := (congrFun eh21x (65)).trans ((va_up_ne _ _ (by omega)).trans k20_1)
            have k21_2 := (congrFun eh21x (66)).trans ((va_up_ne _ _ (by omega)).trans k20_2)
            have k21_3 := (congrFun eh21x (70)).trans ((va_up_ne _ _ (by omega)).trans k20_3)
            have k21_4 : h21x (74) = some (.inr (64, .inl (va_up (zfl f74 (0) (k19) (fun i => nI ((zhash b xs).getD i 0))) (k19) (nI ((zhash b xs).getD k19 0))))) := by rw [eh21x]; exact va_up_self _ _ _
            have k21_5 := (congrFun eh21x (p)).trans ((va_up_ne _ _ (by omega)).trans k20_5)
            have k21_6 := (congrFun eh21x (71)).trans ((va_up_ne _ _ (by omega)).trans k20_6)
            have k21_7 := (congrFun eh21x (72)).trans ((va_up_ne _ _ (by omega)).trans k20_7)
            have k21_8 := (congrFun eh21x (73)).trans ((va_up_ne _ _ (by omega)).trans k20_8)
            refine zn_iinc 1 (ls' := [some (.ref (64)), some (.int (nI (zbi b))), some (.ref (p)), some (.int (nI (xs.length))), some (.int (nI (8 * zwb b))), some (.int (nI (16 * zwb b))), some (.int (nI (ztot b xs.length))), some (.int (nI (zwb b))), some (.int (nI (k19 + 1)))]) dX11_digest_260 (by decide) (by decide) rfl rfl ?_
            refine zp_goto (tgt := 214) dX11_digest_263 (by decide) ?_
            refine zp_pc (pc' := 214) rfl ?_
            rw [zfl_step eX19 eh21x (by omega) rfl]
            exact ih ((8 * zwb b) - (k19 + 1)) (by omega) (k19 + 1) rfl (by omega)
      suffices K19 : zP g mX11_digest (zR 3 0 0) Qf 0 0 266 [some (.ref (64)), some (.int (nI (zbi b))), some (.ref (p)), some (.int (nI (xs.length))), some (.int (nI (8 * zwb b))), some (.int (nI (16 * zwb b))), some (.int (nI (ztot b xs.length))), some (.int (nI (zwb b))), some (.int (nI (8 * zwb b)))] [] (va_up h1 (74) (some (.inr (64, .inl (zfl f74 (0) (8 * zwb b) (fun i => nI ((zhash b xs).getD i 0))))))) n by
        have q := lp19 K19 ((8 * zwb b) - 0) 0 rfl (Nat.zero_le _)
        rw [zfl_0, zup_same m17] at q
        exact q
      refine zp_nh (fun hY19 eY19 => ?_)
      have k22_0 := (congrFun eY19 (64)).trans ((va_up_ne _ _ (by omega)).trans m13)
      have k22_1 := (congrFun eY19 (65)).trans ((va_up_ne _ _ (by omega)).trans m14)
      have k22_2 := (congrFun eY19 (66)).trans ((va_up_ne _ _ (by omega)).trans m15)
      have k22_3 := (congrFun eY19 (70)).trans ((va_up_ne _ _ (by omega)).trans m16)
      have k22_4 : hY19 (74) = some (.inr (64, .inl (zfl f74 (0) (8 * zwb b) (fun i => nI ((zhash b xs).getD i 0))))) := by rw [eY19]; exact va_up_self _ _ _
      have k22_5 := (congrFun eY19 (p)).trans ((va_up_ne _ _ (by omega)).trans m18)
      have k22_6 := (congrFun eY19 (71)).trans ((va_up_ne _ _ (by omega)).trans e71)
      have k22_7 := (congrFun eY19 (72)).trans ((va_up_ne _ _ (by omega)).trans e72)
      have k22_8 := (congrFun eY19 (73)).trans ((va_up_ne _ _ (by omega)).trans e73)
      have sA : zsm h hY19 (zb3 70 74) := (((((zsm.fill eY1)).mono (fun i hi => by unfold zb3; unfold zon at hi; omega)).trans (((zsm.fill eY8)).mono (fun i hi => by unfold zb3; unfold zon at hi; omega))).trans ((s1).mono (fun i hi => by unfold zb3; unfold zb3 at hi; omega))).trans (((zsm.fill eY19)).mono (fun i hi => by unfold zb3; unfold zon at hi; omega))
      refine zp_ret (v := none) dX11_digest_266 ⟨rfl, rfl⟩ (by decide) (by decide) ?_
      rw [hQ]
      exact ⟨rfl, rfl, sA, zar.mk (L := 8 * zwb b) k22_4 (zhash_len b xs) (by omega) (by decide) (zhash_lt b xs) (fun j hj => by rw [zfl_in0 hj]), t1.sm sA (fun i hi => by unfold zb3 at hi; omega), k22_1, k22_2, ⟨_, k22_3⟩, ⟨_, k22_6⟩, ⟨_, k22_7⟩, ⟨_, k22_8⟩, ⟨_, k22_4⟩⟩
    have lp : ∀ (m : Nat) (c : Nat) (h1 : ZH) (g1 g2 g3 : Nat → Int64), m = B - c → c ≤ B → zsm hY8 h1 (zb3 71 73) → h1 71 = some (.inr (80, .inr (.inl g1))) → h1 72 = some (.inr (8, .inr (.inl g2))) → h1 73 = some (.inr (8, .inr (.inl g3))) → (∀ j, j < 8 → g2 j = z8f (zblk b xs c) j) → zP g mX11_digest (zR 3 0 0) Qf 0 0 179 [some (.ref (64)), some (.int (nI (zbi b))), some (.ref (p)), some (.int (nI (xs.length))), some (.int (nI (8 * zwb b))), some (.int (nI (16 * zwb b))), some (.int (nI (ztot b xs.length))), some (.int (nI (16 * zwb b * c))), none] [] h1 n := by
      intro m
      induction m using Nat.strongRecOn with
      | _ m ih =>
        intro c h1 g1 g2 g3 hm hc s1 e71 e72 e73 eg2
        have m23 : h1 (64) = some (.inl (10, [.int (th), .ref (65), .ref (66), .ref (67), .ref (68), .ref (69), .ref (70), .ref (71), .ref (72), .ref (73), .ref (74), .ref (75), .ref (76), .ref (77), .ref (78), .ref (79), .ref (80), .ref (81), .ref (82), .ref (83), .ref (84), .int (nI (wt)), .int (nI (zbi un)), .int (rp), .int (wi), .int (pa), .int (be), .int (ru), .int (sa), .int (me), .int (se), .int (ta), .int (fa), .ref (85), .ref (86), .ref (87), .int (nI (mn)), .ref (88), .ref (89), .ref (90), .ref (91), .ref (92), .ref (93), .int (nI (tp)), .ref (94), .int (nI (ou))])) := (s1 _ (by unfold zb3; omega)).trans k12_0
        have m24 : h1 (65) = some (.inr (80, .inr (.inl (fun j => zt_ROUND.getD j 0)))) := (s1 _ (by unfold zb3; omega)).trans k12_1
        have m25 : h1 (66) = some (.inr (8, .inr (.inl (fun j => zt_FIRST.getD j 0)))) := (s1 _ (by unfold zb3; omega)).trans k12_2
        have m26 : h1 (70) = some (.inr (1200, .inl (zfl f70 (0) (ztot b xs.length) (zpad b xs)))) := (s1 _ (by unfold zb3; omega)).trans k12_3
        have m27 : h1 (74) = some (.inr (64, .inl f74)) := (s1 _ (by unfold zb3; omega)).trans k12_7
        have m28 : h1 (p) = some (.inr (N, .inl fx)) := (s1 _ (by unfold zb3; omega)).trans k12_8
        have hcB := Nat.mul_le_mul (Nat.le_refl (16 * zwb b)) hc
        refine zp_iload dX11_digest_179 rfl ?_
        refine zp_iload dX11_digest_181 rfl ?_
        refine zp_pc (pc' := 183) rfl ?_
        refine zn_icmp_ge (tgt := 204) dX11_digest_183 (by decide) (by omega) (by omega) (fun c183 => ?_) (fun c183 => ?_)
        · have ec : c = B := by rcases Nat.lt_or_ge c B with q | q; have := Nat.mul_le_mul (Nat.le_refl (16 * zwb b)) (show c + 1 ≤ B from q); rw [Nat.mul_add, Nat.mul_one] at this; omega; omega
          subst ec
          refine zp_drop (ls' := [some (.ref (64)), some (.int (nI (zbi b))), some (.ref (p)), some (.int (nI (xs.length))), some (.int (nI (8 * zwb b))), some (.int (nI (16 * zwb b))), some (.int (nI (ztot b xs.length))), none, none]) (fun i v hv => ?_) ?_
          · rcases i with _ | _ | _ | _ | _ | _ | _ | _ | _ | i <;> simp at hv ⊢ <;> exact hv
          exact fin h1 g1 g2 g3 s1 e71 e72 e73 eg2
        · have cB : c < B := by rcases Nat.lt_or_ge c B with q | q; exact q; have := Nat.mul_le_mul (Nat.le_refl (16 * zwb b)) q; omega
          have hcB1 := Nat.mul_le_mul (Nat.le_refl (16 * zwb b)) (show c + 1 ≤ B from cB)
          rw [Nat.mul_add, Nat.mul_one] at hcB1
          have sT : zsm h h1 (zb3 70 74) := ((((zsm.fill eY1)).mono (fun i hi => by unfold zb3; unfold zon at hi; omega)).trans (((zsm.fill eY8)).mono (fun i hi => by unfold zb3; unfold zon at hi; omega))).trans ((s1).mono (fun i hi => by unfold zb3; unfold zb3 at hi; omega))
          refine zp_aload_n dX11_digest_186 rfl ?_
          refine zp_iload dX11_digest_187 rfl ?_
          refine zp_iload dX11_digest_189 rfl ?_
          refine zp_pc (pc' := 191) rfl ?_
          refine zp_callV (As := [.int (nI (8 * zwb b)), .int (nI (16 * zwb b * c))]) (k := 64) (st := []) (ci := 10) dX11_digest_191 cX11_151 rfl m23 rfl rfl (e_mround (b := b) (s := zblk b xs c) (t1.sm sT (fun i hi => by unfold zb3 at hi; omega)) m23 m24 m26 e71 e72 e73 eg2 (by omega)) (by decide) (by decide) (Nat.le_of_ble_eq_true rfl) (fun v29 h29 n29 q29 => ?_)
          obtain ⟨rfl, N29, s29, ⟨fh29, eh29, zh29⟩, ⟨fw29, w29⟩, ⟨fs29, fs129⟩⟩ := q29
          rw [N29]
          refine zp_nrm (cells' := 0) (slots' := 0) (st' := []) rfl rfl rfl ?_
          refine zp_iload dX11_digest_194 rfl ?_
          refine zp_iload dX11_digest_196 rfl ?_
          refine zn_iadd dX11_digest_198 ?_
          refine zp_pc (pc' := 199) rfl ?_
          refine zp_istore (ls' := [some (.ref (64)), some (.int (nI (zbi b))), some (.ref (p)), some (.int (nI (xs.length))), some (.int (nI (8 * zwb b))), some (.int (nI (16 * zwb b))), some (.int (nI (ztot b xs.length))), some (.int (nI ((16 * zwb b * c) + (16 * zwb b)))), none]) dX11_digest_199 (by decide) rfl ?_
          refine zp_ls (ls' := [some (.ref (64)), some (.int (nI (zbi b))), some (.ref (p)), some (.int (nI (xs.length))), some (.int (nI (8 * zwb b))), some (.int (nI (16 * zwb b))), some (.int (nI (ztot b xs.length))), some (.int (nI (16 * zwb b * (c + 1)))), none]) (by rw [Nat.mul_add, Nat.mul_one]) ?_
          refine zp_goto (tgt := 179) dX11_digest_201 (by decide) ?_
          refine zp_pc (pc' := 179) rfl ?_
          refine ih (B - (c + 1)) (by omega) (c + 1) h29 fw29 fh29 fs29 rfl (by omega) (s1.trans s29) w29 eh29 fs129 (fun j hj => (zh29 j hj).trans ?_)
          show z8f (zcomp b (zsch b (zfl f70 (0) (ztot b xs.length) (zpad b xs)) (16 * zwb b * c) (zrn b - 16)) (zblk b xs c)) j = z8f (zcomp b (zsch b (zpad b xs) (16 * zwb b * c) (zrn b - 16)) (zblk b xs c)) j
          rw [zcomp_congr (zblk b xs c) (w := zsch b (zfl f70 (0) (ztot b xs.length) (zpad b xs)) (16 * zwb b * c) (zrn b - 16)) (w' := zsch b (zpad b xs) (16 * zwb b * c) (zrn b - 16)) (fun t ht => zsch_congr (fun i h1 h2 => zfl_in0 (by omega)) _ t (by have := zrn_ge b; omega))]
    exact lp _ 0 hY8 f71 _ f73 rfl (Nat.zero_le _) zsm.rf k12_4 k12_5 k12_6 (fun j hj => by rw [zfl_in0 hj]; exact zfirst_f b j hj)
  refine zp_iload_n dX11_digest_0 rfl ?_
  refine zp_pc (pc' := 1) rfl ?_
  refine zn_if_eq (tgt := 9) dX11_digest_1 (by decide) (by omega) (fun c1 => ?_) (fun c1 => ?_)
  · have bb : b = false := by cases b; rfl; exact absurd c1 (by decide)
    refine zp_bipush (v := nI (32)) dX11_digest_9 (by decide) ?_
    refine zp_istore (ls' := [some (.ref (64)), some (.int (nI (zbi b))), some (.ref (p)), some (.int (nI (xs.length))), some (.int (nI (32))), none, none, none, none]) dX11_digest_11 (by decide) rfl ?_
    refine zp_iload_n dX11_digest_13 rfl ?_
    refine zp_pc (pc' := 14) rfl ?_
    refine zn_if_eq (tgt := 23) dX11_digest_14 (by decide) (by omega) (fun c14 => ?_) (fun c14 => ?_)
    · refine zp_bipush (v := nI (64)) dX11_digest_23 (by decide) ?_
      refine zp_istore (ls' := [some (.ref (64)), some (.int (nI (zbi b))), some (.ref (p)), some (.int (nI (xs.length))), some (.int (nI (32))), some (.int (nI (64))), none, none, none]) dX11_digest_25 (by decide) rfl ?_
      refine zp_pc (pc' := 27) rfl ?_
      subst bb
      exact cont
    · rw [bb] at c14; exact absurd rfl c14
  · have bb : b = true := by cases b; exact absurd rfl c1; rfl
    refine zp_bipush (v := nI (64)) dX11_digest_4 (by decide) ?_
    refine zp_goto (tgt := 11) dX11_digest_6 (by decide) ?_
    refine zp_istore (ls' := [some (.ref (64)), some (.int (nI (zbi b))), some (.ref (p)), some (.int (nI (xs.length))), some (.int (nI (64))), none, none, none, none]) dX11_digest_11 (by decide) rfl ?_
    refine zp_iload_n dX11_digest_13 rfl ?_
    refine zp_pc (pc' := 14) rfl ?_
    refine zn_if_eq (tgt := 23) dX11_digest_14 (by decide) (by omega) (fun c14 => ?_) (fun c14 => ?_)
    · rw [bb] at c14; exact absurd c14 (by decide)
    · refine zp_sipush (v := nI (128)) dX11_digest_17 (by decide) ?_
      refine zp_goto (tgt := 25) dX11_digest_20 (by decide) ?_
      refine zp_istore (ls' := [some (.ref (64)), some (.int (nI (zbi b))), some (.ref (p)), some (.int (nI (xs.length))), some (.int (nI (64))), some (.int (nI (128))), none, none, none]) dX11_digest_25 (by decide) rfl ?_
      refine zp_pc (pc' := 27) rfl ?_
      subst bb
      exact cont
