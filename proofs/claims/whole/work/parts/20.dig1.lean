set_option maxRecDepth 10000 in
set_option maxHeartbeats 2000000 in
theorem e_turned {g : ZG} {h : ZH} {n : Nat} {d : Nat} {b : Bool} {x : Int64} {k : Int32} (hd : h d = some (zdo b d)) : zMt g mX3_turned (zR 0 0 0) [.ref (d), .long (x), .int (k)] h n (fun v h' n' => v = some (.long (ztn b x k)) ∧ h' = h ∧ n' = n) := by
  refine zMt.of [some (.ref (d)), some (.long (x)), none, some (.int (k))] (by decide) rfl (Nat.le_of_ble_eq_true rfl) ?_
  refine zp_lload_n dX3_turned_0 rfl ?_
  refine zp_iload_n dX3_turned_1 rfl ?_
  refine zp_lushr dX3_turned_2 ?_
  refine zp_lload_n dX3_turned_3 rfl ?_
  refine zp_aload_n dX3_turned_4 rfl ?_
  refine zp_get dX3_turned_5 gX3_36_3 hd rfl ?_
  refine zp_iload_n dX3_turned_8 rfl ?_
  refine zp_isub dX3_turned_9 ?_
  refine zp_lshl dX3_turned_10 ?_
  refine zp_lor dX3_turned_11 ?_
  refine zp_aload_n dX3_turned_12 rfl ?_
  refine zp_get dX3_turned_13 gX3_41_3 hd rfl ?_
  refine zp_pc (pc' := 16) rfl ?_
  refine zp_land dX3_turned_16 ?_
  refine zp_pc (pc' := 17) rfl ?_
  refine zp_ret (v := (some (.long ((((((x : Int64)).toUInt64 >>> (((k : Int32)).toInt64.toUInt64 &&& Int64.toUInt64 63)).toInt64) ||| ((x) <<< ((((nI (8 * zwb b)) - (k) : Int32)).toInt64 &&& 63))) &&& (zmask b))))) dX3_turned_17 ⟨rfl, rfl⟩ (by decide) (by decide) ?_
  exact ⟨rfl, rfl, rfl⟩
set_option maxRecDepth 10000 in
set_option maxHeartbeats 2000000 in
theorem e_pad {g : ZG} {h : ZH} {n : Nat} {d : Nat} {b : Bool} {xs : List Nat} {f : Nat → Int32} (hd : h d = some (zdo b d)) (h16 : 16 ≤ d) (h1 : h (d + 1) = some (.inr (640, .inl f))) (hl : xs.length ≤ 512) (hf : ∀ i, i < xs.length → f i = nI (xs.getD i 0)) : zMt g mX3_pad (zR 0 0 0) [.ref (d), .int (nI (xs.length))] h n (fun v h' n' => v = some (.int (nI (ztot b xs.length))) ∧ n' = n ∧ zsm h h' (fun i => i = d + 1) ∧ ∃ f', h' (d + 1) = some (.inr (640, .inl f')) ∧ ∀ i, i < ztot b xs.length → f' i = zpad b xs i) := by
  refine zMt.of [some (.ref (d)), some (.int (nI (xs.length))), none, none] (by decide) rfl (Nat.le_of_ble_eq_true rfl) ?_
  obtain ⟨Qf, hQ⟩ : ∃ Qf : ZQ, Qf = (fun v h' n' => v = some (.int (nI (ztot b xs.length))) ∧ n' = n ∧ zsm h h' (fun i => i = d + 1) ∧ ∃ f', h' (d + 1) = some (.inr (640, .inl f')) ∧ ∀ i, i < ztot b xs.length → f' i = zpad b xs i) := ⟨_, rfl⟩
  rw [← hQ]
  have hw := zwb_or b
  obtain ⟨t1, t2, -⟩ := ztot_le b hl
  refine zp_iload_n dX3_pad_0 rfl ?_
  refine zp_iconst (v := nI (1)) dX3_pad_1 (by decide) ?_
  refine zn_iadd dX3_pad_2 ?_
  refine zp_iconst (v := nI (2)) dX3_pad_3 (by decide) ?_
  refine zp_aload_n dX3_pad_4 rfl ?_
  refine zp_get dX3_pad_5 gX3_32_3 hd rfl ?_
  refine zn_imul dX3_pad_8 ?_
  refine zn_iadd dX3_pad_9 ?_
  refine zp_aload_n dX3_pad_10 rfl ?_
  refine zp_get dX3_pad_11 gX3_48_3 hd rfl ?_
  refine zn_iadd dX3_pad_14 ?_
  refine zp_iconst (v := nI (1)) dX3_pad_15 (by decide) ?_
  refine zp_pc (pc' := 16) rfl ?_
  refine zn_isub dX3_pad_16 (by omega) ?_
  refine zp_aload_n dX3_pad_17 rfl ?_
  refine zp_get dX3_pad_18 gX3_48_3 hd rfl ?_
  refine zp_ineg dX3_pad_21 ?_
  refine zp_iand dX3_pad_22 ?_
  refine zp_pc (pc' := 23) rfl ?_
  refine zp_i (y := nI (ztot b xs.length)) (ztot_eq b hl) ?_
  refine zp_istore_n (ls' := [some (.ref (d)), some (.int (nI (xs.length))), some (.int (nI (ztot b xs.length))), none]) dX3_pad_23 (by decide) rfl ?_
  refine zp_aload_n dX3_pad_24 rfl ?_
  refine zp_get dX3_pad_25 gX3_9_3 hd rfl ?_
  refine zp_iload_n dX3_pad_28 rfl ?_
  refine zp_sipush (v := nI (128)) dX3_pad_29 (by decide) ?_
  refine zn_iast dX3_pad_32 (by omega) h1 (by omega) (by omega) ?_
  refine zp_nh (fun h1x eh1x => ?_)
  have k1_0 := (congrFun eh1x (d)).trans ((va_up_ne _ _ (by omega)).trans hd)
  have k1_1 : h1x (d + 1) = some (.inr (640, .inl (va_up f (xs.length) (nI (128))))) := by rw [eh1x]; exact va_up_self _ _ _
  refine zp_iload_n dX3_pad_33 rfl ?_
  refine zp_iconst (v := nI (1)) dX3_pad_34 (by decide) ?_
  refine zn_iadd dX3_pad_35 ?_
  refine zp_istore_n (ls' := [some (.ref (d)), some (.int (nI (xs.length))), some (.int (nI (ztot b xs.length))), some (.int (nI ((xs.length) + (1))))]) dX3_pad_36 (by decide) rfl ?_
  refine zp_pc (pc' := 37) rfl ?_
  have s0 : zsm h h1x (fun i => i = d + 1) := zsm.rf.up eh1x rfl
  have f0 : ∀ i, i < xs.length → va_up f xs.length (nI 128) i = nI (xs.getD i 0) := fun i hi => by rw [va_up_ne _ _ (by omega)]; exact hf i hi
  have lp : ∀ (m : Nat) (c : Nat) (g1 : ZH) (f1 : Nat → Int32), m = ztot b xs.length - c → (xs.length < c ∧ c ≤ ztot b xs.length) → zsm h g1 (fun i => i = d + 1) → g1 (d + 1) = some (.inr (640, .inl f1)) → (∀ i, i < xs.length → f1 i = nI (xs.getD i 0)) → f1 xs.length = nI 128 → (∀ i, xs.length < i → i < c → f1 i = nI 0) → zP g mX3_pad (zR 0 0 0) Qf 0 0 37 [some (.ref (d)), some (.int (nI (xs.length))), some (.int (nI (ztot b xs.length))), some (.int (nI (c)))] [] g1 n := by
    intro m
    induction m using Nat.strongRecOn with
    | _ m ih =>
      intro c g1 f1 hm hc hs b1 hlo hmid hz
      have bd : g1 d = some (zdo b d) := (hs d (by omega)).trans hd
      refine zp_iload_n dX3_pad_37 rfl ?_
      refine zp_iload_n dX3_pad_38 rfl ?_
      refine zp_pc (pc' := 39) rfl ?_
      refine zn_icmp_ge (tgt := 55) dX3_pad_39 (by decide) (by omega) (by omega) (fun c39 => ?_) (fun c39 => ?_)
      · refine zp_bipush (v := nI (8)) dX3_pad_55 (by decide) ?_
        refine zp_iload_n dX3_pad_57 rfl ?_
        refine zn_imul dX3_pad_58 ?_
        refine zp_istore_n (ls' := [some (.ref (d)), some (.int (nI (xs.length))), some (.int (nI (ztot b xs.length))), some (.int (nI ((8) * (xs.length))))]) dX3_pad_59 (by decide) rfl ?_
        refine zp_aload_n dX3_pad_60 rfl ?_
        refine zp_get dX3_pad_61 gX3_9_3 bd rfl ?_
        refine zp_iload_n dX3_pad_64 rfl ?_
        refine zp_iconst (v := nI (2)) dX3_pad_65 (by decide) ?_
        refine zn_isub dX3_pad_66 (by omega) ?_
        refine zp_iload_n dX3_pad_67 rfl ?_
        refine zp_bipush (v := nI (8)) dX3_pad_68 (by decide) ?_
        refine zp_iushr dX3_pad_70 ?_
        refine zp_pc (pc' := 71) rfl ?_
        refine zp_pc (pc' := 71) rfl ?_
        refine zp_i (y := nI (8 * xs.length / 256)) (by rw [zushr8 (by omega)]) ?_
        refine zn_iast dX3_pad_71 (by omega) b1 (by omega) (by omega) ?_
        refine zp_nh (fun h2x eh2x => ?_)
        have k2_0 := (congrFun eh2x (d)).trans ((va_up_ne _ _ (by omega)).trans bd)
        have k2_1 : h2x (d + 1) = some (.inr (640, .inl (va_up f1 ((ztot b xs.length) - (2)) (nI (8 * xs.length / 256))))) := by rw [eh2x]; exact va_up_self _ _ _
        refine zp_aload_n dX3_pad_72 rfl ?_
        refine zp_get dX3_pad_73 gX3_9_3 k2_0 rfl ?_
        refine zp_iload_n dX3_pad_76 rfl ?_
        refine zp_iconst (v := nI (1)) dX3_pad_77 (by decide) ?_
        refine zn_isub dX3_pad_78 (by omega) ?_
        refine zp_iload_n dX3_pad_79 rfl ?_
        refine zp_sipush (v := nI (255)) dX3_pad_80 (by decide) ?_
        refine zp_iand dX3_pad_83 ?_
        refine zp_pc (pc' := 84) rfl ?_
        refine zp_i (y := nI (8 * xs.length % 256)) (zandN (by omega)) ?_
        refine zn_iast dX3_pad_84 (by omega) k2_1 (by omega) (by omega) ?_
        refine zp_nh (fun h3x eh3x => ?_)
        have k3_0 := (congrFun eh3x (d)).trans ((va_up_ne _ _ (by omega)).trans k2_0)
        have k3_1 : h3x (d + 1) = some (.inr (640, .inl (va_up (va_up f1 ((ztot b xs.length) - (2)) (nI (8 * xs.length / 256))) ((ztot b xs.length) - (1)) (nI (8 * xs.length % 256))))) := by rw [eh3x]; exact va_up_self _ _ _
        refine zp_iload_n dX3_pad_85 rfl ?_
        refine zp_pc (pc' := 86) rfl ?_
        refine zp_ret (v := (some (.int (nI (ztot b xs.length))))) dX3_pad_86 ⟨⟨_, rfl, rfl⟩, rfl⟩ (by decide) (by decide) ?_
        rw [hQ]
        refine ⟨rfl, rfl, (hs.up eh2x rfl).up eh3x rfl, _, k3_1, fun i hi => ?_⟩
        unfold zpad
        by_cases e1 : i < xs.length
        · rw [if_pos e1, va_up_ne _ _ (by omega), va_up_ne _ _ (by omega)]; exact hlo i e1
        rw [if_neg e1]
        by_cases e2 : i = xs.length
        · rw [if_pos e2, va_up_ne _ _ (by omega), va_up_ne _ _ (by omega), e2]; exact hmid
        rw [if_neg e2]
        by_cases e3 : i = ztot b xs.length - 2
        · rw [if_pos e3, va_up_ne _ _ (by omega), e3, va_up_self]
        rw [if_neg e3]
        by_cases e4 : i = ztot b xs.length - 1
        · rw [if_pos e4, e4, va_up_self]
        rw [if_neg e4, va_up_ne _ _ e4, va_up_ne _ _ e3]
        exact hz i (by omega) (by omega)
      · refine zp_aload_n dX3_pad_42 rfl ?_
        refine zp_get dX3_pad_43 gX3_9_3 bd rfl ?_
        refine zp_iload_n dX3_pad_46 rfl ?_
        refine zp_iconst (v := nI (0)) dX3_pad_47 (by decide) ?_
        refine zn_iast dX3_pad_48 (by omega) b1 (by omega) (by omega) ?_
        refine zp_nh (fun h4x eh4x => ?_)
        have k4_0 := (congrFun eh4x (d)).trans ((va_up_ne _ _ (by omega)).trans bd)
        have k4_1 : h4x (d + 1) = some (.inr (640, .inl (va_up f1 (c) (nI (0))))) := by rw [eh4x]; exact va_up_self _ _ _
        refine zn_iinc 1 (ls' := [some (.ref (d)), some (.int (nI (xs.length))), some (.int (nI (ztot b xs.length))), some (.int (nI (c + 1)))]) dX3_pad_49 (by decide) (by decide) rfl rfl ?_
        refine zp_pc (pc' := 52) rfl ?_
        refine zp_goto (tgt := 37) dX3_pad_52 (by decide) ?_
        refine zp_pc (pc' := 37) rfl ?_
        refine ih (ztot b xs.length - (c + 1)) (by omega) (c + 1) h4x _ rfl (by omega) (hs.up eh4x rfl) k4_1 (fun i hi => ?_) ?_ (fun i h1 h2 => ?_)
        · rw [va_up_ne _ _ (by omega)]; exact hlo i hi
        · rw [va_up_ne _ _ (by omega)]; exact hmid
        · by_cases e : i = c
          · rw [e, va_up_self]
          · rw [va_up_ne _ _ e]; exact hz i h1 (by omega)
  exact lp _ (xs.length + 1) h1x _ rfl (by omega) s0 k1_1 f0 (va_up_self _ _ _) (fun i h1 h2 => absurd h1 (by omega))
set_option maxRecDepth 10000 in
set_option maxHeartbeats 2000000 in
theorem e_spread {g : ZG} {h : ZH} {n : Nat} {d a : Nat} {b : Bool} {f : Nat → Int32} {fw : Nat → Int64} (hd : h d = some (zdo b d)) (h16 : 16 ≤ d) (ht : ztab h) (h1 : h (d + 1) = some (.inr (640, .inl f))) (h3 : h (d + 3) = some (.inr (80, .inr (.inl fw)))) (ha : a + 16 * zwb b ≤ 640) : zMt g mX3_spread (zR 1 0 0) [.ref (d), .int (nI (a))] h n (fun v h' n' => v = none ∧ n' = n ∧ zsm h h' (fun i => i = d + 3) ∧ ∃ f', h' (d + 3) = some (.inr (80, .inr (.inl f'))) ∧ ∀ t, t < zrn b → f' t = zsch b f a (zrn b - 16) t) := by
  refine zMt.of [some (.ref (d)), some (.int (nI (a))), none, none, none, none, none, none, none, none, none] (by decide) rfl (Nat.le_of_ble_eq_true rfl) ?_
  obtain ⟨Qf, hQ⟩ : ∃ Qf : ZQ, Qf = (fun v h' n' => v = none ∧ n' = n ∧ zsm h h' (fun i => i = d + 3) ∧ ∃ f', h' (d + 3) = some (.inr (80, .inr (.inl f'))) ∧ ∀ t, t < zrn b → f' t = zsch b f a (zrn b - 16) t) := ⟨_, rfl⟩
  rw [← hQ]
  have hw := zwb_or b
  have hr := zrn_or b
  have ht5 := ztid_le b
  refine zp_iload_n dX3_spread_0 rfl ?_
  refine zp_pc (pc' := 1) rfl ?_
  refine zn_if_lt (tgt := 16) dX3_spread_1 (by decide) (by omega) ?_
  refine zp_iload_n dX3_spread_4 rfl ?_
  refine zp_sipush (v := nI (640)) dX3_spread_5 (by decide) ?_
  refine zp_aload_n dX3_spread_8 rfl ?_
  refine zp_get dX3_spread_9 gX3_48_3 hd rfl ?_
  refine zn_isub dX3_spread_12 (by omega) ?_
  refine zp_pc (pc' := 13) rfl ?_
  refine zn_icmp_le (tgt := 17) dX3_spread_13 (by decide) (by omega) (by omega) (fun c13 => ?_) (fun c13 => ?_)
  · refine zp_iconst (v := nI (0)) dX3_spread_17 (by decide) ?_
    refine zp_istore_n (ls' := [some (.ref (d)), some (.int (nI (a))), some (.int (nI (0))), none, none, none, none, none, none, none, none]) dX3_spread_18 (by decide) rfl ?_
    refine zp_pc (pc' := 19) rfl ?_
    have lp : ∀ (m : Nat) (t : Nat) (g1 : ZH) (f1 : Nat → Int64), m = 16 - t → t ≤ 16 → zsm h g1 (fun i => i = d + 3) → g1 (d + 3) = some (.inr (80, .inr (.inl f1))) → (∀ i, i < t → f1 i = zsch b f a 0 i) → zP g mX3_spread (zR 1 0 0) Qf 0 0 19 [some (.ref (d)), some (.int (nI (a))), some (.int (nI (t))), none, none, none, none, none, none, none, none] [] g1 n := by
      intro m
      induction m using Nat.strongRecOn with
      | _ m ih =>
        intro t g1 f1 hm hc hs b3 hlo
        have bd : g1 d = some (zdo b d) := (hs d (by omega)).trans hd
        have b1 : g1 (d + 1) = some (.inr (640, .inl f)) := (hs (d + 1) (by omega)).trans h1
        refine zp_iload_n dX3_spread_19 rfl ?_
        refine zp_bipush (v := nI (16)) dX3_spread_20 (by decide) ?_
        refine zp_pc (pc' := 22) rfl ?_
        refine zn_icmp_ge (tgt := 81) dX3_spread_22 (by decide) (by omega) (by omega) (fun c22 => ?_) (fun c22 => ?_)
        · refine zp_bipush (v := nI (16)) dX3_spread_81 (by decide) ?_
          refine zp_istore_n (ls' := [some (.ref (d)), some (.int (nI (a))), some (.int (nI (16))), none, none, none, none, none, none, none, none]) dX3_spread_83 (by decide) rfl ?_
          refine zp_pc (pc' := 84) rfl ?_
          refine zp_ls (ls' := [some (.ref (d)), some (.int (nI (a))), some (.int (nI (16 + 0))), none, none, none, none, none, none, none, none]) rfl ?_
          have b4 : ∀ i, i < 16 + 0 → f1 i = zsch b f a 0 i := fun i hi => hlo i (by omega)
          have lp2 : ∀ (m : Nat) (k : Nat) (g2 : ZH) (f2 : Nat → Int64), m = zrn b - (16 + k) → 16 + k ≤ zrn b → zsm h g2 (fun i => i = d + 3) → g2 (d + 3) = some (.inr (80, .inr (.inl f2))) → (∀ i, i < 16 + k → f2 i = zsch b f a k i) → zP g mX3_spread (zR 1 0 0) Qf 0 0 84 [some (.ref (d)), some (.int (nI (a))), some (.int (nI (16 + k))), none, none, none, none, none, none, none, none] [] g2 n := by
            intro m
            induction m using Nat.strongRecOn with
            | _ m ih =>
              intro k g2 f2 hm2 hk hs2 d3 hlo2
              have dd : g2 d = some (zdo b d) := (hs2 d (by omega)).trans hd
              have dt := (ht.sm hs2 (fun i hi => by omega)).turns b
              refine zp_iload_n dX3_spread_84 rfl ?_
              refine zp_aload_n dX3_spread_85 rfl ?_
              refine zp_get dX3_spread_86 gX3_51_3 dd rfl ?_
              refine zp_pc (pc' := 89) rfl ?_
              refine zn_icmp_ge (tgt := 225) dX3_spread_89 (by decide) (by omega) (by omega) (fun c89 => ?_) (fun c89 => ?_)
              · refine zp_ret (v := none) dX3_spread_225 ⟨rfl, rfl⟩ (by decide) (by decide) ?_
                rw [hQ]
                exact ⟨rfl, rfl, hs2, f2, d3, fun t ht => by rw [show zrn b - 16 = k by omega]; exact hlo2 t (by omega)⟩
              · refine zp_aload_n dX3_spread_92 rfl ?_
                refine zp_get dX3_spread_93 gX3_17_3 dd rfl ?_
                refine zp_iload_n dX3_spread_96 rfl ?_
                refine zp_bipush (v := nI (15)) dX3_spread_97 (by decide) ?_
                refine zn_isub dX3_spread_99 (by omega) ?_
                refine zn_lald (j := (16 + k) - (15)) dX3_spread_100 d3 (by omega) (by omega) ?_
                refine zp_pc (pc' := 101) rfl ?_
                refine zp_l (y := zsch b f a k (k + 1)) (by rw [show 16 + k - 15 = k + 1 by omega]; exact hlo2 _ (by omega)) ?_
                refine zp_lstore_n (ls' := [some (.ref (d)), some (.int (nI (a))), some (.int (nI (16 + k))), some (.long (zsch b f a k (k + 1))), none, none, none, none, none, none, none]) dX3_spread_101 (by decide) rfl ?_
                refine zp_aload_n dX3_spread_102 rfl ?_
                refine zp_get dX3_spread_103 gX3_17_3 dd rfl ?_
                refine zp_iload_n dX3_spread_106 rfl ?_
                refine zp_iconst (v := nI (2)) dX3_spread_107 (by decide) ?_
                refine zn_isub dX3_spread_108 (by omega) ?_
                refine zn_lald (j := (16 + k) - (2)) dX3_spread_109 d3 (by omega) (by omega) ?_
                refine zp_pc (pc' := 110) rfl ?_
                refine zp_l (y := zsch b f a k (k + 14)) (by rw [show 16 + k - 2 = k + 14 by omega]; exact hlo2 _ (by omega)) ?_
                refine zp_lstore (ls' := [some (.ref (d)), some (.int (nI (a))), some (.int (nI (16 + k))), some (.long (zsch b f a k (k + 1))), none, some (.long (zsch b f a k (k + 14))), none, none, none, none, none]) dX3_spread_110 (by decide) rfl ?_
                refine zp_aload_n dX3_spread_112 rfl ?_
                refine zp_lload_n dX3_spread_113 rfl ?_
                refine zp_aload_n dX3_spread_114 rfl ?_
                refine zp_get dX3_spread_115 gX3_60_3 dd rfl ?_
                refine zp_iconst (v := nI (0)) dX3_spread_118 (by decide) ?_
                refine zp_pc (pc' := 119) rfl ?_
                refine zn_iald (j := 0) dX3_spread_119 dt (by omega) (by omega) ?_
                refine zp_pc (pc' := 120) rfl ?_
                refine zp_i (y := ztu b 0) rfl ?_
                refine zp_callV (As := [.long (zsch b f a k (k + 1)), .int (ztu b 0)]) (k := d) (st := []) (ci := 3) dX3_spread_120 cX3_87 rfl dd rfl rfl (e_turned (b := b) (x := zsch b f a k (k + 1)) (k := ztu b 0) dd) (by decide) (by decide) (Nat.le_of_ble_eq_true rfl) (fun v1 h1 n1 q1 => ?_)
                obtain ⟨rfl, rfl, rfl⟩ := q1
                refine zp_nrm (cells' := 0) (slots' := 0) (st' := [.long (ztn b (zsch b f a k (k + 1)) (ztu b 0))]) rfl rfl rfl ?_
                refine zp_aload_n dX3_spread_123 rfl ?_
                refine zp_lload_n dX3_spread_124 rfl ?_
                refine zp_aload_n dX3_spread_125 rfl ?_
                refine zp_get dX3_spread_126 gX3_60_3 dd rfl ?_
                refine zp_iconst (v := nI (1)) dX3_spread_129 (by decide) ?_
                refine zp_pc (pc' := 130) rfl ?_
                refine zn_iald (j := 1) dX3_spread_130 dt (by omega) (by omega) ?_
                refine zp_pc (pc' := 131) rfl ?_
                refine zp_i (y := ztu b 1) rfl ?_
                refine zp_callV (As := [.long (zsch b f a k (k + 1)), .int (ztu b 1)]) (k := d) (st := [.long (ztn b (zsch b f a k (k + 1)) (ztu b 0))]) (ci := 3) dX3_spread_131 cX3_87 rfl dd rfl rfl (e_turned (b := b) (x := zsch b f a k (k + 1)) (k := ztu b 1) dd) (by decide) (by decide) (Nat.le_of_ble_eq_true rfl) (fun v2 h2 n2 q2 => ?_)
                obtain ⟨rfl, rfl, rfl⟩ := q2
                refine zp_nrm (cells' := 0) (slots' := 0) (st' := [.long (ztn b (zsch b f a k (k + 1)) (ztu b 1)), .long (ztn b (zsch b f a k (k + 1)) (ztu b 0))]) rfl rfl rfl ?_
                refine zp_lxor dX3_spread_134 ?_
                refine zp_lload_n dX3_spread_135 rfl ?_
                refine zp_aload_n dX3_spread_136 rfl ?_
                refine zp_get dX3_spread_137 gX3_60_3 dd rfl ?_
                refine zp_iconst (v := nI (2)) dX3_spread_140 (by decide) ?_
                refine zn_iald (j := 2) dX3_spread_141 dt (by omega) (by omega) ?_
                refine zp_lushr dX3_spread_142 ?_
                refine zp_lxor dX3_spread_143 ?_
                refine zp_pc (pc' := 144) rfl ?_
                refine zp_l (y := zg0 b (zsch b f a k (k + 1))) rfl ?_
                refine zp_lstore (ls' := [some (.ref (d)), some (.int (nI (a))), some (.int (nI (16 + k))), some (.long (zsch b f a k (k + 1))), none, some (.long (zsch b f a k (k + 14))), none, some (.long (zg0 b (zsch b f a k (k + 1)))), none, none, none]) dX3_spread_144 (by decide) rfl ?_
                refine zp_pc (pc' := 146) rfl ?_
                refine zp_aload_n dX3_spread_146 rfl ?_
                refine zp_lload dX3_spread_147 rfl ?_
                refine zp_aload_n dX3_spread_149 rfl ?_
                refine zp_get dX3_spread_150 gX3_60_3 dd rfl ?_
                refine zp_iconst (v := nI (3)) dX3_spread_153 (by decide) ?_
                refine zp_pc (pc' := 154) rfl ?_
                refine zn_iald (j := 3) dX3_spread_154 dt (by omega) (by omega) ?_
                refine zp_pc (pc' := 155) rfl ?_
                refine zp_i (y := ztu b 3) rfl ?_
                refine zp_callV (As := [.long (zsch b f a k (k + 14)), .int (ztu b 3)]) (k := d) (st := []) (ci := 3) dX3_spread_155 cX3_87 rfl dd rfl rfl (e_turned (b := b) (x := zsch b f a k (k + 14)) (k := ztu b 3) dd) (by decide) (by decide) (Nat.le_of_ble_eq_true rfl) (fun v3 h3 n3 q3 => ?_)
                obtain ⟨rfl, rfl, rfl⟩ := q3
                refine zp_nrm (cells' := 0) (slots' := 0) (st' := [.long (ztn b (zsch b f a k (k + 14)) (ztu b 3))]) rfl rfl rfl ?_
                refine zp_aload_n dX3_spread_158 rfl ?_
                refine zp_lload dX3_spread_159 rfl ?_
                refine zp_aload_n dX3_spread_161 rfl ?_
                refine zp_get dX3_spread_162 gX3_60_3 dd rfl ?_
                refine zp_iconst (v := nI (4)) dX3_spread_165 (by decide) ?_
                refine zp_pc (pc' := 166) rfl ?_
                refine zn_iald (j := 4) dX3_spread_166 dt (by omega) (by omega) ?_
                refine zp_pc (pc' := 167) rfl ?_
                refine zp_i (y := ztu b 4) rfl ?_
                refine zp_callV (As := [.long (zsch b f a k (k + 14)), .int (ztu b 4)]) (k := d) (st := [.long (ztn b (zsch b f a k (k + 14)) (ztu b 3))]) (ci := 3) dX3_spread_167 cX3_87 rfl dd rfl rfl (e_turned (b := b) (x := zsch b f a k (k + 14)) (k := ztu b 4) dd) (by decide) (by decide) (Nat.le_of_ble_eq_true rfl) (fun v4 h4 n4 q4 => ?_)
                obtain ⟨rfl, rfl, rfl⟩ := q4
                refine zp_nrm (cells' := 0) (slots' := 0) (st' := [.long (ztn b (zsch b f a k (k + 14)) (ztu b 4)), .long (ztn b (zsch b f a k (k + 14)) (ztu b 3))]) rfl rfl rfl ?_
                refine zp_lxor dX3_spread_170 ?_
                refine zp_lload dX3_spread_171 rfl ?_
                refine zp_aload_n dX3_spread_173 rfl ?_
                refine zp_get dX3_spread_174 gX3_60_3 dd rfl ?_
                refine zp_iconst (v := nI (5)) dX3_spread_177 (by decide) ?_
                refine zn_iald (j := 5) dX3_spread_178 dt (by omega) (by omega) ?_
                refine zp_lushr dX3_spread_179 ?_
                refine zp_lxor dX3_spread_180 ?_
                refine zp_pc (pc' := 181) rfl ?_
                refine zp_l (y := zg1 b (zsch b f a k (k + 14))) rfl ?_
                refine zp_lstore (ls' := [some (.ref (d)), some (.int (nI (a))), some (.int (nI (16 + k))), some (.long (zsch b f a k (k + 1))), none, some (.long (zsch b f a k (k + 14))), none, some (.long (zg0 b (zsch b f a k (k + 1)))), none, some (.long (zg1 b (zsch b f a k (k + 14)))), none]) dX3_spread_181 (by decide) rfl ?_
                refine zp_pc (pc' := 183) rfl ?_
                refine zp_aload_n dX3_spread_183 rfl ?_
                refine zp_get dX3_spread_184 gX3_17_3 dd rfl ?_
                refine zp_iload_n dX3_spread_187 rfl ?_
                refine zp_aload_n dX3_spread_188 rfl ?_
                refine zp_get dX3_spread_189 gX3_17_3 dd rfl ?_
                refine zp_iload_n dX3_spread_192 rfl ?_
                refine zp_bipush (v := nI (16)) dX3_spread_193 (by decide) ?_
                refine zn_isub dX3_spread_195 (by omega) ?_
                refine zn_lald (j := (16 + k) - (16)) dX3_spread_196 d3 (by omega) (by omega) ?_
                refine zp_pc (pc' := 197) rfl ?_
                refine zp_l (y := zsch b f a k k) (by rw [show 16 + k - 16 = k by omega]; exact hlo2 _ (by omega)) ?_
                refine zp_lload dX3_spread_197 rfl ?_
                refine zp_ladd dX3_spread_199 ?_
                refine zp_aload_n dX3_spread_200 rfl ?_
                refine zp_get dX3_spread_201 gX3_17_3 dd rfl ?_
                refine zp_iload_n dX3_spread_204 rfl ?_
                refine zp_bipush (v := nI (7)) dX3_spread_205 (by decide) ?_
                refine zn_isub dX3_spread_207 (by omega) ?_
                refine zn_lald (j := (16 + k) - (7)) dX3_spread_208 d3 (by omega) (by omega) ?_
                refine zp_pc (pc' := 209) rfl ?_
                refine zp_l (y := zsch b f a k (k + 9)) (by rw [show 16 + k - 7 = k + 9 by omega]; exact hlo2 _ (by omega)) ?_
                refine zp_ladd dX3_spread_209 ?_
                refine zp_lload dX3_spread_210 rfl ?_
                refine zp_ladd dX3_spread_212 ?_
                refine zp_aload_n dX3_spread_213 rfl ?_
                refine zp_get dX3_spread_214 gX3_41_3 dd rfl ?_
                refine zp_land dX3_spread_217 ?_
                refine zp_pc (pc' := 218) rfl ?_
                refine zp_l (y := zsch b f a (k + 1) (16 + k)) (by show _ = (if 16 + k = 16 + k then _ else _); rw [if_pos rfl]) ?_
                refine zn_last dX3_spread_218 (by omega) d3 (by omega) (by omega) ?_
                refine zp_nh (fun h5x eh5x => ?_)
                have k5_0 := (congrFun eh5x (d)).trans ((va_up_ne _ _ (by omega)).trans dd)
                have k5_1 : h5x (d + 3) = some (.inr (80, .inr (.inl (va_up f2 (16 + k) (zsch b f a (k + 1) (16 + k)))))) := by rw [eh5x]; exact va_up_self _ _ _
                have k5_2 := (congrFun eh5x (ztid b)).trans ((va_up_ne _ _ (by omega)).trans dt)
                refine zn_iinc 1 (ls' := [some (.ref (d)), some (.int (nI (a))), some (.int (nI (16 + k + 1))), some (.long (zsch b f a k (k + 1))), none, some (.long (zsch b f a k (k + 14))), none, some (.long (zg0 b (zsch b f a k (k + 1)))), none, some (.long (zg1 b (zsch b f a k (k + 14)))), none]) dX3_spread_219 (by decide) (by decide) rfl rfl ?_
                refine zp_pc (pc' := 222) rfl ?_
                refine zp_goto (tgt := 84) dX3_spread_222 (by decide) ?_
                refine zp_pc (pc' := 84) rfl ?_
                refine zp_ls (ls' := [some (.ref (d)), some (.int (nI (a))), some (.int (nI (16 + (k + 1)))), some (.long (zsch b f a k (k + 1))), none, some (.long (zsch b f a k (k + 14))), none, some (.long (zg0 b (zsch b f a k (k + 1)))), none, some (.long (zg1 b (zsch b f a k (k + 14)))), none]) (by rw [Nat.add_assoc]) ?_
                refine zp_drop (ls' := [some (.ref (d)), some (.int (nI (a))), some (.int (nI (16 + (k + 1)))), none, none, none, none, none, none, none, none]) (fun i v hv => ?_) ?_
                · rcases i with _ | _ | _ | i
                  · exact hv
                  · exact hv
                  · exact hv
                  · rcases i with _ | _ | _ | _ | _ | _ | _ | _ | i <;> simp at hv
                refine ih (zrn b - (16 + (k + 1))) (by omega) (k + 1) h5x _ rfl (by omega) (hs2.up eh5x rfl) k5_1 (fun i hi => ?_)
                by_cases e : i = 16 + k
                · rw [e, va_up_self]
                · rw [va_up_ne _ _ e]
                  show f2 i = (if i = 16 + k then _ else zsch b f a k i)
                  rw [if_neg e]
                  exact hlo2 i (by omega)
          exact lp2 _ 0 g1 f1 rfl (by omega) hs b3 b4
        · refine zp_lconst (v := 0) dX3_spread_25 (by decide) ?_
          refine zp_lstore_n (ls' := [some (.ref (d)), some (.int (nI (a))), some (.int (nI (t))), some (.long (0)), none, none, none, none, none, none, none]) dX3_spread_26 (by decide) rfl ?_
          refine zp_iconst (v := nI (0)) dX3_spread_27 (by decide) ?_
          refine zp_istore (ls' := [some (.ref (d)), some (.int (nI (a))), some (.int (nI (t))), some (.long (0)), none, some (.int (nI (0))), none, none, none, none, none]) dX3_spread_28 (by decide) rfl ?_
          refine zp_pc (pc' := 30) rfl ?_
          refine zp_ls (ls' := [some (.ref (d)), some (.int (nI (a))), some (.int (nI (t))), some (.long (zword f (a + zwb b * t) 0)), none, some (.int (nI (0))), none, none, none, none, none]) rfl ?_
          have iho := ih
          have lpi : ∀ (m : Nat) (j : Nat), m = zwb b - j → j ≤ zwb b → zP g mX3_spread (zR 1 0 0) Qf 0 0 30 [some (.ref (d)), some (.int (nI (a))), some (.int (nI (t))), some (.long (zword f (a + zwb b * t) j)), none, some (.int (nI (j))), none, none, none, none, none] [] g1 n := by
            intro m
            induction m using Nat.strongRecOn with
            | _ m ih =>
              intro j hmi hj
              refine zp_iload dX3_spread_30 rfl ?_
              refine zp_aload_n dX3_spread_32 rfl ?_
              refine zp_get dX3_spread_33 gX3_32_3 bd rfl ?_
              refine zp_pc (pc' := 36) rfl ?_
              refine zn_icmp_ge (tgt := 68) dX3_spread_36 (by decide) (by omega) (by omega) (fun c36 => ?_) (fun c36 => ?_)
              · have e : j = zwb b := by omega
                refine zp_ls (ls' := [some (.ref (d)), some (.int (nI (a))), some (.int (nI (t))), some (.long (zword f (a + zwb b * t) (zwb b))), none, some (.int (nI (j))), none, none, none, none, none]) (by rw [show j = zwb b by omega]) ?_
                refine zp_aload_n dX3_spread_68 rfl ?_
                refine zp_get dX3_spread_69 gX3_17_3 bd rfl ?_
                refine zp_iload_n dX3_spread_72 rfl ?_
                refine zp_lload_n dX3_spread_73 rfl ?_
                refine zn_last dX3_spread_74 (by omega) b3 (by omega) (by omega) ?_
                refine zp_nh (fun h6x eh6x => ?_)
                have k6_0 := (congrFun eh6x (d)).trans ((va_up_ne _ _ (by omega)).trans bd)
                have k6_1 := (congrFun eh6x (d + 1)).trans ((va_up_ne _ _ (by omega)).trans b1)
                have k6_2 : h6x (d + 3) = some (.inr (80, .inr (.inl (va_up f1 (t) (zword f (a + zwb b * t) (zwb b)))))) := by rw [eh6x]; exact va_up_self _ _ _
                refine zn_iinc 1 (ls' := [some (.ref (d)), some (.int (nI (a))), some (.int (nI (t + 1))), some (.long (zword f (a + zwb b * t) (zwb b))), none, some (.int (nI (j))), none, none, none, none, none]) dX3_spread_75 (by decide) (by decide) rfl rfl ?_
                refine zp_pc (pc' := 78) rfl ?_
                refine zp_goto (tgt := 19) dX3_spread_78 (by decide) ?_
                refine zp_pc (pc' := 19) rfl ?_
                refine zp_drop (ls' := [some (.ref (d)), some (.int (nI (a))), some (.int (nI (t + 1))), none, none, none, none, none, none, none, none]) (fun i v hv => ?_) ?_
                · rcases i with _ | _ | _ | i
                  · exact hv
                  · exact hv
                  · exact hv
                  · rcases i with _ | _ | _ | _ | _ | _ | _ | _ | i <;> simp at hv
                refine iho (16 - (t + 1)) (by omega) (t + 1) h6x _ rfl (by omega) (hs.up eh6x rfl) k6_2 (fun i hi => ?_)
                by_cases e : i = t
                · rw [e, va_up_self]; rfl
                · rw [va_up_ne _ _ e]; exact hlo i (by omega)
              · have hmul : zwb b * t + zwb b ≤ zwb b * 16 := by rw [← Nat.mul_succ]; exact Nat.mul_le_mul_left _ (by omega)
                refine zp_lload_n dX3_spread_39 rfl ?_
                refine zp_bipush (v := nI (8)) dX3_spread_40 (by decide) ?_
                refine zp_lshl dX3_spread_42 ?_
                refine zp_aload_n dX3_spread_43 rfl ?_
                refine zp_get dX3_spread_44 gX3_9_3 bd rfl ?_
                refine zp_iload_n dX3_spread_47 rfl ?_
                refine zp_aload_n dX3_spread_48 rfl ?_
                refine zp_get dX3_spread_49 gX3_32_3 bd rfl ?_
                refine zp_iload_n dX3_spread_52 rfl ?_
                refine zn_imul dX3_spread_53 ?_
                refine zn_iadd dX3_spread_54 ?_
                refine zp_iload dX3_spread_55 rfl ?_
                refine zp_pc (pc' := 57) rfl ?_
                refine zn_iadd dX3_spread_57 ?_
                refine zn_iald (j := ((a) + ((zwb b) * (t))) + (j)) dX3_spread_58 b1 (by omega) (by omega) ?_
                refine zp_i2l dX3_spread_59 ?_
                refine zp_lor dX3_spread_60 ?_
                refine zp_pc (pc' := 61) rfl ?_
                refine zp_l (y := zword f (a + zwb b * t) (j + 1)) rfl ?_
                refine zp_lstore_n (ls' := [some (.ref (d)), some (.int (nI (a))), some (.int (nI (t))), some (.long (zword f (a + zwb b * t) (j + 1))), none, some (.int (nI (j))), none, none, none, none, none]) dX3_spread_61 (by decide) rfl ?_
                refine zn_iinc 1 (ls' := [some (.ref (d)), some (.int (nI (a))), some (.int (nI (t))), some (.long (zword f (a + zwb b * t) (j + 1))), none, some (.int (nI (j + 1))), none, none, none, none, none]) dX3_spread_62 (by decide) (by decide) rfl rfl ?_
                refine zp_pc (pc' := 65) rfl ?_
                refine zp_goto (tgt := 30) dX3_spread_65 (by decide) ?_
                refine zp_pc (pc' := 30) rfl ?_
                exact ih (zwb b - (j + 1)) (by omega) (j + 1) rfl (by omega)
          exact lpi _ 0 rfl (Nat.zero_le _)
    exact lp _ 0 h fw rfl (Nat.zero_le _) zsm.rf h3 (fun i hi => absurd hi (Nat.not_lt_zero _))
  · exact absurd ha (by omega)
