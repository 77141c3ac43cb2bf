set_option maxRecDepth 10000 in
set_option maxHeartbeats 2000000 in
theorem e_plusRow {g : ZG} {h : ZH} {n : Nat} {r N : Nat} {xs : List Nat} {s K : Nat} {ys : List Nat} (hx : zrow h r N xs) (hy : zrow h s K ys) (hrs : r ≠ s) : zMt g mX7_plusRow (zR 0 0 0) [.ref (r), .ref (s)] h n (fun v h' n' => v = none ∧ n' = n ∧ zsm h h' (zrs r) ∧ zrow h' r N (znum (zval xs + zval ys) xs.length)) := by
  refine zMt.of [some (.ref (r)), some (.ref (s)), none, none, none] (by decide) rfl (Nat.le_of_ble_eq_true rfl) ?_
  obtain ⟨Qf, hQ⟩ : ∃ Qf : ZQ, Qf = (fun v h' n' => v = none ∧ n' = n ∧ zsm h h' (zrs r) ∧ zrow h' r N (znum (zval xs + zval ys) xs.length)) := ⟨_, rfl⟩
  rw [← hQ]
  obtain ⟨p1, p2⟩ := hx.apart hy
  have hK := hy.len
  obtain ⟨a0, a1, a2, a3, a4, f, a5, a6⟩ := id hx
  refine zp_iconst (v := nI (0)) dX7_plusRow_0 (by decide) ?_
  refine zp_istore_n (ls' := [some (.ref (r)), some (.ref (s)), some (.int (nI (0))), none, none]) dX7_plusRow_1 (by decide) rfl ?_
  refine zp_iconst (v := nI (1)) dX7_plusRow_2 (by decide) ?_
  refine zp_istore_n (ls' := [some (.ref (r)), some (.ref (s)), some (.int (nI (0))), some (.int (nI (1))), none]) dX7_plusRow_3 (by decide) rfl ?_
  refine zp_pc (pc' := 4) rfl ?_
  refine zp_ls (ls' := [some (.ref (r)), some (.ref (s)), some (.int (nI (zca (zval xs) (zval ys) 0))), some (.int (nI (1))), none]) (by rw [zca_0]) ?_
  refine zp_ls (ls' := [some (.ref (r)), some (.ref (s)), some (.int (nI (zca (zval xs) (zval ys) 0))), some (.int (nI (0 + 1))), none]) rfl ?_
  have lp : ∀ (m : Nat) (c : Nat) (h1 : ZH) (f1 : Nat → Int32), m = xs.length - c → c ≤ xs.length → zsm h h1 (zrs r) → h1 r = some (.inl (6, [.ref (r + 1), .int (nI xs.length)])) → h1 (r + 1) = some (.inr (N, .inl f1)) → (∀ i, xs.length - c ≤ i → i < xs.length → f1 i = nI (zdig (zval xs + zval ys) (xs.length - 1 - i))) → (∀ i, i < xs.length - c → f1 i = nI (xs.getD i 0)) → zP g mX7_plusRow (zR 0 0 0) Qf 0 0 4 [some (.ref (r)), some (.ref (s)), some (.int (nI (zca (zval xs) (zval ys) c))), some (.int (nI (c + 1))), none] [] h1 n := by
    intro m
    induction m using Nat.strongRecOn with
    | _ m ih =>
      intro c h1 f1 hm hc hs b1 b5 hlo hhi
      have y1 := hy.sm hs (Ne.symm hrs) (by omega) (by omega)
      have z1 := zca_le (zval xs) (zval ys) c
      have z2 := zdig_lt (zval xs) c
      have z3 := zdig_lt (zval ys) c
      obtain ⟨d0, d1, d2, d3, d4, f3, d5, d6⟩ := id y1
      refine zp_iload_n dX7_plusRow_4 rfl ?_
      refine zp_aload_n dX7_plusRow_5 rfl ?_
      refine zp_get dX7_plusRow_6 gX7_9_6 b1 rfl ?_
      refine zp_pc (pc' := 9) rfl ?_
      refine zn_icmp_gt (tgt := 78) dX7_plusRow_9 (by decide) (by omega) (by omega) (fun c9 => ?_) (fun c9 => ?_)
      · have e : c = xs.length := by omega
        refine zp_ret (v := none) dX7_plusRow_78 ⟨rfl, rfl⟩ (by decide) (by decide) ?_
        rw [hQ]
        exact ⟨rfl, rfl, hs, zrow.mk a0 b1 (znum_len ..) a2 a3 (znum_lt _ _) b5 (znum_mk (fun i hi => hlo i (by omega) hi))⟩
      · refine zp_aload_n dX7_plusRow_12 rfl ?_
        refine zp_get dX7_plusRow_13 gX7_9_6 d1 rfl ?_
        refine zp_iload_n dX7_plusRow_16 rfl ?_
        refine zp_isub dX7_plusRow_17 ?_
        refine zp_istore (ls' := [some (.ref (r)), some (.ref (s)), some (.int (nI (zca (zval xs) (zval ys) c))), some (.int (nI (c + 1))), some (.int ((nI (ys.length)) - (nI (c + 1))))]) dX7_plusRow_18 (by decide) rfl ?_
        refine zp_iload_n dX7_plusRow_20 rfl ?_
        refine zp_aload_n dX7_plusRow_21 rfl ?_
        refine zp_get dX7_plusRow_22 gX7_21_6 b1 rfl ?_
        refine zp_aload_n dX7_plusRow_25 rfl ?_
        refine zp_get dX7_plusRow_26 gX7_9_6 b1 rfl ?_
        refine zp_iload_n dX7_plusRow_29 rfl ?_
        refine zp_pc (pc' := 30) rfl ?_
        refine zn_isub dX7_plusRow_30 (by omega) ?_
        refine zn_iald (j := (xs.length) - (c + 1)) dX7_plusRow_31 b5 (by omega) (by omega) ?_
        refine zp_pc (pc' := 32) rfl ?_
        refine zp_i (y := nI (zdig (zval xs) c)) (by rw [hhi _ (by omega), zdig_get a4 (by omega), show xs.length - 1 - (xs.length - (c + 1)) = c by omega]) ?_
        refine zp_iload dX7_plusRow_32 rfl ?_
        refine zp_pc (pc' := 34) rfl ?_
        refine zp_if_lt (tgt := 47) dX7_plusRow_34 (by decide) (fun c34 => ?_) (fun c34 => ?_)
        · have e : ys.length ≤ c := by
            rcases Nat.lt_or_ge c ys.length with q | q
            · rw [pk_sub (by omega : c + 1 ≤ ys.length)] at c34; exact absurd c34 (nI_pos (by omega))
            · exact q
          refine zp_iconst (v := nI (0)) dX7_plusRow_47 (by decide) ?_
          refine zp_pc (pc' := 48) rfl ?_
          refine zp_i (y := nI (zdig (zval ys) c)) (by rw [zdig_big d4 e]) ?_
          refine zn_iadd dX7_plusRow_48 ?_
          refine zn_iadd dX7_plusRow_49 ?_
          refine zp_pc (pc' := 50) rfl ?_
          refine zp_istore_n (ls' := [some (.ref (r)), some (.ref (s)), some (.int (nI ((zca (zval xs) (zval ys) c) + ((zdig (zval xs) c) + (zdig (zval ys) c))))), some (.int (nI (c + 1))), some (.int ((nI (ys.length)) - (nI (c + 1))))]) dX7_plusRow_50 (by decide) rfl ?_
          refine zp_aload_n dX7_plusRow_51 rfl ?_
          refine zp_get dX7_plusRow_52 gX7_21_6 b1 rfl ?_
          refine zp_aload_n dX7_plusRow_55 rfl ?_
          refine zp_get dX7_plusRow_56 gX7_9_6 b1 rfl ?_
          refine zp_iload_n dX7_plusRow_59 rfl ?_
          refine zn_isub dX7_plusRow_60 (by omega) ?_
          refine zp_iload_n dX7_plusRow_61 rfl ?_
          refine zp_sipush (v := nI (255)) dX7_plusRow_62 (by decide) ?_
          refine zp_iand dX7_plusRow_65 ?_
          refine zp_pc (pc' := 66) rfl ?_
          refine zp_i (y := nI (zdig (zval xs + zval ys) c)) (by rw [zandN (by omega), zca_dig, Nat.add_assoc]) ?_
          refine zn_iast dX7_plusRow_66 (by omega) b5 (by omega) (by omega) ?_
          refine zp_nh (fun h1x eh1x => ?_)
          have k1_0 := (congrFun eh1x (r)).trans ((va_up_ne _ _ (by omega)).trans b1)
          have k1_1 : h1x (r + 1) = some (.inr (N, .inl (va_up f1 ((xs.length) - (c + 1)) (nI (zdig (zval xs + zval ys) c))))) := by rw [eh1x]; exact va_up_self _ _ _
          have k1_2 := (congrFun eh1x (s)).trans ((va_up_ne _ _ (by omega)).trans d1)
          have k1_3 := (congrFun eh1x (s + 1)).trans ((va_up_ne _ _ (by omega)).trans d5)
          refine zp_iload_n dX7_plusRow_67 rfl ?_
          refine zp_bipush (v := nI (8)) dX7_plusRow_68 (by decide) ?_
          refine zp_iushr dX7_plusRow_70 ?_
          refine zp_pc (pc' := 71) rfl ?_
          refine zp_i (y := nI (zca (zval xs) (zval ys) (c + 1))) (by rw [zushr8 (by omega), zca_succ, Nat.add_assoc]) ?_
          refine zp_istore_n (ls' := [some (.ref (r)), some (.ref (s)), some (.int (nI (zca (zval xs) (zval ys) (c + 1)))), some (.int (nI (c + 1))), some (.int ((nI (ys.length)) - (nI (c + 1))))]) dX7_plusRow_71 (by decide) rfl ?_
          refine zn_iinc 1 (ls' := [some (.ref (r)), some (.ref (s)), some (.int (nI (zca (zval xs) (zval ys) (c + 1)))), some (.int (nI (c + 1 + 1))), some (.int ((nI (ys.length)) - (nI (c + 1))))]) dX7_plusRow_72 (by decide) (by decide) rfl rfl ?_
          refine zp_pc (pc' := 75) rfl ?_
          refine zp_goto (tgt := 4) dX7_plusRow_75 (by decide) ?_
          refine zp_pc (pc' := 4) rfl ?_
          refine zp_drop (ls' := [some (.ref (r)), some (.ref (s)), some (.int (nI (zca (zval xs) (zval ys) (c + 1)))), some (.int (nI (c + 1 + 1))), none]) (fun i v hv => ?_) ?_
          · rcases i with _ | _ | _ | _ | _ | i <;> simp at hv ⊢ <;> exact hv
          refine ih (xs.length - (c + 1)) (by omega) (c + 1) h1x _ rfl (by omega) (hs.up eh1x (Or.inr rfl)) k1_0 k1_1 (fun i h1 hi => ?_) (fun i hi => ?_)
          · by_cases e : i = xs.length - (c + 1)
            · rw [e, va_up_self, show xs.length - 1 - (xs.length - (c + 1)) = c by omega]
            · rw [va_up_ne _ _ e]; exact hlo i (by omega) hi
          · rw [va_up_ne _ _ (by omega)]; exact hhi i (by omega)
        · have e : c < ys.length := by
            rcases Nat.lt_or_ge c ys.length with q | q
            · exact q
            · exact absurd (pk_sneg (by omega) (by omega)) c34
          refine zp_ls (ls' := [some (.ref (r)), some (.ref (s)), some (.int (nI (zca (zval xs) (zval ys) c))), some (.int (nI (c + 1))), some (.int (nI (ys.length - (c + 1))))]) (by rw [pk_sub (by omega : c + 1 ≤ ys.length)]) ?_
          refine zp_aload_n dX7_plusRow_37 rfl ?_
          refine zp_get dX7_plusRow_38 gX7_21_6 d1 rfl ?_
          refine zp_iload dX7_plusRow_41 rfl ?_
          refine zn_iald (j := ys.length - (c + 1)) dX7_plusRow_43 d5 (by omega) (by omega) ?_
          refine zp_pc (pc' := 44) rfl ?_
          refine zp_i (y := nI (zdig (zval ys) c)) (by rw [d6 _ (by omega), zdig_get d4 (by omega), show ys.length - 1 - (ys.length - (c + 1)) = c by omega]) ?_
          refine zp_goto (tgt := 48) dX7_plusRow_44 (by decide) ?_
          refine zp_pc (pc' := 48) rfl ?_
          refine zn_iadd dX7_plusRow_48 ?_
          refine zn_iadd dX7_plusRow_49 ?_
          refine zp_pc (pc' := 50) rfl ?_
          refine zp_istore_n (ls' := [some (.ref (r)), some (.ref (s)), some (.int (nI ((zca (zval xs) (zval ys) c) + ((zdig (zval xs) c) + (zdig (zval ys) c))))), some (.int (nI (c + 1))), some (.int (nI (ys.length - (c + 1))))]) dX7_plusRow_50 (by decide) rfl ?_
          refine zp_aload_n dX7_plusRow_51 rfl ?_
          refine zp_get dX7_plusRow_52 gX7_21_6 b1 rfl ?_
          refine zp_aload_n dX7_plusRow_55 rfl ?_
          refine zp_get dX7_plusRow_56 gX7_9_6 b1 rfl ?_
          refine zp_iload_n dX7_plusRow_59 rfl ?_
          refine zn_isub dX7_plusRow_60 (by omega) ?_
          refine zp_iload_n dX7_plusRow_61 rfl ?_
          refine zp_sipush (v := nI (255)) dX7_plusRow_62 (by decide) ?_
          refine zp_iand dX7_plusRow_65 ?_
          refine zp_pc (pc' := 66) rfl ?_
          refine zp_i (y := nI (zdig (zval xs + zval ys) c)) (by rw [zandN (by omega), zca_dig, Nat.add_assoc]) ?_
          refine zn_iast dX7_plusRow_66 (by omega) b5 (by omega) (by omega) ?_
          refine zp_nh (fun h2x eh2x => ?_)
          have k2_0 := (congrFun eh2x (r)).trans ((va_up_ne _ _ (by omega)).trans b1)
          have k2_1 : h2x (r + 1) = some (.inr (N, .inl (va_up f1 ((xs.length) - (c + 1)) (nI (zdig (zval xs + zval ys) c))))) := by rw [eh2x]; exact va_up_self _ _ _
          have k2_2 := (congrFun eh2x (s)).trans ((va_up_ne _ _ (by omega)).trans d1)
          have k2_3 := (congrFun eh2x (s + 1)).trans ((va_up_ne _ _ (by omega)).trans d5)
          refine zp_iload_n dX7_plusRow_67 rfl ?_
          refine zp_bipush (v := nI (8)) dX7_plusRow_68 (by decide) ?_
          refine zp_iushr dX7_plusRow_70 ?_
          refine zp_pc (pc' := 71) rfl ?_
          refine zp_i (y := nI (zca (zval xs) (zval ys) (c + 1))) (by rw [zushr8 (by omega), zca_succ, Nat.add_assoc]) ?_
          refine zp_istore_n (ls' := [some (.ref (r)), some (.ref (s)), some (.int (nI (zca (zval xs) (zval ys) (c + 1)))), some (.int (nI (c + 1))), some (.int (nI (ys.length - (c + 1))))]) dX7_plusRow_71 (by decide) rfl ?_
          refine zn_iinc 1 (ls' := [some (.ref (r)), some (.ref (s)), some (.int (nI (zca (zval xs) (zval ys) (c + 1)))), some (.int (nI (c + 1 + 1))), some (.int (nI (ys.length - (c + 1))))]) dX7_plusRow_72 (by decide) (by decide) rfl rfl ?_
          refine zp_pc (pc' := 75) rfl ?_
          refine zp_goto (tgt := 4) dX7_plusRow_75 (by decide) ?_
          refine zp_pc (pc' := 4) rfl ?_
          refine zp_drop (ls' := [some (.ref (r)), some (.ref (s)), some (.int (nI (zca (zval xs) (zval ys) (c + 1)))), some (.int (nI (c + 1 + 1))), none]) (fun i v hv => ?_) ?_
          · rcases i with _ | _ | _ | _ | _ | i <;> simp at hv ⊢ <;> exact hv
          refine ih (xs.length - (c + 1)) (by omega) (c + 1) h2x _ rfl (by omega) (hs.up eh2x (Or.inr rfl)) k2_0 k2_1 (fun i h1 hi => ?_) (fun i hi => ?_)
          · by_cases e : i = xs.length - (c + 1)
            · rw [e, va_up_self, show xs.length - 1 - (xs.length - (c + 1)) = c by omega]
            · rw [va_up_ne _ _ e]; exact hlo i (by omega) hi
          · rw [va_up_ne _ _ (by omega)]; exact hhi i (by omega)
  exact lp _ 0 h f rfl (Nat.zero_le _) zsm.rf a1 a5 (fun i h1 hi => absurd hi (by omega)) (fun i hi => a6 i hi)
set_option maxRecDepth 10000 in
set_option maxHeartbeats 2000000 in
theorem e_plusNumber {g : ZG} {h : ZH} {n : Nat} {r N : Nat} {xs : List Nat} {k : Nat} (hx : zrow h r N xs) (hk : k < 2 ^ 20) : zMt g mX7_plusNumber (zR 0 0 0) [.ref (r), .int (nI (k))] h n (fun v h' n' => v = none ∧ n' = n ∧ zsm h h' (zrs r) ∧ zrow h' r N (znum (zval xs + k) xs.length)) := by
  refine zMt.of [some (.ref (r)), some (.int (nI (k))), none, none] (by decide) rfl (Nat.le_of_ble_eq_true rfl) ?_
  obtain ⟨Qf, hQ⟩ : ∃ Qf : ZQ, Qf = (fun v h' n' => v = none ∧ n' = n ∧ zsm h h' (zrs r) ∧ zrow h' r N (znum (zval xs + k) xs.length)) := ⟨_, rfl⟩
  rw [← hQ]
  obtain ⟨a0, a1, a2, a3, a4, f, a5, a6⟩ := id hx
  refine zp_iload_n dX7_plusNumber_0 rfl ?_
  refine zp_istore_n (ls' := [some (.ref (r)), some (.int (nI (k))), some (.int (nI (k))), none]) dX7_plusNumber_1 (by decide) rfl ?_
  refine zp_aload_n dX7_plusNumber_2 rfl ?_
  refine zp_get dX7_plusNumber_3 gX7_9_6 a1 rfl ?_
  refine zp_iconst (v := nI (1)) dX7_plusNumber_6 (by decide) ?_
  refine zp_isub dX7_plusNumber_7 ?_
  refine zp_pc (pc' := 8) rfl ?_
  refine zp_i (y := nI (xs.length) - 1) rfl ?_
  refine zp_istore_n (ls' := [some (.ref (r)), some (.int (nI (k))), some (.int (nI (k))), some (.int (nI (xs.length) - 1))]) dX7_plusNumber_8 (by decide) rfl ?_
  refine zp_pc (pc' := 9) rfl ?_
  refine zp_ls (ls' := [some (.ref (r)), some (.int (nI (k))), some (.int (nI (zck (zval xs) k 0))), some (.int (nI (xs.length) - 1))]) (by rw [zck_0]) ?_
  refine zp_ls (ls' := [some (.ref (r)), some (.int (nI (k))), some (.int (nI (zck (zval xs) k 0))), some (.int (nI (xs.length - 0) - 1))]) rfl ?_
  have lp : ∀ (m : Nat) (c : Nat) (h1 : ZH) (f1 : Nat → Int32), m = xs.length - c → c ≤ xs.length → zsm h h1 (zrs r) → h1 r = some (.inl (6, [.ref (r + 1), .int (nI xs.length)])) → h1 (r + 1) = some (.inr (N, .inl f1)) → (∀ i, xs.length - c ≤ i → i < xs.length → f1 i = nI (zdig (zval xs + k) (xs.length - 1 - i))) → (∀ i, i < xs.length - c → f1 i = nI (xs.getD i 0)) → zP g mX7_plusNumber (zR 0 0 0) Qf 0 0 9 [some (.ref (r)), some (.int (nI (k))), some (.int (nI (zck (zval xs) k c))), some (.int (nI (xs.length - c) - 1))] [] h1 n := by
    intro m
    induction m using Nat.strongRecOn with
    | _ m ih =>
      intro c h1 f1 hm hc hs b1 b5 hlo hhi
      have z1 := zck_le (zval xs) k c hk
      have z2 := zdig_lt (zval xs) c
      refine zp_iload_n dX7_plusNumber_9 rfl ?_
      refine zp_pc (pc' := 10) rfl ?_
      refine zp_if_lt (tgt := 44) dX7_plusNumber_10 (by decide) (fun c10 => ?_) (fun c10 => ?_)
      · have e := (zpred_lt (by omega)).mp c10
        refine zp_ret (v := none) dX7_plusNumber_44 ⟨rfl, rfl⟩ (by decide) (by decide) ?_
        rw [hQ]
        exact ⟨rfl, rfl, hs, zrow.mk a0 b1 (znum_len ..) a2 a3 (znum_lt _ _) b5 (znum_mk (fun i hi => hlo i (by omega) hi))⟩
      · have e : xs.length - c ≠ 0 := fun e => c10 ((zpred_lt (by omega)).mpr e)
        refine zp_ls (ls' := [some (.ref (r)), some (.int (nI (k))), some (.int (nI (zck (zval xs) k c))), some (.int (nI (xs.length - (c + 1))))]) (by rw [show xs.length - c = xs.length - (c + 1) + 1 by omega, nI_pred]) ?_
        refine zp_iload_n dX7_plusNumber_13 rfl ?_
        refine zp_aload_n dX7_plusNumber_14 rfl ?_
        refine zp_get dX7_plusNumber_15 gX7_21_6 b1 rfl ?_
        refine zp_iload_n dX7_plusNumber_18 rfl ?_
        refine zn_iald (j := xs.length - (c + 1)) dX7_plusNumber_19 b5 (by omega) (by omega) ?_
        refine zp_pc (pc' := 20) rfl ?_
        refine zp_i (y := nI (zdig (zval xs) c)) (by rw [hhi _ (by omega), zdig_get a4 (by omega), show xs.length - 1 - (xs.length - (c + 1)) = c by omega]) ?_
        refine zn_iadd dX7_plusNumber_20 ?_
        refine zp_istore_n (ls' := [some (.ref (r)), some (.int (nI (k))), some (.int (nI ((zck (zval xs) k c) + (zdig (zval xs) c)))), some (.int (nI (xs.length - (c + 1))))]) dX7_plusNumber_21 (by decide) rfl ?_
        refine zp_aload_n dX7_plusNumber_22 rfl ?_
        refine zp_get dX7_plusNumber_23 gX7_21_6 b1 rfl ?_
        refine zp_iload_n dX7_plusNumber_26 rfl ?_
        refine zp_iload_n dX7_plusNumber_27 rfl ?_
        refine zp_sipush (v := nI (255)) dX7_plusNumber_28 (by decide) ?_
        refine zp_iand dX7_plusNumber_31 ?_
        refine zp_pc (pc' := 32) rfl ?_
        refine zp_i (y := nI (zdig (zval xs + k) c)) (by rw [zandN (by omega), zck_dig]) ?_
        refine zn_iast dX7_plusNumber_32 (by omega) b5 (by omega) (by omega) ?_
        refine zp_nh (fun h1x eh1x => ?_)
        have k1_0 := (congrFun eh1x (r)).trans ((va_up_ne _ _ (by omega)).trans b1)
        have k1_1 : h1x (r + 1) = some (.inr (N, .inl (va_up f1 (xs.length - (c + 1)) (nI (zdig (zval xs + k) c))))) := by rw [eh1x]; exact va_up_self _ _ _
        refine zp_iload_n dX7_plusNumber_33 rfl ?_
        refine zp_bipush (v := nI (8)) dX7_plusNumber_34 (by decide) ?_
        refine zp_iushr dX7_plusNumber_36 ?_
        refine zp_pc (pc' := 37) rfl ?_
        refine zp_i (y := nI (zck (zval xs) k (c + 1))) (by rw [zushr8 (by omega), zck_succ]) ?_
        refine zp_istore_n (ls' := [some (.ref (r)), some (.int (nI (k))), some (.int (nI (zck (zval xs) k (c + 1)))), some (.int (nI (xs.length - (c + 1))))]) dX7_plusNumber_37 (by decide) rfl ?_
        refine zp_pc (pc' := 38) rfl ?_
        refine zp_iinc (v := nI (xs.length - (c + 1)) - 1) (ls' := [some (.ref (r)), some (.int (nI (k))), some (.int (nI (zck (zval xs) k (c + 1)))), some (.int (nI (xs.length - (c + 1)) - 1))]) dX7_plusNumber_38 (by decide) rfl (zdec _) rfl ?_
        refine zp_goto (tgt := 9) dX7_plusNumber_41 (by decide) ?_
        refine zp_pc (pc' := 9) rfl ?_
        refine ih (xs.length - (c + 1)) (by omega) (c + 1) h1x _ rfl (by omega) (hs.up eh1x (Or.inr rfl)) k1_0 k1_1 (fun i h1 hi => ?_) (fun i hi => ?_)
        · by_cases e : i = xs.length - (c + 1)
          · rw [e, va_up_self, show xs.length - 1 - (xs.length - (c + 1)) = c by omega]
          · rw [va_up_ne _ _ e]; exact hlo i (by omega) hi
        · rw [va_up_ne _ _ (by omega)]; exact hhi i (by omega)
  exact lp _ 0 h f rfl (Nat.zero_le _) zsm.rf a1 a5 (fun i h1 hi => absurd hi (by omega)) (fun i hi => a6 i hi)
set_option maxRecDepth 10000 in
set_option maxHeartbeats 2000000 in
theorem e_copyTo {g : ZG} {h : ZH} {n : Nat} {r N : Nat} {xs : List Nat} {t K q : Nat} {ft : Nat → Int32} (hx : zrow h r N xs) (ht : h t = some (.inr (K, .inl ft))) (h16 : 16 ≤ t) (hK : K < 1000000) (hq : q < 1000000) (htr : t ≠ r + 1) : zMt g mX7_copyTo (zR 1 0 0) [.ref (r), .ref (t), .int (nI (q))] h n (fun v h' n' => v = some (.int (nI (min (min xs.length K) q))) ∧ n' = n ∧ zsm h h' (fun i => i = t) ∧ ∃ f', h' t = some (.inr (K, .inl f')) ∧ (∀ i, i < min (min xs.length K) q → f' i = nI (xs.getD i 0)) ∧ (∀ i, min (min xs.length K) q ≤ i → f' i = ft i)) := by
  refine zMt.of [some (.ref (r)), some (.ref (t)), some (.int (nI (q))), none, none] (by decide) rfl (Nat.le_of_ble_eq_true rfl) ?_
  obtain ⟨Qf, hQ⟩ : ∃ Qf : ZQ, Qf = (fun v h' n' => v = some (.int (nI (min (min xs.length K) q))) ∧ n' = n ∧ zsm h h' (fun i => i = t) ∧ ∃ f', h' t = some (.inr (K, .inl f')) ∧ (∀ i, i < min (min xs.length K) q → f' i = nI (xs.getD i 0)) ∧ (∀ i, min (min xs.length K) q ≤ i → f' i = ft i)) := ⟨_, rfl⟩
  rw [← hQ]
  obtain ⟨a0, a1, a2, a3, a4, f, a5, a6⟩ := id hx
  have htr2 : t ≠ r := fun e => by rw [e, a1] at ht; cases ht
  refine zp_aload_n dX7_copyTo_0 rfl ?_
  refine zp_get dX7_copyTo_1 gX7_9_6 a1 rfl ?_
  refine zp_aload_n dX7_copyTo_4 rfl ?_
  refine zp_ilen dX7_copyTo_5 ht ?_
  refine zp_pc (pc' := 6) rfl ?_
  refine zp_mmin dX7_copyTo_6 cX7_29 (by decide) (by decide) (Nat.le_of_ble_eq_true rfl) ?_
  refine zp_i (y := nI (min (xs.length) (K))) (zmin_nI (by omega) (by omega)) ?_
  refine zp_iload_n dX7_copyTo_9 rfl ?_
  refine zp_pc (pc' := 10) rfl ?_
  refine zp_mmin dX7_copyTo_10 cX7_29 (by decide) (by decide) (Nat.le_of_ble_eq_true rfl) ?_
  refine zp_i (y := nI (min (min (xs.length) (K)) (q))) (zmin_nI (by omega) (by omega)) ?_
  refine zp_istore_n (ls' := [some (.ref (r)), some (.ref (t)), some (.int (nI (q))), some (.int (nI (min (min (xs.length) (K)) (q)))), none]) dX7_copyTo_13 (by decide) rfl ?_
  refine zp_iconst (v := nI (0)) dX7_copyTo_14 (by decide) ?_
  refine zp_istore (ls' := [some (.ref (r)), some (.ref (t)), some (.int (nI (q))), some (.int (nI (min (min (xs.length) (K)) (q)))), some (.int (nI (0)))]) dX7_copyTo_15 (by decide) rfl ?_
  refine zp_pc (pc' := 17) rfl ?_
  have lp : ∀ (m : Nat) (k : Nat) (h1 : ZH) (f1 : Nat → Int32), m = min (min (xs.length) (K)) (q) - k → k ≤ min (min (xs.length) (K)) (q) → zsm h h1 (fun i => i = t) → h1 t = some (.inr (K, .inl f1)) → (∀ i, i < k → f1 i = nI (xs.getD i 0)) → (∀ i, k ≤ i → f1 i = ft i) → zP g mX7_copyTo (zR 1 0 0) Qf 0 0 17 [some (.ref (r)), some (.ref (t)), some (.int (nI (q))), some (.int (nI (min (min (xs.length) (K)) (q)))), some (.int (nI (k)))] [] h1 n := by
    intro m
    induction m using Nat.strongRecOn with
    | _ m ih =>
      intro k h1 f1 hm hk hs b5 hlo hhi
      have y1 : zrow h1 r N xs := hx.keep (hs r (fun e => htr2 e.symm)) (hs (r + 1) (fun e => htr e.symm))
      obtain ⟨d0, d1, d2, d3, d4, f3, d5, d6⟩ := id y1
      refine zp_iload dX7_copyTo_17 rfl ?_
      refine zp_iload_n dX7_copyTo_19 rfl ?_
      refine zp_pc (pc' := 20) rfl ?_
      refine zn_icmp_ge (tgt := 40) dX7_copyTo_20 (by decide) (by omega) (by omega) (fun c20 => ?_) (fun c20 => ?_)
      · have e : k = min (min (xs.length) (K)) (q) := by omega
        refine zp_iload_n dX7_copyTo_40 rfl ?_
        refine zp_pc (pc' := 41) rfl ?_
        refine zp_ret (v := (some (.int (nI (min (min (xs.length) (K)) (q)))))) dX7_copyTo_41 ⟨⟨_, rfl, rfl⟩, rfl⟩ (by decide) (by decide) ?_
        rw [hQ]
        exact ⟨rfl, rfl, hs, f1, b5, fun i hi => hlo i (by omega), fun i hi => hhi i (by omega)⟩
      · refine zp_aload_n dX7_copyTo_23 rfl ?_
        refine zp_iload dX7_copyTo_24 rfl ?_
        refine zp_aload_n dX7_copyTo_26 rfl ?_
        refine zp_get dX7_copyTo_27 gX7_21_6 d1 rfl ?_
        refine zp_iload dX7_copyTo_30 rfl ?_
        refine zn_iald (j := k) dX7_copyTo_32 d5 (by omega) (by omega) ?_
        refine zp_pc (pc' := 33) rfl ?_
        refine zp_i (y := nI (xs.getD k 0)) (d6 _ (by omega)) ?_
        refine zn_iast dX7_copyTo_33 (by omega) b5 (by omega) (by omega) ?_
        refine zp_nh (fun h1x eh1x => ?_)
        have k1_0 := (congrFun eh1x (r)).trans ((va_up_ne _ _ (by omega)).trans d1)
        have k1_1 := (congrFun eh1x (r + 1)).trans ((va_up_ne _ _ (by omega)).trans d5)
        have k1_2 : h1x (t) = some (.inr (K, .inl (va_up f1 (k) (nI (xs.getD k 0))))) := by rw [eh1x]; exact va_up_self _ _ _
        refine zn_iinc 1 (ls' := [some (.ref (r)), some (.ref (t)), some (.int (nI (q))), some (.int (nI (min (min (xs.length) (K)) (q)))), some (.int (nI (k + 1)))]) dX7_copyTo_34 (by decide) (by decide) rfl rfl ?_
        refine zp_pc (pc' := 37) rfl ?_
        refine zp_goto (tgt := 17) dX7_copyTo_37 (by decide) ?_
        refine zp_pc (pc' := 17) rfl ?_
        refine ih (min (min (xs.length) (K)) (q) - (k + 1)) (by omega) (k + 1) h1x _ rfl (by omega) (hs.up eh1x rfl) k1_2 (fun i hi => ?_) (fun i hi => ?_)
        · by_cases e : i = k
          · rw [e, va_up_self]
          · rw [va_up_ne _ _ e]; exact hlo i (by omega)
        · rw [va_up_ne _ _ (by omega)]; exact hhi i (by omega)
  exact lp _ 0 h ft rfl (Nat.zero_le _) zsm.rf ht (fun i hi => absurd hi (Nat.not_lt_zero _)) (fun i _ => rfl)
