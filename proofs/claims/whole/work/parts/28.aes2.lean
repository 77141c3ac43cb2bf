set_option maxRecDepth 10000 in
set_option maxHeartbeats 2000000 in
theorem e_extendSchedule {g : ZG} {h : ZH} {n : Nat} {c u : Nat} {b : Bool} {rd : Int32} {K : Nat → Nat} {f : Nat → Int32} (h16 : 16 ≤ c) (ht : ztab h) (h0 : h c = some (zco c rd)) (h1 : h (c + 1) = some (.inr (240, .inl f))) (hu : u < zsn b) (hKb : ∀ i, K i < 256) (hf : ∀ i, i < zkl b + 4 * u → f i = nI (K i)) : zMt g mX0_extendSchedule (zR 0 0 0) [.ref (c), .int (nI (zkl b + 4 * u)), .int (nI (zkl b)), .int (nI (4 * u % zkl b))] h n (fun v h' n' => v = none ∧ n' = n ∧ zsm h h' (fun i => i = c + 1) ∧ ∃ f', h' (c + 1) = some (.inr (240, .inl f')) ∧ (∀ i, i < zkl b + 4 * u → f' i = nI (K i)) ∧ ∀ j, j < 4 → f' (zkl b + 4 * u + j) = nI (zwd b K u j)) := by
  refine zMt.of [some (.ref (c)), some (.int (nI (zkl b + 4 * u))), some (.int (nI (zkl b))), some (.int (nI (4 * u % zkl b))), none, none, none] (by decide) rfl (Nat.le_of_ble_eq_true rfl) ?_
  obtain ⟨Qf, hQ⟩ : ∃ Qf : ZQ, Qf = (fun v h' n' => v = none ∧ n' = n ∧ zsm h h' (fun i => i = c + 1) ∧ ∃ f', h' (c + 1) = some (.inr (240, .inl f')) ∧ (∀ i, i < zkl b + 4 * u → f' i = nI (K i)) ∧ ∀ j, j < 4 → f' (zkl b + 4 * u + j) = nI (zwd b K u j)) := ⟨_, rfl⟩
  rw [← hQ]
  have hz := zkl_or b
  have hp : 4 * u % zkl b < 32 := Nat.lt_of_lt_of_le (Nat.mod_lt _ (by omega)) (by omega)
  obtain ⟨p, hpe⟩ : ∃ p, p = 4 * u % zkl b := ⟨_, rfl⟩
  rw [← hpe] at hp ⊢
  have lp : ∀ (m : Nat) (j : Nat) (g1 : ZH) (f1 : Nat → Int32) (q : Nat), m = 4 - j → j ≤ 4 → (q ≤ 1 ∧ (q = 0 ↔ ¬ (p = 0 ∨ p = 16))) → zsm h g1 (fun i => i = c + 1) → g1 (c + 1) = some (.inr (240, .inl f1)) → (∀ i, i < zkl b + 4 * u → f1 i = nI (K i)) → (∀ i, i < j → f1 (zkl b + 4 * u + i) = nI (zwd b K u i)) → zP g mX0_extendSchedule (zR 0 0 0) Qf 0 0 20 [some (.ref (c)), some (.int (nI (zkl b + 4 * u))), some (.int (nI (zkl b))), some (.int (nI (p))), some (.int (nI (q))), some (.int (nI (j))), none] [] g1 n := by
    intro m
    induction m using Nat.strongRecOn with
    | _ m ih =>
      intro j g1 f1 q hm hj hq hs b1 hlo hhi
      have b0 : g1 c = some (zco c rd) := (hs c (by omega)).trans h0
      have bB := (ht.sm hs (fun i hi => by omega)).1
      refine zp_iload dX0_extendSchedule_20 rfl ?_
      refine zp_iconst (v := nI (4)) dX0_extendSchedule_22 (by decide) ?_
      refine zp_pc (pc' := 23) rfl ?_
      refine zn_icmp_ge (tgt := 99) dX0_extendSchedule_23 (by decide) (by omega) (by omega) (fun c23 => ?_) (fun c23 => ?_)
      · refine zp_ret (v := none) dX0_extendSchedule_99 ⟨rfl, rfl⟩ (by decide) (by decide) ?_
        rw [hQ]
        exact ⟨rfl, rfl, hs, f1, b1, hlo, fun i hi => hhi i (by omega)⟩
      · refine zp_aload_n dX0_extendSchedule_26 rfl ?_
        refine zp_get dX0_extendSchedule_27 gX0_9_0 b0 rfl ?_
        refine zp_iload_n dX0_extendSchedule_30 rfl ?_
        refine zp_iconst (v := nI (4)) dX0_extendSchedule_31 (by decide) ?_
        refine zn_isub dX0_extendSchedule_32 (by omega) ?_
        refine zp_iload_n dX0_extendSchedule_33 rfl ?_
        refine zp_pc (pc' := 34) rfl ?_
        refine zn_if_ne (tgt := 46) dX0_extendSchedule_34 (by decide) (by omega) (fun c34 => ?_) (fun c34 => ?_)
        · refine zp_iload dX0_extendSchedule_46 rfl ?_
          refine zp_pc (pc' := 48) rfl ?_
          refine zn_iadd dX0_extendSchedule_48 ?_
          refine zp_pc (pc' := 49) rfl ?_
          have hx6 : f1 (zkl b + 4 * u - 4 + j) = nI (K (zkl b + 4 * u - 4 + j)) := hlo _ (by omega)
          refine zn_iald (j := ((zkl b + 4 * u) - (4)) + (j)) dX0_extendSchedule_49 b1 (by omega) (by omega) ?_
          refine zp_pc (pc' := 50) rfl ?_
          refine zp_i (y := nI (K (zkl b + 4 * u - 4 + j))) hx6 ?_
          refine zp_istore (ls' := [some (.ref (c)), some (.int (nI (zkl b + 4 * u))), some (.int (nI (zkl b))), some (.int (nI (p))), some (.int (nI (q))), some (.int (nI (j))), some (.int (nI (K (zkl b + 4 * u - 4 + j))))]) dX0_extendSchedule_50 (by decide) rfl ?_
          refine zp_aload_n dX0_extendSchedule_52 rfl ?_
          refine zp_get dX0_extendSchedule_53 gX0_9_0 b0 rfl ?_
          refine zp_iload_n dX0_extendSchedule_56 rfl ?_
          refine zp_iload dX0_extendSchedule_57 rfl ?_
          refine zn_iadd dX0_extendSchedule_59 ?_
          refine zp_aload_n dX0_extendSchedule_60 rfl ?_
          refine zp_get dX0_extendSchedule_61 gX0_9_0 b0 rfl ?_
          refine zp_iload_n dX0_extendSchedule_64 rfl ?_
          refine zp_iload_n dX0_extendSchedule_65 rfl ?_
          refine zn_isub dX0_extendSchedule_66 (by omega) ?_
          refine zp_iload dX0_extendSchedule_67 rfl ?_
          refine zp_pc (pc' := 69) rfl ?_
          refine zn_iadd dX0_extendSchedule_69 ?_
          refine zn_iald (j := ((zkl b + 4 * u) - (zkl b)) + (j)) dX0_extendSchedule_70 b1 (by omega) (by omega) ?_
          refine zp_pc (pc' := 71) rfl ?_
          refine zp_i (y := nI (K (4 * u + j))) (by rw [show zkl b + 4 * u - zkl b + j = 4 * u + j by omega]; exact hlo _ (by omega)) ?_
          refine zp_iload dX0_extendSchedule_71 rfl ?_
          refine zp_pc (pc' := 73) rfl ?_
          refine zn_if_eq (tgt := 89) dX0_extendSchedule_73 (by decide) (by omega) (fun c73 => ?_) (fun c73 => ?_)
          · refine zp_iload dX0_extendSchedule_89 rfl ?_
            refine zp_pc (pc' := 91) rfl ?_
            refine zp_ixor dX0_extendSchedule_91 ?_
            refine zp_pc (pc' := 92) rfl ?_
            refine zp_i (y := nI (zwd b K u j)) (by rw [nx_xor, zwd, ← hpe]; rw [if_neg c34, if_neg (by omega)]) ?_
            refine zn_iast dX0_extendSchedule_92 (by omega) b1 (by omega) (by omega) ?_
            refine zp_nh (fun h1x eh1x => ?_)
            have k1_0 := (congrFun eh1x (c)).trans ((va_up_ne _ _ (by omega)).trans b0)
            have k1_1 : h1x (c + 1) = some (.inr (240, .inl (va_up f1 ((zkl b + 4 * u) + (j)) (nI (zwd b K u j))))) := by rw [eh1x]; exact va_up_self _ _ _
            have k1_2 := (congrFun eh1x (1)).trans ((va_up_ne _ _ (by omega)).trans bB)
            refine zn_iinc 1 (ls' := [some (.ref (c)), some (.int (nI (zkl b + 4 * u))), some (.int (nI (zkl b))), some (.int (nI (p))), some (.int (nI (q))), some (.int (nI (j + 1))), some (.int (nI (K (zkl b + 4 * u - 4 + j))))]) dX0_extendSchedule_93 (by decide) (by decide) rfl rfl ?_
            refine zp_pc (pc' := 96) rfl ?_
            refine zp_goto (tgt := 20) dX0_extendSchedule_96 (by decide) ?_
            refine zp_pc (pc' := 20) rfl ?_
            refine zp_drop (ls' := [some (.ref (c)), some (.int (nI (zkl b + 4 * u))), some (.int (nI (zkl b))), some (.int (nI (p))), some (.int (nI (q))), some (.int (nI (j + 1))), none]) (fun i v hv => ?_) ?_
            · rcases i with _ | _ | _ | _ | _ | _ | _ | i <;> simp at hv ⊢ <;> exact hv
            refine ih (4 - (j + 1)) (by omega) (j + 1) h1x _ q rfl (by omega) hq (hs.up eh1x rfl) k1_1 (fun i hi => ?_) (fun i hi => ?_)
            · rw [va_up_ne _ _ (by omega)]; exact hlo i hi
            · by_cases e : i = j
              · rw [e, va_up_self]
              · rw [va_up_ne _ _ (by omega)]; exact hhi i (by omega)
          · refine zp_gets dX0_extendSchedule_76 sX0_63 ?_
            refine zp_iload dX0_extendSchedule_79 rfl ?_
            refine zp_sipush (v := nI (255)) dX0_extendSchedule_81 (by decide) ?_
            refine zp_iand dX0_extendSchedule_84 ?_
            refine zp_pc (pc' := 85) rfl ?_
            refine zp_i (y := nI (K (zkl b + 4 * u - 4 + j))) (by rw [zandN (Nat.lt_trans (hKb _) (by decide)), Nat.mod_eq_of_lt (hKb _)]) ?_
            refine zn_iald (j := K (zkl b + 4 * u - 4 + j)) dX0_extendSchedule_85 bB (hKb _) (by decide) ?_
            refine zp_pc (pc' := 86) rfl ?_
            refine zp_i (y := nI (zbn (K (zkl b + 4 * u - 4 + j)))) (zbox_eq _ (hKb _)).1 ?_
            refine zp_goto (tgt := 91) dX0_extendSchedule_86 (by decide) ?_
            refine zp_pc (pc' := 91) rfl ?_
            refine zp_ixor dX0_extendSchedule_91 ?_
            refine zp_pc (pc' := 92) rfl ?_
            refine zp_i (y := nI (zwd b K u j)) (by rw [nx_xor, zwd, ← hpe]; rw [if_neg c34, if_pos (by omega)]) ?_
            refine zn_iast dX0_extendSchedule_92 (by omega) b1 (by omega) (by omega) ?_
            refine zp_nh (fun h2x eh2x => ?_)
            have k2_0 := (congrFun eh2x (c)).trans ((va_up_ne _ _ (by omega)).trans b0)
            have k2_1 : h2x (c + 1) = some (.inr (240, .inl (va_up f1 ((zkl b + 4 * u) + (j)) (nI (zwd b K u j))))) := by rw [eh2x]; exact va_up_self _ _ _
            have k2_2 := (congrFun eh2x (1)).trans ((va_up_ne _ _ (by omega)).trans bB)
            refine zn_iinc 1 (ls' := [some (.ref (c)), some (.int (nI (zkl b + 4 * u))), some (.int (nI (zkl b))), some (.int (nI (p))), some (.int (nI (q))), some (.int (nI (j + 1))), some (.int (nI (K (zkl b + 4 * u - 4 + j))))]) dX0_extendSchedule_93 (by decide) (by decide) rfl rfl ?_
            refine zp_pc (pc' := 96) rfl ?_
            refine zp_goto (tgt := 20) dX0_extendSchedule_96 (by decide) ?_
            refine zp_pc (pc' := 20) rfl ?_
            refine zp_drop (ls' := [some (.ref (c)), some (.int (nI (zkl b + 4 * u))), some (.int (nI (zkl b))), some (.int (nI (p))), some (.int (nI (q))), some (.int (nI (j + 1))), none]) (fun i v hv => ?_) ?_
            · rcases i with _ | _ | _ | _ | _ | _ | _ | i <;> simp at hv ⊢ <;> exact hv
            refine ih (4 - (j + 1)) (by omega) (j + 1) h2x _ q rfl (by omega) hq (hs.up eh2x rfl) k2_1 (fun i hi => ?_) (fun i hi => ?_)
            · rw [va_up_ne _ _ (by omega)]; exact hlo i hi
            · by_cases e : i = j
              · rw [e, va_up_self]
              · rw [va_up_ne _ _ (by omega)]; exact hhi i (by omega)
        · refine zp_iload dX0_extendSchedule_37 rfl ?_
          refine zp_iconst (v := nI (1)) dX0_extendSchedule_39 (by decide) ?_
          refine zn_iadd dX0_extendSchedule_40 ?_
          refine zp_iconst (v := nI (3)) dX0_extendSchedule_41 (by decide) ?_
          refine zp_iand dX0_extendSchedule_42 ?_
          refine zp_pc (pc' := 43) rfl ?_
          refine zp_i (y := nI ((j + 1) % 4)) (zidx_4 (by omega)) ?_
          refine zp_goto (tgt := 48) dX0_extendSchedule_43 (by decide) ?_
          refine zp_pc (pc' := 48) rfl ?_
          refine zn_iadd dX0_extendSchedule_48 ?_
          refine zp_pc (pc' := 49) rfl ?_
          have hx6 : f1 (zkl b + 4 * u - 4 + (j + 1) % 4) = nI (K (zkl b + 4 * u - 4 + (j + 1) % 4)) := hlo _ (by omega)
          refine zn_iald (j := ((zkl b + 4 * u) - (4)) + ((j + 1) % 4)) dX0_extendSchedule_49 b1 (by omega) (by omega) ?_
          refine zp_pc (pc' := 50) rfl ?_
          refine zp_i (y := nI (K (zkl b + 4 * u - 4 + (j + 1) % 4))) hx6 ?_
          refine zp_istore (ls' := [some (.ref (c)), some (.int (nI (zkl b + 4 * u))), some (.int (nI (zkl b))), some (.int (nI (p))), some (.int (nI (q))), some (.int (nI (j))), some (.int (nI (K (zkl b + 4 * u - 4 + (j + 1) % 4))))]) dX0_extendSchedule_50 (by decide) rfl ?_
          refine zp_aload_n dX0_extendSchedule_52 rfl ?_
          refine zp_get dX0_extendSchedule_53 gX0_9_0 b0 rfl ?_
          refine zp_iload_n dX0_extendSchedule_56 rfl ?_
          refine zp_iload dX0_extendSchedule_57 rfl ?_
          refine zn_iadd dX0_extendSchedule_59 ?_
          refine zp_aload_n dX0_extendSchedule_60 rfl ?_
          refine zp_get dX0_extendSchedule_61 gX0_9_0 b0 rfl ?_
          refine zp_iload_n dX0_extendSchedule_64 rfl ?_
          refine zp_iload_n dX0_extendSchedule_65 rfl ?_
          refine zn_isub dX0_extendSchedule_66 (by omega) ?_
          refine zp_iload dX0_extendSchedule_67 rfl ?_
          refine zp_pc (pc' := 69) rfl ?_
          refine zn_iadd dX0_extendSchedule_69 ?_
          refine zn_iald (j := ((zkl b + 4 * u) - (zkl b)) + (j)) dX0_extendSchedule_70 b1 (by omega) (by omega) ?_
          refine zp_pc (pc' := 71) rfl ?_
          refine zp_i (y := nI (K (4 * u + j))) (by rw [show zkl b + 4 * u - zkl b + j = 4 * u + j by omega]; exact hlo _ (by omega)) ?_
          refine zp_iload dX0_extendSchedule_71 rfl ?_
          refine zp_pc (pc' := 73) rfl ?_
          refine zn_if_eq (tgt := 89) dX0_extendSchedule_73 (by decide) (by omega) (fun c73 => ?_) (fun c73 => ?_)
          · refine zp_iload dX0_extendSchedule_89 rfl ?_
            refine zp_pc (pc' := 91) rfl ?_
            refine zp_ixor dX0_extendSchedule_91 ?_
            refine zp_pc (pc' := 92) rfl ?_
            refine zp_i (y := nI (zwd b K u j)) (by rw [nx_xor, zwd, ← hpe]; exact absurd c73 (by omega)) ?_
            refine zn_iast dX0_extendSchedule_92 (by omega) b1 (by omega) (by omega) ?_
            refine zp_nh (fun h3x eh3x => ?_)
            have k3_0 := (congrFun eh3x (c)).trans ((va_up_ne _ _ (by omega)).trans b0)
            have k3_1 : h3x (c + 1) = some (.inr (240, .inl (va_up f1 ((zkl b + 4 * u) + (j)) (nI (zwd b K u j))))) := by rw [eh3x]; exact va_up_self _ _ _
            have k3_2 := (congrFun eh3x (1)).trans ((va_up_ne _ _ (by omega)).trans bB)
            refine zn_iinc 1 (ls' := [some (.ref (c)), some (.int (nI (zkl b + 4 * u))), some (.int (nI (zkl b))), some (.int (nI (p))), some (.int (nI (q))), some (.int (nI (j + 1))), some (.int (nI (K (zkl b + 4 * u - 4 + (j + 1) % 4))))]) dX0_extendSchedule_93 (by decide) (by decide) rfl rfl ?_
            refine zp_pc (pc' := 96) rfl ?_
            refine zp_goto (tgt := 20) dX0_extendSchedule_96 (by decide) ?_
            refine zp_pc (pc' := 20) rfl ?_
            refine zp_drop (ls' := [some (.ref (c)), some (.int (nI (zkl b + 4 * u))), some (.int (nI (zkl b))), some (.int (nI (p))), some (.int (nI (q))), some (.int (nI (j + 1))), none]) (fun i v hv => ?_) ?_
            · rcases i with _ | _ | _ | _ | _ | _ | _ | i <;> simp at hv ⊢ <;> exact hv
            refine ih (4 - (j + 1)) (by omega) (j + 1) h3x _ q rfl (by omega) hq (hs.up eh3x rfl) k3_1 (fun i hi => ?_) (fun i hi => ?_)
            · rw [va_up_ne _ _ (by omega)]; exact hlo i hi
            · by_cases e : i = j
              · rw [e, va_up_self]
              · rw [va_up_ne _ _ (by omega)]; exact hhi i (by omega)
          · refine zp_gets dX0_extendSchedule_76 sX0_63 ?_
            refine zp_iload dX0_extendSchedule_79 rfl ?_
            refine zp_sipush (v := nI (255)) dX0_extendSchedule_81 (by decide) ?_
            refine zp_iand dX0_extendSchedule_84 ?_
            refine zp_pc (pc' := 85) rfl ?_
            refine zp_i (y := nI (K (zkl b + 4 * u - 4 + (j + 1) % 4))) (by rw [zandN (Nat.lt_trans (hKb _) (by decide)), Nat.mod_eq_of_lt (hKb _)]) ?_
            refine zn_iald (j := K (zkl b + 4 * u - 4 + (j + 1) % 4)) dX0_extendSchedule_85 bB (hKb _) (by decide) ?_
            refine zp_pc (pc' := 86) rfl ?_
            refine zp_i (y := nI (zbn (K (zkl b + 4 * u - 4 + (j + 1) % 4)))) (zbox_eq _ (hKb _)).1 ?_
            refine zp_goto (tgt := 91) dX0_extendSchedule_86 (by decide) ?_
            refine zp_pc (pc' := 91) rfl ?_
            refine zp_ixor dX0_extendSchedule_91 ?_
            refine zp_pc (pc' := 92) rfl ?_
            refine zp_i (y := nI (zwd b K u j)) (by rw [nx_xor, zwd, ← hpe]; rw [if_pos c34]) ?_
            refine zn_iast dX0_extendSchedule_92 (by omega) b1 (by omega) (by omega) ?_
            refine zp_nh (fun h4x eh4x => ?_)
            have k4_0 := (congrFun eh4x (c)).trans ((va_up_ne _ _ (by omega)).trans b0)
            have k4_1 : h4x (c + 1) = some (.inr (240, .inl (va_up f1 ((zkl b + 4 * u) + (j)) (nI (zwd b K u j))))) := by rw [eh4x]; exact va_up_self _ _ _
            have k4_2 := (congrFun eh4x (1)).trans ((va_up_ne _ _ (by omega)).trans bB)
            refine zn_iinc 1 (ls' := [some (.ref (c)), some (.int (nI (zkl b + 4 * u))), some (.int (nI (zkl b))), some (.int (nI (p))), some (.int (nI (q))), some (.int (nI (j + 1))), some (.int (nI (K (zkl b + 4 * u - 4 + (j + 1) % 4))))]) dX0_extendSchedule_93 (by decide) (by decide) rfl rfl ?_
            refine zp_pc (pc' := 96) rfl ?_
            refine zp_goto (tgt := 20) dX0_extendSchedule_96 (by decide) ?_
            refine zp_pc (pc' := 20) rfl ?_
            refine zp_drop (ls' := [some (.ref (c)), some (.int (nI (zkl b + 4 * u))), some (.int (nI (zkl b))), some (.int (nI (p))), some (.int (nI (q))), some (.int (nI (j + 1))), none]) (fun i v hv => ?_) ?_
            · rcases i with _ | _ | _ | _ | _ | _ | _ | i <;> simp at hv ⊢ <;> exact hv
            refine ih (4 - (j + 1)) (by omega) (j + 1) h4x _ q rfl (by omega) hq (hs.up eh4x rfl) k4_1 (fun i hi => ?_) (fun i hi => ?_)
            · rw [va_up_ne _ _ (by omega)]; exact hlo i hi
            · by_cases e : i = j
              · rw [e, va_up_self]
              · rw [va_up_ne _ _ (by omega)]; exact hhi i (by omega)
  refine zp_iload_n dX0_extendSchedule_0 rfl ?_
  refine zp_pc (pc' := 1) rfl ?_
  refine zn_if_eq (tgt := 10) dX0_extendSchedule_1 (by decide) (by omega) (fun c1 => ?_) (fun c1 => ?_)
  · refine zp_iconst (v := nI (1)) dX0_extendSchedule_10 (by decide) ?_
    refine zp_goto (tgt := 15) dX0_extendSchedule_11 (by decide) ?_
    refine zp_istore (ls' := [some (.ref (c)), some (.int (nI (zkl b + 4 * u))), some (.int (nI (zkl b))), some (.int (nI (p))), some (.int (nI (1))), none, none]) dX0_extendSchedule_15 (by decide) rfl ?_
    refine zp_iconst (v := nI (0)) dX0_extendSchedule_17 (by decide) ?_
    refine zp_istore (ls' := [some (.ref (c)), some (.int (nI (zkl b + 4 * u))), some (.int (nI (zkl b))), some (.int (nI (p))), some (.int (nI (1))), some (.int (nI (0))), none]) dX0_extendSchedule_18 (by decide) rfl ?_
    refine zp_pc (pc' := 20) rfl ?_
    exact lp _ 0 h f 1 rfl (Nat.zero_le _) ⟨by omega, by omega⟩ zsm.rf h1 hf (fun i hi => absurd hi (Nat.not_lt_zero _))
  · refine zp_iload_n dX0_extendSchedule_4 rfl ?_
    refine zp_bipush (v := nI (16)) dX0_extendSchedule_5 (by decide) ?_
    refine zp_pc (pc' := 7) rfl ?_
    refine zn_icmp_ne (tgt := 14) dX0_extendSchedule_7 (by decide) (by omega) (by omega) (fun c7 => ?_) (fun c7 => ?_)
    · refine zp_iconst (v := nI (0)) dX0_extendSchedule_14 (by decide) ?_
      refine zp_istore (ls' := [some (.ref (c)), some (.int (nI (zkl b + 4 * u))), some (.int (nI (zkl b))), some (.int (nI (p))), some (.int (nI (0))), none, none]) dX0_extendSchedule_15 (by decide) rfl ?_
      refine zp_iconst (v := nI (0)) dX0_extendSchedule_17 (by decide) ?_
      refine zp_istore (ls' := [some (.ref (c)), some (.int (nI (zkl b + 4 * u))), some (.int (nI (zkl b))), some (.int (nI (p))), some (.int (nI (0))), some (.int (nI (0))), none]) dX0_extendSchedule_18 (by decide) rfl ?_
      refine zp_pc (pc' := 20) rfl ?_
      exact lp _ 0 h f 0 rfl (Nat.zero_le _) ⟨by omega, by omega⟩ zsm.rf h1 hf (fun i hi => absurd hi (Nat.not_lt_zero _))
    · refine zp_iconst (v := nI (1)) dX0_extendSchedule_10 (by decide) ?_
      refine zp_goto (tgt := 15) dX0_extendSchedule_11 (by decide) ?_
      refine zp_istore (ls' := [some (.ref (c)), some (.int (nI (zkl b + 4 * u))), some (.int (nI (zkl b))), some (.int (nI (p))), some (.int (nI (1))), none, none]) dX0_extendSchedule_15 (by decide) rfl ?_
      refine zp_iconst (v := nI (0)) dX0_extendSchedule_17 (by decide) ?_
      refine zp_istore (ls' := [some (.ref (c)), some (.int (nI (zkl b + 4 * u))), some (.int (nI (zkl b))), some (.int (nI (p))), some (.int (nI (1))), some (.int (nI (0))), none]) dX0_extendSchedule_18 (by decide) rfl ?_
      refine zp_pc (pc' := 20) rfl ?_
      exact lp _ 0 h f 1 rfl (Nat.zero_le _) ⟨by omega, by omega⟩ zsm.rf h1 hf (fun i hi => absurd hi (Nat.not_lt_zero _))
set_option maxRecDepth 10000 in
set_option maxHeartbeats 2000000 in
theorem e_useKey {g : ZG} {h : ZH} {n : Nat} {c r N : Nat} {b : Bool} {rd : Int32} {f : Nat → Int32} {ks : List Nat} (ht : ztab h) (hc : zcc h c rd f) (hk : zrow h r N ks) (hl : ks.length = zkl b) (hr : r + 1 < c ∨ c + 3 < r) : zMt g mX0_useKey (zR 2 0 0) [.ref (c), .ref (r)] h n (fun v h' n' => v = none ∧ n' = n ∧ zsm h h' (fun i => i = c ∨ i = c + 1) ∧ zckd h' c b ks) := by
  refine zMt.of [some (.ref (c)), some (.ref (r)), none, none, none, none] (by decide) rfl (Nat.le_of_ble_eq_true rfl) ?_
  obtain ⟨Qf, hQ⟩ : ∃ Qf : ZQ, Qf = (fun v h' n' => v = none ∧ n' = n ∧ zsm h h' (fun i => i = c ∨ i = c + 1) ∧ zckd h' c b ks) := ⟨_, rfl⟩
  rw [← hQ]
  have hz := zkl_or b
  obtain ⟨h16, z0, z1, z2, z3⟩ := id hc
  have hkl := hk.len
  refine zp_aload_n dX0_useKey_0 rfl ?_
  refine zp_pc (pc' := 1) rfl ?_
  refine zp_callV (As := []) (k := r) (st := []) (ci := 6) dX0_useKey_1 cX0_43 rfl hk.2.1 rfl rfl (e_length (N := N) hk) (by decide) (by decide) (Nat.le_of_ble_eq_true rfl) (fun v1 h1 n1 q1 => ?_)
  obtain ⟨rfl, H1, N1⟩ := q1
  rw [N1, H1]
  refine zp_nrm (cells' := 0) (slots' := 0) (st' := [.int (nI (ks.length))]) rfl rfl rfl ?_
  refine zp_i (y := nI (zkl b)) (by rw [hl]) ?_
  refine zp_bipush (v := nI (32)) dX0_useKey_4 (by decide) ?_
  refine zp_pc (pc' := 6) rfl ?_
  refine zn_icmp_ne (tgt := 13) dX0_useKey_6 (by decide) (by omega) (by omega) (fun c6 => ?_) (fun c6 => ?_)
  · have eb : b = false := by cases b; rfl; exact absurd rfl c6
    refine zp_iconst (v := nI (0)) dX0_useKey_13 (by decide) ?_
    refine zp_pc (pc' := 14) rfl ?_
    refine zp_i (y := nI ((if b then 1 else 0))) (by rw [eb]; rfl) ?_
    refine zp_callS (As := [.int (nI ((if b then 1 else 0)))]) (st := []) dX0_useKey_14 cX0_47 rfl (e_keyLength (b := b)) (by decide) (by decide) (Nat.le_of_ble_eq_true rfl) (fun v2 h2 n2 q2 => ?_)
    obtain ⟨rfl, H2, N2⟩ := q2
    rw [N2, H2]
    refine zp_nrm (cells' := 0) (slots' := 0) (st' := [.int (nI (zkl b))]) rfl rfl rfl ?_
    refine zp_istore_n (ls' := [some (.ref (c)), some (.ref (r)), some (.int (nI (zkl b))), none, none, none]) dX0_useKey_17 (by decide) rfl ?_
    refine zp_aload_n dX0_useKey_18 rfl ?_
    refine zp_iload_n dX0_useKey_19 rfl ?_
    refine zp_iconst (v := nI (4)) dX0_useKey_20 (by decide) ?_
    refine zn_idiv dX0_useKey_21 (by omega) (by omega) (by omega) ?_
    refine zp_bipush (v := nI (6)) dX0_useKey_22 (by decide) ?_
    refine zn_iadd dX0_useKey_24 ?_
    refine zp_pc (pc' := 25) rfl ?_
    refine zp_i (y := nI (zro b)) (by rw [show zkl b / 4 + 6 = zro b by omega]) ?_
    refine zp_put (fs' := [.ref (c + 1), .ref (c + 2), .ref (c + 3), .int (nI (zro b)), .ref (c + 4), .ref (c + 6), .ref (c + 8), .ref (c + 10)]) dX0_useKey_25 pX0_19_0 (by omega) z0 (Nat.le_of_ble_eq_true rfl) (zfit_i _) rfl ?_
    refine zp_nh (fun h3x eh3x => ?_)
    have k3_0 : h3x (c) = some (.inl (0, [.ref (c + 1), .ref (c + 2), .ref (c + 3), .int (nI (zro b)), .ref (c + 4), .ref (c + 6), .ref (c + 8), .ref (c + 10)])) := by rw [eh3x]; exact va_up_self _ _ _
    have k3_1 := (congrFun eh3x (c + 1)).trans ((va_up_ne _ _ (by omega)).trans z1)
    refine zp_aload_n dX0_useKey_28 rfl ?_
    refine zp_aload_n dX0_useKey_29 rfl ?_
    refine zp_get dX0_useKey_30 gX0_9_0 k3_0 rfl ?_
    refine zp_iload_n dX0_useKey_33 rfl ?_
    refine zp_pc (pc' := 34) rfl ?_
    have k1 : zrow h3x r N ks := hk.keep (by rw [eh3x]; exact va_up_ne _ _ (by omega)) (by rw [eh3x]; exact va_up_ne _ _ (by omega))
    have s0 : zsm h h3x (fun i => i = c ∨ i = c + 1) := zsm.rf.up eh3x (Or.inl rfl)
    refine zp_callV (As := [.ref (c + 1), .int (nI (zkl b))]) (k := r) (st := []) (ci := 6) dX0_useKey_34 cX0_51 rfl k1.2.1 rfl rfl (e_copyTo (N := N) (t := c + 1) (K := 240) (q := zkl b) k1 k3_1 (by omega) (by decide) (by omega) (by omega)) (by decide) (by decide) (Nat.le_of_ble_eq_true rfl) (fun v4 h4 n4 q4 => ?_)
    obtain ⟨rfl, N4, s1, f1, m1, m2, m3⟩ := q4
    rw [N4]
    refine zp_nrm (cells' := 0) (slots' := 0) (st' := [.int (nI (min (min ks.length 240) (zkl b)))]) rfl rfl rfl ?_
    have s2 : zsm h h4 (fun i => i = c ∨ i = c + 1) := s0.trans (s1.mono (fun i hi => Or.inr hi))
    have m0 : h4 c = some (zco c (nI (zro b))) := (s1 c (by omega)).trans k3_0
    refine zp_pop dX0_useKey_37 rfl ?_
    refine zp_iconst (v := nI (1)) dX0_useKey_38 (by decide) ?_
    refine zp_istore_n (ls' := [some (.ref (c)), some (.ref (r)), some (.int (nI (zkl b))), some (.int (nI (1))), none, none]) dX0_useKey_39 (by decide) rfl ?_
    refine zp_iload_n dX0_useKey_40 rfl ?_
    refine zp_istore (ls' := [some (.ref (c)), some (.ref (r)), some (.int (nI (zkl b))), some (.int (nI (1))), some (.int (nI (zkl b))), none]) dX0_useKey_41 (by decide) rfl ?_
    refine zp_pc (pc' := 43) rfl ?_
    refine zp_ls (ls' := [some (.ref (c)), some (.ref (r)), some (.int (nI (zkl b))), some (.int (nI (1))), some (.int (nI (zkl b + 4 * 0))), none]) (by rw [Nat.mul_zero, Nat.add_zero]) ?_
    refine zp_ls (ls' := [some (.ref (c)), some (.ref (r)), some (.int (nI (zkl b))), some (.int (nI (zrc b 0))), some (.int (nI (zkl b + 4 * 0))), none]) rfl ?_
    have lp : ∀ (m : Nat) (u : Nat) (g1 : ZH) (fu : Nat → Int32), m = zsn b - u → u ≤ zsn b → zsm h g1 (fun i => i = c ∨ i = c + 1) → g1 c = some (zco c (nI (zro b))) → g1 (c + 1) = some (.inr (240, .inl fu)) → (∀ i, i < zkl b + 4 * u → fu i = nI (zsk b ks u i)) → zP g mX0_useKey (zR 2 0 0) Qf 0 0 43 [some (.ref (c)), some (.ref (r)), some (.int (nI (zkl b))), some (.int (nI (zrc b u))), some (.int (nI (zkl b + 4 * u))), none] [] g1 n := by
      intro m
      induction m using Nat.strongRecOn with
      | _ m ih =>
        intro u g1 fu hm hu hs b0 b1 hlo
        have bt := ht.sm hs (fun i hi => by omega)
        have kb := fun i => zsk_lt (b := b) hk.bytes u i
        refine zp_iload dX0_useKey_43 rfl ?_
        refine zp_bipush (v := nI (16)) dX0_useKey_45 (by decide) ?_
        refine zp_aload_n dX0_useKey_47 rfl ?_
        refine zp_get dX0_useKey_48 gX0_19_0 b0 rfl ?_
        refine zp_iconst (v := nI (1)) dX0_useKey_51 (by decide) ?_
        refine zn_iadd dX0_useKey_52 ?_
        refine zn_imul dX0_useKey_53 ?_
        refine zp_pc (pc' := 54) rfl ?_
        refine zn_icmp_ge (tgt := 101) dX0_useKey_54 (by decide) (by omega) (by omega) (fun c54 => ?_) (fun c54 => ?_)
        · have eu : u = zsn b := by omega
          subst eu
          have ec : zcc g1 c (nI (zro b)) fu := by
            obtain ⟨f2, z2⟩ := z2
            obtain ⟨f3, z3⟩ := z3
            exact ⟨h16, b0, b1, ⟨f2, (hs _ (by omega)).trans z2⟩, ⟨f3, (hs _ (by omega)).trans z3⟩⟩
          refine zp_ret (v := none) dX0_useKey_101 ⟨rfl, rfl⟩ (by decide) (by decide) ?_
          rw [hQ]
          exact ⟨rfl, rfl, hs, hk.bytes, fu, ec, fun i hi => hlo i (by omega)⟩
        · refine zp_iload dX0_useKey_57 rfl ?_
          refine zp_iload_n dX0_useKey_59 rfl ?_
          refine zp_iconst (v := nI (1)) dX0_useKey_60 (by decide) ?_
          refine zn_isub dX0_useKey_61 (by omega) ?_
          refine zp_iand dX0_useKey_62 ?_
          refine zp_pc (pc' := 63) rfl ?_
          refine zp_i (y := nI (4 * u % zkl b)) (zplace b (by omega)) ?_
          have hpl : 4 * u % zkl b < 2 ^ 31 := Nat.lt_of_lt_of_le (Nat.mod_lt _ (by omega)) (by omega)
          refine zp_istore (ls' := [some (.ref (c)), some (.ref (r)), some (.int (nI (zkl b))), some (.int (nI (zrc b u))), some (.int (nI (zkl b + 4 * u))), some (.int (nI (4 * u % zkl b)))]) dX0_useKey_63 (by decide) rfl ?_
          refine zp_aload_n dX0_useKey_65 rfl ?_
          refine zp_iload dX0_useKey_66 rfl ?_
          refine zp_iload_n dX0_useKey_68 rfl ?_
          refine zp_iload dX0_useKey_69 rfl ?_
          refine zp_pc (pc' := 71) rfl ?_
          refine zp_callV (As := [.int (nI (zkl b + 4 * u)), .int (nI (zkl b)), .int (nI (4 * u % zkl b))]) (k := c) (st := []) (ci := 0) dX0_useKey_71 cX0_55 rfl b0 rfl rfl (e_extendSchedule (b := b) (u := u) (K := zsk b ks u) h16 bt b0 b1 (by omega) kb hlo) (by decide) (by decide) (Nat.le_of_ble_eq_true rfl) (fun v5 h5 n5 q5 => ?_)
          obtain ⟨rfl, N5, s3, f3, m4, m5, m6⟩ := q5
          rw [N5]
          refine zp_nrm (cells' := 0) (slots' := 0) (st' := []) rfl rfl rfl ?_
          have d0 : h5 c = some (zco c (nI (zro b))) := (s3 c (by omega)).trans b0
          refine zp_iload dX0_useKey_74 rfl ?_
          refine zp_pc (pc' := 76) rfl ?_
          refine zn_if_ne (tgt := 95) dX0_useKey_76 (by decide) hpl (fun c76 => ?_) (fun c76 => ?_)
          · refine zn_iinc 4 (ls' := [some (.ref (c)), some (.ref (r)), some (.int (nI (zkl b))), some (.int (nI (zrc b u))), some (.int (nI (zkl b + 4 * u + 4))), some (.int (nI (4 * u % zkl b)))]) dX0_useKey_95 (by decide) (by decide) rfl rfl ?_
            refine zp_pc (pc' := 98) rfl ?_
            refine zp_ls (ls' := [some (.ref (c)), some (.ref (r)), some (.int (nI (zkl b))), some (.int (nI (zrc b u))), some (.int (nI (zkl b + 4 * (u + 1)))), some (.int (nI (4 * u % zkl b)))]) (by rw [Nat.mul_add, Nat.add_assoc]) ?_
            refine zp_ls (ls' := [some (.ref (c)), some (.ref (r)), some (.int (nI (zkl b))), some (.int (nI (zrc b (u + 1)))), some (.int (nI (zkl b + 4 * (u + 1)))), some (.int (nI (4 * u % zkl b)))]) (by rw [zrc_neg c76]) ?_
            refine zp_goto (tgt := 43) dX0_useKey_98 (by decide) ?_
            refine zp_pc (pc' := 43) rfl ?_
            refine zp_drop (ls' := [some (.ref (c)), some (.ref (r)), some (.int (nI (zkl b))), some (.int (nI (zrc b (u + 1)))), some (.int (nI (zkl b + 4 * (u + 1)))), none]) (fun i v hv => ?_) ?_
            · rcases i with _ | _ | _ | _ | _ | _ | i <;> simp at hv ⊢ <;> exact hv
            refine ih (zsn b - (u + 1)) (by omega) (u + 1) h5 f3 rfl (by omega) (hs.trans (s3.mono (fun i hi => Or.inr hi))) d0 m4 (fun i hi => ?_)
            show _ = nI (if _ then _ else _)
            split
            · rename_i q; rw [if_neg (fun q2 => c76 q2.1), Nat.xor_zero, ← m6 _ (by omega)]; congr 1; omega
            · rename_i q; exact m5 i (by omega)
          · refine zp_aload_n dX0_useKey_79 rfl ?_
            refine zp_get dX0_useKey_80 gX0_9_0 d0 rfl ?_
            refine zp_iload dX0_useKey_83 rfl ?_
            refine zp_dup2 dX0_useKey_85 rfl rfl ?_
            refine zn_iald (j := zkl b + 4 * u) dX0_useKey_86 m4 (by omega) (by omega) ?_
            refine zp_iload_n dX0_useKey_87 rfl ?_
            refine zp_ixor dX0_useKey_88 ?_
            refine zp_pc (pc' := 89) rfl ?_
            refine zp_i (y := nI (zwd b (zsk b ks u) u 0 ^^^ zrc b u)) (by rw [← Nat.add_zero (zkl b + 4 * u), m6 0 (by decide), nx_xor]) ?_
            refine zn_iast dX0_useKey_89 (by omega) m4 (by omega) (by omega) ?_
            refine zp_nh (fun h6x eh6x => ?_)
            have k6_0 := (congrFun eh6x (c)).trans ((va_up_ne _ _ (by omega)).trans d0)
            have k6_1 : h6x (c + 1) = some (.inr (240, .inl (va_up f3 (zkl b + 4 * u) (nI (zwd b (zsk b ks u) u 0 ^^^ zrc b u))))) := by rw [eh6x]; exact va_up_self _ _ _
            refine zp_iload_n dX0_useKey_90 rfl ?_
            refine zp_pc (pc' := 91) rfl ?_
            refine zp_callS (As := [.int (nI (zrc b u))]) (st := []) dX0_useKey_91 cX0_59 rfl (e_twice (x := zrc b u) (zrc_lt b u)) (by decide) (by decide) (Nat.le_of_ble_eq_true rfl) (fun v7 h7 n7 q7 => ?_)
            obtain ⟨rfl, H7, N7⟩ := q7
            rw [N7, H7]
            refine zp_nrm (cells' := 0) (slots' := 0) (st' := [.int (nI (zxt (zrc b u)))]) rfl rfl rfl ?_
            refine zp_istore_n (ls' := [some (.ref (c)), some (.ref (r)), some (.int (nI (zkl b))), some (.int (nI (zxt (zrc b u)))), some (.int (nI (zkl b + 4 * u))), some (.int (nI (4 * u % zkl b)))]) dX0_useKey_94 (by decide) rfl ?_
            refine zn_iinc 4 (ls' := [some (.ref (c)), some (.ref (r)), some (.int (nI (zkl b))), some (.int (nI (zxt (zrc b u)))), some (.int (nI (zkl b + 4 * u + 4))), some (.int (nI (4 * u % zkl b)))]) dX0_useKey_95 (by decide) (by decide) rfl rfl ?_
            refine zp_pc (pc' := 98) rfl ?_
            refine zp_ls (ls' := [some (.ref (c)), some (.ref (r)), some (.int (nI (zkl b))), some (.int (nI (zxt (zrc b u)))), some (.int (nI (zkl b + 4 * (u + 1)))), some (.int (nI (4 * u % zkl b)))]) (by rw [Nat.mul_add, Nat.add_assoc]) ?_
            refine zp_ls (ls' := [some (.ref (c)), some (.ref (r)), some (.int (nI (zkl b))), some (.int (nI (zrc b (u + 1)))), some (.int (nI (zkl b + 4 * (u + 1)))), some (.int (nI (4 * u % zkl b)))]) (by rw [zrc_pos c76]) ?_
            refine zp_goto (tgt := 43) dX0_useKey_98 (by decide) ?_
            refine zp_pc (pc' := 43) rfl ?_
            refine zp_drop (ls' := [some (.ref (c)), some (.ref (r)), some (.int (nI (zkl b))), some (.int (nI (zrc b (u + 1)))), some (.int (nI (zkl b + 4 * (u + 1)))), none]) (fun i v hv => ?_) ?_
            · rcases i with _ | _ | _ | _ | _ | _ | i <;> simp at hv ⊢ <;> exact hv
            refine ih (zsn b - (u + 1)) (by omega) (u + 1) h6x _ rfl (by omega) ((hs.trans (s3.mono (fun i hi => Or.inr hi))).up eh6x (Or.inr rfl)) k6_0 k6_1 (fun i hi => ?_)
            show _ = nI (if _ then _ else _)
            split
            · rename_i q
              by_cases e : i = zkl b + 4 * u
              · rw [e, va_up_self, if_pos ⟨c76, rfl⟩, Nat.sub_self]
              · rw [va_up_ne _ _ e, if_neg (fun q2 => e q2.2), Nat.xor_zero, ← m6 _ (by omega)]; congr 1; omega
            · rename_i q; rw [va_up_ne _ _ (by omega)]; exact m5 i (by omega)
    exact lp _ 0 h4 f1 rfl (Nat.zero_le _) s2 m0 m1 (fun i hi => m2 i (by omega))
  · have eb : b = true := by cases b; exact absurd c6 (by decide); rfl
    refine zp_iconst (v := nI (1)) dX0_useKey_9 (by decide) ?_
    refine zp_goto (tgt := 14) dX0_useKey_10 (by decide) ?_
    refine zp_pc (pc' := 14) rfl ?_
    refine zp_i (y := nI ((if b then 1 else 0))) (by rw [eb]; rfl) ?_
    refine zp_callS (As := [.int (nI ((if b then 1 else 0)))]) (st := []) dX0_useKey_14 cX0_47 rfl (e_keyLength (b := b)) (by decide) (by decide) (Nat.le_of_ble_eq_true rfl) (fun v8 h8 n8 q8 => ?_)
    obtain ⟨rfl, H8, N8⟩ := q8
    rw [N8, H8]
    refine zp_nrm (cells' := 0) (slots' := 0) (st' := [.int (nI (zkl b))]) rfl rfl rfl ?_
    refine zp_istore_n (ls' := [some (.ref (c)), some (.ref (r)), some (.int (nI (zkl b))), none, none, none]) dX0_useKey_17 (by decide) rfl ?_
    refine zp_aload_n dX0_useKey_18 rfl ?_
    refine zp_iload_n dX0_useKey_19 rfl ?_
    refine zp_iconst (v := nI (4)) dX0_useKey_20 (by decide) ?_
    refine zn_idiv dX0_useKey_21 (by omega) (by omega) (by omega) ?_
    refine zp_bipush (v := nI (6)) dX0_useKey_22 (by decide) ?_
    refine zn_iadd dX0_useKey_24 ?_
    refine zp_pc (pc' := 25) rfl ?_
    refine zp_i (y := nI (zro b)) (by rw [show zkl b / 4 + 6 = zro b by omega]) ?_
    refine zp_put (fs' := [.ref (c + 1), .ref (c + 2), .ref (c + 3), .int (nI (zro b)), .ref (c + 4), .ref (c + 6), .ref (c + 8), .ref (c + 10)]) dX0_useKey_25 pX0_19_0 (by omega) z0 (Nat.le_of_ble_eq_true rfl) (zfit_i _) rfl ?_
    refine zp_nh (fun h9x eh9x => ?_)
    have k9_0 : h9x (c) = some (.inl (0, [.ref (c + 1), .ref (c + 2), .ref (c + 3), .int (nI (zro b)), .ref (c + 4), .ref (c + 6), .ref (c + 8), .ref (c + 10)])) := by rw [eh9x]; exact va_up_self _ _ _
    have k9_1 := (congrFun eh9x (c + 1)).trans ((va_up_ne _ _ (by omega)).trans z1)
    refine zp_aload_n dX0_useKey_28 rfl ?_
    refine zp_aload_n dX0_useKey_29 rfl ?_
    refine zp_get dX0_useKey_30 gX0_9_0 k9_0 rfl ?_
    refine zp_iload_n dX0_useKey_33 rfl ?_
    refine zp_pc (pc' := 34) rfl ?_
    have k1 : zrow h9x r N ks := hk.keep (by rw [eh9x]; exact va_up_ne _ _ (by omega)) (by rw [eh9x]; exact va_up_ne _ _ (by omega))
    have s0 : zsm h h9x (fun i => i = c ∨ i = c + 1) := zsm.rf.up eh9x (Or.inl rfl)
    refine zp_callV (As := [.ref (c + 1), .int (nI (zkl b))]) (k := r) (st := []) (ci := 6) dX0_useKey_34 cX0_51 rfl k1.2.1 rfl rfl (e_copyTo (N := N) (t := c + 1) (K := 240) (q := zkl b) k1 k9_1 (by omega) (by decide) (by omega) (by omega)) (by decide) (by decide) (Nat.le_of_ble_eq_true rfl) (fun v10 h10 n10 q10 => ?_)
    obtain ⟨rfl, N10, s1, f1, m1, m2, m3⟩ := q10
    rw [N10]
    refine zp_nrm (cells' := 0) (slots' := 0) (st' := [.int (nI (min (min ks.length 240) (zkl b)))]) rfl rfl rfl ?_
    have s2 : zsm h h10 (fun i => i = c ∨ i = c + 1) := s0.trans (s1.mono (fun i hi => Or.inr hi))
    have m0 : h10 c = some (zco c (nI (zro b))) := (s1 c (by omega)).trans k9_0
    refine zp_pop dX0_useKey_37 rfl ?_
    refine zp_iconst (v := nI (1)) dX0_useKey_38 (by decide) ?_
    refine zp_istore_n (ls' := [some (.ref (c)), some (.ref (r)), some (.int (nI (zkl b))), some (.int (nI (1))), none, none]) dX0_useKey_39 (by decide) rfl ?_
    refine zp_iload_n dX0_useKey_40 rfl ?_
    refine zp_istore (ls' := [some (.ref (c)), some (.ref (r)), some (.int (nI (zkl b))), some (.int (nI (1))), some (.int (nI (zkl b))), none]) dX0_useKey_41 (by decide) rfl ?_
    refine zp_pc (pc' := 43) rfl ?_
    refine zp_ls (ls' := [some (.ref (c)), some (.ref (r)), some (.int (nI (zkl b))), some (.int (nI (1))), some (.int (nI (zkl b + 4 * 0))), none]) (by rw [Nat.mul_zero, Nat.add_zero]) ?_
    refine zp_ls (ls' := [some (.ref (c)), some (.ref (r)), some (.int (nI (zkl b))), some (.int (nI (zrc b 0))), some (.int (nI (zkl b + 4 * 0))), none]) rfl ?_
    have lp : ∀ (m : Nat) (u : Nat) (g1 : ZH) (fu : Nat → Int32), m = zsn b - u → u ≤ zsn b → zsm h g1 (fun i => i = c ∨ i = c + 1) → g1 c = some (zco c (nI (zro b))) → g1 (c + 1) = some (.inr (240, .inl fu)) → (∀ i, i < zkl b + 4 * u → fu i = nI (zsk b ks u i)) → zP g mX0_useKey (zR 2 0 0) Qf 0 0 43 [some (.ref (c)), some (.ref (r)), some (.int (nI (zkl b))), some (.int (nI (zrc b u))), some (.int (nI (zkl b + 4 * u))), none] [] g1 n := by
      intro m
      induction m using Nat.strongRecOn with
      | _ m ih =>
        intro u g1 fu hm hu hs b0 b1 hlo
        have bt := ht.sm hs (fun i hi => by omega)
        have kb := fun i => zsk_lt (b := b) hk.bytes u i
        refine zp_iload dX0_useKey_43 rfl ?_
        refine zp_bipush (v := nI (16)) dX0_useKey_45 (by decide) ?_
        refine zp_aload_n dX0_useKey_47 rfl ?_
        refine zp_get dX0_useKey_48 gX0_19_0 b0 rfl ?_
        refine zp_iconst (v := nI (1)) dX0_useKey_51 (by decide) ?_
        refine zn_iadd dX0_useKey_52 ?_
        refine zn_imul dX0_useKey_53 ?_
        refine zp_pc (pc' := 54) rfl ?_
        refine zn_icmp_ge (tgt := 101) dX0_useKey_54 (by decide) (by omega) (by omega) (fun c54 => ?_) (fun c54 => ?_)
        · have eu : u = zsn b := by omega
          subst eu
          have ec : zcc g1 c (nI (zro b)) fu := by
            obtain ⟨f2, z2⟩ := z2
            obtain ⟨f3, z3⟩ := z3
            exact ⟨h16, b0, b1, ⟨f2, (hs _ (by omega)).trans z2⟩, ⟨f3, (hs _ (by omega)).trans z3⟩⟩
          refine zp_ret (v := none) dX0_useKey_101 ⟨rfl, rfl⟩ (by decide) (by decide) ?_
          rw [hQ]
          exact ⟨rfl, rfl, hs, hk.bytes, fu, ec, fun i hi => hlo i (by omega)⟩
        · refine zp_iload dX0_useKey_57 rfl ?_
          refine zp_iload_n dX0_useKey_59 rfl ?_
          refine zp_iconst (v := nI (1)) dX0_useKey_60 (by decide) ?_
          refine zn_isub dX0_useKey_61 (by omega) ?_
          refine zp_iand dX0_useKey_62 ?_
          refine zp_pc (pc' := 63) rfl ?_
          refine zp_i (y := nI (4 * u % zkl b)) (zplace b (by omega)) ?_
          have hpl : 4 * u % zkl b < 2 ^ 31 := Nat.lt_of_lt_of_le (Nat.mod_lt _ (by omega)) (by omega)
          refine zp_istore (ls' := [some (.ref (c)), some (.ref (r)), some (.int (nI (zkl b))), some (.int (nI (zrc b u))), some (.int (nI (zkl b + 4 * u))), some (.int (nI (4 * u % zkl b)))]) dX0_useKey_63 (by decide) rfl ?_
          refine zp_aload_n dX0_useKey_65 rfl ?_
          refine zp_iload dX0_useKey_66 rfl ?_
          refine zp_iload_n dX0_useKey_68 rfl ?_
          refine zp_iload dX0_useKey_69 rfl ?_
          refine zp_pc (pc' := 71) rfl ?_
          refine zp_callV (As := [.int (nI (zkl b + 4 * u)), .int (nI (zkl b)), .int (nI (4 * u % zkl b))]) (k := c) (st := []) (ci := 0) dX0_useKey_71 cX0_55 rfl b0 rfl rfl (e_extendSchedule (b := b) (u := u) (K := zsk b ks u) h16 bt b0 b1 (by omega) kb hlo) (by decide) (by decide) (Nat.le_of_ble_eq_true rfl) (fun v11 h11 n11 q11 => ?_)
          obtain ⟨rfl, N11, s3, f3, m4, m5, m6⟩ := q11
          rw [N11]
          refine zp_nrm (cells' := 0) (slots' := 0) (st' := []) rfl rfl rfl ?_
          have d0 : h11 c = some (zco c (nI (zro b))) := (s3 c (by omega)).trans b0
          refine zp_iload dX0_useKey_74 rfl ?_
          refine zp_pc (pc' := 76) rfl ?_
          refine zn_if_ne (tgt := 95) dX0_useKey_76 (by decide) hpl (fun c76 => ?_) (fun c76 => ?_)
          · refine zn_iinc 4 (ls' := [some (.ref (c)), some (.ref (r)), some (.int (nI (zkl b))), some (.int (nI (zrc b u))), some (.int (nI (zkl b + 4 * u + 4))), some (.int (nI (4 * u % zkl b)))]) dX0_useKey_95 (by decide) (by decide) rfl rfl ?_
            refine zp_pc (pc' := 98) rfl ?_
            refine zp_ls (ls' := [some (.ref (c)), some (.ref (r)), some (.int (nI (zkl b))), some (.int (nI (zrc b u))), some (.int (nI (zkl b + 4 * (u + 1)))), some (.int (nI (4 * u % zkl b)))]) (by rw [Nat.mul_add, Nat.add_assoc]) ?_
            refine zp_ls (ls' := [some (.ref (c)), some (.ref (r)), some (.int (nI (zkl b))), some (.int (nI (zrc b (u + 1)))), some (.int (nI (zkl b + 4 * (u + 1)))), some (.int (nI (4 * u % zkl b)))]) (by rw [zrc_neg c76]) ?_
            refine zp_goto (tgt := 43) dX0_useKey_98 (by decide) ?_
            refine zp_pc (pc' := 43) rfl ?_
            refine zp_drop (ls' := [some (.ref (c)), some (.ref (r)), some (.int (nI (zkl b))), some (.int (nI (zrc b (u + 1)))), some (.int (nI (zkl b + 4 * (u + 1)))), none]) (fun i v hv => ?_) ?_
            · rcases i with _ | _ | _ | _ | _ | _ | i <;> simp at hv ⊢ <;> exact hv
            refine ih (zsn b - (u + 1)) (by omega) (u + 1) h11 f3 rfl (by omega) (hs.trans (s3.mono (fun i hi => Or.inr hi))) d0 m4 (fun i hi => ?_)
            show _ = nI (if _ then _ else _)
            split
            · rename_i q; rw [if_neg (fun q2 => c76 q2.1), Nat.xor_zero, ← m6 _ (by omega)]; congr 1; omega
            · rename_i q; exact m5 i (by omega)
          · refine zp_aload_n dX0_useKey_79 rfl ?_
            refine zp_get dX0_useKey_80 gX0_9_0 d0 rfl ?_
            refine zp_iload dX0_useKey_83 rfl ?_
            refine zp_dup2 dX0_useKey_85 rfl rfl ?_
            refine zn_iald (j := zkl b + 4 * u) dX0_useKey_86 m4 (by omega) (by omega) ?_
            refine zp_iload_n dX0_useKey_87 rfl ?_
            refine zp_ixor dX0_useKey_88 ?_
            refine zp_pc (pc' := 89) rfl ?_
            refine zp_i (y := nI (zwd b (zsk b ks u) u 0 ^^^ zrc b u)) (by rw [← Nat.add_zero (zkl b + 4 * u), m6 0 (by decide), nx_xor]) ?_
            refine zn_iast dX0_useKey_89 (by omega) m4 (by omega) (by omega) ?_
            refine zp_nh (fun h12x eh12x => ?_)
            have k12_0 := (congrFun eh12x (c)).trans ((va_up_ne _ _ (by omega)).trans d0)
            have k12_1 : h12x (c + 1) = some (.inr (240, .inl (va_up f3 (zkl b + 4 * u) (nI (zwd b (zsk b ks u) u 0 ^^^ zrc b u))))) := by rw [eh12x]; exact va_up_self _ _ _
            refine zp_iload_n dX0_useKey_90 rfl ?_
            refine zp_pc (pc' := 91) rfl ?_
            refine zp_callS (As := [.int (nI (zrc b u))]) (st := []) dX0_useKey_91 cX0_59 rfl (e_twice (x := zrc b u) (zrc_lt b u)) (by decide) (by decide) (Nat.le_of_ble_eq_true rfl) (fun v13 h13 n13 q13 => ?_)
            obtain ⟨rfl, H13, N13⟩ := q13
            rw [N13, H13]
            refine zp_nrm (cells' := 0) (slots' := 0) (st' := [.int (nI (zxt (zrc b u)))]) rfl rfl rfl ?_
            refine zp_istore_n (ls' := [some (.ref (c)), some (.ref (r)), some (.int (nI (zkl b))), some (.int (nI (zxt (zrc b u)))), some (.int (nI (zkl b + 4 * u))), some (.int (nI (4 * u % zkl b)))]) dX0_useKey_94 (by decide) rfl ?_
            refine zn_iinc 4 (ls' := [some (.ref (c)), some (.ref (r)), some (.int (nI (zkl b))), some (.int (nI (zxt (zrc b u)))), some (.int (nI (zkl b + 4 * u + 4))), some (.int (nI (4 * u % zkl b)))]) dX0_useKey_95 (by decide) (by decide) rfl rfl ?_
            refine zp_pc (pc' := 98) rfl ?_
            refine zp_ls (ls' := [some (.ref (c)), some (.ref (r)), some (.int (nI (zkl b))), some (.int (nI (zxt (zrc b u)))), some (.int (nI (zkl b + 4 * (u + 1)))), some (.int (nI (4 * u % zkl b)))]) (by rw [Nat.mul_add, Nat.add_assoc]) ?_
            refine zp_ls (ls' := [some (.ref (c)), some (.ref (r)), some (.int (nI (zkl b))), some (.int (nI (zrc b (u + 1)))), some (.int (nI (zkl b + 4 * (u + 1)))), some (.int (nI (4 * u % zkl b)))]) (by rw [zrc_pos c76]) ?_
            refine zp_goto (tgt := 43) dX0_useKey_98 (by decide) ?_
            refine zp_pc (pc' := 43) rfl ?_
            refine zp_drop (ls' := [some (.ref (c)), some (.ref (r)), some (.int (nI (zkl b))), some (.int (nI (zrc b (u + 1)))), some (.int (nI (zkl b + 4 * (u + 1)))), none]) (fun i v hv => ?_) ?_
            · rcases i with _ | _ | _ | _ | _ | _ | i <;> simp at hv ⊢ <;> exact hv
            refine ih (zsn b - (u + 1)) (by omega) (u + 1) h12x _ rfl (by omega) ((hs.trans (s3.mono (fun i hi => Or.inr hi))).up eh12x (Or.inr rfl)) k12_0 k12_1 (fun i hi => ?_)
            show _ = nI (if _ then _ else _)
            split
            · rename_i q
              by_cases e : i = zkl b + 4 * u
              · rw [e, va_up_self, if_pos ⟨c76, rfl⟩, Nat.sub_self]
              · rw [va_up_ne _ _ e, if_neg (fun q2 => e q2.2), Nat.xor_zero, ← m6 _ (by omega)]; congr 1; omega
            · rename_i q; rw [va_up_ne _ _ (by omega)]; exact m5 i (by omega)
    exact lp _ 0 h10 f1 rfl (Nat.zero_le _) s2 m0 m1 (fun i hi => m2 i (by omega))
