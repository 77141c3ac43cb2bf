set_option maxRecDepth 10000 in
set_option maxHeartbeats 2000000 in
theorem e_compress {g : ZG} {h : ZH} {n : Nat} {d : Nat} {b : Bool} {s : Z8} {W fw fh : Nat → Int64} (hd : h d = some (zdo b d)) (h16 : 16 ≤ d) (ht : ztab h) (h2 : h (d + 2) = some (.inr (8, .inr (.inl fh)))) (h3 : h (d + 3) = some (.inr (80, .inr (.inl fw)))) (hh : ∀ k, k < 8 → fh k = z8f s k) (hw : ∀ t, t < zrn b → fw t = W t) : zMt g mX3_compress (zR 1 0 0) [.ref (d)] h n (fun v h' n' => v = none ∧ n' = n ∧ zsm h h' (fun i => i = d + 2) ∧ ∃ f', h' (d + 2) = some (.inr (8, .inr (.inl f'))) ∧ ∀ k, k < 8 → f' k = z8f (zcomp b W s) k) := by
  refine zMt.of [some (.ref (d)), none, none, none, none, none, none, none, none, none, none, none, none, none, none, none, none, none, none, none, none, none, none, none, none, none] (by decide) rfl (Nat.le_of_ble_eq_true rfl) ?_
  obtain ⟨Qf, hQ⟩ : ∃ Qf : ZQ, Qf = (fun v h' n' => v = none ∧ n' = n ∧ zsm h h' (fun i => i = d + 2) ∧ ∃ f', h' (d + 2) = some (.inr (8, .inr (.inl f'))) ∧ ∀ k, k < 8 → f' k = z8f (zcomp b W s) k) := ⟨_, rfl⟩
  rw [← hQ]
  have hwb := zwb_or b
  have hr := zrn_or b
  have ht5 := ztid_le b
  have dt := ht.turns b
  have hR := ht.2.2.1
  refine zp_aload_n dX3_compress_0 rfl ?_
  refine zp_get dX3_compress_1 gX3_13_3 hd rfl ?_
  refine zp_iconst (v := nI (0)) dX3_compress_4 (by decide) ?_
  refine zn_lald (j := 0) dX3_compress_5 h2 (by omega) (by omega) ?_
  refine zp_pc (pc' := 6) rfl ?_
  refine zp_l (y := (zrounds b W s 0).1) (hh 0 (by decide)) ?_
  refine zp_lstore_n (ls' := [some (.ref (d)), some (.long ((zrounds b W s 0).1)), none, none, none, none, none, none, none, none, none, none, none, none, none, none, none, none, none, none, none, none, none, none, none, none]) dX3_compress_6 (by decide) rfl ?_
  refine zp_aload_n dX3_compress_7 rfl ?_
  refine zp_get dX3_compress_8 gX3_13_3 hd rfl ?_
  refine zp_iconst (v := nI (1)) dX3_compress_11 (by decide) ?_
  refine zn_lald (j := 1) dX3_compress_12 h2 (by omega) (by omega) ?_
  refine zp_pc (pc' := 13) rfl ?_
  refine zp_l (y := (zrounds b W s 0).2.1) (hh 1 (by decide)) ?_
  refine zp_lstore_n (ls' := [some (.ref (d)), some (.long ((zrounds b W s 0).1)), none, some (.long ((zrounds b W s 0).2.1)), none, none, none, none, none, none, none, none, none, none, none, none, none, none, none, none, none, none, none, none, none, none]) dX3_compress_13 (by decide) rfl ?_
  refine zp_aload_n dX3_compress_14 rfl ?_
  refine zp_get dX3_compress_15 gX3_13_3 hd rfl ?_
  refine zp_iconst (v := nI (2)) dX3_compress_18 (by decide) ?_
  refine zn_lald (j := 2) dX3_compress_19 h2 (by omega) (by omega) ?_
  refine zp_pc (pc' := 20) rfl ?_
  refine zp_l (y := (zrounds b W s 0).2.2.1) (hh 2 (by decide)) ?_
  refine zp_lstore (ls' := [some (.ref (d)), some (.long ((zrounds b W s 0).1)), none, some (.long ((zrounds b W s 0).2.1)), none, some (.long ((zrounds b W s 0).2.2.1)), none, none, none, none, none, none, none, none, none, none, none, none, none, none, none, none, none, none, none, none]) dX3_compress_20 (by decide) rfl ?_
  refine zp_aload_n dX3_compress_22 rfl ?_
  refine zp_get dX3_compress_23 gX3_13_3 hd rfl ?_
  refine zp_iconst (v := nI (3)) dX3_compress_26 (by decide) ?_
  refine zn_lald (j := 3) dX3_compress_27 h2 (by omega) (by omega) ?_
  refine zp_pc (pc' := 28) rfl ?_
  refine zp_l (y := (zrounds b W s 0).2.2.2.1) (hh 3 (by decide)) ?_
  refine zp_lstore (ls' := [some (.ref (d)), some (.long ((zrounds b W s 0).1)), none, some (.long ((zrounds b W s 0).2.1)), none, some (.long ((zrounds b W s 0).2.2.1)), none, some (.long ((zrounds b W s 0).2.2.2.1)), none, none, none, none, none, none, none, none, none, none, none, none, none, none, none, none, none, none]) dX3_compress_28 (by decide) rfl ?_
  refine zp_aload_n dX3_compress_30 rfl ?_
  refine zp_get dX3_compress_31 gX3_13_3 hd rfl ?_
  refine zp_iconst (v := nI (4)) dX3_compress_34 (by decide) ?_
  refine zn_lald (j := 4) dX3_compress_35 h2 (by omega) (by omega) ?_
  refine zp_pc (pc' := 36) rfl ?_
  refine zp_l (y := (zrounds b W s 0).2.2.2.2.1) (hh 4 (by decide)) ?_
  refine zp_lstore (ls' := [some (.ref (d)), some (.long ((zrounds b W s 0).1)), none, some (.long ((zrounds b W s 0).2.1)), none, some (.long ((zrounds b W s 0).2.2.1)), none, some (.long ((zrounds b W s 0).2.2.2.1)), none, some (.long ((zrounds b W s 0).2.2.2.2.1)), none, none, none, none, none, none, none, none, none, none, none, none, none, none, none, none]) dX3_compress_36 (by decide) rfl ?_
  refine zp_aload_n dX3_compress_38 rfl ?_
  refine zp_get dX3_compress_39 gX3_13_3 hd rfl ?_
  refine zp_iconst (v := nI (5)) dX3_compress_42 (by decide) ?_
  refine zn_lald (j := 5) dX3_compress_43 h2 (by omega) (by omega) ?_
  refine zp_pc (pc' := 44) rfl ?_
  refine zp_l (y := (zrounds b W s 0).2.2.2.2.2.1) (hh 5 (by decide)) ?_
  refine zp_lstore (ls' := [some (.ref (d)), some (.long ((zrounds b W s 0).1)), none, some (.long ((zrounds b W s 0).2.1)), none, some (.long ((zrounds b W s 0).2.2.1)), none, some (.long ((zrounds b W s 0).2.2.2.1)), none, some (.long ((zrounds b W s 0).2.2.2.2.1)), none, some (.long ((zrounds b W s 0).2.2.2.2.2.1)), none, none, none, none, none, none, none, none, none, none, none, none, none, none]) dX3_compress_44 (by decide) rfl ?_
  refine zp_aload_n dX3_compress_46 rfl ?_
  refine zp_get dX3_compress_47 gX3_13_3 hd rfl ?_
  refine zp_bipush (v := nI (6)) dX3_compress_50 (by decide) ?_
  refine zn_lald (j := 6) dX3_compress_52 h2 (by omega) (by omega) ?_
  refine zp_pc (pc' := 53) rfl ?_
  refine zp_l (y := (zrounds b W s 0).2.2.2.2.2.2.1) (hh 6 (by decide)) ?_
  refine zp_lstore (ls' := [some (.ref (d)), some (.long ((zrounds b W s 0).1)), none, some (.long ((zrounds b W s 0).2.1)), none, some (.long ((zrounds b W s 0).2.2.1)), none, some (.long ((zrounds b W s 0).2.2.2.1)), none, some (.long ((zrounds b W s 0).2.2.2.2.1)), none, some (.long ((zrounds b W s 0).2.2.2.2.2.1)), none, some (.long ((zrounds b W s 0).2.2.2.2.2.2.1)), none, none, none, none, none, none, none, none, none, none, none, none]) dX3_compress_53 (by decide) rfl ?_
  refine zp_aload_n dX3_compress_55 rfl ?_
  refine zp_get dX3_compress_56 gX3_13_3 hd rfl ?_
  refine zp_bipush (v := nI (7)) dX3_compress_59 (by decide) ?_
  refine zn_lald (j := 7) dX3_compress_61 h2 (by omega) (by omega) ?_
  refine zp_pc (pc' := 62) rfl ?_
  refine zp_l (y := (zrounds b W s 0).2.2.2.2.2.2.2) (hh 7 (by decide)) ?_
  refine zp_lstore (ls' := [some (.ref (d)), some (.long ((zrounds b W s 0).1)), none, some (.long ((zrounds b W s 0).2.1)), none, some (.long ((zrounds b W s 0).2.2.1)), none, some (.long ((zrounds b W s 0).2.2.2.1)), none, some (.long ((zrounds b W s 0).2.2.2.2.1)), none, some (.long ((zrounds b W s 0).2.2.2.2.2.1)), none, some (.long ((zrounds b W s 0).2.2.2.2.2.2.1)), none, some (.long ((zrounds b W s 0).2.2.2.2.2.2.2)), none, none, none, none, none, none, none, none, none, none]) dX3_compress_62 (by decide) rfl ?_
  refine zp_iconst (v := nI (0)) dX3_compress_64 (by decide) ?_
  refine zp_istore (ls' := [some (.ref (d)), some (.long ((zrounds b W s 0).1)), none, some (.long ((zrounds b W s 0).2.1)), none, some (.long ((zrounds b W s 0).2.2.1)), none, some (.long ((zrounds b W s 0).2.2.2.1)), none, some (.long ((zrounds b W s 0).2.2.2.2.1)), none, some (.long ((zrounds b W s 0).2.2.2.2.2.1)), none, some (.long ((zrounds b W s 0).2.2.2.2.2.2.1)), none, some (.long ((zrounds b W s 0).2.2.2.2.2.2.2)), none, some (.int (nI (0))), none, none, none, none, none, none, none, none]) dX3_compress_65 (by decide) rfl ?_
  refine zp_pc (pc' := 67) rfl ?_
  have lp : ∀ (m : Nat) (t : Nat), m = zrn b - t → t ≤ zrn b → zP g mX3_compress (zR 1 0 0) Qf 0 0 67 [some (.ref (d)), some (.long ((zrounds b W s (t)).1)), none, some (.long ((zrounds b W s (t)).2.1)), none, some (.long ((zrounds b W s (t)).2.2.1)), none, some (.long ((zrounds b W s (t)).2.2.2.1)), none, some (.long ((zrounds b W s (t)).2.2.2.2.1)), none, some (.long ((zrounds b W s (t)).2.2.2.2.2.1)), none, some (.long ((zrounds b W s (t)).2.2.2.2.2.2.1)), none, some (.long ((zrounds b W s (t)).2.2.2.2.2.2.2)), none, some (.int (nI (t))), none, none, none, none, none, none, none, none] [] h n := by
    intro m
    induction m using Nat.strongRecOn with
    | _ m ih =>
      intro t hm hc
      refine zp_iload dX3_compress_67 rfl ?_
      refine zp_aload_n dX3_compress_69 rfl ?_
      refine zp_get dX3_compress_70 gX3_51_3 hd rfl ?_
      refine zp_pc (pc' := 73) rfl ?_
      refine zn_icmp_ge (tgt := 273) dX3_compress_73 (by decide) (by omega) (by omega) (fun c73 => ?_) (fun c73 => ?_)
      · have e : t = zrn b := by omega
        subst e
        refine zp_aload_n dX3_compress_273 rfl ?_
        refine zp_get dX3_compress_274 gX3_13_3 hd rfl ?_
        refine zp_iconst (v := nI (0)) dX3_compress_277 (by decide) ?_
        refine zp_aload_n dX3_compress_278 rfl ?_
        refine zp_get dX3_compress_279 gX3_13_3 hd rfl ?_
        refine zp_iconst (v := nI (0)) dX3_compress_282 (by decide) ?_
        refine zn_lald (j := 0) dX3_compress_283 h2 (by omega) (by omega) ?_
        refine zp_pc (pc' := 284) rfl ?_
        refine zp_l (y := s.1) (hh 0 (by decide)) ?_
        refine zp_lload_n dX3_compress_284 rfl ?_
        refine zp_ladd dX3_compress_285 ?_
        refine zp_aload_n dX3_compress_286 rfl ?_
        refine zp_get dX3_compress_287 gX3_41_3 hd rfl ?_
        refine zp_land dX3_compress_290 ?_
        refine zn_last dX3_compress_291 (by omega) h2 (by omega) (by omega) ?_
        refine zp_nh (fun h1x eh1x => ?_)
        have k1_0 := (congrFun eh1x (d)).trans ((va_up_ne _ _ (by omega)).trans hd)
        have k1_1 : h1x (d + 2) = some (.inr (8, .inr (.inl (va_up fh (0) (((s.1) + ((zrounds b W s (zrn b)).1)) &&& (zmask b)))))) := by rw [eh1x]; exact va_up_self _ _ _
        have k1_2 := (congrFun eh1x (d + 3)).trans ((va_up_ne _ _ (by omega)).trans h3)
        have k1_3 := (congrFun eh1x (ztid b)).trans ((va_up_ne _ _ (by omega)).trans dt)
        have k1_4 := (congrFun eh1x (3)).trans ((va_up_ne _ _ (by omega)).trans hR)
        refine zp_aload_n dX3_compress_292 rfl ?_
        refine zp_get dX3_compress_293 gX3_13_3 k1_0 rfl ?_
        refine zp_iconst (v := nI (1)) dX3_compress_296 (by decide) ?_
        refine zp_aload_n dX3_compress_297 rfl ?_
        refine zp_get dX3_compress_298 gX3_13_3 k1_0 rfl ?_
        refine zp_iconst (v := nI (1)) dX3_compress_301 (by decide) ?_
        refine zp_pc (pc' := 302) rfl ?_
        refine zn_lald (j := 1) dX3_compress_302 k1_1 (by omega) (by omega) ?_
        refine zp_pc (pc' := 303) rfl ?_
        refine zp_l (y := s.2.1) (hh 1 (by decide)) ?_
        refine zp_lload_n dX3_compress_303 rfl ?_
        refine zp_ladd dX3_compress_304 ?_
        refine zp_aload_n dX3_compress_305 rfl ?_
        refine zp_get dX3_compress_306 gX3_41_3 k1_0 rfl ?_
        refine zp_land dX3_compress_309 ?_
        refine zn_last dX3_compress_310 (by omega) k1_1 (by omega) (by omega) ?_
        refine zp_nh (fun h2x eh2x => ?_)
        have k2_0 := (congrFun eh2x (d)).trans ((va_up_ne _ _ (by omega)).trans k1_0)
        have k2_1 : h2x (d + 2) = some (.inr (8, .inr (.inl (va_up (va_up fh (0) (((s.1) + ((zrounds b W s (zrn b)).1)) &&& (zmask b))) (1) (((s.2.1) + ((zrounds b W s (zrn b)).2.1)) &&& (zmask b)))))) := by rw [eh2x]; exact va_up_self _ _ _
        have k2_2 := (congrFun eh2x (d + 3)).trans ((va_up_ne _ _ (by omega)).trans k1_2)
        have k2_3 := (congrFun eh2x (ztid b)).trans ((va_up_ne _ _ (by omega)).trans k1_3)
        have k2_4 := (congrFun eh2x (3)).trans ((va_up_ne _ _ (by omega)).trans k1_4)
        refine zp_aload_n dX3_compress_311 rfl ?_
        refine zp_get dX3_compress_312 gX3_13_3 k2_0 rfl ?_
        refine zp_iconst (v := nI (2)) dX3_compress_315 (by decide) ?_
        refine zp_aload_n dX3_compress_316 rfl ?_
        refine zp_get dX3_compress_317 gX3_13_3 k2_0 rfl ?_
        refine zp_iconst (v := nI (2)) dX3_compress_320 (by decide) ?_
        refine zp_pc (pc' := 321) rfl ?_
        refine zn_lald (j := 2) dX3_compress_321 k2_1 (by omega) (by omega) ?_
        refine zp_pc (pc' := 322) rfl ?_
        refine zp_l (y := s.2.2.1) (hh 2 (by decide)) ?_
        refine zp_lload dX3_compress_322 rfl ?_
        refine zp_ladd dX3_compress_324 ?_
        refine zp_aload_n dX3_compress_325 rfl ?_
        refine zp_get dX3_compress_326 gX3_41_3 k2_0 rfl ?_
        refine zp_land dX3_compress_329 ?_
        refine zn_last dX3_compress_330 (by omega) k2_1 (by omega) (by omega) ?_
        refine zp_nh (fun h3x eh3x => ?_)
        have k3_0 := (congrFun eh3x (d)).trans ((va_up_ne _ _ (by omega)).trans k2_0)
        have k3_1 : h3x (d + 2) = some (.inr (8, .inr (.inl (va_up (va_up (va_up fh (0) (((s.1) + ((zrounds b W s (zrn b)).1)) &&& (zmask b))) (1) (((s.2.1) + ((zrounds b W s (zrn b)).2.1)) &&& (zmask b))) (2) (((s.2.2.1) + ((zrounds b W s (zrn b)).2.2.1)) &&& (zmask b)))))) := by rw [eh3x]; exact va_up_self _ _ _
        have k3_2 := (congrFun eh3x (d + 3)).trans ((va_up_ne _ _ (by omega)).trans k2_2)
        have k3_3 := (congrFun eh3x (ztid b)).trans ((va_up_ne _ _ (by omega)).trans k2_3)
        have k3_4 := (congrFun eh3x (3)).trans ((va_up_ne _ _ (by omega)).trans k2_4)
        refine zp_aload_n dX3_compress_331 rfl ?_
        refine zp_get dX3_compress_332 gX3_13_3 k3_0 rfl ?_
        refine zp_iconst (v := nI (3)) dX3_compress_335 (by decide) ?_
        refine zp_aload_n dX3_compress_336 rfl ?_
        refine zp_get dX3_compress_337 gX3_13_3 k3_0 rfl ?_
        refine zp_iconst (v := nI (3)) dX3_compress_340 (by decide) ?_
        refine zp_pc (pc' := 341) rfl ?_
        refine zn_lald (j := 3) dX3_compress_341 k3_1 (by omega) (by omega) ?_
        refine zp_pc (pc' := 342) rfl ?_
        refine zp_l (y := s.2.2.2.1) (hh 3 (by decide)) ?_
        refine zp_lload dX3_compress_342 rfl ?_
        refine zp_ladd dX3_compress_344 ?_
        refine zp_aload_n dX3_compress_345 rfl ?_
        refine zp_get dX3_compress_346 gX3_41_3 k3_0 rfl ?_
        refine zp_land dX3_compress_349 ?_
        refine zn_last dX3_compress_350 (by omega) k3_1 (by omega) (by omega) ?_
        refine zp_nh (fun h4x eh4x => ?_)
        have k4_0 := (congrFun eh4x (d)).trans ((va_up_ne _ _ (by omega)).trans k3_0)
        have k4_1 : h4x (d + 2) = some (.inr (8, .inr (.inl (va_up (va_up (va_up (va_up fh (0) (((s.1) + ((zrounds b W s (zrn b)).1)) &&& (zmask b))) (1) (((s.2.1) + ((zrounds b W s (zrn b)).2.1)) &&& (zmask b))) (2) (((s.2.2.1) + ((zrounds b W s (zrn b)).2.2.1)) &&& (zmask b))) (3) (((s.2.2.2.1) + ((zrounds b W s (zrn b)).2.2.2.1)) &&& (zmask b)))))) := by rw [eh4x]; exact va_up_self _ _ _
        have k4_2 := (congrFun eh4x (d + 3)).trans ((va_up_ne _ _ (by omega)).trans k3_2)
        have k4_3 := (congrFun eh4x (ztid b)).trans ((va_up_ne _ _ (by omega)).trans k3_3)
        have k4_4 := (congrFun eh4x (3)).trans ((va_up_ne _ _ (by omega)).trans k3_4)
        refine zp_aload_n dX3_compress_351 rfl ?_
        refine zp_get dX3_compress_352 gX3_13_3 k4_0 rfl ?_
        refine zp_iconst (v := nI (4)) dX3_compress_355 (by decide) ?_
        refine zp_aload_n dX3_compress_356 rfl ?_
        refine zp_get dX3_compress_357 gX3_13_3 k4_0 rfl ?_
        refine zp_iconst (v := nI (4)) dX3_compress_360 (by decide) ?_
        refine zp_pc (pc' := 361) rfl ?_
        refine zn_lald (j := 4) dX3_compress_361 k4_1 (by omega) (by omega) ?_
        refine zp_pc (pc' := 362) rfl ?_
        refine zp_l (y := s.2.2.2.2.1) (hh 4 (by decide)) ?_
        refine zp_lload dX3_compress_362 rfl ?_
        refine zp_ladd dX3_compress_364 ?_
        refine zp_aload_n dX3_compress_365 rfl ?_
        refine zp_get dX3_compress_366 gX3_41_3 k4_0 rfl ?_
        refine zp_land dX3_compress_369 ?_
        refine zn_last dX3_compress_370 (by omega) k4_1 (by omega) (by omega) ?_
        refine zp_nh (fun h5x eh5x => ?_)
        have k5_0 := (congrFun eh5x (d)).trans ((va_up_ne _ _ (by omega)).trans k4_0)
        have k5_1 : h5x (d + 2) = some (.inr (8, .inr (.inl (va_up (va_up (va_up (va_up (va_up fh (0) (((s.1) + ((zrounds b W s (zrn b)).1)) &&& (zmask b))) (1) (((s.2.1) + ((zrounds b W s (zrn b)).2.1)) &&& (zmask b))) (2) (((s.2.2.1) + ((zrounds b W s (zrn b)).2.2.1)) &&& (zmask b))) (3) (((s.2.2.2.1) + ((zrounds b W s (zrn b)).2.2.2.1)) &&& (zmask b))) (4) (((s.2.2.2.2.1) + ((zrounds b W s (zrn b)).2.2.2.2.1)) &&& (zmask b)))))) := by rw [eh5x]; exact va_up_self _ _ _
        have k5_2 := (congrFun eh5x (d + 3)).trans ((va_up_ne _ _ (by omega)).trans k4_2)
        have k5_3 := (congrFun eh5x (ztid b)).trans ((va_up_ne _ _ (by omega)).trans k4_3)
        have k5_4 := (congrFun eh5x (3)).trans ((va_up_ne _ _ (by omega)).trans k4_4)
        refine zp_aload_n dX3_compress_371 rfl ?_
        refine zp_get dX3_compress_372 gX3_13_3 k5_0 rfl ?_
        refine zp_iconst (v := nI (5)) dX3_compress_375 (by decide) ?_
        refine zp_aload_n dX3_compress_376 rfl ?_
        refine zp_get dX3_compress_377 gX3_13_3 k5_0 rfl ?_
        refine zp_iconst (v := nI (5)) dX3_compress_380 (by decide) ?_
        refine zp_pc (pc' := 381) rfl ?_
        refine zn_lald (j := 5) dX3_compress_381 k5_1 (by omega) (by omega) ?_
        refine zp_pc (pc' := 382) rfl ?_
        refine zp_l (y := s.2.2.2.2.2.1) (hh 5 (by decide)) ?_
        refine zp_lload dX3_compress_382 rfl ?_
        refine zp_ladd dX3_compress_384 ?_
        refine zp_aload_n dX3_compress_385 rfl ?_
        refine zp_get dX3_compress_386 gX3_41_3 k5_0 rfl ?_
        refine zp_land dX3_compress_389 ?_
        refine zn_last dX3_compress_390 (by omega) k5_1 (by omega) (by omega) ?_
        refine zp_nh (fun h6x eh6x => ?_)
        have k6_0 := (congrFun eh6x (d)).trans ((va_up_ne _ _ (by omega)).trans k5_0)
        have k6_1 : h6x (d + 2) = some (.inr (8, .inr (.inl (va_up (va_up (va_up (va_up (va_up (va_up fh (0) (((s.1) + ((zrounds b W s (zrn b)).1)) &&& (zmask b))) (1) (((s.2.1) + ((zrounds b W s (zrn b)).2.1)) &&& (zmask b))) (2) (((s.2.2.1) + ((zrounds b W s (zrn b)).2.2.1)) &&& (zmask b))) (3) (((s.2.2.2.1) + ((zrounds b W s (zrn b)).2.2.2.1)) &&& (zmask b))) (4) (((s.2.2.2.2.1) + ((zrounds b W s (zrn b)).2.2.2.2.1)) &&& (zmask b))) (5) (((s.2.2.2.2.2.1) + ((zrounds b W s (zrn b)).2.2.2.2.2.1)) &&& (zmask b)))))) := by rw [eh6x]; exact va_up_self _ _ _
        have k6_2 := (congrFun eh6x (d + 3)).trans ((va_up_ne _ _ (by omega)).trans k5_2)
        have k6_3 := (congrFun eh6x (ztid b)).trans ((va_up_ne _ _ (by omega)).trans k5_3)
        have k6_4 := (congrFun eh6x (3)).trans ((va_up_ne _ _ (by omega)).trans k5_4)
        refine zp_aload_n dX3_compress_391 rfl ?_
        refine zp_get dX3_compress_392 gX3_13_3 k6_0 rfl ?_
        refine zp_bipush (v := nI (6)) dX3_compress_395 (by decide) ?_
        refine zp_aload_n dX3_compress_397 rfl ?_
        refine zp_get dX3_compress_398 gX3_13_3 k6_0 rfl ?_
        refine zp_bipush (v := nI (6)) dX3_compress_401 (by decide) ?_
        refine zp_pc (pc' := 403) rfl ?_
        refine zn_lald (j := 6) dX3_compress_403 k6_1 (by omega) (by omega) ?_
        refine zp_pc (pc' := 404) rfl ?_
        refine zp_l (y := s.2.2.2.2.2.2.1) (hh 6 (by decide)) ?_
        refine zp_lload dX3_compress_404 rfl ?_
        refine zp_ladd dX3_compress_406 ?_
        refine zp_aload_n dX3_compress_407 rfl ?_
        refine zp_get dX3_compress_408 gX3_41_3 k6_0 rfl ?_
        refine zp_land dX3_compress_411 ?_
        refine zn_last dX3_compress_412 (by omega) k6_1 (by omega) (by omega) ?_
        refine zp_nh (fun h7x eh7x => ?_)
        have k7_0 := (congrFun eh7x (d)).trans ((va_up_ne _ _ (by omega)).trans k6_0)
        have k7_1 : h7x (d + 2) = some (.inr (8, .inr (.inl (va_up (va_up (va_up (va_up (va_up (va_up (va_up fh (0) (((s.1) + ((zrounds b W s (zrn b)).1)) &&& (zmask b))) (1) (((s.2.1) + ((zrounds b W s (zrn b)).2.1)) &&& (zmask b))) (2) (((s.2.2.1) + ((zrounds b W s (zrn b)).2.2.1)) &&& (zmask b))) (3) (((s.2.2.2.1) + ((zrounds b W s (zrn b)).2.2.2.1)) &&& (zmask b))) (4) (((s.2.2.2.2.1) + ((zrounds b W s (zrn b)).2.2.2.2.1)) &&& (zmask b))) (5) (((s.2.2.2.2.2.1) + ((zrounds b W s (zrn b)).2.2.2.2.2.1)) &&& (zmask b))) (6) (((s.2.2.2.2.2.2.1) + ((zrounds b W s (zrn b)).2.2.2.2.2.2.1)) &&& (zmask b)))))) := by rw [eh7x]; exact va_up_self _ _ _
        have k7_2 := (congrFun eh7x (d + 3)).trans ((va_up_ne _ _ (by omega)).trans k6_2)
        have k7_3 := (congrFun eh7x (ztid b)).trans ((va_up_ne _ _ (by omega)).trans k6_3)
        have k7_4 := (congrFun eh7x (3)).trans ((va_up_ne _ _ (by omega)).trans k6_4)
        refine zp_aload_n dX3_compress_413 rfl ?_
        refine zp_get dX3_compress_414 gX3_13_3 k7_0 rfl ?_
        refine zp_bipush (v := nI (7)) dX3_compress_417 (by decide) ?_
        refine zp_aload_n dX3_compress_419 rfl ?_
        refine zp_get dX3_compress_420 gX3_13_3 k7_0 rfl ?_
        refine zp_bipush (v := nI (7)) dX3_compress_423 (by decide) ?_
        refine zp_pc (pc' := 425) rfl ?_
        refine zn_lald (j := 7) dX3_compress_425 k7_1 (by omega) (by omega) ?_
        refine zp_pc (pc' := 426) rfl ?_
        refine zp_l (y := s.2.2.2.2.2.2.2) (hh 7 (by decide)) ?_
        refine zp_lload dX3_compress_426 rfl ?_
        refine zp_ladd dX3_compress_428 ?_
        refine zp_aload_n dX3_compress_429 rfl ?_
        refine zp_get dX3_compress_430 gX3_41_3 k7_0 rfl ?_
        refine zp_land dX3_compress_433 ?_
        refine zn_last dX3_compress_434 (by omega) k7_1 (by omega) (by omega) ?_
        refine zp_nh (fun h8x eh8x => ?_)
        have k8_0 := (congrFun eh8x (d)).trans ((va_up_ne _ _ (by omega)).trans k7_0)
        have k8_1 : h8x (d + 2) = some (.inr (8, .inr (.inl (va_up (va_up (va_up (va_up (va_up (va_up (va_up (va_up fh (0) (((s.1) + ((zrounds b W s (zrn b)).1)) &&& (zmask b))) (1) (((s.2.1) + ((zrounds b W s (zrn b)).2.1)) &&& (zmask b))) (2) (((s.2.2.1) + ((zrounds b W s (zrn b)).2.2.1)) &&& (zmask b))) (3) (((s.2.2.2.1) + ((zrounds b W s (zrn b)).2.2.2.1)) &&& (zmask b))) (4) (((s.2.2.2.2.1) + ((zrounds b W s (zrn b)).2.2.2.2.1)) &&& (zmask b))) (5) (((s.2.2.2.2.2.1) + ((zrounds b W s (zrn b)).2.2.2.2.2.1)) &&& (zmask b))) (6) (((s.2.2.2.2.2.2.1) + ((zrounds b W s (zrn b)).2.2.2.2.2.2.1)) &&& (zmask b))) (7) (((s.2.2.2.2.2.2.2) + ((zrounds b W s (zrn b)).2.2.2.2.2.2.2)) &&& (zmask b)))))) := by rw [eh8x]; exact va_up_self _ _ _
        have k8_2 := (congrFun eh8x (d + 3)).trans ((va_up_ne _ _ (by omega)).trans k7_2)
        have k8_3 := (congrFun eh8x (ztid b)).trans ((va_up_ne _ _ (by omega)).trans k7_3)
        have k8_4 := (congrFun eh8x (3)).trans ((va_up_ne _ _ (by omega)).trans k7_4)
        refine zp_pc (pc' := 435) rfl ?_
        refine zp_ret (v := none) dX3_compress_435 ⟨rfl, rfl⟩ (by decide) (by decide) ?_
        rw [hQ]
        refine ⟨rfl, rfl, (((((((((zsm.rf (S := fun i => i = d + 2)).up eh1x rfl).up eh2x rfl).up eh3x rfl).up eh4x rfl).up eh5x rfl).up eh6x rfl).up eh7x rfl).up eh8x rfl), _, k8_1, fun k hk => ?_⟩
        rcases k with _ | _ | _ | _ | _ | _ | _ | _ | k
        · rfl
        · rfl
        · rfl
        · rfl
        · rfl
        · rfl
        · rfl
        · rfl
        · omega
      · refine zp_aload_n dX3_compress_76 rfl ?_
        refine zp_lload dX3_compress_77 rfl ?_
        refine zp_aload_n dX3_compress_79 rfl ?_
        refine zp_get dX3_compress_80 gX3_60_3 hd rfl ?_
        refine zp_bipush (v := nI (6)) dX3_compress_83 (by decide) ?_
        refine zn_iald (j := 6) dX3_compress_85 dt (by omega) (by omega) ?_
        refine zp_pc (pc' := 86) rfl ?_
        refine zp_i (y := ztu b 6) rfl ?_
        refine zp_callV (As := [.long ((zrounds b W s (t)).2.2.2.2.1), .int (ztu b 6)]) (k := d) (st := []) (ci := 3) dX3_compress_86 cX3_87 rfl hd rfl rfl (e_turned (b := b) (x := (zrounds b W s (t)).2.2.2.2.1) (k := ztu b 6) hd) (by decide) (by decide) (Nat.le_of_ble_eq_true rfl) (fun v9 h9 n9 q9 => ?_)
        obtain ⟨rfl, rfl, rfl⟩ := q9
        refine zp_nrm (cells' := 0) (slots' := 0) (st' := [.long (ztn b ((zrounds b W s (t)).2.2.2.2.1) (ztu b 6))]) rfl rfl rfl ?_
        refine zp_aload_n dX3_compress_89 rfl ?_
        refine zp_lload dX3_compress_90 rfl ?_
        refine zp_aload_n dX3_compress_92 rfl ?_
        refine zp_get dX3_compress_93 gX3_60_3 hd rfl ?_
        refine zp_bipush (v := nI (7)) dX3_compress_96 (by decide) ?_
        refine zn_iald (j := 7) dX3_compress_98 dt (by omega) (by omega) ?_
        refine zp_pc (pc' := 99) rfl ?_
        refine zp_i (y := ztu b 7) rfl ?_
        refine zp_callV (As := [.long ((zrounds b W s (t)).2.2.2.2.1), .int (ztu b 7)]) (k := d) (st := [.long (ztn b ((zrounds b W s (t)).2.2.2.2.1) (ztu b 6))]) (ci := 3) dX3_compress_99 cX3_87 rfl hd rfl rfl (e_turned (b := b) (x := (zrounds b W s (t)).2.2.2.2.1) (k := ztu b 7) hd) (by decide) (by decide) (Nat.le_of_ble_eq_true rfl) (fun v10 h10 n10 q10 => ?_)
        obtain ⟨rfl, rfl, rfl⟩ := q10
        refine zp_nrm (cells' := 0) (slots' := 0) (st' := [.long (ztn b ((zrounds b W s (t)).2.2.2.2.1) (ztu b 7)), .long (ztn b ((zrounds b W s (t)).2.2.2.2.1) (ztu b 6))]) rfl rfl rfl ?_
        refine zp_lxor dX3_compress_102 ?_
        refine zp_aload_n dX3_compress_103 rfl ?_
        refine zp_lload dX3_compress_104 rfl ?_
        refine zp_aload_n dX3_compress_106 rfl ?_
        refine zp_get dX3_compress_107 gX3_60_3 hd rfl ?_
        refine zp_bipush (v := nI (8)) dX3_compress_110 (by decide) ?_
        refine zn_iald (j := 8) dX3_compress_112 dt (by omega) (by omega) ?_
        refine zp_pc (pc' := 113) rfl ?_
        refine zp_i (y := ztu b 8) rfl ?_
        refine zp_callV (As := [.long ((zrounds b W s (t)).2.2.2.2.1), .int (ztu b 8)]) (k := d) (st := [.long ((ztn b ((zrounds b W s (t)).2.2.2.2.1) (ztu b 6)) ^^^ (ztn b ((zrounds b W s (t)).2.2.2.2.1) (ztu b 7)))]) (ci := 3) dX3_compress_113 cX3_87 rfl hd rfl rfl (e_turned (b := b) (x := (zrounds b W s (t)).2.2.2.2.1) (k := ztu b 8) hd) (by decide) (by decide) (Nat.le_of_ble_eq_true rfl) (fun v11 h11 n11 q11 => ?_)
        obtain ⟨rfl, rfl, rfl⟩ := q11
        refine zp_nrm (cells' := 0) (slots' := 0) (st' := [.long (ztn b ((zrounds b W s (t)).2.2.2.2.1) (ztu b 8)), .long ((ztn b ((zrounds b W s (t)).2.2.2.2.1) (ztu b 6)) ^^^ (ztn b ((zrounds b W s (t)).2.2.2.2.1) (ztu b 7)))]) rfl rfl rfl ?_
        refine zp_lxor dX3_compress_116 ?_
        refine zp_lstore (ls' := [some (.ref (d)), some (.long ((zrounds b W s (t)).1)), none, some (.long ((zrounds b W s (t)).2.1)), none, some (.long ((zrounds b W s (t)).2.2.1)), none, some (.long ((zrounds b W s (t)).2.2.2.1)), none, some (.long ((zrounds b W s (t)).2.2.2.2.1)), none, some (.long ((zrounds b W s (t)).2.2.2.2.2.1)), none, some (.long ((zrounds b W s (t)).2.2.2.2.2.2.1)), none, some (.long ((zrounds b W s (t)).2.2.2.2.2.2.2)), none, some (.int (nI (t))), some (.long (((ztn b ((zrounds b W s (t)).2.2.2.2.1) (ztu b 6)) ^^^ (ztn b ((zrounds b W s (t)).2.2.2.2.1) (ztu b 7))) ^^^ (ztn b ((zrounds b W s (t)).2.2.2.2.1) (ztu b 8)))), none, none, none, none, none, none, none]) dX3_compress_117 (by decide) rfl ?_
        refine zp_lload dX3_compress_119 rfl ?_
        refine zp_lload dX3_compress_121 rfl ?_
        refine zp_ladd dX3_compress_123 ?_
        refine zp_lload dX3_compress_124 rfl ?_
        refine zp_lload dX3_compress_126 rfl ?_
        refine zp_land dX3_compress_128 ?_
        refine zp_lload dX3_compress_129 rfl ?_
        refine zp_ldc2 dX3_compress_131 kcX3_39 ?_
        refine zp_lxor dX3_compress_134 ?_
        refine zp_lload dX3_compress_135 rfl ?_
        refine zp_pc (pc' := 137) rfl ?_
        refine zp_land dX3_compress_137 ?_
        refine zp_lxor dX3_compress_138 ?_
        refine zp_ladd dX3_compress_139 ?_
        refine zp_gets dX3_compress_140 sX3_91 ?_
        refine zp_iload dX3_compress_143 rfl ?_
        refine zn_lald (j := t) dX3_compress_145 hR (by omega) (by omega) ?_
        refine zp_bipush (v := nI (64)) dX3_compress_146 (by decide) ?_
        refine zp_aload_n dX3_compress_148 rfl ?_
        refine zp_get dX3_compress_149 gX3_36_3 hd rfl ?_
        refine zn_isub dX3_compress_152 (by omega) ?_
        refine zp_lushr dX3_compress_153 ?_
        refine zp_pc (pc' := 154) rfl ?_
        refine zp_l (y := zcut b (zt_ROUND.getD t 0)) rfl ?_
        refine zp_ladd dX3_compress_154 ?_
        refine zp_aload_n dX3_compress_155 rfl ?_
        refine zp_get dX3_compress_156 gX3_17_3 hd rfl ?_
        refine zp_iload dX3_compress_159 rfl ?_
        refine zn_lald (j := t) dX3_compress_161 h3 (by omega) (by omega) ?_
        refine zp_pc (pc' := 162) rfl ?_
        refine zp_l (y := W t) (hw _ (by omega)) ?_
        refine zp_ladd dX3_compress_162 ?_
        refine zp_pc (pc' := 163) rfl ?_
        refine zp_l (y := zt1 b (zcut b (zt_ROUND.getD t 0)) (W t) (zrounds b W s t)) rfl ?_
        refine zp_lstore (ls' := [some (.ref (d)), some (.long ((zrounds b W s (t)).1)), none, some (.long ((zrounds b W s (t)).2.1)), none, some (.long ((zrounds b W s (t)).2.2.1)), none, some (.long ((zrounds b W s (t)).2.2.2.1)), none, some (.long ((zrounds b W s (t)).2.2.2.2.1)), none, some (.long ((zrounds b W s (t)).2.2.2.2.2.1)), none, some (.long ((zrounds b W s (t)).2.2.2.2.2.2.1)), none, some (.long ((zrounds b W s (t)).2.2.2.2.2.2.2)), none, some (.int (nI (t))), some (.long (((ztn b ((zrounds b W s (t)).2.2.2.2.1) (ztu b 6)) ^^^ (ztn b ((zrounds b W s (t)).2.2.2.2.1) (ztu b 7))) ^^^ (ztn b ((zrounds b W s (t)).2.2.2.2.1) (ztu b 8)))), none, some (.long (zt1 b (zcut b (zt_ROUND.getD t 0)) (W t) (zrounds b W s t))), none, none, none, none, none]) dX3_compress_163 (by decide) rfl ?_
        refine zp_pc (pc' := 165) rfl ?_
        refine zp_aload_n dX3_compress_165 rfl ?_
        refine zp_lload_n dX3_compress_166 rfl ?_
        refine zp_aload_n dX3_compress_167 rfl ?_
        refine zp_get dX3_compress_168 gX3_60_3 hd rfl ?_
        refine zp_bipush (v := nI (9)) dX3_compress_171 (by decide) ?_
        refine zn_iald (j := 9) dX3_compress_173 dt (by omega) (by omega) ?_
        refine zp_pc (pc' := 174) rfl ?_
        refine zp_i (y := ztu b 9) rfl ?_
        refine zp_callV (As := [.long ((zrounds b W s (t)).1), .int (ztu b 9)]) (k := d) (st := []) (ci := 3) dX3_compress_174 cX3_87 rfl hd rfl rfl (e_turned (b := b) (x := (zrounds b W s (t)).1) (k := ztu b 9) hd) (by decide) (by decide) (Nat.le_of_ble_eq_true rfl) (fun v12 h12 n12 q12 => ?_)
        obtain ⟨rfl, rfl, rfl⟩ := q12
        refine zp_nrm (cells' := 0) (slots' := 0) (st' := [.long (ztn b ((zrounds b W s (t)).1) (ztu b 9))]) rfl rfl rfl ?_
        refine zp_aload_n dX3_compress_177 rfl ?_
        refine zp_lload_n dX3_compress_178 rfl ?_
        refine zp_aload_n dX3_compress_179 rfl ?_
        refine zp_get dX3_compress_180 gX3_60_3 hd rfl ?_
        refine zp_bipush (v := nI (10)) dX3_compress_183 (by decide) ?_
        refine zn_iald (j := 10) dX3_compress_185 dt (by omega) (by omega) ?_
        refine zp_pc (pc' := 186) rfl ?_
        refine zp_i (y := ztu b 10) rfl ?_
        refine zp_callV (As := [.long ((zrounds b W s (t)).1), .int (ztu b 10)]) (k := d) (st := [.long (ztn b ((zrounds b W s (t)).1) (ztu b 9))]) (ci := 3) dX3_compress_186 cX3_87 rfl hd rfl rfl (e_turned (b := b) (x := (zrounds b W s (t)).1) (k := ztu b 10) hd) (by decide) (by decide) (Nat.le_of_ble_eq_true rfl) (fun v13 h13 n13 q13 => ?_)
        obtain ⟨rfl, rfl, rfl⟩ := q13
        refine zp_nrm (cells' := 0) (slots' := 0) (st' := [.long (ztn b ((zrounds b W s (t)).1) (ztu b 10)), .long (ztn b ((zrounds b W s (t)).1) (ztu b 9))]) rfl rfl rfl ?_
        refine zp_lxor dX3_compress_189 ?_
        refine zp_aload_n dX3_compress_190 rfl ?_
        refine zp_lload_n dX3_compress_191 rfl ?_
        refine zp_aload_n dX3_compress_192 rfl ?_
        refine zp_get dX3_compress_193 gX3_60_3 hd rfl ?_
        refine zp_bipush (v := nI (11)) dX3_compress_196 (by decide) ?_
        refine zn_iald (j := 11) dX3_compress_198 dt (by omega) (by omega) ?_
        refine zp_pc (pc' := 199) rfl ?_
        refine zp_i (y := ztu b 11) rfl ?_
        refine zp_callV (As := [.long ((zrounds b W s (t)).1), .int (ztu b 11)]) (k := d) (st := [.long ((ztn b ((zrounds b W s (t)).1) (ztu b 9)) ^^^ (ztn b ((zrounds b W s (t)).1) (ztu b 10)))]) (ci := 3) dX3_compress_199 cX3_87 rfl hd rfl rfl (e_turned (b := b) (x := (zrounds b W s (t)).1) (k := ztu b 11) hd) (by decide) (by decide) (Nat.le_of_ble_eq_true rfl) (fun v14 h14 n14 q14 => ?_)
        obtain ⟨rfl, rfl, rfl⟩ := q14
        refine zp_nrm (cells' := 0) (slots' := 0) (st' := [.long (ztn b ((zrounds b W s (t)).1) (ztu b 11)), .long ((ztn b ((zrounds b W s (t)).1) (ztu b 9)) ^^^ (ztn b ((zrounds b W s (t)).1) (ztu b 10)))]) rfl rfl rfl ?_
        refine zp_lxor dX3_compress_202 ?_
        refine zp_lstore (ls' := [some (.ref (d)), some (.long ((zrounds b W s (t)).1)), none, some (.long ((zrounds b W s (t)).2.1)), none, some (.long ((zrounds b W s (t)).2.2.1)), none, some (.long ((zrounds b W s (t)).2.2.2.1)), none, some (.long ((zrounds b W s (t)).2.2.2.2.1)), none, some (.long ((zrounds b W s (t)).2.2.2.2.2.1)), none, some (.long ((zrounds b W s (t)).2.2.2.2.2.2.1)), none, some (.long ((zrounds b W s (t)).2.2.2.2.2.2.2)), none, some (.int (nI (t))), some (.long (((ztn b ((zrounds b W s (t)).2.2.2.2.1) (ztu b 6)) ^^^ (ztn b ((zrounds b W s (t)).2.2.2.2.1) (ztu b 7))) ^^^ (ztn b ((zrounds b W s (t)).2.2.2.2.1) (ztu b 8)))), none, some (.long (zt1 b (zcut b (zt_ROUND.getD t 0)) (W t) (zrounds b W s t))), none, some (.long (((ztn b ((zrounds b W s (t)).1) (ztu b 9)) ^^^ (ztn b ((zrounds b W s (t)).1) (ztu b 10))) ^^^ (ztn b ((zrounds b W s (t)).1) (ztu b 11)))), none, none, none]) dX3_compress_203 (by decide) rfl ?_
        refine zp_lload dX3_compress_205 rfl ?_
        refine zp_lload_n dX3_compress_207 rfl ?_
        refine zp_lload_n dX3_compress_208 rfl ?_
        refine zp_land dX3_compress_209 ?_
        refine zp_lload_n dX3_compress_210 rfl ?_
        refine zp_lload dX3_compress_211 rfl ?_
        refine zp_land dX3_compress_213 ?_
        refine zp_lxor dX3_compress_214 ?_
        refine zp_lload_n dX3_compress_215 rfl ?_
        refine zp_lload dX3_compress_216 rfl ?_
        refine zp_pc (pc' := 218) rfl ?_
        refine zp_land dX3_compress_218 ?_
        refine zp_lxor dX3_compress_219 ?_
        refine zp_ladd dX3_compress_220 ?_
        refine zp_pc (pc' := 221) rfl ?_
        refine zp_l (y := zt2 b (zrounds b W s t)) rfl ?_
        refine zp_lstore (ls' := [some (.ref (d)), some (.long ((zrounds b W s (t)).1)), none, some (.long ((zrounds b W s (t)).2.1)), none, some (.long ((zrounds b W s (t)).2.2.1)), none, some (.long ((zrounds b W s (t)).2.2.2.1)), none, some (.long ((zrounds b W s (t)).2.2.2.2.1)), none, some (.long ((zrounds b W s (t)).2.2.2.2.2.1)), none, some (.long ((zrounds b W s (t)).2.2.2.2.2.2.1)), none, some (.long ((zrounds b W s (t)).2.2.2.2.2.2.2)), none, some (.int (nI (t))), some (.long (((ztn b ((zrounds b W s (t)).2.2.2.2.1) (ztu b 6)) ^^^ (ztn b ((zrounds b W s (t)).2.2.2.2.1) (ztu b 7))) ^^^ (ztn b ((zrounds b W s (t)).2.2.2.2.1) (ztu b 8)))), none, some (.long (zt1 b (zcut b (zt_ROUND.getD t 0)) (W t) (zrounds b W s t))), none, some (.long (((ztn b ((zrounds b W s (t)).1) (ztu b 9)) ^^^ (ztn b ((zrounds b W s (t)).1) (ztu b 10))) ^^^ (ztn b ((zrounds b W s (t)).1) (ztu b 11)))), none, some (.long (zt2 b (zrounds b W s t))), none]) dX3_compress_221 (by decide) rfl ?_
        refine zp_lload dX3_compress_223 rfl ?_
        refine zp_lstore (ls' := [some (.ref (d)), some (.long ((zrounds b W s (t)).1)), none, some (.long ((zrounds b W s (t)).2.1)), none, some (.long ((zrounds b W s (t)).2.2.1)), none, some (.long ((zrounds b W s (t)).2.2.2.1)), none, some (.long ((zrounds b W s (t)).2.2.2.2.1)), none, some (.long ((zrounds b W s (t)).2.2.2.2.2.1)), none, some (.long ((zrounds b W s (t)).2.2.2.2.2.2.1)), none, some (.long ((zrounds b W s (t)).2.2.2.2.2.2.1)), none, some (.int (nI (t))), some (.long (((ztn b ((zrounds b W s (t)).2.2.2.2.1) (ztu b 6)) ^^^ (ztn b ((zrounds b W s (t)).2.2.2.2.1) (ztu b 7))) ^^^ (ztn b ((zrounds b W s (t)).2.2.2.2.1) (ztu b 8)))), none, some (.long (zt1 b (zcut b (zt_ROUND.getD t 0)) (W t) (zrounds b W s t))), none, some (.long (((ztn b ((zrounds b W s (t)).1) (ztu b 9)) ^^^ (ztn b ((zrounds b W s (t)).1) (ztu b 10))) ^^^ (ztn b ((zrounds b W s (t)).1) (ztu b 11)))), none, some (.long (zt2 b (zrounds b W s t))), none]) dX3_compress_225 (by decide) rfl ?_
        refine zp_lload dX3_compress_227 rfl ?_
        refine zp_lstore (ls' := [some (.ref (d)), some (.long ((zrounds b W s (t)).1)), none, some (.long ((zrounds b W s (t)).2.1)), none, some (.long ((zrounds b W s (t)).2.2.1)), none, some (.long ((zrounds b W s (t)).2.2.2.1)), none, some (.long ((zrounds b W s (t)).2.2.2.2.1)), none, some (.long ((zrounds b W s (t)).2.2.2.2.2.1)), none, some (.long ((zrounds b W s (t)).2.2.2.2.2.1)), none, some (.long ((zrounds b W s (t)).2.2.2.2.2.2.1)), none, some (.int (nI (t))), some (.long (((ztn b ((zrounds b W s (t)).2.2.2.2.1) (ztu b 6)) ^^^ (ztn b ((zrounds b W s (t)).2.2.2.2.1) (ztu b 7))) ^^^ (ztn b ((zrounds b W s (t)).2.2.2.2.1) (ztu b 8)))), none, some (.long (zt1 b (zcut b (zt_ROUND.getD t 0)) (W t) (zrounds b W s t))), none, some (.long (((ztn b ((zrounds b W s (t)).1) (ztu b 9)) ^^^ (ztn b ((zrounds b W s (t)).1) (ztu b 10))) ^^^ (ztn b ((zrounds b W s (t)).1) (ztu b 11)))), none, some (.long (zt2 b (zrounds b W s t))), none]) dX3_compress_229 (by decide) rfl ?_
        refine zp_lload dX3_compress_231 rfl ?_
        refine zp_lstore (ls' := [some (.ref (d)), some (.long ((zrounds b W s (t)).1)), none, some (.long ((zrounds b W s (t)).2.1)), none, some (.long ((zrounds b W s (t)).2.2.1)), none, some (.long ((zrounds b W s (t)).2.2.2.1)), none, some (.long ((zrounds b W s (t)).2.2.2.2.1)), none, some (.long ((zrounds b W s (t)).2.2.2.2.1)), none, some (.long ((zrounds b W s (t)).2.2.2.2.2.1)), none, some (.long ((zrounds b W s (t)).2.2.2.2.2.2.1)), none, some (.int (nI (t))), some (.long (((ztn b ((zrounds b W s (t)).2.2.2.2.1) (ztu b 6)) ^^^ (ztn b ((zrounds b W s (t)).2.2.2.2.1) (ztu b 7))) ^^^ (ztn b ((zrounds b W s (t)).2.2.2.2.1) (ztu b 8)))), none, some (.long (zt1 b (zcut b (zt_ROUND.getD t 0)) (W t) (zrounds b W s t))), none, some (.long (((ztn b ((zrounds b W s (t)).1) (ztu b 9)) ^^^ (ztn b ((zrounds b W s (t)).1) (ztu b 10))) ^^^ (ztn b ((zrounds b W s (t)).1) (ztu b 11)))), none, some (.long (zt2 b (zrounds b W s t))), none]) dX3_compress_233 (by decide) rfl ?_
        refine zp_lload dX3_compress_235 rfl ?_
        refine zp_lload dX3_compress_237 rfl ?_
        refine zp_ladd dX3_compress_239 ?_
        refine zp_aload_n dX3_compress_240 rfl ?_
        refine zp_get dX3_compress_241 gX3_41_3 hd rfl ?_
        refine zp_pc (pc' := 244) rfl ?_
        refine zp_land dX3_compress_244 ?_
        refine zp_pc (pc' := 245) rfl ?_
        refine zp_l (y := (zrounds b W s (t + 1)).2.2.2.2.1) rfl ?_
        refine zp_lstore (ls' := [some (.ref (d)), some (.long ((zrounds b W s (t)).1)), none, some (.long ((zrounds b W s (t)).2.1)), none, some (.long ((zrounds b W s (t)).2.2.1)), none, some (.long ((zrounds b W s (t)).2.2.2.1)), none, some (.long ((zrounds b W s (t + 1)).2.2.2.2.1)), none, some (.long ((zrounds b W s (t)).2.2.2.2.1)), none, some (.long ((zrounds b W s (t)).2.2.2.2.2.1)), none, some (.long ((zrounds b W s (t)).2.2.2.2.2.2.1)), none, some (.int (nI (t))), some (.long (((ztn b ((zrounds b W s (t)).2.2.2.2.1) (ztu b 6)) ^^^ (ztn b ((zrounds b W s (t)).2.2.2.2.1) (ztu b 7))) ^^^ (ztn b ((zrounds b W s (t)).2.2.2.2.1) (ztu b 8)))), none, some (.long (zt1 b (zcut b (zt_ROUND.getD t 0)) (W t) (zrounds b W s t))), none, some (.long (((ztn b ((zrounds b W s (t)).1) (ztu b 9)) ^^^ (ztn b ((zrounds b W s (t)).1) (ztu b 10))) ^^^ (ztn b ((zrounds b W s (t)).1) (ztu b 11)))), none, some (.long (zt2 b (zrounds b W s t))), none]) dX3_compress_245 (by decide) rfl ?_
        refine zp_lload dX3_compress_247 rfl ?_
        refine zp_lstore (ls' := [some (.ref (d)), some (.long ((zrounds b W s (t)).1)), none, some (.long ((zrounds b W s (t)).2.1)), none, some (.long ((zrounds b W s (t)).2.2.1)), none, some (.long ((zrounds b W s (t)).2.2.1)), none, some (.long ((zrounds b W s (t + 1)).2.2.2.2.1)), none, some (.long ((zrounds b W s (t)).2.2.2.2.1)), none, some (.long ((zrounds b W s (t)).2.2.2.2.2.1)), none, some (.long ((zrounds b W s (t)).2.2.2.2.2.2.1)), none, some (.int (nI (t))), some (.long (((ztn b ((zrounds b W s (t)).2.2.2.2.1) (ztu b 6)) ^^^ (ztn b ((zrounds b W s (t)).2.2.2.2.1) (ztu b 7))) ^^^ (ztn b ((zrounds b W s (t)).2.2.2.2.1) (ztu b 8)))), none, some (.long (zt1 b (zcut b (zt_ROUND.getD t 0)) (W t) (zrounds b W s t))), none, some (.long (((ztn b ((zrounds b W s (t)).1) (ztu b 9)) ^^^ (ztn b ((zrounds b W s (t)).1) (ztu b 10))) ^^^ (ztn b ((zrounds b W s (t)).1) (ztu b 11)))), none, some (.long (zt2 b (zrounds b W s t))), none]) dX3_compress_249 (by decide) rfl ?_
        refine zp_lload_n dX3_compress_251 rfl ?_
        refine zp_lstore (ls' := [some (.ref (d)), some (.long ((zrounds b W s (t)).1)), none, some (.long ((zrounds b W s (t)).2.1)), none, some (.long ((zrounds b W s (t)).2.1)), none, some (.long ((zrounds b W s (t)).2.2.1)), none, some (.long ((zrounds b W s (t + 1)).2.2.2.2.1)), none, some (.long ((zrounds b W s (t)).2.2.2.2.1)), none, some (.long ((zrounds b W s (t)).2.2.2.2.2.1)), none, some (.long ((zrounds b W s (t)).2.2.2.2.2.2.1)), none, some (.int (nI (t))), some (.long (((ztn b ((zrounds b W s (t)).2.2.2.2.1) (ztu b 6)) ^^^ (ztn b ((zrounds b W s (t)).2.2.2.2.1) (ztu b 7))) ^^^ (ztn b ((zrounds b W s (t)).2.2.2.2.1) (ztu b 8)))), none, some (.long (zt1 b (zcut b (zt_ROUND.getD t 0)) (W t) (zrounds b W s t))), none, some (.long (((ztn b ((zrounds b W s (t)).1) (ztu b 9)) ^^^ (ztn b ((zrounds b W s (t)).1) (ztu b 10))) ^^^ (ztn b ((zrounds b W s (t)).1) (ztu b 11)))), none, some (.long (zt2 b (zrounds b W s t))), none]) dX3_compress_252 (by decide) rfl ?_
        refine zp_lload_n dX3_compress_254 rfl ?_
        refine zp_lstore_n (ls' := [some (.ref (d)), some (.long ((zrounds b W s (t)).1)), none, some (.long ((zrounds b W s (t)).1)), none, some (.long ((zrounds b W s (t)).2.1)), none, some (.long ((zrounds b W s (t)).2.2.1)), none, some (.long ((zrounds b W s (t + 1)).2.2.2.2.1)), none, some (.long ((zrounds b W s (t)).2.2.2.2.1)), none, some (.long ((zrounds b W s (t)).2.2.2.2.2.1)), none, some (.long ((zrounds b W s (t)).2.2.2.2.2.2.1)), none, some (.int (nI (t))), some (.long (((ztn b ((zrounds b W s (t)).2.2.2.2.1) (ztu b 6)) ^^^ (ztn b ((zrounds b W s (t)).2.2.2.2.1) (ztu b 7))) ^^^ (ztn b ((zrounds b W s (t)).2.2.2.2.1) (ztu b 8)))), none, some (.long (zt1 b (zcut b (zt_ROUND.getD t 0)) (W t) (zrounds b W s t))), none, some (.long (((ztn b ((zrounds b W s (t)).1) (ztu b 9)) ^^^ (ztn b ((zrounds b W s (t)).1) (ztu b 10))) ^^^ (ztn b ((zrounds b W s (t)).1) (ztu b 11)))), none, some (.long (zt2 b (zrounds b W s t))), none]) dX3_compress_255 (by decide) rfl ?_
        refine zp_lload dX3_compress_256 rfl ?_
        refine zp_lload dX3_compress_258 rfl ?_
        refine zp_ladd dX3_compress_260 ?_
        refine zp_aload_n dX3_compress_261 rfl ?_
        refine zp_get dX3_compress_262 gX3_41_3 hd rfl ?_
        refine zp_pc (pc' := 265) rfl ?_
        refine zp_land dX3_compress_265 ?_
        refine zp_pc (pc' := 266) rfl ?_
        refine zp_l (y := (zrounds b W s (t + 1)).1) rfl ?_
        refine zp_lstore_n (ls' := [some (.ref (d)), some (.long ((zrounds b W s (t + 1)).1)), none, some (.long ((zrounds b W s (t)).1)), none, some (.long ((zrounds b W s (t)).2.1)), none, some (.long ((zrounds b W s (t)).2.2.1)), none, some (.long ((zrounds b W s (t + 1)).2.2.2.2.1)), none, some (.long ((zrounds b W s (t)).2.2.2.2.1)), none, some (.long ((zrounds b W s (t)).2.2.2.2.2.1)), none, some (.long ((zrounds b W s (t)).2.2.2.2.2.2.1)), none, some (.int (nI (t))), some (.long (((ztn b ((zrounds b W s (t)).2.2.2.2.1) (ztu b 6)) ^^^ (ztn b ((zrounds b W s (t)).2.2.2.2.1) (ztu b 7))) ^^^ (ztn b ((zrounds b W s (t)).2.2.2.2.1) (ztu b 8)))), none, some (.long (zt1 b (zcut b (zt_ROUND.getD t 0)) (W t) (zrounds b W s t))), none, some (.long (((ztn b ((zrounds b W s (t)).1) (ztu b 9)) ^^^ (ztn b ((zrounds b W s (t)).1) (ztu b 10))) ^^^ (ztn b ((zrounds b W s (t)).1) (ztu b 11)))), none, some (.long (zt2 b (zrounds b W s t))), none]) dX3_compress_266 (by decide) rfl ?_
        refine zn_iinc 1 (ls' := [some (.ref (d)), some (.long ((zrounds b W s (t + 1)).1)), none, some (.long ((zrounds b W s (t)).1)), none, some (.long ((zrounds b W s (t)).2.1)), none, some (.long ((zrounds b W s (t)).2.2.1)), none, some (.long ((zrounds b W s (t + 1)).2.2.2.2.1)), none, some (.long ((zrounds b W s (t)).2.2.2.2.1)), none, some (.long ((zrounds b W s (t)).2.2.2.2.2.1)), none, some (.long ((zrounds b W s (t)).2.2.2.2.2.2.1)), none, some (.int (nI (t + 1))), some (.long (((ztn b ((zrounds b W s (t)).2.2.2.2.1) (ztu b 6)) ^^^ (ztn b ((zrounds b W s (t)).2.2.2.2.1) (ztu b 7))) ^^^ (ztn b ((zrounds b W s (t)).2.2.2.2.1) (ztu b 8)))), none, some (.long (zt1 b (zcut b (zt_ROUND.getD t 0)) (W t) (zrounds b W s t))), none, some (.long (((ztn b ((zrounds b W s (t)).1) (ztu b 9)) ^^^ (ztn b ((zrounds b W s (t)).1) (ztu b 10))) ^^^ (ztn b ((zrounds b W s (t)).1) (ztu b 11)))), none, some (.long (zt2 b (zrounds b W s t))), none]) dX3_compress_267 (by decide) (by decide) rfl rfl ?_
        refine zp_pc (pc' := 270) rfl ?_
        refine zp_goto (tgt := 67) dX3_compress_270 (by decide) ?_
        refine zp_pc (pc' := 67) rfl ?_
        refine zp_ls (ls' := [some (.ref (d)), some (.long ((zrounds b W s (t + 1)).1)), none, some (.long ((zrounds b W s (t + 1)).2.1)), none, some (.long ((zrounds b W s (t + 1)).2.2.1)), none, some (.long ((zrounds b W s (t + 1)).2.2.2.1)), none, some (.long ((zrounds b W s (t + 1)).2.2.2.2.1)), none, some (.long ((zrounds b W s (t + 1)).2.2.2.2.2.1)), none, some (.long ((zrounds b W s (t + 1)).2.2.2.2.2.2.1)), none, some (.long ((zrounds b W s (t + 1)).2.2.2.2.2.2.2)), none, some (.int (nI (t + 1))), some (.long (((ztn b ((zrounds b W s (t)).2.2.2.2.1) (ztu b 6)) ^^^ (ztn b ((zrounds b W s (t)).2.2.2.2.1) (ztu b 7))) ^^^ (ztn b ((zrounds b W s (t)).2.2.2.2.1) (ztu b 8)))), none, some (.long (zt1 b (zcut b (zt_ROUND.getD t 0)) (W t) (zrounds b W s t))), none, some (.long (((ztn b ((zrounds b W s (t)).1) (ztu b 9)) ^^^ (ztn b ((zrounds b W s (t)).1) (ztu b 10))) ^^^ (ztn b ((zrounds b W s (t)).1) (ztu b 11)))), none, some (.long (zt2 b (zrounds b W s t))), none]) rfl ?_
        refine zp_drop (ls' := [some (.ref (d)), some (.long ((zrounds b W s (t + 1)).1)), none, some (.long ((zrounds b W s (t + 1)).2.1)), none, some (.long ((zrounds b W s (t + 1)).2.2.1)), none, some (.long ((zrounds b W s (t + 1)).2.2.2.1)), none, some (.long ((zrounds b W s (t + 1)).2.2.2.2.1)), none, some (.long ((zrounds b W s (t + 1)).2.2.2.2.2.1)), none, some (.long ((zrounds b W s (t + 1)).2.2.2.2.2.2.1)), none, some (.long ((zrounds b W s (t + 1)).2.2.2.2.2.2.2)), none, some (.int (nI (t + 1))), none, none, none, none, none, none, none, none]) (fun i v hv => ?_) ?_
        · rcases Nat.lt_or_ge i 18 with q | q
          · have q2 : i = 0 ∨ i = 1 ∨ i = 2 ∨ i = 3 ∨ i = 4 ∨ i = 5 ∨ i = 6 ∨ i = 7 ∨ i = 8 ∨ i = 9 ∨ i = 10 ∨ i = 11 ∨ i = 12 ∨ i = 13 ∨ i = 14 ∨ i = 15 ∨ i = 16 ∨ i = 17 := by omega
            rcases q2 with rfl | rfl | rfl | rfl | rfl | rfl | rfl | rfl | rfl | rfl | rfl | rfl | rfl | rfl | rfl | rfl | rfl | rfl <;> exact hv
          · obtain ⟨j, rfl⟩ : ∃ j, i = 18 + j := ⟨i - 18, by omega⟩
            have q3 : 18 + j < 26 := (List.getElem?_eq_some_iff.mp hv).1
            have q2 : j = 0 ∨ j = 1 ∨ j = 2 ∨ j = 3 ∨ j = 4 ∨ j = 5 ∨ j = 6 ∨ j = 7 := by omega
            rcases q2 with rfl | rfl | rfl | rfl | rfl | rfl | rfl | rfl <;> cases hv
        exact ih (zrn b - (t + 1)) (by omega) (t + 1) rfl (by omega)
  exact lp _ 0 rfl (Nat.zero_le _)
