/-! calls of a generator's methods, whatever its kind -/
section ZGC
variable {g : ZG} {M : ZM} {R : Room} {Qf : ZQ} {cells slots pc : Nat} {ls : List (Option Value)} {h : ZH} {n : Nat} {a t kd sg : Nat} {rs : Bool} {iv ct : Nat} {dr : Int32} {sd : Nat} {V C : List Nat}
theorem zp_gcall {idx d4 d5 d1 : Nat} {x4 x5 x1 : MethodName} {o4 o5 o1 : String} {M4 M5 M1 : ZM} {As st0 st : List Value} {Qc : ZQ} (hd : decode M.2.1 pc = .ok (.invokevirtual idx, 3)) (c4 : zuP M.1.cls idx RX4 o4 x4 M4 As.length) (c5 : zuP M.1.cls idx RX6 o5 x5 M5 As.length) (c1 : zuP M.1.cls idx RX1 o1 x1 M1 As.length) (hst : st0 = As.reverse ++ .ref a :: st) (hG : zgen h a t (kd, sg, rs, iv, ct, dr, sd, V, C)) (m4 : kd < 2 → zMt g M4 (zR d4 0 0) (.ref a :: As) h n Qc) (m5 : ¬ kd < 2 → kd < 4 → zMt g M5 (zR d5 0 0) (.ref a :: As) h n Qc) (m1 : ¬ kd < 2 → ¬ kd < 4 → zMt g M1 (zR d1 0 0) (.ref a :: As) h n Qc)
    (r4 : d4 + 1 ≤ R.frames ∧ 8 + (M4.2.2.1 + 11) + 48 * d4 ≤ R.locals) (r5 : d5 + 1 ≤ R.frames ∧ 8 + (M5.2.2.1 + 11) + 48 * d5 ≤ R.locals) (r1 : d1 + 1 ≤ R.frames ∧ 8 + (M1.2.2.1 + 11) + 48 * d1 ≤ R.locals) (hf : cells ≤ R.cells ∧ slots ≤ R.slots) (hw : (st.map fun v => v.category).sum ≤ 8) (kk : ∀ (v : Option Value) (h' : ZH) (n' : Nat), Qc v h' n' → zP g M R Qf cells slots (pc + 3) ls (v.toList ++ st) h' n') : zP g M R Qf cells slots pc ls st0 h n := by
  obtain ⟨-, k8, -, -, -, -, o, -⟩ := id hG
  rcases zkind k8 with ⟨q1, -, -, -, -, e6, -⟩ | ⟨q1, q2, -, -, -, -, e6, -⟩ | ⟨q1, q2, -, -, -, -, e6, -⟩
  · rw [e6] at o
    exact zp_callU (ci := 4) (q := (RX4, TX4, 12)) hd c4 hst o rfl (m4 q1) r4 hf hw kk
  · rw [e6] at o
    exact zp_callU (ci := 5) (q := (RX6, TX6, 12)) hd c5 hst o rfl (m5 q1 q2) r5 hf hw kk
  · rw [e6] at o
    exact zp_callU (ci := 1) (q := (RX1, TX1, 13)) hd c1 hst o rfl (m1 q1 q2) r1 hf hw kk
theorem zp_gget {idx j : Nat} {v : Value} {st : List Value} (hd : decode M.2.1 pc = .ok (.getfield idx, 3)) (c4 : zgP M.1.cls idx 4 j) (c5 : zgP M.1.cls idx 5 j) (c1 : zgP M.1.cls idx 1 j) (hG : zgen h a t (kd, sg, rs, iv, ct, dr, sd, V, C)) (hv : (zgl a kd sg rs iv ct dr sd (zex kd))[j]? = some v) (kk : zP g M R Qf cells slots (pc + 3) ls (v :: st) h n) : zP g M R Qf cells slots pc ls (.ref a :: st) h n := by
  obtain ⟨-, k8, -, -, -, -, o, -⟩ := id hG
  rcases zkind k8 with ⟨q1, -, -, -, -, e6, -⟩ | ⟨q1, q2, -, -, -, -, e6, -⟩ | ⟨q1, q2, -, -, -, -, e6, -⟩
  · rw [e6] at o; exact zp_get hd c4 o hv kk
  · rw [e6] at o; exact zp_get hd c5 o hv kk
  · rw [e6] at o; exact zp_get hd c1 o hv kk
theorem e_gdemand (hG : zgen h a t (kd, sg, rs, iv, ct, dr, sd, V, C)) (ht : t < 90000) : zMt g mX5_demand (zR 1 0 0) [.ref a] h n (fun v h' n' => v = some (.int (nI (zdem kd sg (zsd kd) sd))) ∧ h' = h ∧ n' = n) := by
  obtain ⟨-, k8, b2, b4, b5, b6, o, -⟩ := id hG
  have l := zsd_le k8
  rcases zkind k8 with ⟨q1, -, -, -, -, e6, e7⟩ | ⟨q1, q2, -, -, -, -, e6, e7⟩ | ⟨q1, q2, -, -, -, -, e6, e7⟩ <;> rw [e6, e7] at o
  · exact e_demand4 o k8 b2 (by omega) b4 (by omega) (by omega)
  · exact e_demand5 o k8 b2 (by omega) b4 (by omega) (by omega)
  · exact e_demand1 o k8 b2 (by omega) b4 (by omega) (by omega)
theorem e_gisDue (hG : zgen h a t (kd, sg, rs, iv, ct, dr, sd, V, C)) (ht : t < 90000) : zMt g mX5_isDue (zR 0 0 0) [.ref a] h n (fun v h' n' => v = some (.int (nI (zbi (decide (iv < ct))))) ∧ h' = h ∧ n' = n) := by
  obtain ⟨-, k8, b2, b4, b5, b6, o, -⟩ := id hG
  have l := zsd_le k8
  rcases zkind k8 with ⟨q1, -, -, -, -, e6, e7⟩ | ⟨q1, q2, -, -, -, -, e6, e7⟩ | ⟨q1, q2, -, -, -, -, e6, e7⟩ <;> rw [e6, e7] at o
  · exact e_isDue4 o k8 b2 (by omega) b4 (by omega) (by omega)
  · exact e_isDue5 o k8 b2 (by omega) b4 (by omega) (by omega)
  · exact e_isDue1 o k8 b2 (by omega) b4 (by omega) (by omega)
theorem e_gisTooLong {r N : Nat} {xs : List Nat} (hG : zgen h a t (kd, sg, rs, iv, ct, dr, sd, V, C)) (ht : t < 90000) (hx : zrow h r N xs) : zMt g mX5_isTooLong (zR 1 0 0) [.ref a, .ref r] h n (fun v h' n' => v = some (.int (nI (zbi (decide (6 ≤ kd ∧ zsd kd < xs.length))))) ∧ h' = h ∧ n' = n) := by
  obtain ⟨-, k8, b2, b4, b5, b6, o, -⟩ := id hG
  have l := zsd_le k8
  rcases zkind k8 with ⟨q1, -, -, -, -, e6, e7⟩ | ⟨q1, q2, -, -, -, -, e6, e7⟩ | ⟨q1, q2, -, -, -, -, e6, e7⟩ <;> rw [e6, e7] at o
  · exact e_isTooLong4 o k8 b2 (by omega) b4 (by omega) (by omega) hx
  · exact e_isTooLong5 o k8 b2 (by omega) b4 (by omega) (by omega) hx
  · exact e_isTooLong1 o k8 b2 (by omega) b4 (by omega) (by omega) hx
theorem e_gwipe (hG : zgen h a t (kd, sg, rs, iv, ct, dr, sd, V, C)) : zMt g mX5_wipe (zR 2 0 0) [.ref a] h n (fun v h' n' => v = none ∧ n' = n ∧ zsm h h' (zbt (a + 1) (a + 4))) := by
  obtain ⟨-, k8, b2, b4, b5, b6, o, hv, hc, -⟩ := id hG
  rcases zkind k8 with ⟨q1, -, -, -, -, e6, e7⟩ | ⟨q1, q2, -, -, -, -, e6, e7⟩ | ⟨q1, q2, -, -, -, -, e6, e7⟩ <;> rw [e6, e7] at o
  · exact e_wipe4 o hv hc
  · exact e_wipe5 o hv hc
  · exact e_wipe1 o hv hc
theorem e_glook {x : Int32} (hG : zgen h a t (kd, sg, rs, iv, ct, dr, sd, V, C)) : zMt g mX5_look (zR 0 0 0) [.ref a, .int x] h n (fun v h' n' => v = some (.int (zglook kd sg ct iv rs (zsd kd) dr sd x)) ∧ h' = h ∧ n' = n) := by
  obtain ⟨-, k8, b2, b4, b5, b6, o, hv, hc, -⟩ := id hG
  rcases zkind k8 with ⟨q1, -, -, -, -, e6, e7⟩ | ⟨q1, q2, -, -, -, -, e6, e7⟩ | ⟨q1, q2, -, -, -, -, e6, e7⟩ <;> rw [e6, e7] at o
  · exact e_genLook4 o
  · exact e_genLook5 o
  · exact e_genLook1 o
abbrev zPq (a t : Nat) (h : ZH) (n : Nat) (G : ZGn) : ZQ := fun v h' n' => v = none ∧ n' = n ∧ zsm h h' (zgs a) ∧ zdk h' ∧ zgen h' a t G
theorem e_gplant4 {Rw A : List Nat} (hG : zgen h a t (kd, sg, rs, iv, ct, dr, sd, V, C)) (ht : t < 90000) (hk : zdk h) (hR : zrow h 24 48 Rw) (hA : zrow h 17 240 A) (q : kd < 2) : zMt g mX4_plant (zR 4 0 0) [.ref a, .ref 24, .ref 17] h n (zPq a (t + 1) h n (zgplant Rw A (kd, sg, rs, iv, ct, dr, sd, V, C))) := by
  obtain ⟨ha, k8, b2, b4, b5, b6, o, hv, hc, hl⟩ := id hG
  rcases zkind k8 with ⟨-, e2, e3, e4, e5, e6, e7⟩ | ⟨q1, -⟩ | ⟨q1, -⟩
  · obtain ⟨b, hb⟩ : ∃ b, zod kd = b := ⟨_, rfl⟩
    rw [hb] at e2 e3 e4 e5 e7
    rw [e6, e7] at o; rw [e4] at hv; rw [e5] at hc
    subst e2
    refine (e_plant4 (b := b) hk ha (by rw [o]; unfold zgl; rw [e3]; rfl) hv hc hR hA b2 b4 (by omega) (by omega)).post (fun v h' n' p => ?_)
    obtain ⟨p1, p2, p3, p4, p5, p6, p7⟩ := p
    refine ⟨p1, p2, p3, p4, ha, k8, b2, b4, by omega, by omega, ?_, ?_, ?_, Or.inr ⟨?_, ?_⟩⟩
    · rw [p5, e6, e7]; unfold zgl; rw [e3]; rfl
    · unfold zpl; rw [if_pos q, hb, e4, e3]; exact p6
    · unfold zpl; rw [if_pos q, hb, e5, e3]; exact p7
    · unfold zpl; rw [if_pos q, hb, e4, e3]; exact zder_len _ _ _
    · unfold zpl; rw [if_pos q, hb, e5, e3]; exact zder_len _ _ _
  · exact absurd q q1
  · exact absurd q q1
theorem e_gplant5 {Rw A : List Nat} (hG : zgen h a t (kd, sg, rs, iv, ct, dr, sd, V, C)) (ht : t < 90000) (hk : zdk h) (hR : zrow h 24 48 Rw) (hA : zrow h 17 240 A) (q : ¬ kd < 2) (q2 : kd < 4) : zMt g mX6_plant (zR 5 0 0) [.ref a, .ref 24, .ref 17] h n (zPq a (t + 1) h n (zgplant Rw A (kd, sg, rs, iv, ct, dr, sd, V, C))) := by
  obtain ⟨ha, k8, b2, b4, b5, b6, o, hv, hc, hl⟩ := id hG
  rcases zkind k8 with ⟨q1, -⟩ | ⟨-, -, e2, e3, e4, e5, e6, e7⟩ | ⟨-, q1, -⟩
  · exact absurd q1 q
  · obtain ⟨b, hb⟩ : ∃ b, zod kd = b := ⟨_, rfl⟩
    rw [hb] at e2 e3 e4 e5 e7
    rw [e6, e7] at o; rw [e4] at hv; rw [e5] at hc; rw [e4, e5] at hl
    subst e2
    refine (e_plant5 (b := b) hk ha (by rw [o]; unfold zgl; rw [e3]; rfl) hv hc hR hA (by omega) b2 b4 (by omega) (by omega)).post (fun v h' n' p => ?_)
    obtain ⟨p1, p2, p3, p4, p5, p6, p7⟩ := p
    have ll := zmi_len (b := b) (m := Rw ++ A) (s := ((if sd = 0 then List.replicate (8 * zwb b) 0 else C), (if sd = 0 then List.replicate (8 * zwb b) 1 else V))) (by show (if sd = 0 then _ else _ : List Nat).length = _; split; exact List.length_replicate ..; omega) (by show (if sd = 0 then _ else _ : List Nat).length = _; split; exact List.length_replicate ..; omega) (if 0 < (Rw ++ A).length then 2 else 1)
    refine ⟨p1, p2, p3, p4, ha, k8, b2, b4, by omega, by omega, ?_, ?_, ?_, Or.inr ⟨?_, ?_⟩⟩
    · rw [p5, e6, e7]; unfold zgl; rw [e3]; rfl
    · unfold zpl; rw [if_neg q, if_pos q2, hb, e4, e3]; exact p7
    · unfold zpl; rw [if_neg q, if_pos q2, hb, e5, e3]; exact p6
    · unfold zpl; rw [if_neg q, if_pos q2, hb, e4, e3]; exact ll.2
    · unfold zpl; rw [if_neg q, if_pos q2, hb, e5, e3]; exact ll.1
  · exact absurd q2 q1
theorem e_gplant1 {Rw A : List Nat} (hG : zgen h a t (kd, sg, rs, iv, ct, dr, sd, V, C)) (ht : t < 90000) (hk : zdk h) (hR : zrow h 24 48 Rw) (hA : zrow h 17 240 A) (q : ¬ kd < 2) (q2 : ¬ kd < 4) : zMt g mX1_plant (zR 6 0 0) [.ref a, .ref 24, .ref 17] h n (zPq a (t + 1) h n (zgplant Rw A (kd, sg, rs, iv, ct, dr, sd, V, C))) := by
  obtain ⟨ha, k8, b2, b4, b5, b6, o, hv, hc, hl⟩ := id hG
  rcases zkind k8 with ⟨q1, -⟩ | ⟨-, q1, -⟩ | ⟨-, -, e2, e3, e4, e5, e6, e7⟩
  · exact absurd q1 q
  · exact absurd q1 q2
  · obtain ⟨b, hb⟩ : ∃ b, zod kd = b := ⟨_, rfl⟩
    rw [hb] at e3 e5 e7
    rw [e6, e7] at o; rw [e4] at hv; rw [e5] at hc; rw [e4, e5] at hl
    refine (e_plant1 (b := b) hk ha (by rw [o]; unfold zgl; rw [e3]; rfl) hv hc hR hA (by omega) e2 b2 b4 (by omega) (by omega)).post (fun v h' n' p => ?_)
    obtain ⟨p1, p2, p3, p4, p5, p6, p7⟩ := p
    refine ⟨p1, p2, p3, p4, ha, k8, b2, b4, by omega, by omega, ?_, ?_, ?_, Or.inr ⟨?_, ?_⟩⟩
    · rw [p5, e6, e7]; unfold zgl; rw [e3]; rfl
    · unfold zpl; rw [if_neg q, if_neg q2, hb, e4, e5, e3]; exact p7
    · unfold zpl; rw [if_neg q, if_neg q2, hb, e5, e3]; exact p6
    · unfold zpl; rw [if_neg q, if_neg q2, hb, e4, e5, e3]; exact zcmV_len _ _ _ _
    · unfold zpl; rw [if_neg q, if_neg q2, hb, e5, e3]; exact zcmK_len _ _ _ _
/-- behind a drawing -/
abbrev zDq (a t : Nat) (h : ZH) (n : Nat) (O : List Nat) (G : ZGn) : ZQ := fun v h' n' => v = none ∧ n' = n ∧ zsm h h' (zgo a) ∧ zdk h' ∧ zrow h' 19 4096 O ∧ zgen h' a t G
theorem e_gprod4 {k : Nat} {A : List Nat} (hG : zgen h a t (kd, sg, rs, iv, ct, dr, sd, V, C)) (ht : t < 90000) (hk : zdk h) (hA : zrow h 17 240 A) (hO : zrow h 19 4096 []) (hk4 : k ≤ 4096) (hs : sd ≠ 0) (q : kd < 2) : zMt g mX4_produce (zR 4 0 0) [.ref a, .int (nI k), .ref 17, .ref 19] h n (zDq a (t + 1) h n (zpr kd ct k V C A).1 (zgprod k A (kd, sg, rs, iv, ct, dr, sd, V, C))) := by
  obtain ⟨ha, k8, b2, b4, b5, b6, o, hv, hc, hl⟩ := id hG
  rcases zkind k8 with ⟨-, e2, e3, e4, e5, e6, e7⟩ | ⟨q1, -⟩ | ⟨q1, -⟩
  · obtain ⟨b, hb⟩ : ∃ b, zod kd = b := ⟨_, rfl⟩
    rw [hb] at e2 e3 e4 e5 e7
    rw [e6, e7] at o; rw [e4] at hv; rw [e5] at hc; rw [e4, e5] at hl
    subst e2
    refine (e_produce4 (b := b) (k := k) hk ha (by rw [o]; unfold zgl; rw [e3]; rfl) hv hc hA hO (by omega) hk4 b2 b4 (by omega) (by omega)).post (fun v h' n' p => ?_)
    obtain ⟨p1, p2, p3, p4, p5, p6, p7⟩ := p
    obtain ⟨p8, p9⟩ := p6 _ rfl
    have lv := p9.2.2.1
    have e8 : zpr (zbi b) ct k V C A = zpr4 b ct k V C (if 0 < A.length then zplus V (zval (zhash b (2 :: (V ++ A)))) else V) := by unfold zpr; rw [if_pos q, hb]
    refine ⟨p1, p2, p3, p4, by rw [e8]; exact p8, ha, k8, b2, b4, by omega, by omega, ?_, ?_, ?_, Or.inr ⟨?_, ?_⟩⟩
    · rw [p5, e6, e7]; unfold zgl; rw [e3]; rfl
    · rw [e8, e4]; exact p9
    · rw [e8, e5]; exact p7
    · rw [e8, e4]; show (zplus _ _).length = _; rw [zplus_len, zplus_len, zplus_len]; split
      · rw [zplus_len]; omega
      · omega
    · rw [e8, e5]; show C.length = _; omega
  · exact absurd q q1
  · exact absurd q q1
theorem e_gprod5 {k : Nat} {A : List Nat} (hG : zgen h a t (kd, sg, rs, iv, ct, dr, sd, V, C)) (ht : t < 90000) (hk : zdk h) (hA : zrow h 17 240 A) (hO : zrow h 19 4096 []) (hk4 : k ≤ 4096) (hs : sd ≠ 0) (q : ¬ kd < 2) (q2 : kd < 4) : zMt g mX6_produce (zR 5 0 0) [.ref a, .int (nI k), .ref 17, .ref 19] h n (zDq a (t + 1) h n (zpr kd ct k V C A).1 (zgprod k A (kd, sg, rs, iv, ct, dr, sd, V, C))) := by
  obtain ⟨ha, k8, b2, b4, b5, b6, o, hv, hc, hl⟩ := id hG
  rcases zkind k8 with ⟨q1, -⟩ | ⟨-, -, e2, e3, e4, e5, e6, e7⟩ | ⟨-, q1, -⟩
  · exact absurd q1 q
  · obtain ⟨b, hb⟩ : ∃ b, zod kd = b := ⟨_, rfl⟩
    rw [hb] at e2 e3 e4 e5 e7
    rw [e6, e7] at o; rw [e4] at hv; rw [e5] at hc; rw [e4, e5] at hl
    subst e2
    have l1 : C.length = 8 * zwb b := by omega
    have l2 : V.length = 8 * zwb b := by omega
    refine (e_produce5 (b := b) (k := k) hk ha (by rw [o]; unfold zgl; rw [e3]; rfl) hv hc hA hO l1 l2 hk4 b2 b4 (by omega) (by omega)).post (fun v h' n' p => ?_)
    obtain ⟨p1, p2, p3, p4, p5, p6⟩ := p
    have e8 : zpr (2 + zbi b) ct k V C A = zpr5 b k A (if 0 < A.length then zmix b A (C, V) else (C, V)) := by unfold zpr; rw [if_neg q, if_pos q2, hb]
    have ls : ∀ s : List Nat × List Nat, s = (if 0 < A.length then zmix b A (C, V) else (C, V)) → s.1.length = 8 * zwb b ∧ s.2.length = 8 * zwb b := fun s es => by
      rw [es]; split
      · exact zmi_len (s := (C, V)) l1 l2 _
      · exact ⟨l1, l2⟩
    rw [e8]
    generalize hs1 : (if 0 < A.length then zmix b A (C, V) else (C, V)) = s1 at p6 ls e8
    obtain ⟨p8, p9, p10⟩ := p6 s1 rfl
    obtain ⟨ls1, ls2⟩ := ls s1 rfl
    have ll := zmi_len (b := b) (m := A) (s := (s1.1, zmv b s1.1 s1.2 (zcn k (8 * zwb b)))) ls1 (zmv_len ls2 _) (if 0 < A.length then 2 else 1)
    refine ⟨p1, p2, p3, p4, p8, ha, k8, b2, b4, by omega, by omega, ?_, ?_, ?_, Or.inr ⟨?_, ?_⟩⟩
    · rw [p5, e6, e7]; unfold zgl; rw [e3]; rfl
    · rw [e8, e4]; exact p10
    · rw [e8, e5]; exact p9
    · rw [e8, e4]; exact ll.2
    · rw [e8, e5]; exact ll.1
  · exact absurd q2 q1
theorem e_gprod1 {k : Nat} {A : List Nat} (hG : zgen h a t (kd, sg, rs, iv, ct, dr, sd, V, C)) (ht : t < 90000) (hk : zdk h) (hA : zrow h 17 240 A) (hO : zrow h 19 4096 []) (hk4 : k ≤ 4096) (hs : sd ≠ 0) (q : ¬ kd < 2) (q2 : ¬ kd < 4) : zMt g mX1_produce (zR 6 0 0) [.ref a, .int (nI k), .ref 17, .ref 19] h n (zDq a (t + 1) h n (zpr kd ct k V C A).1 (zgprod k A (kd, sg, rs, iv, ct, dr, sd, V, C))) := by
  obtain ⟨ha, k8, b2, b4, b5, b6, o, hv, hc, hl⟩ := id hG
  rcases zkind k8 with ⟨q1, -⟩ | ⟨-, q1, -⟩ | ⟨-, -, e2, e3, e4, e5, e6, e7⟩
  · exact absurd q1 q
  · exact absurd q1 q2
  · obtain ⟨b, hb⟩ : ∃ b, zod kd = b := ⟨_, rfl⟩
    rw [hb] at e3 e5 e7
    rw [e6, e7] at o; rw [e4] at hv; rw [e5] at hc; rw [e4, e5] at hl
    refine (e_produce1 (b := b) (k := k) hk ha (by rw [o]; unfold zgl; rw [e3]; rfl) hv hc hA hO (by omega) (by omega) hk4 e2 b2 b4 (by omega) (by omega)).post (fun v h' n' p => ?_)
    obtain ⟨p1, p2, p3, p4, p5, p6⟩ := p
    obtain ⟨p8, p9, p10⟩ := p6 _ rfl
    have e8 : zpr kd ct k V C A = zpr1 b k (if 0 < A.length ∧ kd < 6 then zdce b A (zkl b + 16) else A) (if 0 < A.length then (zcmK b C V (if 0 < A.length ∧ kd < 6 then zdce b A (zkl b + 16) else A), zcmV b C V (if 0 < A.length ∧ kd < 6 then zdce b A (zkl b + 16) else A)) else (C, V)) := by unfold zpr; rw [if_neg q, if_neg q2, hb, e3]
    refine ⟨p1, p2, p3, p4, by rw [e8]; exact p8, ha, k8, b2, b4, by omega, by omega, ?_, ?_, ?_, Or.inr ⟨?_, ?_⟩⟩
    · rw [p5, e6, e7]; unfold zgl; rw [e3]; rfl
    · rw [e8, e4]; exact p10
    · rw [e8, e5]; exact p9
    · rw [e8, e4]; exact zcmV_len _ _ _ _
    · rw [e8, e5]; exact zcmK_len _ _ _ _
end ZGC
