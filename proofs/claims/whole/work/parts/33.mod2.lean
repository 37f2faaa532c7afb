theorem hd_X5_bits : yX5_bits.cls ≠ "java/lang/invoke/MethodHandle" ∧ yX5_bits.cls ≠ "java/lang/invoke/VarHandle" ∧ (parseMethodDescriptor yX5_bits.desc).map (fun d => d.parameters.length) = some 1 := by decide +kernel
theorem hd_X5_bound : yX5_bound.cls = RX5 ∧ yX5_bound.cls ≠ "java/lang/invoke/MethodHandle" ∧ yX5_bound.cls ≠ "java/lang/invoke/VarHandle" ∧ (parseMethodDescriptor yX5_bound.desc).map (fun d => d.parameters.length) = some 2 := by decide +kernel
theorem hd_X5_holds : yX5_holds.cls = RX5 ∧ yX5_holds.cls ≠ "java/lang/invoke/MethodHandle" ∧ yX5_holds.cls ≠ "java/lang/invoke/VarHandle" ∧ (parseMethodDescriptor yX5_holds.desc).map (fun d => d.parameters.length) = some 1 := by decide +kernel
theorem hd_X5_isDirection : yX5_isDirection.cls ≠ "java/lang/invoke/MethodHandle" ∧ yX5_isDirection.cls ≠ "java/lang/invoke/VarHandle" ∧ (parseMethodDescriptor yX5_isDirection.desc).map (fun d => d.parameters.length) = some 1 := by decide +kernel
theorem hd_X5_isOf : yX5_isOf.cls = RX5 ∧ yX5_isOf.cls ≠ "java/lang/invoke/MethodHandle" ∧ yX5_isOf.cls ≠ "java/lang/invoke/VarHandle" ∧ (parseMethodDescriptor yX5_isOf.desc).map (fun d => d.parameters.length) = some 2 := by decide +kernel
theorem hd_X5_isPart : yX5_isPart.cls = RX5 ∧ yX5_isPart.cls ≠ "java/lang/invoke/MethodHandle" ∧ yX5_isPart.cls ≠ "java/lang/invoke/VarHandle" ∧ (parseMethodDescriptor yX5_isPart.desc).map (fun d => d.parameters.length) = some 1 := by decide +kernel
theorem hd_X5_isPassed : yX5_isPassed.cls = RX5 ∧ yX5_isPassed.cls ≠ "java/lang/invoke/MethodHandle" ∧ yX5_isPassed.cls ≠ "java/lang/invoke/VarHandle" ∧ (parseMethodDescriptor yX5_isPassed.desc).map (fun d => d.parameters.length) = some 1 := by decide +kernel
theorem hd_X5_isSet : yX5_isSet.cls = RX5 ∧ yX5_isSet.cls ≠ "java/lang/invoke/MethodHandle" ∧ yX5_isSet.cls ≠ "java/lang/invoke/VarHandle" ∧ (parseMethodDescriptor yX5_isSet.desc).map (fun d => d.parameters.length) = some 1 := by decide +kernel
theorem hd_X5_isSplit : yX5_isSplit.cls = RX5 ∧ yX5_isSplit.cls ≠ "java/lang/invoke/MethodHandle" ∧ yX5_isSplit.cls ≠ "java/lang/invoke/VarHandle" ∧ (parseMethodDescriptor yX5_isSplit.desc).map (fun d => d.parameters.length) = some 2 := by decide +kernel
theorem hd_X5_isTool : yX5_isTool.cls ≠ "java/lang/invoke/MethodHandle" ∧ yX5_isTool.cls ≠ "java/lang/invoke/VarHandle" ∧ (parseMethodDescriptor yX5_isTool.desc).map (fun d => d.parameters.length) = some 1 := by decide +kernel
theorem prt_in {N t : Nat} (h : t < N) (hN : N ≤ 8) : prt N (nI t) = true := by
  unfold prt
  rw [decide_eq_true (nI_pos (by omega)), decide_eq_true ((nI_ltI (by omega) (by omega)).mpr h)]; rfl
set_option maxHeartbeats 4000000 in
set_option maxRecDepth 100000 in
theorem c_X5_holds {l : Launch} {D : va_G} {ky : kT} {A : Nat → Prop} {Hs : Heap} {ws : va_W} (hP : va_P D CL ws Hs) (hD : va_D A ws) {h th n : Nat} {T C Hd : Nat → Nat} {b : Nat} {q : Bool} {J : Nat → Nat} {bg : Bool} {pu bu : Nat} {cl mo : Int32} {K : Nat → Nat} {fw fd fc fg fo : Nat → Int32} (hpr : isMod ky ws h th n T C Hd b q J bg pu bu cl mo K fw fd fc fg fo) {pl : Nat} (hpl : pl < 2 ^ 31) : MU l yX5_holds wsX5_holds 0 0 0 0 D ky A Hs [.ref h, .int (nI pl)] (fun r w => r = bI (decide (pl = 0)) ∧ isMod ky w h pl n T C Hd b q J bg pu bu cl mo K fw fd fc fg fo ∧ fr ws w 19 29) := by
  refine MU.of (cc := cX5_holds) (maxL := 2) (ty := .boolean) (by decide) rfl (Nat.le_of_ble_eq_true rfl) ?_
  intro pg en Rm sg mi av below meth co Qo hRf hRl hRc hRs hx hb hml hown hts hK hret ls hl
  have hl : lv_has ls 2 [(0, .ref h), (1, .int (nI pl))] := hl
  have hS : va_S A Hs Hs [] := va_S.rf
  generalize ([] : List Loc) = locs at hS ⊢
  obtain ⟨a1, a2, a3, a4, a5, a6, a7, a8, a9, a10, g19, g20, g21, g22, g23, g24, g25, g26, g27, g28, g29⟩ := id hpr
  have k40 := hts (.fieldLink RX5 40 "AssemblyPlannerModel" "thrown" "I") (by decide +kernel)
  have hinX5 : ∀ w ∈ wsX50, w ∈ wsX5_holds := by decide +kernel
  refine lv_aload_n hx hb dX5_holds_0 rfl (lv_at hl 0 rfl) ?_
  refine lv_iload_n hx hb dX5_holds_1 rfl (lv_at hl 1 rfl) ?_
  refine sv_put (ci := 5) (C := RX5) (T := TX5) (N := 19) hx hb hts hinX5 tyX5 tyX5_ok nmX5 hown hK hP hD hS 19 g19 rfl 0 (by decide) k40 (fun _ h9 => h9) rfl .int (by decide +kernel) rfl rfl [.int (nI pl), .int (nI n), .ref a1, .ref a2, .ref a3, .int (nI b), .int (bI q), .ref a4, .int (bI bg), .int (nI pu), .int (nI bu), .int cl, .int mo, .ref a5, .ref a6, .ref a7, .ref a8, .ref a9, .ref a10] (Nat.le_of_ble_eq_true rfl) rfl dX5_holds_2 (fun ws2 H locs hP hD hS g19 fr1 => ?_)
  replace g20 := (fr1 20 (by decide)).trans g20
  replace g21 := (fr1 21 (by decide)).trans g21
  replace g22 := (fr1 22 (by decide)).trans g22
  replace g23 := (fr1 23 (by decide)).trans g23
  replace g24 := (fr1 24 (by decide)).trans g24
  replace g25 := (fr1 25 (by decide)).trans g25
  replace g26 := (fr1 26 (by decide)).trans g26
  replace g27 := (fr1 27 (by decide)).trans g27
  replace g28 := (fr1 28 (by decide)).trans g28
  replace g29 := (fr1 29 (by decide)).trans g29
  refine lv_iload_n hx hb dX5_holds_5 rfl (lv_at hl 1 rfl) ?_
  refine sn_if_ne (tgt := 13) hx hb dX5_holds_6 (by decide) hpl (fun c3 => ?_) (fun c3 => ?_)
  · refine lv_iconst (v := nI 0) hx hb dX5_holds_13 ci_0 ?_
    exact hret 14 ls _ _ locs _ dX5_holds_14 hP hD hS rfl (⟨bI_f (decide_eq_false c3), ⟨a1, a2, a3, a4, a5, a6, a7, a8, a9, a10, g19, g20, g21, g22, g23, g24, g25, g26, g27, g28, g29⟩, (fr.wd fr1 : fr _ _ 19 29)⟩)
  · refine lv_iconst (v := nI 1) hx hb dX5_holds_9 ci_1 ?_
    refine lv_goto (tgt := 14) hx hb dX5_holds_10 (by decide) ?_
    exact hret 14 ls _ _ locs _ dX5_holds_14 hP hD hS rfl (⟨bI_t (decide_eq_true c3), ⟨a1, a2, a3, a4, a5, a6, a7, a8, a9, a10, g19, g20, g21, g22, g23, g24, g25, g26, g27, g28, g29⟩, (fr.wd fr1 : fr _ _ 19 29)⟩)
set_option maxHeartbeats 4000000 in
set_option maxRecDepth 100000 in
theorem c_X5_addPart_1 {l : Launch} {D : va_G} {ky : kT} {A : Nat → Prop} {Hs : Heap} {ws : va_W} (hP : va_P D CL ws Hs) (hD : va_D A ws) {h th n : Nat} {T C Hd : Nat → Nat} {b : Nat} {q : Bool} {J : Nat → Nat} {bg : Bool} {pu bu : Nat} {cl mo : Int32} {K : Nat → Nat} {fw fd fc fg fo : Nat → Int32} (hpr : isMod ky ws h th n T C Hd b q J bg pu bu cl mo K fw fd fc fg fo) {x : Int32} (hk : prt 4 x = false) : MU l yX5_addPart wsX5_addPart 1 21 0 0 D ky A Hs [.ref h, .int x] (fun r w => r = nI 0 ∧ isMod ky w h 1 n T C Hd b q J bg pu bu cl mo K fw fd fc fg fo ∧ fr ws w 19 29) := by
  refine MU.of (cc := cX5_addPart) (maxL := 2) (ty := .int) (by decide) rfl (Nat.le_of_ble_eq_true rfl) ?_
  intro pg en Rm sg mi av below meth co Qo hRf hRl hRc hRs hx hb hml hown hts hK hret ls hl
  have hl : lv_has ls 2 [(0, .ref h), (1, .int x)] := hl
  have hS : va_S A Hs Hs [] := va_S.rf
  generalize ([] : List Loc) = locs at hS ⊢
  obtain ⟨a1, a2, a3, a4, a5, a6, a7, a8, a9, a10, g19, g20, g21, g22, g23, g24, g25, g26, g27, g28, g29⟩ := id hpr
  refine lv_aload_n hx hb dX5_addPart_0 rfl (lv_at hl 0 rfl) ?_
  refine lv_iload_n hx hb dX5_addPart_1 rfl (lv_at hl 1 rfl) ?_
  refine pcS (c_X5_isTool  ) ⟨hx, hb, hml, hown, hts⟩ hK gX5_addPart_X5_isTool rfl hd_X5_isTool ⟨by omega, by omega⟩ rfl hl.1 rfl (Nat.le_of_ble_eq_true rfl) dX5_addPart_2 ⟨Nat.zero_le _, Nat.zero_le _⟩ hS (fun locs hS => ?_)
  refine sb_if_ne (tgt := 12) hx hb dX5_addPart_5 (by decide) (fun q => absurd q (by rw [hk]; decide)) (fun _ => ?_)
  refine lv_iconst (v := nI 1) hx hb dX5_addPart_8 ci_1 ?_
  refine lv_goto (tgt := 26) hx hb dX5_addPart_9 (by decide) ?_
  refine mcV (c_X5_holds hP hD ⟨a1, a2, a3, a4, a5, a6, a7, a8, a9, a10, g19, g20, g21, g22, g23, g24, g25, g26, g27, g28, g29⟩ (by decide)) ⟨hx, hb, hml, hown, hts⟩ hK gX5_addPart_X5_holds rfl hd_X5_holds ⟨by omega, by omega⟩ (va_recv hK hP (ci := 5) (q0 := 19) rfl g19) rfl hl.1 rfl (Nat.le_of_ble_eq_true rfl) dX5_addPart_26 ⟨Nat.zero_le _, Nat.zero_le _⟩ hS (fun r ws2 H locs hq4 hP hD hS => ?_)
  obtain ⟨rfl, hpr, fr3⟩ := hq4
  obtain ⟨a1, a2, a3, a4, a5, a6, a7, a8, a9, a10, g19, g20, g21, g22, g23, g24, g25, g26, g27, g28, g29⟩ := id hpr
  refine sv_top (y := nI 0) rfl ?_
  refine sn_if_ne (tgt := 34) hx hb dX5_addPart_29 (by decide) (by decide) (fun q => absurd q (by decide)) (fun _ => ?_)
  refine lv_iconst (v := nI 0) hx hb dX5_addPart_32 ci_0 ?_
  exact hret 33 ls _ _ locs _ dX5_addPart_33 hP hD hS rfl (⟨rfl, ⟨a1, a2, a3, a4, a5, a6, a7, a8, a9, a10, g19, g20, g21, g22, g23, g24, g25, g26, g27, g28, g29⟩, (fr.wd fr3 : fr _ _ 19 29)⟩)
set_option maxHeartbeats 4000000 in
set_option maxRecDepth 100000 in
theorem c_X5_addPart_2 {l : Launch} {D : va_G} {ky : kT} {A : Nat → Prop} {Hs : Heap} {ws : va_W} (hP : va_P D CL ws Hs) (hD : va_D A ws) {h th n : Nat} {T C Hd : Nat → Nat} {b : Nat} {q : Bool} {J : Nat → Nat} {bg : Bool} {pu bu : Nat} {cl mo : Int32} {K : Nat → Nat} {fw fd fc fg fo : Nat → Int32} (hpr : isMod ky ws h th n T C Hd b q J bg pu bu cl mo K fw fd fc fg fo) {x : Int32} (hk : prt 4 x = true) (hn : n = 8) : MU l yX5_addPart wsX5_addPart 1 21 0 0 D ky A Hs [.ref h, .int x] (fun r w => r = nI 0 ∧ isMod ky w h 2 n T C Hd b q J bg pu bu cl mo K fw fd fc fg fo ∧ fr ws w 19 29) := by
  refine MU.of (cc := cX5_addPart) (maxL := 2) (ty := .int) (by decide) rfl (Nat.le_of_ble_eq_true rfl) ?_
  intro pg en Rm sg mi av below meth co Qo hRf hRl hRc hRs hx hb hml hown hts hK hret ls hl
  have hl : lv_has ls 2 [(0, .ref h), (1, .int x)] := hl
  have hS : va_S A Hs Hs [] := va_S.rf
  generalize ([] : List Loc) = locs at hS ⊢
  obtain ⟨a1, a2, a3, a4, a5, a6, a7, a8, a9, a10, g19, g20, g21, g22, g23, g24, g25, g26, g27, g28, g29⟩ := id hpr
  have k44 := hts (.fieldLink RX5 44 "AssemblyPlannerModel" "parts" "I") (by decide +kernel)
  have hinX5 : ∀ w ∈ wsX50, w ∈ wsX5_addPart := by decide +kernel
  refine lv_aload_n hx hb dX5_addPart_0 rfl (lv_at hl 0 rfl) ?_
  refine lv_iload_n hx hb dX5_addPart_1 rfl (lv_at hl 1 rfl) ?_
  refine pcS (c_X5_isTool  ) ⟨hx, hb, hml, hown, hts⟩ hK gX5_addPart_X5_isTool rfl hd_X5_isTool ⟨by omega, by omega⟩ rfl hl.1 rfl (Nat.le_of_ble_eq_true rfl) dX5_addPart_2 ⟨Nat.zero_le _, Nat.zero_le _⟩ hS (fun locs hS => ?_)
  refine sb_if_ne (tgt := 12) hx hb dX5_addPart_5 (by decide) (fun _ => ?_) (fun q => absurd q (by rw [hk]; decide))
  refine lv_aload_n hx hb dX5_addPart_12 rfl (lv_at hl 0 rfl) ?_
  refine va_get (ci := 5) (C := RX5) (T := TX5) (N := 19) hx hb hts hinX5 hown hK hP 19 g19 rfl 1 (by decide) k44 (fun _ h9 => h9) rfl dX5_addPart_13 ?_
  refine lv_bipush (v := nI 8) hx hb dX5_addPart_16 bi_8 ?_
  refine sn_icmp_ne (tgt := 25) hx hb dX5_addPart_18 (by decide) (by omega) (by decide) (fun c2 => absurd hn c2) (fun c2 => ?_)
  refine lv_iconst (v := nI 2) hx hb dX5_addPart_21 ci_2 ?_
  refine lv_goto (tgt := 26) hx hb dX5_addPart_22 (by decide) ?_
  refine mcV (c_X5_holds hP hD ⟨a1, a2, a3, a4, a5, a6, a7, a8, a9, a10, g19, g20, g21, g22, g23, g24, g25, g26, g27, g28, g29⟩ (by decide)) ⟨hx, hb, hml, hown, hts⟩ hK gX5_addPart_X5_holds rfl hd_X5_holds ⟨by omega, by omega⟩ (va_recv hK hP (ci := 5) (q0 := 19) rfl g19) rfl hl.1 rfl (Nat.le_of_ble_eq_true rfl) dX5_addPart_26 ⟨Nat.zero_le _, Nat.zero_le _⟩ hS (fun r ws3 H locs hq5 hP hD hS => ?_)
  obtain ⟨rfl, hpr, fr4⟩ := hq5
  obtain ⟨a1, a2, a3, a4, a5, a6, a7, a8, a9, a10, g19, g20, g21, g22, g23, g24, g25, g26, g27, g28, g29⟩ := id hpr
  refine sv_top (y := nI 0) rfl ?_
  refine sn_if_ne (tgt := 34) hx hb dX5_addPart_29 (by decide) (by decide) (fun q => absurd q (by decide)) (fun _ => ?_)
  refine lv_iconst (v := nI 0) hx hb dX5_addPart_32 ci_0 ?_
  exact hret 33 ls _ _ locs _ dX5_addPart_33 hP hD hS rfl (⟨rfl, ⟨a1, a2, a3, a4, a5, a6, a7, a8, a9, a10, g19, g20, g21, g22, g23, g24, g25, g26, g27, g28, g29⟩, (fr.wd fr4 : fr _ _ 19 29)⟩)
set_option maxHeartbeats 4000000 in
set_option maxRecDepth 100000 in
theorem c_X5_addPart_0 {l : Launch} {D : va_G} {ky : kT} {A : Nat → Prop} {Hs : Heap} {ws : va_W} (hP : va_P D CL ws Hs) (hD : va_D A ws) {h th n : Nat} {T C Hd : Nat → Nat} {b : Nat} {q : Bool} {J : Nat → Nat} {bg : Bool} {pu bu : Nat} {cl mo : Int32} {K : Nat → Nat} {fw fd fc fg fo : Nat → Int32} (hpr : isMod ky ws h th n T C Hd b q J bg pu bu cl mo K fw fd fc fg fo) {t : Nat} (ht : t < 4) (hn : n < 8) : MU l yX5_addPart wsX5_addPart 1 21 0 0 D ky A Hs [.ref h, .int (nI t)] (fun r w => r = nI n ∧ isMod ky w h 0 (n + 1) (upX T n t) C Hd b q J false pu bu cl mo K fw fd fc fg fo ∧ fr ws w 19 29) := by
  refine MU.of (cc := cX5_addPart) (maxL := 2) (ty := .int) (by decide) rfl (Nat.le_of_ble_eq_true rfl) ?_
  intro pg en Rm sg mi av below meth co Qo hRf hRl hRc hRs hx hb hml hown hts hK hret ls hl
  have hl : lv_has ls 2 [(0, .ref h), (1, .int (nI t))] := hl
  have hS : va_S A Hs Hs [] := va_S.rf
  generalize ([] : List Loc) = locs at hS ⊢
  obtain ⟨a1, a2, a3, a4, a5, a6, a7, a8, a9, a10, g19, g20, g21, g22, g23, g24, g25, g26, g27, g28, g29⟩ := id hpr
  have hk := prt_in ht (by decide)
  have k44 := hts (.fieldLink RX5 44 "AssemblyPlannerModel" "parts" "I") (by decide +kernel)
  have hinX5 : ∀ w ∈ wsX50, w ∈ wsX5_addPart := by decide +kernel
  have k7 := hts (.fieldLink RX5 7 "AssemblyPlannerModel" "tools" "[I") (by decide +kernel)
  have k54 := hts (.fieldLink RX5 54 "AssemblyPlannerModel" "isBegun" "Z") (by decide +kernel)
  refine lv_aload_n hx hb dX5_addPart_0 rfl (lv_at hl 0 rfl) ?_
  refine lv_iload_n hx hb dX5_addPart_1 rfl (lv_at hl 1 rfl) ?_
  refine pcS (c_X5_isTool  ) ⟨hx, hb, hml, hown, hts⟩ hK gX5_addPart_X5_isTool rfl hd_X5_isTool ⟨by omega, by omega⟩ rfl hl.1 rfl (Nat.le_of_ble_eq_true rfl) dX5_addPart_2 ⟨Nat.zero_le _, Nat.zero_le _⟩ hS (fun locs hS => ?_)
  refine sb_if_ne (tgt := 12) hx hb dX5_addPart_5 (by decide) (fun _ => ?_) (fun q => absurd q (by rw [hk]; decide))
  refine lv_aload_n hx hb dX5_addPart_12 rfl (lv_at hl 0 rfl) ?_
  refine va_get (ci := 5) (C := RX5) (T := TX5) (N := 19) hx hb hts hinX5 hown hK hP 19 g19 rfl 1 (by decide) k44 (fun _ h9 => h9) rfl dX5_addPart_13 ?_
  refine lv_bipush (v := nI 8) hx hb dX5_addPart_16 bi_8 ?_
  refine sn_icmp_ne (tgt := 25) hx hb dX5_addPart_18 (by decide) (by omega) (by decide) (fun c2 => ?_) (fun c2 => absurd c2 (by omega))
  refine lv_iconst (v := nI 0) hx hb dX5_addPart_25 ci_0 ?_
  refine mcV (c_X5_holds hP hD ⟨a1, a2, a3, a4, a5, a6, a7, a8, a9, a10, g19, g20, g21, g22, g23, g24, g25, g26, g27, g28, g29⟩ (by decide)) ⟨hx, hb, hml, hown, hts⟩ hK gX5_addPart_X5_holds rfl hd_X5_holds ⟨by omega, by omega⟩ (va_recv hK hP (ci := 5) (q0 := 19) rfl g19) rfl hl.1 rfl (Nat.le_of_ble_eq_true rfl) dX5_addPart_26 ⟨Nat.zero_le _, Nat.zero_le _⟩ hS (fun r ws3 H locs hq5 hP hD hS => ?_)
  obtain ⟨rfl, hpr, fr4⟩ := hq5
  obtain ⟨a1, a2, a3, a4, a5, a6, a7, a8, a9, a10, g19, g20, g21, g22, g23, g24, g25, g26, g27, g28, g29⟩ := id hpr
  refine sv_top (y := nI 1) rfl ?_
  refine sn_if_ne (tgt := 34) hx hb dX5_addPart_29 (by decide) (by decide) (fun _ => ?_) (fun q => absurd q (by decide))
  refine lv_aload_n hx hb dX5_addPart_34 rfl (lv_at hl 0 rfl) ?_
  refine va_get (ci := 5) (C := RX5) (T := TX5) (N := 19) hx hb hts hinX5 hown hK hP 19 g19 rfl 2 (by decide) k7 (fun _ h9 => h9) rfl dX5_addPart_35 ?_
  refine lv_aload_n hx hb dX5_addPart_38 rfl (lv_at hl 0 rfl) ?_
  refine va_get (ci := 5) (C := RX5) (T := TX5) (N := 19) hx hb hts hinX5 hown hK hP 19 g19 rfl 1 (by decide) k44 (fun _ h9 => h9) rfl dX5_addPart_39 ?_
  refine lv_iload_n hx hb dX5_addPart_42 rfl (lv_at hl 1 rfl) ?_
  refine sv_iast hx hb hK hP hD hS 20 g20 (j := n) (by omega) (by decide) dX5_addPart_43 (fun ws8 H locs hP hD hS g20 fr7 => ?_)
  replace g19 := (fr7 19 (by decide)).trans g19
  replace g21 := (fr7 21 (by decide)).trans g21
  replace g22 := (fr7 22 (by decide)).trans g22
  replace g23 := (fr7 23 (by decide)).trans g23
  replace g24 := (fr7 24 (by decide)).trans g24
  replace g25 := (fr7 25 (by decide)).trans g25
  replace g26 := (fr7 26 (by decide)).trans g26
  replace g27 := (fr7 27 (by decide)).trans g27
  replace g28 := (fr7 28 (by decide)).trans g28
  replace g29 := (fr7 29 (by decide)).trans g29
  rw [upd_N] at g20
  refine lv_aload_n hx hb dX5_addPart_44 rfl (lv_at hl 0 rfl) ?_
  refine lv_dup hx hb dX5_addPart_45 rfl ?_
  refine va_get (ci := 5) (C := RX5) (T := TX5) (N := 19) hx hb hts hinX5 hown hK hP 19 g19 rfl 1 (by decide) k44 (fun _ h9 => h9) rfl dX5_addPart_46 ?_
  refine lv_iconst (v := nI 1) hx hb dX5_addPart_49 ci_1 ?_
  refine lv_iadd hx hb dX5_addPart_50 ?_
  refine sv_top (y := nI (n + 1)) (nI_add _ _) ?_
  refine sv_put (ci := 5) (C := RX5) (T := TX5) (N := 19) hx hb hts hinX5 tyX5 tyX5_ok nmX5 hown hK hP hD hS 19 g19 rfl 1 (by decide) k44 (fun _ h9 => h9) rfl .int (by decide +kernel) rfl rfl [.int (nI 0), .int (nI (n + 1)), .ref a1, .ref a2, .ref a3, .int (nI b), .int (bI q), .ref a4, .int (bI bg), .int (nI pu), .int (nI bu), .int cl, .int mo, .ref a5, .ref a6, .ref a7, .ref a8, .ref a9, .ref a10] (Nat.le_of_ble_eq_true rfl) rfl dX5_addPart_51 (fun ws10 H locs hP hD hS g19 fr9 => ?_)
  replace g20 := (fr9 20 (by decide)).trans g20
  replace g21 := (fr9 21 (by decide)).trans g21
  replace g22 := (fr9 22 (by decide)).trans g22
  replace g23 := (fr9 23 (by decide)).trans g23
  replace g24 := (fr9 24 (by decide)).trans g24
  replace g25 := (fr9 25 (by decide)).trans g25
  replace g26 := (fr9 26 (by decide)).trans g26
  replace g27 := (fr9 27 (by decide)).trans g27
  replace g28 := (fr9 28 (by decide)).trans g28
  replace g29 := (fr9 29 (by decide)).trans g29
  refine lv_aload_n hx hb dX5_addPart_54 rfl (lv_at hl 0 rfl) ?_
  refine lv_iconst (v := nI 0) hx hb dX5_addPart_55 ci_0 ?_
  refine W.eq (g2 := F0 mi 56 ls (.int (bI false) :: .ref h :: [])) rfl ?_
  refine sv_put (ci := 5) (C := RX5) (T := TX5) (N := 19) hx hb hts hinX5 tyX5 tyX5_ok nmX5 hown hK hP hD hS 19 g19 rfl 8 (by decide) k54 (fun _ h9 => h9) rfl .boolean (by decide +kernel) (bI_nar _) (bI_fit _) [.int (nI 0), .int (nI (n + 1)), .ref a1, .ref a2, .ref a3, .int (nI b), .int (bI q), .ref a4, .int (bI false), .int (nI pu), .int (nI bu), .int cl, .int mo, .ref a5, .ref a6, .ref a7, .ref a8, .ref a9, .ref a10] (Nat.le_of_ble_eq_true rfl) rfl dX5_addPart_56 (fun ws12 H locs hP hD hS g19 fr11 => ?_)
  replace g20 := (fr11 20 (by decide)).trans g20
  replace g21 := (fr11 21 (by decide)).trans g21
  replace g22 := (fr11 22 (by decide)).trans g22
  replace g23 := (fr11 23 (by decide)).trans g23
  replace g24 := (fr11 24 (by decide)).trans g24
  replace g25 := (fr11 25 (by decide)).trans g25
  replace g26 := (fr11 26 (by decide)).trans g26
  replace g27 := (fr11 27 (by decide)).trans g27
  replace g28 := (fr11 28 (by decide)).trans g28
  replace g29 := (fr11 29 (by decide)).trans g29
  refine lv_aload_n hx hb dX5_addPart_59 rfl (lv_at hl 0 rfl) ?_
  refine va_get (ci := 5) (C := RX5) (T := TX5) (N := 19) hx hb hts hinX5 hown hK hP 19 g19 rfl 1 (by decide) k44 (fun _ h9 => h9) rfl dX5_addPart_60 ?_
  refine lv_iconst (v := nI 1) hx hb dX5_addPart_63 ci_1 ?_
  refine lv_isub hx hb dX5_addPart_64 ?_
  refine sv_top (y := nI ((n + 1) - 1)) (pk_sub (by omega)) ?_
  exact hret 65 ls _ _ locs _ dX5_addPart_65 hP hD hS rfl (⟨by rw [Nat.add_sub_cancel], ⟨a1, a2, a3, a4, a5, a6, a7, a8, a9, a10, g19, g20, g21, g22, g23, g24, g25, g26, g27, g28, g29⟩, ((((fr.wd fr4 : fr _ _ 19 29).tr fr7).tr fr9).tr fr11)⟩)
set_option maxHeartbeats 4000000 in
set_option maxRecDepth 100000 in
theorem c_X5_setTool_1 {l : Launch} {D : va_G} {ky : kT} {A : Nat → Prop} {Hs : Heap} {ws : va_W} (hP : va_P D CL ws Hs) (hD : va_D A ws) {h th n : Nat} {T C Hd : Nat → Nat} {b : Nat} {q : Bool} {J : Nat → Nat} {bg : Bool} {pu bu : Nat} {cl mo : Int32} {K : Nat → Nat} {fw fd fc fg fo : Nat → Int32} (hpr : isMod ky ws h th n T C Hd b q J bg pu bu cl mo K fw fd fc fg fo) {x y : Int32} (hk : prt n x = false) : MU l yX5_setTool wsX5_setTool 1 21 0 0 D ky A Hs [.ref h, .int x, .int y] (fun r w => r = nI 0 ∧ isMod ky w h 1 n T C Hd b q J bg pu bu cl mo K fw fd fc fg fo ∧ fr ws w 19 29) := by
  refine MU.of (cc := cX5_setTool) (maxL := 4) (ty := .int) (by decide) rfl (Nat.le_of_ble_eq_true rfl) ?_
  intro pg en Rm sg mi av below meth co Qo hRf hRl hRc hRs hx hb hml hown hts hK hret ls hl
  have hl : lv_has ls 4 [(0, .ref h), (1, .int x), (2, .int y)] := hl
  have hS : va_S A Hs Hs [] := va_S.rf
  generalize ([] : List Loc) = locs at hS ⊢
  obtain ⟨a1, a2, a3, a4, a5, a6, a7, a8, a9, a10, g19, g20, g21, g22, g23, g24, g25, g26, g27, g28, g29⟩ := id hpr
  refine lv_aload_n hx hb dX5_setTool_0 rfl (lv_at hl 0 rfl) ?_
  refine lv_aload_n hx hb dX5_setTool_1 rfl (lv_at hl 0 rfl) ?_
  refine lv_iload_n hx hb dX5_setTool_2 rfl (lv_at hl 1 rfl) ?_
  refine pcV (c_X5_isPart hP ⟨a1, a2, a3, a4, a5, a6, a7, a8, a9, a10, g19, g20, g21, g22, g23, g24, g25, g26, g27, g28, g29⟩ ) ⟨hx, hb, hml, hown, hts⟩ hK gX5_setTool_X5_isPart rfl hd_X5_isPart ⟨by omega, by omega⟩ (va_recv hK hP (ci := 5) (q0 := 19) rfl g19) rfl hl.1 rfl (Nat.le_of_ble_eq_true rfl) dX5_setTool_3 ⟨Nat.zero_le _, Nat.zero_le _⟩ hS (fun locs hS => ?_)
  refine sb_if_ne (tgt := 13) hx hb dX5_setTool_6 (by decide) (fun q => absurd q (by rw [hk]; decide)) (fun _ => ?_)
  refine lv_iconst (v := nI 1) hx hb dX5_setTool_9 ci_1 ?_
  refine lv_goto (tgt := 25) hx hb dX5_setTool_10 (by decide) ?_
  refine mcV (c_X5_holds hP hD ⟨a1, a2, a3, a4, a5, a6, a7, a8, a9, a10, g19, g20, g21, g22, g23, g24, g25, g26, g27, g28, g29⟩ (by decide)) ⟨hx, hb, hml, hown, hts⟩ hK gX5_setTool_X5_holds rfl hd_X5_holds ⟨by omega, by omega⟩ (va_recv hK hP (ci := 5) (q0 := 19) rfl g19) rfl hl.1 rfl (Nat.le_of_ble_eq_true rfl) dX5_setTool_25 ⟨Nat.zero_le _, Nat.zero_le _⟩ hS (fun r ws2 H locs hq4 hP hD hS => ?_)
  obtain ⟨rfl, hpr, fr3⟩ := hq4
  obtain ⟨a1, a2, a3, a4, a5, a6, a7, a8, a9, a10, g19, g20, g21, g22, g23, g24, g25, g26, g27, g28, g29⟩ := id hpr
  refine sv_top (y := nI 0) rfl ?_
  refine sn_if_ne (tgt := 33) hx hb dX5_setTool_28 (by decide) (by decide) (fun q => absurd q (by decide)) (fun _ => ?_)
  refine lv_iconst (v := nI 0) hx hb dX5_setTool_31 ci_0 ?_
  exact hret 32 ls _ _ locs _ dX5_setTool_32 hP hD hS rfl (⟨rfl, ⟨a1, a2, a3, a4, a5, a6, a7, a8, a9, a10, g19, g20, g21, g22, g23, g24, g25, g26, g27, g28, g29⟩, (fr.wd fr3 : fr _ _ 19 29)⟩)
set_option maxHeartbeats 4000000 in
set_option maxRecDepth 100000 in
theorem c_X5_setTool_2 {l : Launch} {D : va_G} {ky : kT} {A : Nat → Prop} {Hs : Heap} {ws : va_W} (hP : va_P D CL ws Hs) (hD : va_D A ws) {h th n : Nat} {T C Hd : Nat → Nat} {b : Nat} {q : Bool} {J : Nat → Nat} {bg : Bool} {pu bu : Nat} {cl mo : Int32} {K : Nat → Nat} {fw fd fc fg fo : Nat → Int32} (hpr : isMod ky ws h th n T C Hd b q J bg pu bu cl mo K fw fd fc fg fo) {x y : Int32} (hk : prt n x = true) (hk2 : prt 4 y = false) : MU l yX5_setTool wsX5_setTool 1 21 0 0 D ky A Hs [.ref h, .int x, .int y] (fun r w => r = nI 0 ∧ isMod ky w h 2 n T C Hd b q J bg pu bu cl mo K fw fd fc fg fo ∧ fr ws w 19 29) := by
  refine MU.of (cc := cX5_setTool) (maxL := 4) (ty := .int) (by decide) rfl (Nat.le_of_ble_eq_true rfl) ?_
  intro pg en Rm sg mi av below meth co Qo hRf hRl hRc hRs hx hb hml hown hts hK hret ls hl
  have hl : lv_has ls 4 [(0, .ref h), (1, .int x), (2, .int y)] := hl
  have hS : va_S A Hs Hs [] := va_S.rf
  generalize ([] : List Loc) = locs at hS ⊢
  obtain ⟨a1, a2, a3, a4, a5, a6, a7, a8, a9, a10, g19, g20, g21, g22, g23, g24, g25, g26, g27, g28, g29⟩ := id hpr
  refine lv_aload_n hx hb dX5_setTool_0 rfl (lv_at hl 0 rfl) ?_
  refine lv_aload_n hx hb dX5_setTool_1 rfl (lv_at hl 0 rfl) ?_
  refine lv_iload_n hx hb dX5_setTool_2 rfl (lv_at hl 1 rfl) ?_
  refine pcV (c_X5_isPart hP ⟨a1, a2, a3, a4, a5, a6, a7, a8, a9, a10, g19, g20, g21, g22, g23, g24, g25, g26, g27, g28, g29⟩ ) ⟨hx, hb, hml, hown, hts⟩ hK gX5_setTool_X5_isPart rfl hd_X5_isPart ⟨by omega, by omega⟩ (va_recv hK hP (ci := 5) (q0 := 19) rfl g19) rfl hl.1 rfl (Nat.le_of_ble_eq_true rfl) dX5_setTool_3 ⟨Nat.zero_le _, Nat.zero_le _⟩ hS (fun locs hS => ?_)
  refine sb_if_ne (tgt := 13) hx hb dX5_setTool_6 (by decide) (fun _ => ?_) (fun q => absurd q (by rw [hk]; decide))
  refine lv_iload_n hx hb dX5_setTool_13 rfl (lv_at hl 2 rfl) ?_
  refine pcS (c_X5_isTool  ) ⟨hx, hb, hml, hown, hts⟩ hK gX5_setTool_X5_isTool rfl hd_X5_isTool ⟨by omega, by omega⟩ rfl hl.1 rfl (Nat.le_of_ble_eq_true rfl) dX5_setTool_14 ⟨Nat.zero_le _, Nat.zero_le _⟩ hS (fun locs hS => ?_)
  refine sb_if_eq (tgt := 24) hx hb dX5_setTool_17 (by decide) (fun _ => ?_) (fun q => absurd q (by rw [hk2]; decide))
  refine lv_iconst (v := nI 2) hx hb dX5_setTool_24 ci_2 ?_
  refine mcV (c_X5_holds hP hD ⟨a1, a2, a3, a4, a5, a6, a7, a8, a9, a10, g19, g20, g21, g22, g23, g24, g25, g26, g27, g28, g29⟩ (by decide)) ⟨hx, hb, hml, hown, hts⟩ hK gX5_setTool_X5_holds rfl hd_X5_holds ⟨by omega, by omega⟩ (va_recv hK hP (ci := 5) (q0 := 19) rfl g19) rfl hl.1 rfl (Nat.le_of_ble_eq_true rfl) dX5_setTool_25 ⟨Nat.zero_le _, Nat.zero_le _⟩ hS (fun r ws3 H locs hq5 hP hD hS => ?_)
  obtain ⟨rfl, hpr, fr4⟩ := hq5
  obtain ⟨a1, a2, a3, a4, a5, a6, a7, a8, a9, a10, g19, g20, g21, g22, g23, g24, g25, g26, g27, g28, g29⟩ := id hpr
  refine sv_top (y := nI 0) rfl ?_
  refine sn_if_ne (tgt := 33) hx hb dX5_setTool_28 (by decide) (by decide) (fun q => absurd q (by decide)) (fun _ => ?_)
  refine lv_iconst (v := nI 0) hx hb dX5_setTool_31 ci_0 ?_
  exact hret 32 ls _ _ locs _ dX5_setTool_32 hP hD hS rfl (⟨rfl, ⟨a1, a2, a3, a4, a5, a6, a7, a8, a9, a10, g19, g20, g21, g22, g23, g24, g25, g26, g27, g28, g29⟩, (fr.wd fr4 : fr _ _ 19 29)⟩)
set_option maxHeartbeats 4000000 in
set_option maxRecDepth 100000 in
theorem c_X5_setTool_0 {l : Launch} {D : va_G} {ky : kT} {A : Nat → Prop} {Hs : Heap} {ws : va_W} (hP : va_P D CL ws Hs) (hD : va_D A ws) {h th n : Nat} {T C Hd : Nat → Nat} {b : Nat} {q : Bool} {J : Nat → Nat} {bg : Bool} {pu bu : Nat} {cl mo : Int32} {K : Nat → Nat} {fw fd fc fg fo : Nat → Int32} (hpr : isMod ky ws h th n T C Hd b q J bg pu bu cl mo K fw fd fc fg fo) {pt t : Nat} (hn8 : n ≤ 8) (hp : pt < n) (ht : t < 4) : MU l yX5_setTool wsX5_setTool 1 21 0 0 D ky A Hs [.ref h, .int (nI pt), .int (nI t)] (fun r w => r = nI (T pt) ∧ isMod ky w h 0 n (upX T pt t) C Hd b q J false pu bu cl mo K fw fd fc fg fo ∧ fr ws w 19 29) := by
  refine MU.of (cc := cX5_setTool) (maxL := 4) (ty := .int) (by decide) rfl (Nat.le_of_ble_eq_true rfl) ?_
  intro pg en Rm sg mi av below meth co Qo hRf hRl hRc hRs hx hb hml hown hts hK hret ls hl
  have hl : lv_has ls 4 [(0, .ref h), (1, .int (nI pt)), (2, .int (nI t))] := hl
  have hS : va_S A Hs Hs [] := va_S.rf
  generalize ([] : List Loc) = locs at hS ⊢
  obtain ⟨a1, a2, a3, a4, a5, a6, a7, a8, a9, a10, g19, g20, g21, g22, g23, g24, g25, g26, g27, g28, g29⟩ := id hpr
  have hk := prt_in hp hn8
  have hk2 := prt_in ht (by decide)
  have k7 := hts (.fieldLink RX5 7 "AssemblyPlannerModel" "tools" "[I") (by decide +kernel)
  have hinX5 : ∀ w ∈ wsX50, w ∈ wsX5_setTool := by decide +kernel
  have k54 := hts (.fieldLink RX5 54 "AssemblyPlannerModel" "isBegun" "Z") (by decide +kernel)
  refine lv_aload_n hx hb dX5_setTool_0 rfl (lv_at hl 0 rfl) ?_
  refine lv_aload_n hx hb dX5_setTool_1 rfl (lv_at hl 0 rfl) ?_
  refine lv_iload_n hx hb dX5_setTool_2 rfl (lv_at hl 1 rfl) ?_
  refine pcV (c_X5_isPart hP ⟨a1, a2, a3, a4, a5, a6, a7, a8, a9, a10, g19, g20, g21, g22, g23, g24, g25, g26, g27, g28, g29⟩ ) ⟨hx, hb, hml, hown, hts⟩ hK gX5_setTool_X5_isPart rfl hd_X5_isPart ⟨by omega, by omega⟩ (va_recv hK hP (ci := 5) (q0 := 19) rfl g19) rfl hl.1 rfl (Nat.le_of_ble_eq_true rfl) dX5_setTool_3 ⟨Nat.zero_le _, Nat.zero_le _⟩ hS (fun locs hS => ?_)
  refine sb_if_ne (tgt := 13) hx hb dX5_setTool_6 (by decide) (fun _ => ?_) (fun q => absurd q (by rw [hk]; decide))
  refine lv_iload_n hx hb dX5_setTool_13 rfl (lv_at hl 2 rfl) ?_
  refine pcS (c_X5_isTool  ) ⟨hx, hb, hml, hown, hts⟩ hK gX5_setTool_X5_isTool rfl hd_X5_isTool ⟨by omega, by omega⟩ rfl hl.1 rfl (Nat.le_of_ble_eq_true rfl) dX5_setTool_14 ⟨Nat.zero_le _, Nat.zero_le _⟩ hS (fun locs hS => ?_)
  refine sb_if_eq (tgt := 24) hx hb dX5_setTool_17 (by decide) (fun q => absurd q (by rw [hk2]; decide)) (fun _ => ?_)
  refine lv_iconst (v := nI 0) hx hb dX5_setTool_20 ci_0 ?_
  refine lv_goto (tgt := 25) hx hb dX5_setTool_21 (by decide) ?_
  refine mcV (c_X5_holds hP hD ⟨a1, a2, a3, a4, a5, a6, a7, a8, a9, a10, g19, g20, g21, g22, g23, g24, g25, g26, g27, g28, g29⟩ (by decide)) ⟨hx, hb, hml, hown, hts⟩ hK gX5_setTool_X5_holds rfl hd_X5_holds ⟨by omega, by omega⟩ (va_recv hK hP (ci := 5) (q0 := 19) rfl g19) rfl hl.1 rfl (Nat.le_of_ble_eq_true rfl) dX5_setTool_25 ⟨Nat.zero_le _, Nat.zero_le _⟩ hS (fun r ws3 H locs hq5 hP hD hS => ?_)
  obtain ⟨rfl, hpr, fr4⟩ := hq5
  obtain ⟨a1, a2, a3, a4, a5, a6, a7, a8, a9, a10, g19, g20, g21, g22, g23, g24, g25, g26, g27, g28, g29⟩ := id hpr
  refine sv_top (y := nI 1) rfl ?_
  refine sn_if_ne (tgt := 33) hx hb dX5_setTool_28 (by decide) (by decide) (fun _ => ?_) (fun q => absurd q (by decide))
  refine lv_aload_n hx hb dX5_setTool_33 rfl (lv_at hl 0 rfl) ?_
  refine va_get (ci := 5) (C := RX5) (T := TX5) (N := 19) hx hb hts hinX5 hown hK hP 19 g19 rfl 2 (by decide) k7 (fun _ h9 => h9) rfl dX5_setTool_34 ?_
  refine lv_iload_n hx hb dX5_setTool_37 rfl (lv_at hl 1 rfl) ?_
  refine sv_iald hx hb hK hP 20 g20 (j := pt) (by omega) (by decide) dX5_setTool_38 ?_
  refine W.eq (g2 := F0 mi 39 ls (.int (nI (T pt)) :: [])) rfl ?_
  refine lv_istore_n (lv' := [(3, .int (nI (T pt))), (0, .ref h), (1, .int (nI pt)), (2, .int (nI t))]) hx hb dX5_setTool_39 rfl hl (by decide) rfl (fun ls hl => ?_)
  refine lv_aload_n hx hb dX5_setTool_40 rfl (lv_at hl 1 rfl) ?_
  refine va_get (ci := 5) (C := RX5) (T := TX5) (N := 19) hx hb hts hinX5 hown hK hP 19 g19 rfl 2 (by decide) k7 (fun _ h9 => h9) rfl dX5_setTool_41 ?_
  refine lv_iload_n hx hb dX5_setTool_44 rfl (lv_at hl 2 rfl) ?_
  refine lv_iload_n hx hb dX5_setTool_45 rfl (lv_at hl 3 rfl) ?_
  refine sv_iast hx hb hK hP hD hS 20 g20 (j := pt) (by omega) (by decide) dX5_setTool_46 (fun ws8 H locs hP hD hS g20 fr7 => ?_)
  replace g19 := (fr7 19 (by decide)).trans g19
  replace g21 := (fr7 21 (by decide)).trans g21
  replace g22 := (fr7 22 (by decide)).trans g22
  replace g23 := (fr7 23 (by decide)).trans g23
  replace g24 := (fr7 24 (by decide)).trans g24
  replace g25 := (fr7 25 (by decide)).trans g25
  replace g26 := (fr7 26 (by decide)).trans g26
  replace g27 := (fr7 27 (by decide)).trans g27
  replace g28 := (fr7 28 (by decide)).trans g28
  replace g29 := (fr7 29 (by decide)).trans g29
  rw [upd_N] at g20
  refine lv_aload_n hx hb dX5_setTool_47 rfl (lv_at hl 1 rfl) ?_
  refine lv_iconst (v := nI 0) hx hb dX5_setTool_48 ci_0 ?_
  refine W.eq (g2 := F0 mi 49 ls (.int (bI false) :: .ref h :: [])) rfl ?_
  refine sv_put (ci := 5) (C := RX5) (T := TX5) (N := 19) hx hb hts hinX5 tyX5 tyX5_ok nmX5 hown hK hP hD hS 19 g19 rfl 8 (by decide) k54 (fun _ h9 => h9) rfl .boolean (by decide +kernel) (bI_nar _) (bI_fit _) [.int (nI 0), .int (nI n), .ref a1, .ref a2, .ref a3, .int (nI b), .int (bI q), .ref a4, .int (bI false), .int (nI pu), .int (nI bu), .int cl, .int mo, .ref a5, .ref a6, .ref a7, .ref a8, .ref a9, .ref a10] (Nat.le_of_ble_eq_true rfl) rfl dX5_setTool_49 (fun ws10 H locs hP hD hS g19 fr9 => ?_)
  replace g20 := (fr9 20 (by decide)).trans g20
  replace g21 := (fr9 21 (by decide)).trans g21
  replace g22 := (fr9 22 (by decide)).trans g22
  replace g23 := (fr9 23 (by decide)).trans g23
  replace g24 := (fr9 24 (by decide)).trans g24
  replace g25 := (fr9 25 (by decide)).trans g25
  replace g26 := (fr9 26 (by decide)).trans g26
  replace g27 := (fr9 27 (by decide)).trans g27
  replace g28 := (fr9 28 (by decide)).trans g28
  replace g29 := (fr9 29 (by decide)).trans g29
  refine lv_iload_n hx hb dX5_setTool_52 rfl (lv_at hl 0 rfl) ?_
  exact hret 53 ls _ _ locs _ dX5_setTool_53 hP hD hS rfl (⟨rfl, ⟨a1, a2, a3, a4, a5, a6, a7, a8, a9, a10, g19, g20, g21, g22, g23, g24, g25, g26, g27, g28, g29⟩, (((fr.wd fr4 : fr _ _ 19 29).tr fr7).tr fr9)⟩)
theorem chgM_t {S p : Nat} {is : Bool} (h : is = true) : nI (clr S (2 ^ p) ||| 2 ^ p) = nI (chg S p is) := by
  subst h
  congr 1
  apply Nat.eq_of_testBit_eq; intro i
  rw [chg_bit, Nat.testBit_or, clr_bit, Nat.testBit_two_pow]
  by_cases e : i = p
  · subst e; simp
  · rw [if_neg e, decide_eq_false (fun q => e q.symm)]; simp
theorem chgM_f {S p : Nat} {is : Bool} (h : is = false) : nI (clr S (2 ^ p) ||| 0) = nI (chg S p is) := by
  subst h; rw [Nat.or_zero]; rfl
theorem stt_in {n S : Nat} (h0 : 0 < S) (h : S < 2 ^ n) (hn : n ≤ 8) : stt n (nI S) = true := by
  have hp := p2_le hn
  unfold stt
  rw [decide_eq_true (by rw [← nI_0]; exact (nI_ltI (by omega) (by omega)).mpr h0), decide_eq_true ((nI_leI (by omega) (by omega)).mpr (by omega))]; rfl
set_option maxHeartbeats 4000000 in
set_option maxRecDepth 100000 in
theorem c_X5_contact_1 {l : Launch} {D : va_G} {ky : kT} {A : Nat → Prop} {Hs : Heap} {ws : va_W} (hP : va_P D CL ws Hs) (hD : va_D A ws) {h th n : Nat} {T C Hd : Nat → Nat} {b : Nat} {q : Bool} {J : Nat → Nat} {bg : Bool} {pu bu : Nat} {cl mo : Int32} {K : Nat → Nat} {fw fd fc fg fo : Nat → Int32} (hpr : isMod ky ws h th n T C Hd b q J bg pu bu cl mo K fw fd fc fg fo) {x y : Int32} {z : Bool} (hk : (prt n x && prt n y) = false) : MU l yX5_contact wsX5_contact 1 21 0 0 D ky A Hs [.ref h, .int x, .int y, .int (bI z)] (fun r w => r = nI 0 ∧ isMod ky w h 1 n T C Hd b q J bg pu bu cl mo K fw fd fc fg fo ∧ fr ws w 19 29) := by
  refine MU.of (cc := cX5_contact) (maxL := 4) (ty := .int) (by decide) rfl (Nat.le_of_ble_eq_true rfl) ?_
  intro pg en Rm sg mi av below meth co Qo hRf hRl hRc hRs hx hb hml hown hts hK hret ls hl
  have hl : lv_has ls 4 [(0, .ref h), (1, .int x), (2, .int y), (3, .int (bI z))] := hl
  have hS : va_S A Hs Hs [] := va_S.rf
  generalize ([] : List Loc) = locs at hS ⊢
  obtain ⟨a1, a2, a3, a4, a5, a6, a7, a8, a9, a10, g19, g20, g21, g22, g23, g24, g25, g26, g27, g28, g29⟩ := id hpr
  refine lv_aload_n hx hb dX5_contact_0 rfl (lv_at hl 0 rfl) ?_
  refine lv_aload_n hx hb dX5_contact_1 rfl (lv_at hl 0 rfl) ?_
  refine lv_iload_n hx hb dX5_contact_2 rfl (lv_at hl 1 rfl) ?_
  refine pcV (c_X5_isPart hP ⟨a1, a2, a3, a4, a5, a6, a7, a8, a9, a10, g19, g20, g21, g22, g23, g24, g25, g26, g27, g28, g29⟩ ) ⟨hx, hb, hml, hown, hts⟩ hK gX5_contact_X5_isPart rfl hd_X5_isPart ⟨by omega, by omega⟩ (va_recv hK hP (ci := 5) (q0 := 19) rfl g19) rfl hl.1 rfl (Nat.le_of_ble_eq_true rfl) dX5_contact_3 ⟨Nat.zero_le _, Nat.zero_le _⟩ hS (fun locs hS => ?_)
  refine sb_if_eq (tgt := 17) hx hb dX5_contact_6 (by decide) (fun c1 => ?_) (fun c1 => ?_)
  · refine lv_iconst (v := nI 1) hx hb dX5_contact_17 ci_1 ?_
    refine lv_goto (tgt := 31) hx hb dX5_contact_18 (by decide) ?_
    refine mcV (c_X5_holds hP hD ⟨a1, a2, a3, a4, a5, a6, a7, a8, a9, a10, g19, g20, g21, g22, g23, g24, g25, g26, g27, g28, g29⟩ (by decide)) ⟨hx, hb, hml, hown, hts⟩ hK gX5_contact_X5_holds rfl hd_X5_holds ⟨by omega, by omega⟩ (va_recv hK hP (ci := 5) (q0 := 19) rfl g19) rfl hl.1 rfl (Nat.le_of_ble_eq_true rfl) dX5_contact_31 ⟨Nat.zero_le _, Nat.zero_le _⟩ hS (fun r ws2 H locs hq4 hP hD hS => ?_)
    obtain ⟨rfl, hpr, fr3⟩ := hq4
    obtain ⟨a1, a2, a3, a4, a5, a6, a7, a8, a9, a10, g19, g20, g21, g22, g23, g24, g25, g26, g27, g28, g29⟩ := id hpr
    refine sv_top (y := nI 0) rfl ?_
    refine sn_if_ne (tgt := 39) hx hb dX5_contact_34 (by decide) (by decide) (fun q => absurd q (by decide)) (fun _ => ?_)
    refine lv_iconst (v := nI 0) hx hb dX5_contact_37 ci_0 ?_
    exact hret 38 ls _ _ locs _ dX5_contact_38 hP hD hS rfl (⟨rfl, ⟨a1, a2, a3, a4, a5, a6, a7, a8, a9, a10, g19, g20, g21, g22, g23, g24, g25, g26, g27, g28, g29⟩, (fr.wd fr3 : fr _ _ 19 29)⟩)
  · refine lv_aload_n hx hb dX5_contact_9 rfl (lv_at hl 0 rfl) ?_
    refine lv_iload_n hx hb dX5_contact_10 rfl (lv_at hl 2 rfl) ?_
    refine pcV (c_X5_isPart hP ⟨a1, a2, a3, a4, a5, a6, a7, a8, a9, a10, g19, g20, g21, g22, g23, g24, g25, g26, g27, g28, g29⟩ ) ⟨hx, hb, hml, hown, hts⟩ hK gX5_contact_X5_isPart rfl hd_X5_isPart ⟨by omega, by omega⟩ (va_recv hK hP (ci := 5) (q0 := 19) rfl g19) rfl hl.1 rfl (Nat.le_of_ble_eq_true rfl) dX5_contact_11 ⟨Nat.zero_le _, Nat.zero_le _⟩ hS (fun locs hS => ?_)
    refine sb_if_ne (tgt := 21) hx hb dX5_contact_14 (by decide) (fun c6 => absurd hk (by rw [c1, c6]; decide)) (fun c6 => ?_)
    refine lv_iconst (v := nI 1) hx hb dX5_contact_17 ci_1 ?_
    refine lv_goto (tgt := 31) hx hb dX5_contact_18 (by decide) ?_
    refine mcV (c_X5_holds hP hD ⟨a1, a2, a3, a4, a5, a6, a7, a8, a9, a10, g19, g20, g21, g22, g23, g24, g25, g26, g27, g28, g29⟩ (by decide)) ⟨hx, hb, hml, hown, hts⟩ hK gX5_contact_X5_holds rfl hd_X5_holds ⟨by omega, by omega⟩ (va_recv hK hP (ci := 5) (q0 := 19) rfl g19) rfl hl.1 rfl (Nat.le_of_ble_eq_true rfl) dX5_contact_31 ⟨Nat.zero_le _, Nat.zero_le _⟩ hS (fun r ws7 H locs hq9 hP hD hS => ?_)
    obtain ⟨rfl, hpr, fr8⟩ := hq9
    obtain ⟨a1, a2, a3, a4, a5, a6, a7, a8, a9, a10, g19, g20, g21, g22, g23, g24, g25, g26, g27, g28, g29⟩ := id hpr
    refine sv_top (y := nI 0) rfl ?_
    refine sn_if_ne (tgt := 39) hx hb dX5_contact_34 (by decide) (by decide) (fun q => absurd q (by decide)) (fun _ => ?_)
    refine lv_iconst (v := nI 0) hx hb dX5_contact_37 ci_0 ?_
    exact hret 38 ls _ _ locs _ dX5_contact_38 hP hD hS rfl (⟨rfl, ⟨a1, a2, a3, a4, a5, a6, a7, a8, a9, a10, g19, g20, g21, g22, g23, g24, g25, g26, g27, g28, g29⟩, (fr.wd fr8 : fr _ _ 19 29)⟩)
set_option maxHeartbeats 4000000 in
set_option maxRecDepth 100000 in
theorem c_X5_contact_2 {l : Launch} {D : va_G} {ky : kT} {A : Nat → Prop} {Hs : Heap} {ws : va_W} (hP : va_P D CL ws Hs) (hD : va_D A ws) {h th n : Nat} {T C Hd : Nat → Nat} {b : Nat} {q : Bool} {J : Nat → Nat} {bg : Bool} {pu bu : Nat} {cl mo : Int32} {K : Nat → Nat} {fw fd fc fg fo : Nat → Int32} (hpr : isMod ky ws h th n T C Hd b q J bg pu bu cl mo K fw fd fc fg fo) {x : Int32} {z : Bool} (hk : prt n x = true) : MU l yX5_contact wsX5_contact 1 21 0 0 D ky A Hs [.ref h, .int x, .int x, .int (bI z)] (fun r w => r = nI 0 ∧ isMod ky w h 2 n T C Hd b q J bg pu bu cl mo K fw fd fc fg fo ∧ fr ws w 19 29) := by
  refine MU.of (cc := cX5_contact) (maxL := 4) (ty := .int) (by decide) rfl (Nat.le_of_ble_eq_true rfl) ?_
  intro pg en Rm sg mi av below meth co Qo hRf hRl hRc hRs hx hb hml hown hts hK hret ls hl
  have hl : lv_has ls 4 [(0, .ref h), (1, .int x), (2, .int x), (3, .int (bI z))] := hl
  have hS : va_S A Hs Hs [] := va_S.rf
  generalize ([] : List Loc) = locs at hS ⊢
  obtain ⟨a1, a2, a3, a4, a5, a6, a7, a8, a9, a10, g19, g20, g21, g22, g23, g24, g25, g26, g27, g28, g29⟩ := id hpr
  refine lv_aload_n hx hb dX5_contact_0 rfl (lv_at hl 0 rfl) ?_
  refine lv_aload_n hx hb dX5_contact_1 rfl (lv_at hl 0 rfl) ?_
  refine lv_iload_n hx hb dX5_contact_2 rfl (lv_at hl 1 rfl) ?_
  refine pcV (c_X5_isPart hP ⟨a1, a2, a3, a4, a5, a6, a7, a8, a9, a10, g19, g20, g21, g22, g23, g24, g25, g26, g27, g28, g29⟩ ) ⟨hx, hb, hml, hown, hts⟩ hK gX5_contact_X5_isPart rfl hd_X5_isPart ⟨by omega, by omega⟩ (va_recv hK hP (ci := 5) (q0 := 19) rfl g19) rfl hl.1 rfl (Nat.le_of_ble_eq_true rfl) dX5_contact_3 ⟨Nat.zero_le _, Nat.zero_le _⟩ hS (fun locs hS => ?_)
  refine sb_if_eq (tgt := 17) hx hb dX5_contact_6 (by decide) (fun q => absurd q (by rw [hk]; decide)) (fun _ => ?_)
  refine lv_aload_n hx hb dX5_contact_9 rfl (lv_at hl 0 rfl) ?_
  refine lv_iload_n hx hb dX5_contact_10 rfl (lv_at hl 2 rfl) ?_
  refine pcV (c_X5_isPart hP ⟨a1, a2, a3, a4, a5, a6, a7, a8, a9, a10, g19, g20, g21, g22, g23, g24, g25, g26, g27, g28, g29⟩ ) ⟨hx, hb, hml, hown, hts⟩ hK gX5_contact_X5_isPart rfl hd_X5_isPart ⟨by omega, by omega⟩ (va_recv hK hP (ci := 5) (q0 := 19) rfl g19) rfl hl.1 rfl (Nat.le_of_ble_eq_true rfl) dX5_contact_11 ⟨Nat.zero_le _, Nat.zero_le _⟩ hS (fun locs hS => ?_)
  refine sb_if_ne (tgt := 21) hx hb dX5_contact_14 (by decide) (fun _ => ?_) (fun q => absurd q (by rw [hk]; decide))
  refine lv_iload_n hx hb dX5_contact_21 rfl (lv_at hl 1 rfl) ?_
  refine lv_iload_n hx hb dX5_contact_22 rfl (lv_at hl 2 rfl) ?_
  refine lv_icmp_ne (tgt := 30) hx hb dX5_contact_23 (by decide) (fun c3 => absurd rfl c3) (fun c3 => ?_)
  refine lv_iconst (v := nI 2) hx hb dX5_contact_26 ci_2 ?_
  refine lv_goto (tgt := 31) hx hb dX5_contact_27 (by decide) ?_
  refine mcV (c_X5_holds hP hD ⟨a1, a2, a3, a4, a5, a6, a7, a8, a9, a10, g19, g20, g21, g22, g23, g24, g25, g26, g27, g28, g29⟩ (by decide)) ⟨hx, hb, hml, hown, hts⟩ hK gX5_contact_X5_holds rfl hd_X5_holds ⟨by omega, by omega⟩ (va_recv hK hP (ci := 5) (q0 := 19) rfl g19) rfl hl.1 rfl (Nat.le_of_ble_eq_true rfl) dX5_contact_31 ⟨Nat.zero_le _, Nat.zero_le _⟩ hS (fun r ws4 H locs hq6 hP hD hS => ?_)
  obtain ⟨rfl, hpr, fr5⟩ := hq6
  obtain ⟨a1, a2, a3, a4, a5, a6, a7, a8, a9, a10, g19, g20, g21, g22, g23, g24, g25, g26, g27, g28, g29⟩ := id hpr
  refine sv_top (y := nI 0) rfl ?_
  refine sn_if_ne (tgt := 39) hx hb dX5_contact_34 (by decide) (by decide) (fun q => absurd q (by decide)) (fun _ => ?_)
  refine lv_iconst (v := nI 0) hx hb dX5_contact_37 ci_0 ?_
  exact hret 38 ls _ _ locs _ dX5_contact_38 hP hD hS rfl (⟨rfl, ⟨a1, a2, a3, a4, a5, a6, a7, a8, a9, a10, g19, g20, g21, g22, g23, g24, g25, g26, g27, g28, g29⟩, (fr.wd fr5 : fr _ _ 19 29)⟩)
set_option maxHeartbeats 4000000 in
set_option maxRecDepth 100000 in
theorem c_X5_contact_0 {l : Launch} {D : va_G} {ky : kT} {A : Nat → Prop} {Hs : Heap} {ws : va_W} (hP : va_P D CL ws Hs) (hD : va_D A ws) {h th n : Nat} {T C Hd : Nat → Nat} {b : Nat} {q : Bool} {J : Nat → Nat} {bg : Bool} {pu bu : Nat} {cl mo : Int32} {K : Nat → Nat} {fw fd fc fg fo : Nat → Int32} (hpr : isMod ky ws h th n T C Hd b q J bg pu bu cl mo K fw fd fc fg fo) (hI : PI0 n C Hd b) {pt ot : Nat} {are : Bool} (hp : pt < n) (ho : ot < n) (hne : ¬ pt = ot) : MU l yX5_contact wsX5_contact 1 22 0 0 D ky A Hs [.ref h, .int (nI pt), .int (nI ot), .int (bI are)] (fun r w => r = nI (cnt (ctc C pt ot are pt)) ∧ isMod ky w h 0 n T (ctc C pt ot are) Hd b q J false pu bu cl mo K fw fd fc fg fo ∧ fr ws w 19 29) := by
  refine MU.of (cc := cX5_contact) (maxL := 4) (ty := .int) (by decide) rfl (Nat.le_of_ble_eq_true rfl) ?_
  intro pg en Rm sg mi av below meth co Qo hRf hRl hRc hRs hx hb hml hown hts hK hret ls hl
  have hl : lv_has ls 4 [(0, .ref h), (1, .int (nI pt)), (2, .int (nI ot)), (3, .int (bI are))] := hl
  have hS : va_S A Hs Hs [] := va_S.rf
  generalize ([] : List Loc) = locs at hS ⊢
  obtain ⟨a1, a2, a3, a4, a5, a6, a7, a8, a9, a10, g19, g20, g21, g22, g23, g24, g25, g26, g27, g28, g29⟩ := id hpr
  have hk := prt_in hp hI.1
  have hk2 := prt_in ho hI.1
  have hn8 := hI.1
  have hlt := Nat.lt_of_lt_of_le (ctc_lt (are := are) hI.2.2.1 hp ho pt) (p2_le hn8)
  have k13 := hts (.fieldLink RX5 13 "AssemblyPlannerModel" "contacts" "[I") (by decide +kernel)
  have hinX5 : ∀ w ∈ wsX50, w ∈ wsX5_contact := by decide +kernel
  have k54 := hts (.fieldLink RX5 54 "AssemblyPlannerModel" "isBegun" "Z") (by decide +kernel)
  refine lv_aload_n hx hb dX5_contact_0 rfl (lv_at hl 0 rfl) ?_
  refine lv_aload_n hx hb dX5_contact_1 rfl (lv_at hl 0 rfl) ?_
  refine lv_iload_n hx hb dX5_contact_2 rfl (lv_at hl 1 rfl) ?_
  refine pcV (c_X5_isPart hP ⟨a1, a2, a3, a4, a5, a6, a7, a8, a9, a10, g19, g20, g21, g22, g23, g24, g25, g26, g27, g28, g29⟩ ) ⟨hx, hb, hml, hown, hts⟩ hK gX5_contact_X5_isPart rfl hd_X5_isPart ⟨by omega, by omega⟩ (va_recv hK hP (ci := 5) (q0 := 19) rfl g19) rfl hl.1 rfl (Nat.le_of_ble_eq_true rfl) dX5_contact_3 ⟨Nat.zero_le _, Nat.zero_le _⟩ hS (fun locs hS => ?_)
  refine sb_if_eq (tgt := 17) hx hb dX5_contact_6 (by decide) (fun q => absurd q (by rw [hk]; decide)) (fun _ => ?_)
  refine lv_aload_n hx hb dX5_contact_9 rfl (lv_at hl 0 rfl) ?_
  refine lv_iload_n hx hb dX5_contact_10 rfl (lv_at hl 2 rfl) ?_
  refine pcV (c_X5_isPart hP ⟨a1, a2, a3, a4, a5, a6, a7, a8, a9, a10, g19, g20, g21, g22, g23, g24, g25, g26, g27, g28, g29⟩ ) ⟨hx, hb, hml, hown, hts⟩ hK gX5_contact_X5_isPart rfl hd_X5_isPart ⟨by omega, by omega⟩ (va_recv hK hP (ci := 5) (q0 := 19) rfl g19) rfl hl.1 rfl (Nat.le_of_ble_eq_true rfl) dX5_contact_11 ⟨Nat.zero_le _, Nat.zero_le _⟩ hS (fun locs hS => ?_)
  refine sb_if_ne (tgt := 21) hx hb dX5_contact_14 (by decide) (fun _ => ?_) (fun q => absurd q (by rw [hk2]; decide))
  refine lv_iload_n hx hb dX5_contact_21 rfl (lv_at hl 1 rfl) ?_
  refine lv_iload_n hx hb dX5_contact_22 rfl (lv_at hl 2 rfl) ?_
  refine sn_icmp_ne (tgt := 30) hx hb dX5_contact_23 (by decide) (by omega) (by omega) (fun c3 => ?_) (fun c3 => absurd c3 hne)
  refine lv_iconst (v := nI 0) hx hb dX5_contact_30 ci_0 ?_
  refine mcV (c_X5_holds hP hD ⟨a1, a2, a3, a4, a5, a6, a7, a8, a9, a10, g19, g20, g21, g22, g23, g24, g25, g26, g27, g28, g29⟩ (by decide)) ⟨hx, hb, hml, hown, hts⟩ hK gX5_contact_X5_holds rfl hd_X5_holds ⟨by omega, by omega⟩ (va_recv hK hP (ci := 5) (q0 := 19) rfl g19) rfl hl.1 rfl (Nat.le_of_ble_eq_true rfl) dX5_contact_31 ⟨Nat.zero_le _, Nat.zero_le _⟩ hS (fun r ws4 H locs hq6 hP hD hS => ?_)
  obtain ⟨rfl, hpr, fr5⟩ := hq6
  obtain ⟨a1, a2, a3, a4, a5, a6, a7, a8, a9, a10, g19, g20, g21, g22, g23, g24, g25, g26, g27, g28, g29⟩ := id hpr
  refine sv_top (y := nI 1) rfl ?_
  refine sn_if_ne (tgt := 39) hx hb dX5_contact_34 (by decide) (by decide) (fun _ => ?_) (fun q => absurd q (by decide))
  refine lv_aload_n hx hb dX5_contact_39 rfl (lv_at hl 0 rfl) ?_
  refine va_get (ci := 5) (C := RX5) (T := TX5) (N := 19) hx hb hts hinX5 hown hK hP 19 g19 rfl 3 (by decide) k13 (fun _ h9 => h9) rfl dX5_contact_40 ?_
  refine lv_iload_n hx hb dX5_contact_43 rfl (lv_at hl 1 rfl) ?_
  refine lv_aload_n hx hb dX5_contact_44 rfl (lv_at hl 0 rfl) ?_
  refine va_get (ci := 5) (C := RX5) (T := TX5) (N := 19) hx hb hts hinX5 hown hK hP 19 g19 rfl 3 (by decide) k13 (fun _ h9 => h9) rfl dX5_contact_45 ?_
  refine lv_iload_n hx hb dX5_contact_48 rfl (lv_at hl 1 rfl) ?_
  refine sv_iald hx hb hK hP 21 g21 (j := pt) (by omega) (by decide) dX5_contact_49 ?_
  refine W.eq (g2 := F0 mi 50 ls (.int (nI (C pt)) :: [.int (nI pt), .ref a2])) rfl ?_
  refine lv_iconst (v := nI 1) hx hb dX5_contact_50 ci_1 ?_
  refine lv_iload_n hx hb dX5_contact_51 rfl (lv_at hl 2 rfl) ?_
  refine lv_ishl hx hb dX5_contact_52 ?_
  refine sv_top (y := nI (2 ^ ot)) (sh_l1 (by omega)) ?_
  refine lv_iconst (v := -1) hx hb dX5_contact_53 ci_m1 ?_
  refine lv_ixor hx hb dX5_contact_54 ?_
  refine lv_iand hx hb dX5_contact_55 ?_
  refine sv_top (y := nI (clr (C pt) (2 ^ ot))) (an_not _ _) ?_
  refine lv_iload_n hx hb dX5_contact_56 rfl (lv_at hl 3 rfl) ?_
  refine sb_if_eq (tgt := 66) hx hb dX5_contact_57 (by decide) (fun c8 => ?_) (fun c8 => ?_)
  · refine lv_iconst (v := nI 0) hx hb dX5_contact_66 ci_0 ?_
    refine lv_ior hx hb dX5_contact_67 ?_
    refine sv_top (y := nI (chg (C pt) ot are)) ((an_or _ _).trans (chgM_f c8)) ?_
    refine sv_iast hx hb hK hP hD hS 21 g21 (j := pt) (by omega) (by decide) dX5_contact_68 (fun ws10 H locs hP hD hS g21 fr9 => ?_)
    replace g19 := (fr9 19 (by decide)).trans g19
    replace g20 := (fr9 20 (by decide)).trans g20
    replace g22 := (fr9 22 (by decide)).trans g22
    replace g23 := (fr9 23 (by decide)).trans g23
    replace g24 := (fr9 24 (by decide)).trans g24
    replace g25 := (fr9 25 (by decide)).trans g25
    replace g26 := (fr9 26 (by decide)).trans g26
    replace g27 := (fr9 27 (by decide)).trans g27
    replace g28 := (fr9 28 (by decide)).trans g28
    replace g29 := (fr9 29 (by decide)).trans g29
    rw [upd_N] at g21
    refine lv_aload_n hx hb dX5_contact_69 rfl (lv_at hl 0 rfl) ?_
    refine va_get (ci := 5) (C := RX5) (T := TX5) (N := 19) hx hb hts hinX5 hown hK hP 19 g19 rfl 3 (by decide) k13 (fun _ h9 => h9) rfl dX5_contact_70 ?_
    refine lv_iload_n hx hb dX5_contact_73 rfl (lv_at hl 2 rfl) ?_
    refine lv_aload_n hx hb dX5_contact_74 rfl (lv_at hl 0 rfl) ?_
    refine va_get (ci := 5) (C := RX5) (T := TX5) (N := 19) hx hb hts hinX5 hown hK hP 19 g19 rfl 3 (by decide) k13 (fun _ h9 => h9) rfl dX5_contact_75 ?_
    refine lv_iload_n hx hb dX5_contact_78 rfl (lv_at hl 2 rfl) ?_
    refine sv_iald hx hb hK hP 21 g21 (j := ot) (by omega) (by decide) dX5_contact_79 ?_
    refine W.eq (g2 := F0 mi 80 ls (.int (nI ((upX C pt (chg (C pt) ot are)) ot)) :: [.int (nI ot), .ref a2])) rfl ?_
    refine lv_iconst (v := nI 1) hx hb dX5_contact_80 ci_1 ?_
    refine lv_iload_n hx hb dX5_contact_81 rfl (lv_at hl 1 rfl) ?_
    refine lv_ishl hx hb dX5_contact_82 ?_
    refine sv_top (y := nI (2 ^ pt)) (sh_l1 (by omega)) ?_
    refine lv_iconst (v := -1) hx hb dX5_contact_83 ci_m1 ?_
    refine lv_ixor hx hb dX5_contact_84 ?_
    refine lv_iand hx hb dX5_contact_85 ?_
    refine sv_top (y := nI (clr ((upX C pt (chg (C pt) ot are)) ot) (2 ^ pt))) (an_not _ _) ?_
    refine lv_iload_n hx hb dX5_contact_86 rfl (lv_at hl 3 rfl) ?_
    refine sb_if_eq (tgt := 96) hx hb dX5_contact_87 (by decide) (fun _ => ?_) (fun q => absurd q (by rw [c8]; decide))
    refine lv_iconst (v := nI 0) hx hb dX5_contact_96 ci_0 ?_
    refine lv_ior hx hb dX5_contact_97 ?_
    refine sv_top (y := nI (chg ((upX C pt (chg (C pt) ot are)) ot) pt are)) ((an_or _ _).trans (chgM_f c8)) ?_
    refine sv_iast hx hb hK hP hD hS 21 g21 (j := ot) (by omega) (by decide) dX5_contact_98 (fun ws13 H locs hP hD hS g21 fr12 => ?_)
    replace g19 := (fr12 19 (by decide)).trans g19
    replace g20 := (fr12 20 (by decide)).trans g20
    replace g22 := (fr12 22 (by decide)).trans g22
    replace g23 := (fr12 23 (by decide)).trans g23
    replace g24 := (fr12 24 (by decide)).trans g24
    replace g25 := (fr12 25 (by decide)).trans g25
    replace g26 := (fr12 26 (by decide)).trans g26
    replace g27 := (fr12 27 (by decide)).trans g27
    replace g28 := (fr12 28 (by decide)).trans g28
    replace g29 := (fr12 29 (by decide)).trans g29
    rw [upd_N] at g21
    refine lv_aload_n hx hb dX5_contact_99 rfl (lv_at hl 0 rfl) ?_
    refine lv_iconst (v := nI 0) hx hb dX5_contact_100 ci_0 ?_
    refine W.eq (g2 := F0 mi 101 ls (.int (bI false) :: .ref h :: [])) rfl ?_
    refine sv_put (ci := 5) (C := RX5) (T := TX5) (N := 19) hx hb hts hinX5 tyX5 tyX5_ok nmX5 hown hK hP hD hS 19 g19 rfl 8 (by decide) k54 (fun _ h9 => h9) rfl .boolean (by decide +kernel) (bI_nar _) (bI_fit _) [.int (nI 0), .int (nI n), .ref a1, .ref a2, .ref a3, .int (nI b), .int (bI q), .ref a4, .int (bI false), .int (nI pu), .int (nI bu), .int cl, .int mo, .ref a5, .ref a6, .ref a7, .ref a8, .ref a9, .ref a10] (Nat.le_of_ble_eq_true rfl) rfl dX5_contact_101 (fun ws15 H locs hP hD hS g19 fr14 => ?_)
    replace g20 := (fr14 20 (by decide)).trans g20
    replace g21 := (fr14 21 (by decide)).trans g21
    replace g22 := (fr14 22 (by decide)).trans g22
    replace g23 := (fr14 23 (by decide)).trans g23
    replace g24 := (fr14 24 (by decide)).trans g24
    replace g25 := (fr14 25 (by decide)).trans g25
    replace g26 := (fr14 26 (by decide)).trans g26
    replace g27 := (fr14 27 (by decide)).trans g27
    replace g28 := (fr14 28 (by decide)).trans g28
    replace g29 := (fr14 29 (by decide)).trans g29
    refine lv_aload_n hx hb dX5_contact_104 rfl (lv_at hl 0 rfl) ?_
    refine va_get (ci := 5) (C := RX5) (T := TX5) (N := 19) hx hb hts hinX5 hown hK hP 19 g19 rfl 3 (by decide) k13 (fun _ h9 => h9) rfl dX5_contact_105 ?_
    refine lv_iload_n hx hb dX5_contact_108 rfl (lv_at hl 1 rfl) ?_
    refine sv_iald hx hb hK hP 21 g21 (j := pt) (by omega) (by decide) dX5_contact_109 ?_
    refine W.eq (g2 := F0 mi 110 ls (.int (nI ((upX (upX C pt (chg (C pt) ot are)) ot (chg ((upX C pt (chg (C pt) ot are)) ot) pt are)) pt)) :: [])) rfl ?_
    refine pcS (c_X5_bits  hlt) ⟨hx, hb, hml, hown, hts⟩ hK gX5_contact_X5_bits rfl hd_X5_bits ⟨by omega, by omega⟩ rfl hl.1 rfl (Nat.le_of_ble_eq_true rfl) dX5_contact_110 ⟨Nat.zero_le _, Nat.zero_le _⟩ hS (fun locs hS => ?_)
    exact hret 113 ls _ _ locs _ dX5_contact_113 hP hD hS rfl (⟨rfl, ⟨a1, a2, a3, a4, a5, a6, a7, a8, a9, a10, g19, g20, g21, g22, g23, g24, g25, g26, g27, g28, g29⟩, ((((fr.wd fr5 : fr _ _ 19 29).tr fr9).tr fr12).tr fr14)⟩)
  · refine lv_iconst (v := nI 1) hx hb dX5_contact_60 ci_1 ?_
    refine lv_iload_n hx hb dX5_contact_61 rfl (lv_at hl 2 rfl) ?_
    refine lv_ishl hx hb dX5_contact_62 ?_
    refine sv_top (y := nI (2 ^ ot)) (sh_l1 (by omega)) ?_
    refine lv_goto (tgt := 67) hx hb dX5_contact_63 (by decide) ?_
    refine lv_ior hx hb dX5_contact_67 ?_
    refine sv_top (y := nI (chg (C pt) ot are)) ((an_or _ _).trans (chgM_t c8)) ?_
    refine sv_iast hx hb hK hP hD hS 21 g21 (j := pt) (by omega) (by decide) dX5_contact_68 (fun ws17 H locs hP hD hS g21 fr16 => ?_)
    replace g19 := (fr16 19 (by decide)).trans g19
    replace g20 := (fr16 20 (by decide)).trans g20
    replace g22 := (fr16 22 (by decide)).trans g22
    replace g23 := (fr16 23 (by decide)).trans g23
    replace g24 := (fr16 24 (by decide)).trans g24
    replace g25 := (fr16 25 (by decide)).trans g25
    replace g26 := (fr16 26 (by decide)).trans g26
    replace g27 := (fr16 27 (by decide)).trans g27
    replace g28 := (fr16 28 (by decide)).trans g28
    replace g29 := (fr16 29 (by decide)).trans g29
    rw [upd_N] at g21
    refine lv_aload_n hx hb dX5_contact_69 rfl (lv_at hl 0 rfl) ?_
    refine va_get (ci := 5) (C := RX5) (T := TX5) (N := 19) hx hb hts hinX5 hown hK hP 19 g19 rfl 3 (by decide) k13 (fun _ h9 => h9) rfl dX5_contact_70 ?_
    refine lv_iload_n hx hb dX5_contact_73 rfl (lv_at hl 2 rfl) ?_
    refine lv_aload_n hx hb dX5_contact_74 rfl (lv_at hl 0 rfl) ?_
    refine va_get (ci := 5) (C := RX5) (T := TX5) (N := 19) hx hb hts hinX5 hown hK hP 19 g19 rfl 3 (by decide) k13 (fun _ h9 => h9) rfl dX5_contact_75 ?_
    refine lv_iload_n hx hb dX5_contact_78 rfl (lv_at hl 2 rfl) ?_
    refine sv_iald hx hb hK hP 21 g21 (j := ot) (by omega) (by decide) dX5_contact_79 ?_
    refine W.eq (g2 := F0 mi 80 ls (.int (nI ((upX C pt (chg (C pt) ot are)) ot)) :: [.int (nI ot), .ref a2])) rfl ?_
    refine lv_iconst (v := nI 1) hx hb dX5_contact_80 ci_1 ?_
    refine lv_iload_n hx hb dX5_contact_81 rfl (lv_at hl 1 rfl) ?_
    refine lv_ishl hx hb dX5_contact_82 ?_
    refine sv_top (y := nI (2 ^ pt)) (sh_l1 (by omega)) ?_
    refine lv_iconst (v := -1) hx hb dX5_contact_83 ci_m1 ?_
    refine lv_ixor hx hb dX5_contact_84 ?_
    refine lv_iand hx hb dX5_contact_85 ?_
    refine sv_top (y := nI (clr ((upX C pt (chg (C pt) ot are)) ot) (2 ^ pt))) (an_not _ _) ?_
    refine lv_iload_n hx hb dX5_contact_86 rfl (lv_at hl 3 rfl) ?_
    refine sb_if_eq (tgt := 96) hx hb dX5_contact_87 (by decide) (fun q => absurd q (by rw [c8]; decide)) (fun _ => ?_)
    refine lv_iconst (v := nI 1) hx hb dX5_contact_90 ci_1 ?_
    refine lv_iload_n hx hb dX5_contact_91 rfl (lv_at hl 1 rfl) ?_
    refine lv_ishl hx hb dX5_contact_92 ?_
    refine sv_top (y := nI (2 ^ pt)) (sh_l1 (by omega)) ?_
    refine lv_goto (tgt := 97) hx hb dX5_contact_93 (by decide) ?_
    refine lv_ior hx hb dX5_contact_97 ?_
    refine sv_top (y := nI (chg ((upX C pt (chg (C pt) ot are)) ot) pt are)) ((an_or _ _).trans (chgM_t c8)) ?_
    refine sv_iast hx hb hK hP hD hS 21 g21 (j := ot) (by omega) (by decide) dX5_contact_98 (fun ws20 H locs hP hD hS g21 fr19 => ?_)
    replace g19 := (fr19 19 (by decide)).trans g19
    replace g20 := (fr19 20 (by decide)).trans g20
    replace g22 := (fr19 22 (by decide)).trans g22
    replace g23 := (fr19 23 (by decide)).trans g23
    replace g24 := (fr19 24 (by decide)).trans g24
    replace g25 := (fr19 25 (by decide)).trans g25
    replace g26 := (fr19 26 (by decide)).trans g26
    replace g27 := (fr19 27 (by decide)).trans g27
    replace g28 := (fr19 28 (by decide)).trans g28
    replace g29 := (fr19 29 (by decide)).trans g29
    rw [upd_N] at g21
    refine lv_aload_n hx hb dX5_contact_99 rfl (lv_at hl 0 rfl) ?_
    refine lv_iconst (v := nI 0) hx hb dX5_contact_100 ci_0 ?_
    refine W.eq (g2 := F0 mi 101 ls (.int (bI false) :: .ref h :: [])) rfl ?_
    refine sv_put (ci := 5) (C := RX5) (T := TX5) (N := 19) hx hb hts hinX5 tyX5 tyX5_ok nmX5 hown hK hP hD hS 19 g19 rfl 8 (by decide) k54 (fun _ h9 => h9) rfl .boolean (by decide +kernel) (bI_nar _) (bI_fit _) [.int (nI 0), .int (nI n), .ref a1, .ref a2, .ref a3, .int (nI b), .int (bI q), .ref a4, .int (bI false), .int (nI pu), .int (nI bu), .int cl, .int mo, .ref a5, .ref a6, .ref a7, .ref a8, .ref a9, .ref a10] (Nat.le_of_ble_eq_true rfl) rfl dX5_contact_101 (fun ws22 H locs hP hD hS g19 fr21 => ?_)
    replace g20 := (fr21 20 (by decide)).trans g20
    replace g21 := (fr21 21 (by decide)).trans g21
    replace g22 := (fr21 22 (by decide)).trans g22
    replace g23 := (fr21 23 (by decide)).trans g23
    replace g24 := (fr21 24 (by decide)).trans g24
    replace g25 := (fr21 25 (by decide)).trans g25
    replace g26 := (fr21 26 (by decide)).trans g26
    replace g27 := (fr21 27 (by decide)).trans g27
    replace g28 := (fr21 28 (by decide)).trans g28
    replace g29 := (fr21 29 (by decide)).trans g29
    refine lv_aload_n hx hb dX5_contact_104 rfl (lv_at hl 0 rfl) ?_
    refine va_get (ci := 5) (C := RX5) (T := TX5) (N := 19) hx hb hts hinX5 hown hK hP 19 g19 rfl 3 (by decide) k13 (fun _ h9 => h9) rfl dX5_contact_105 ?_
    refine lv_iload_n hx hb dX5_contact_108 rfl (lv_at hl 1 rfl) ?_
    refine sv_iald hx hb hK hP 21 g21 (j := pt) (by omega) (by decide) dX5_contact_109 ?_
    refine W.eq (g2 := F0 mi 110 ls (.int (nI ((upX (upX C pt (chg (C pt) ot are)) ot (chg ((upX C pt (chg (C pt) ot are)) ot) pt are)) pt)) :: [])) rfl ?_
    refine pcS (c_X5_bits  hlt) ⟨hx, hb, hml, hown, hts⟩ hK gX5_contact_X5_bits rfl hd_X5_bits ⟨by omega, by omega⟩ rfl hl.1 rfl (Nat.le_of_ble_eq_true rfl) dX5_contact_110 ⟨Nat.zero_le _, Nat.zero_le _⟩ hS (fun locs hS => ?_)
    exact hret 113 ls _ _ locs _ dX5_contact_113 hP hD hS rfl (⟨rfl, ⟨a1, a2, a3, a4, a5, a6, a7, a8, a9, a10, g19, g20, g21, g22, g23, g24, g25, g26, g27, g28, g29⟩, ((((fr.wd fr5 : fr _ _ 19 29).tr fr16).tr fr19).tr fr21)⟩)
set_option maxHeartbeats 4000000 in
set_option maxRecDepth 100000 in
theorem c_X5_hinder_1 {l : Launch} {D : va_G} {ky : kT} {A : Nat → Prop} {Hs : Heap} {ws : va_W} (hP : va_P D CL ws Hs) (hD : va_D A ws) {h th n : Nat} {T C Hd : Nat → Nat} {b : Nat} {q : Bool} {J : Nat → Nat} {bg : Bool} {pu bu : Nat} {cl mo : Int32} {K : Nat → Nat} {fw fd fc fg fo : Nat → Int32} (hpr : isMod ky ws h th n T C Hd b q J bg pu bu cl mo K fw fd fc fg fo) {x y z : Int32} {u : Bool} (hk : (prt n x && (prt n z && prt 6 y)) = false) : MU l yX5_hinder wsX5_hinder 1 21 0 0 D ky A Hs [.ref h, .int x, .int y, .int z, .int (bI u)] (fun r w => r = nI 0 ∧ isMod ky w h 1 n T C Hd b q J bg pu bu cl mo K fw fd fc fg fo ∧ fr ws w 19 29) := by
  refine MU.of (cc := cX5_hinder) (maxL := 8) (ty := .int) (by decide) rfl (Nat.le_of_ble_eq_true rfl) ?_
  intro pg en Rm sg mi av below meth co Qo hRf hRl hRc hRs hx hb hml hown hts hK hret ls hl
  have hl : lv_has ls 8 [(0, .ref h), (1, .int x), (2, .int y), (3, .int z), (4, .int (bI u))] := hl
  have hS : va_S A Hs Hs [] := va_S.rf
  generalize ([] : List Loc) = locs at hS ⊢
  obtain ⟨a1, a2, a3, a4, a5, a6, a7, a8, a9, a10, g19, g20, g21, g22, g23, g24, g25, g26, g27, g28, g29⟩ := id hpr
  refine lv_aload_n hx hb dX5_hinder_0 rfl (lv_at hl 0 rfl) ?_
  refine lv_iload_n hx hb dX5_hinder_1 rfl (lv_at hl 1 rfl) ?_
  refine pcV (c_X5_isPart hP ⟨a1, a2, a3, a4, a5, a6, a7, a8, a9, a10, g19, g20, g21, g22, g23, g24, g25, g26, g27, g28, g29⟩ ) ⟨hx, hb, hml, hown, hts⟩ hK gX5_hinder_X5_isPart rfl hd_X5_isPart ⟨by omega, by omega⟩ (va_recv hK hP (ci := 5) (q0 := 19) rfl g19) rfl hl.1 rfl (Nat.le_of_ble_eq_true rfl) dX5_hinder_2 ⟨Nat.zero_le _, Nat.zero_le _⟩ hS (fun locs hS => ?_)
  refine sb_if_eq (tgt := 27) hx hb dX5_hinder_5 (by decide) (fun c1 => ?_) (fun c1 => ?_)
  · refine lv_iconst (v := nI 0) hx hb dX5_hinder_27 ci_0 ?_
    refine lv_istore (lv' := [(5, .int (nI 0)), (0, .ref h), (1, .int x), (2, .int y), (3, .int z), (4, .int (bI u))]) hx hb dX5_hinder_28 hl (by decide) rfl (fun ls hl => ?_)
    refine lv_aload_n hx hb dX5_hinder_30 rfl (lv_at hl 1 rfl) ?_
    refine lv_iload hx hb dX5_hinder_31 (lv_at hl 0 rfl) ?_
    refine sn_if_ne (tgt := 40) hx hb dX5_hinder_33 (by decide) (by decide) (fun q => absurd q (by decide)) (fun _ => ?_)
    refine lv_iconst (v := nI 1) hx hb dX5_hinder_36 ci_1 ?_
    refine lv_goto (tgt := 50) hx hb dX5_hinder_37 (by decide) ?_
    refine mcV (c_X5_holds hP hD ⟨a1, a2, a3, a4, a5, a6, a7, a8, a9, a10, g19, g20, g21, g22, g23, g24, g25, g26, g27, g28, g29⟩ (by decide)) ⟨hx, hb, hml, hown, hts⟩ hK gX5_hinder_X5_holds rfl hd_X5_holds ⟨by omega, by omega⟩ (va_recv hK hP (ci := 5) (q0 := 19) rfl g19) rfl hl.1 rfl (Nat.le_of_ble_eq_true rfl) dX5_hinder_50 ⟨Nat.zero_le _, Nat.zero_le _⟩ hS (fun r ws3 H locs hq5 hP hD hS => ?_)
    obtain ⟨rfl, hpr, fr4⟩ := hq5
    obtain ⟨a1, a2, a3, a4, a5, a6, a7, a8, a9, a10, g19, g20, g21, g22, g23, g24, g25, g26, g27, g28, g29⟩ := id hpr
    refine sv_top (y := nI 0) rfl ?_
    refine sn_if_ne (tgt := 58) hx hb dX5_hinder_53 (by decide) (by decide) (fun q => absurd q (by decide)) (fun _ => ?_)
    refine lv_iconst (v := nI 0) hx hb dX5_hinder_56 ci_0 ?_
    exact hret 57 ls _ _ locs _ dX5_hinder_57 hP hD hS rfl (⟨rfl, ⟨a1, a2, a3, a4, a5, a6, a7, a8, a9, a10, g19, g20, g21, g22, g23, g24, g25, g26, g27, g28, g29⟩, (fr.wd fr4 : fr _ _ 19 29)⟩)
  · refine lv_aload_n hx hb dX5_hinder_8 rfl (lv_at hl 0 rfl) ?_
    refine lv_iload_n hx hb dX5_hinder_9 rfl (lv_at hl 3 rfl) ?_
    refine pcV (c_X5_isPart hP ⟨a1, a2, a3, a4, a5, a6, a7, a8, a9, a10, g19, g20, g21, g22, g23, g24, g25, g26, g27, g28, g29⟩ ) ⟨hx, hb, hml, hown, hts⟩ hK gX5_hinder_X5_isPart rfl hd_X5_isPart ⟨by omega, by omega⟩ (va_recv hK hP (ci := 5) (q0 := 19) rfl g19) rfl hl.1 rfl (Nat.le_of_ble_eq_true rfl) dX5_hinder_10 ⟨Nat.zero_le _, Nat.zero_le _⟩ hS (fun locs hS => ?_)
    refine sb_if_eq (tgt := 27) hx hb dX5_hinder_13 (by decide) (fun c7 => ?_) (fun c7 => ?_)
    · refine lv_iconst (v := nI 0) hx hb dX5_hinder_27 ci_0 ?_
      refine lv_istore (lv' := [(5, .int (nI 0)), (0, .ref h), (1, .int x), (2, .int y), (3, .int z), (4, .int (bI u))]) hx hb dX5_hinder_28 hl (by decide) rfl (fun ls hl => ?_)
      refine lv_aload_n hx hb dX5_hinder_30 rfl (lv_at hl 1 rfl) ?_
      refine lv_iload hx hb dX5_hinder_31 (lv_at hl 0 rfl) ?_
      refine sn_if_ne (tgt := 40) hx hb dX5_hinder_33 (by decide) (by decide) (fun q => absurd q (by decide)) (fun _ => ?_)
      refine lv_iconst (v := nI 1) hx hb dX5_hinder_36 ci_1 ?_
      refine lv_goto (tgt := 50) hx hb dX5_hinder_37 (by decide) ?_
      refine mcV (c_X5_holds hP hD ⟨a1, a2, a3, a4, a5, a6, a7, a8, a9, a10, g19, g20, g21, g22, g23, g24, g25, g26, g27, g28, g29⟩ (by decide)) ⟨hx, hb, hml, hown, hts⟩ hK gX5_hinder_X5_holds rfl hd_X5_holds ⟨by omega, by omega⟩ (va_recv hK hP (ci := 5) (q0 := 19) rfl g19) rfl hl.1 rfl (Nat.le_of_ble_eq_true rfl) dX5_hinder_50 ⟨Nat.zero_le _, Nat.zero_le _⟩ hS (fun r ws9 H locs hq11 hP hD hS => ?_)
      obtain ⟨rfl, hpr, fr10⟩ := hq11
      obtain ⟨a1, a2, a3, a4, a5, a6, a7, a8, a9, a10, g19, g20, g21, g22, g23, g24, g25, g26, g27, g28, g29⟩ := id hpr
      refine sv_top (y := nI 0) rfl ?_
      refine sn_if_ne (tgt := 58) hx hb dX5_hinder_53 (by decide) (by decide) (fun q => absurd q (by decide)) (fun _ => ?_)
      refine lv_iconst (v := nI 0) hx hb dX5_hinder_56 ci_0 ?_
      exact hret 57 ls _ _ locs _ dX5_hinder_57 hP hD hS rfl (⟨rfl, ⟨a1, a2, a3, a4, a5, a6, a7, a8, a9, a10, g19, g20, g21, g22, g23, g24, g25, g26, g27, g28, g29⟩, (fr.wd fr10 : fr _ _ 19 29)⟩)
    · refine lv_iload_n hx hb dX5_hinder_16 rfl (lv_at hl 2 rfl) ?_
      refine pcS (c_X5_isDirection  ) ⟨hx, hb, hml, hown, hts⟩ hK gX5_hinder_X5_isDirection rfl hd_X5_isDirection ⟨by omega, by omega⟩ rfl hl.1 rfl (Nat.le_of_ble_eq_true rfl) dX5_hinder_17 ⟨Nat.zero_le _, Nat.zero_le _⟩ hS (fun locs hS => ?_)
      refine sb_if_eq (tgt := 27) hx hb dX5_hinder_20 (by decide) (fun c13 => ?_) (fun c13 => absurd hk (by rw [c1, c7, c13]; decide))
      refine lv_iconst (v := nI 0) hx hb dX5_hinder_27 ci_0 ?_
      refine lv_istore (lv' := [(5, .int (nI 0)), (0, .ref h), (1, .int x), (2, .int y), (3, .int z), (4, .int (bI u))]) hx hb dX5_hinder_28 hl (by decide) rfl (fun ls hl => ?_)
      refine lv_aload_n hx hb dX5_hinder_30 rfl (lv_at hl 1 rfl) ?_
      refine lv_iload hx hb dX5_hinder_31 (lv_at hl 0 rfl) ?_
      refine sn_if_ne (tgt := 40) hx hb dX5_hinder_33 (by decide) (by decide) (fun q => absurd q (by decide)) (fun _ => ?_)
      refine lv_iconst (v := nI 1) hx hb dX5_hinder_36 ci_1 ?_
      refine lv_goto (tgt := 50) hx hb dX5_hinder_37 (by decide) ?_
      refine mcV (c_X5_holds hP hD ⟨a1, a2, a3, a4, a5, a6, a7, a8, a9, a10, g19, g20, g21, g22, g23, g24, g25, g26, g27, g28, g29⟩ (by decide)) ⟨hx, hb, hml, hown, hts⟩ hK gX5_hinder_X5_holds rfl hd_X5_holds ⟨by omega, by omega⟩ (va_recv hK hP (ci := 5) (q0 := 19) rfl g19) rfl hl.1 rfl (Nat.le_of_ble_eq_true rfl) dX5_hinder_50 ⟨Nat.zero_le _, Nat.zero_le _⟩ hS (fun r ws15 H locs hq17 hP hD hS => ?_)
      obtain ⟨rfl, hpr, fr16⟩ := hq17
      obtain ⟨a1, a2, a3, a4, a5, a6, a7, a8, a9, a10, g19, g20, g21, g22, g23, g24, g25, g26, g27, g28, g29⟩ := id hpr
      refine sv_top (y := nI 0) rfl ?_
      refine sn_if_ne (tgt := 58) hx hb dX5_hinder_53 (by decide) (by decide) (fun q => absurd q (by decide)) (fun _ => ?_)
      refine lv_iconst (v := nI 0) hx hb dX5_hinder_56 ci_0 ?_
      exact hret 57 ls _ _ locs _ dX5_hinder_57 hP hD hS rfl (⟨rfl, ⟨a1, a2, a3, a4, a5, a6, a7, a8, a9, a10, g19, g20, g21, g22, g23, g24, g25, g26, g27, g28, g29⟩, (fr.wd fr16 : fr _ _ 19 29)⟩)
set_option maxHeartbeats 4000000 in
set_option maxRecDepth 100000 in
theorem c_X5_hinder_2 {l : Launch} {D : va_G} {ky : kT} {A : Nat → Prop} {Hs : Heap} {ws : va_W} (hP : va_P D CL ws Hs) (hD : va_D A ws) {h th n : Nat} {T C Hd : Nat → Nat} {b : Nat} {q : Bool} {J : Nat → Nat} {bg : Bool} {pu bu : Nat} {cl mo : Int32} {K : Nat → Nat} {fw fd fc fg fo : Nat → Int32} (hpr : isMod ky ws h th n T C Hd b q J bg pu bu cl mo K fw fd fc fg fo) {x y : Int32} {u : Bool} (hk : prt n x = true) (hk2 : prt 6 y = true) : MU l yX5_hinder wsX5_hinder 1 21 0 0 D ky A Hs [.ref h, .int x, .int y, .int x, .int (bI u)] (fun r w => r = nI 0 ∧ isMod ky w h 2 n T C Hd b q J bg pu bu cl mo K fw fd fc fg fo ∧ fr ws w 19 29) := by
  refine MU.of (cc := cX5_hinder) (maxL := 8) (ty := .int) (by decide) rfl (Nat.le_of_ble_eq_true rfl) ?_
  intro pg en Rm sg mi av below meth co Qo hRf hRl hRc hRs hx hb hml hown hts hK hret ls hl
  have hl : lv_has ls 8 [(0, .ref h), (1, .int x), (2, .int y), (3, .int x), (4, .int (bI u))] := hl
  have hS : va_S A Hs Hs [] := va_S.rf
  generalize ([] : List Loc) = locs at hS ⊢
  obtain ⟨a1, a2, a3, a4, a5, a6, a7, a8, a9, a10, g19, g20, g21, g22, g23, g24, g25, g26, g27, g28, g29⟩ := id hpr
  refine lv_aload_n hx hb dX5_hinder_0 rfl (lv_at hl 0 rfl) ?_
  refine lv_iload_n hx hb dX5_hinder_1 rfl (lv_at hl 1 rfl) ?_
  refine pcV (c_X5_isPart hP ⟨a1, a2, a3, a4, a5, a6, a7, a8, a9, a10, g19, g20, g21, g22, g23, g24, g25, g26, g27, g28, g29⟩ ) ⟨hx, hb, hml, hown, hts⟩ hK gX5_hinder_X5_isPart rfl hd_X5_isPart ⟨by omega, by omega⟩ (va_recv hK hP (ci := 5) (q0 := 19) rfl g19) rfl hl.1 rfl (Nat.le_of_ble_eq_true rfl) dX5_hinder_2 ⟨Nat.zero_le _, Nat.zero_le _⟩ hS (fun locs hS => ?_)
  refine sb_if_eq (tgt := 27) hx hb dX5_hinder_5 (by decide) (fun q => absurd q (by rw [hk]; decide)) (fun _ => ?_)
  refine lv_aload_n hx hb dX5_hinder_8 rfl (lv_at hl 0 rfl) ?_
  refine lv_iload_n hx hb dX5_hinder_9 rfl (lv_at hl 3 rfl) ?_
  refine pcV (c_X5_isPart hP ⟨a1, a2, a3, a4, a5, a6, a7, a8, a9, a10, g19, g20, g21, g22, g23, g24, g25, g26, g27, g28, g29⟩ ) ⟨hx, hb, hml, hown, hts⟩ hK gX5_hinder_X5_isPart rfl hd_X5_isPart ⟨by omega, by omega⟩ (va_recv hK hP (ci := 5) (q0 := 19) rfl g19) rfl hl.1 rfl (Nat.le_of_ble_eq_true rfl) dX5_hinder_10 ⟨Nat.zero_le _, Nat.zero_le _⟩ hS (fun locs hS => ?_)
  refine sb_if_eq (tgt := 27) hx hb dX5_hinder_13 (by decide) (fun q => absurd q (by rw [hk]; decide)) (fun _ => ?_)
  refine lv_iload_n hx hb dX5_hinder_16 rfl (lv_at hl 2 rfl) ?_
  refine pcS (c_X5_isDirection  ) ⟨hx, hb, hml, hown, hts⟩ hK gX5_hinder_X5_isDirection rfl hd_X5_isDirection ⟨by omega, by omega⟩ rfl hl.1 rfl (Nat.le_of_ble_eq_true rfl) dX5_hinder_17 ⟨Nat.zero_le _, Nat.zero_le _⟩ hS (fun locs hS => ?_)
  refine sb_if_eq (tgt := 27) hx hb dX5_hinder_20 (by decide) (fun q => absurd q (by rw [hk2]; decide)) (fun _ => ?_)
  refine lv_iconst (v := nI 1) hx hb dX5_hinder_23 ci_1 ?_
  refine lv_goto (tgt := 28) hx hb dX5_hinder_24 (by decide) ?_
  refine lv_istore (lv' := [(5, .int (nI 1)), (0, .ref h), (1, .int x), (2, .int y), (3, .int x), (4, .int (bI u))]) hx hb dX5_hinder_28 hl (by decide) rfl (fun ls hl => ?_)
  refine lv_aload_n hx hb dX5_hinder_30 rfl (lv_at hl 1 rfl) ?_
  refine lv_iload hx hb dX5_hinder_31 (lv_at hl 0 rfl) ?_
  refine sn_if_ne (tgt := 40) hx hb dX5_hinder_33 (by decide) (by decide) (fun _ => ?_) (fun q => absurd q (by decide))
  refine lv_iload_n hx hb dX5_hinder_40 rfl (lv_at hl 2 rfl) ?_
  refine lv_iload_n hx hb dX5_hinder_41 rfl (lv_at hl 4 rfl) ?_
  refine lv_icmp_ne (tgt := 49) hx hb dX5_hinder_42 (by decide) (fun c5 => absurd rfl c5) (fun c5 => ?_)
  refine lv_iconst (v := nI 2) hx hb dX5_hinder_45 ci_2 ?_
  refine lv_goto (tgt := 50) hx hb dX5_hinder_46 (by decide) ?_
  refine mcV (c_X5_holds hP hD ⟨a1, a2, a3, a4, a5, a6, a7, a8, a9, a10, g19, g20, g21, g22, g23, g24, g25, g26, g27, g28, g29⟩ (by decide)) ⟨hx, hb, hml, hown, hts⟩ hK gX5_hinder_X5_holds rfl hd_X5_holds ⟨by omega, by omega⟩ (va_recv hK hP (ci := 5) (q0 := 19) rfl g19) rfl hl.1 rfl (Nat.le_of_ble_eq_true rfl) dX5_hinder_50 ⟨Nat.zero_le _, Nat.zero_le _⟩ hS (fun r ws6 H locs hq8 hP hD hS => ?_)
  obtain ⟨rfl, hpr, fr7⟩ := hq8
  obtain ⟨a1, a2, a3, a4, a5, a6, a7, a8, a9, a10, g19, g20, g21, g22, g23, g24, g25, g26, g27, g28, g29⟩ := id hpr
  refine sv_top (y := nI 0) rfl ?_
  refine sn_if_ne (tgt := 58) hx hb dX5_hinder_53 (by decide) (by decide) (fun q => absurd q (by decide)) (fun _ => ?_)
  refine lv_iconst (v := nI 0) hx hb dX5_hinder_56 ci_0 ?_
  exact hret 57 ls _ _ locs _ dX5_hinder_57 hP hD hS rfl (⟨rfl, ⟨a1, a2, a3, a4, a5, a6, a7, a8, a9, a10, g19, g20, g21, g22, g23, g24, g25, g26, g27, g28, g29⟩, (fr.wd fr7 : fr _ _ 19 29)⟩)
set_option maxHeartbeats 4000000 in
set_option maxRecDepth 100000 in
theorem c_X5_hinder_0 {l : Launch} {D : va_G} {ky : kT} {A : Nat → Prop} {Hs : Heap} {ws : va_W} (hP : va_P D CL ws Hs) (hD : va_D A ws) {h th n : Nat} {T C Hd : Nat → Nat} {b : Nat} {q : Bool} {J : Nat → Nat} {bg : Bool} {pu bu : Nat} {cl mo : Int32} {K : Nat → Nat} {fw fd fc fg fo : Nat → Int32} (hpr : isMod ky ws h th n T C Hd b q J bg pu bu cl mo K fw fd fc fg fo) (hI : PI0 n C Hd b) {pt d ot : Nat} {is : Bool} (hp : pt < n) (hd : d < 6) (ho : ot < n) (hne : ¬ pt = ot) : MU l yX5_hinder wsX5_hinder 1 22 0 0 D ky A Hs [.ref h, .int (nI pt), .int (nI d), .int (nI ot), .int (bI is)] (fun r w => r = nI (cnt (htc Hd pt d ot is (8 * d + pt))) ∧ isMod ky w h 0 n T C (htc Hd pt d ot is) b q J false pu bu cl mo K fw fd fc fg fo ∧ fr ws w 19 29) := by
  refine MU.of (cc := cX5_hinder) (maxL := 8) (ty := .int) (by decide) rfl (Nat.le_of_ble_eq_true rfl) ?_
  intro pg en Rm sg mi av below meth co Qo hRf hRl hRc hRs hx hb hml hown hts hK hret ls hl
  have hl : lv_has ls 8 [(0, .ref h), (1, .int (nI pt)), (2, .int (nI d)), (3, .int (nI ot)), (4, .int (bI is))] := hl
  have hS : va_S A Hs Hs [] := va_S.rf
  generalize ([] : List Loc) = locs at hS ⊢
  obtain ⟨a1, a2, a3, a4, a5, a6, a7, a8, a9, a10, g19, g20, g21, g22, g23, g24, g25, g26, g27, g28, g29⟩ := id hpr
  have hk := prt_in hp hI.1
  have hk2 := prt_in ho hI.1
  have hk3 := prt_in hd (by decide)
  have hn8 := hI.1
  have hd1 := (x1_ne d hd).2.1
  have hlt := Nat.lt_of_lt_of_le (htc_lt (is := is) (d := d) hI.2.2.2.1 hp ho (8 * d + pt)) (p2_le hn8)
  have k16 := hts (.fieldLink RX5 16 "AssemblyPlannerModel" "hinders" "[I") (by decide +kernel)
  have hinX5 : ∀ w ∈ wsX50, w ∈ wsX5_hinder := by decide +kernel
  have k54 := hts (.fieldLink RX5 54 "AssemblyPlannerModel" "isBegun" "Z") (by decide +kernel)
  refine lv_aload_n hx hb dX5_hinder_0 rfl (lv_at hl 0 rfl) ?_
  refine lv_iload_n hx hb dX5_hinder_1 rfl (lv_at hl 1 rfl) ?_
  refine pcV (c_X5_isPart hP ⟨a1, a2, a3, a4, a5, a6, a7, a8, a9, a10, g19, g20, g21, g22, g23, g24, g25, g26, g27, g28, g29⟩ ) ⟨hx, hb, hml, hown, hts⟩ hK gX5_hinder_X5_isPart rfl hd_X5_isPart ⟨by omega, by omega⟩ (va_recv hK hP (ci := 5) (q0 := 19) rfl g19) rfl hl.1 rfl (Nat.le_of_ble_eq_true rfl) dX5_hinder_2 ⟨Nat.zero_le _, Nat.zero_le _⟩ hS (fun locs hS => ?_)
  refine sb_if_eq (tgt := 27) hx hb dX5_hinder_5 (by decide) (fun q => absurd q (by rw [hk]; decide)) (fun _ => ?_)
  refine lv_aload_n hx hb dX5_hinder_8 rfl (lv_at hl 0 rfl) ?_
  refine lv_iload_n hx hb dX5_hinder_9 rfl (lv_at hl 3 rfl) ?_
  refine pcV (c_X5_isPart hP ⟨a1, a2, a3, a4, a5, a6, a7, a8, a9, a10, g19, g20, g21, g22, g23, g24, g25, g26, g27, g28, g29⟩ ) ⟨hx, hb, hml, hown, hts⟩ hK gX5_hinder_X5_isPart rfl hd_X5_isPart ⟨by omega, by omega⟩ (va_recv hK hP (ci := 5) (q0 := 19) rfl g19) rfl hl.1 rfl (Nat.le_of_ble_eq_true rfl) dX5_hinder_10 ⟨Nat.zero_le _, Nat.zero_le _⟩ hS (fun locs hS => ?_)
  refine sb_if_eq (tgt := 27) hx hb dX5_hinder_13 (by decide) (fun q => absurd q (by rw [hk2]; decide)) (fun _ => ?_)
  refine lv_iload_n hx hb dX5_hinder_16 rfl (lv_at hl 2 rfl) ?_
  refine pcS (c_X5_isDirection  ) ⟨hx, hb, hml, hown, hts⟩ hK gX5_hinder_X5_isDirection rfl hd_X5_isDirection ⟨by omega, by omega⟩ rfl hl.1 rfl (Nat.le_of_ble_eq_true rfl) dX5_hinder_17 ⟨Nat.zero_le _, Nat.zero_le _⟩ hS (fun locs hS => ?_)
  refine sb_if_eq (tgt := 27) hx hb dX5_hinder_20 (by decide) (fun q => absurd q (by rw [hk3]; decide)) (fun _ => ?_)
  refine lv_iconst (v := nI 1) hx hb dX5_hinder_23 ci_1 ?_
  refine lv_goto (tgt := 28) hx hb dX5_hinder_24 (by decide) ?_
  refine lv_istore (lv' := [(5, .int (nI 1)), (0, .ref h), (1, .int (nI pt)), (2, .int (nI d)), (3, .int (nI ot)), (4, .int (bI is))]) hx hb dX5_hinder_28 hl (by decide) rfl (fun ls hl => ?_)
  refine lv_aload_n hx hb dX5_hinder_30 rfl (lv_at hl 1 rfl) ?_
  refine lv_iload hx hb dX5_hinder_31 (lv_at hl 0 rfl) ?_
  refine sn_if_ne (tgt := 40) hx hb dX5_hinder_33 (by decide) (by decide) (fun _ => ?_) (fun q => absurd q (by decide))
  refine lv_iload_n hx hb dX5_hinder_40 rfl (lv_at hl 2 rfl) ?_
  refine lv_iload_n hx hb dX5_hinder_41 rfl (lv_at hl 4 rfl) ?_
  refine sn_icmp_ne (tgt := 49) hx hb dX5_hinder_42 (by decide) (by omega) (by omega) (fun c5 => ?_) (fun c5 => absurd c5 hne)
  refine lv_iconst (v := nI 0) hx hb dX5_hinder_49 ci_0 ?_
  refine mcV (c_X5_holds hP hD ⟨a1, a2, a3, a4, a5, a6, a7, a8, a9, a10, g19, g20, g21, g22, g23, g24, g25, g26, g27, g28, g29⟩ (by decide)) ⟨hx, hb, hml, hown, hts⟩ hK gX5_hinder_X5_holds rfl hd_X5_holds ⟨by omega, by omega⟩ (va_recv hK hP (ci := 5) (q0 := 19) rfl g19) rfl hl.1 rfl (Nat.le_of_ble_eq_true rfl) dX5_hinder_50 ⟨Nat.zero_le _, Nat.zero_le _⟩ hS (fun r ws6 H locs hq8 hP hD hS => ?_)
  obtain ⟨rfl, hpr, fr7⟩ := hq8
  obtain ⟨a1, a2, a3, a4, a5, a6, a7, a8, a9, a10, g19, g20, g21, g22, g23, g24, g25, g26, g27, g28, g29⟩ := id hpr
  refine sv_top (y := nI 1) rfl ?_
  refine sn_if_ne (tgt := 58) hx hb dX5_hinder_53 (by decide) (by decide) (fun _ => ?_) (fun q => absurd q (by decide))
  refine lv_bipush (v := nI 8) hx hb dX5_hinder_58 bi_8 ?_
  refine lv_iload_n hx hb dX5_hinder_60 rfl (lv_at hl 3 rfl) ?_
  refine lv_imul hx hb dX5_hinder_61 ?_
  refine sv_top (y := nI (8 * d)) (mul_n _ _) ?_
  refine lv_iload_n hx hb dX5_hinder_62 rfl (lv_at hl 2 rfl) ?_
  refine lv_iadd hx hb dX5_hinder_63 ?_
  refine sv_top (y := nI (8 * d + pt)) (nI_add _ _) ?_
  refine lv_istore (lv' := [(6, .int (nI (8 * d + pt))), (5, .int (nI 1)), (0, .ref h), (1, .int (nI pt)), (2, .int (nI d)), (3, .int (nI ot)), (4, .int (bI is))]) hx hb dX5_hinder_64 hl (by decide) rfl (fun ls hl => ?_)
  refine lv_bipush (v := nI 8) hx hb dX5_hinder_66 bi_8 ?_
  refine lv_iload_n hx hb dX5_hinder_68 rfl (lv_at hl 4 rfl) ?_
  refine lv_iconst (v := nI 1) hx hb dX5_hinder_69 ci_1 ?_
  refine lv_ixor hx hb dX5_hinder_70 ?_
  refine sv_top (y := nI (d ^^^ 1)) (an_xor _ _) ?_
  refine lv_imul hx hb dX5_hinder_71 ?_
  refine sv_top (y := nI (8 * (d ^^^ 1))) (mul_n _ _) ?_
  refine lv_iload_n hx hb dX5_hinder_72 rfl (lv_at hl 5 rfl) ?_
  refine lv_iadd hx hb dX5_hinder_73 ?_
  refine sv_top (y := nI ((8 * (d ^^^ 1)) + ot)) (nI_add _ _) ?_
  refine lv_istore (lv' := [(7, .int (nI ((8 * (d ^^^ 1)) + ot))), (6, .int (nI (8 * d + pt))), (5, .int (nI 1)), (0, .ref h), (1, .int (nI pt)), (2, .int (nI d)), (3, .int (nI ot)), (4, .int (bI is))]) hx hb dX5_hinder_74 hl (by decide) rfl (fun ls hl => ?_)
  refine lv_aload_n hx hb dX5_hinder_76 rfl (lv_at hl 3 rfl) ?_
  refine va_get (ci := 5) (C := RX5) (T := TX5) (N := 19) hx hb hts hinX5 hown hK hP 19 g19 rfl 4 (by decide) k16 (fun _ h9 => h9) rfl dX5_hinder_77 ?_
  refine lv_iload hx hb dX5_hinder_80 (lv_at hl 1 rfl) ?_
  refine lv_aload_n hx hb dX5_hinder_82 rfl (lv_at hl 3 rfl) ?_
  refine va_get (ci := 5) (C := RX5) (T := TX5) (N := 19) hx hb hts hinX5 hown hK hP 19 g19 rfl 4 (by decide) k16 (fun _ h9 => h9) rfl dX5_hinder_83 ?_
  refine lv_iload hx hb dX5_hinder_86 (lv_at hl 1 rfl) ?_
  refine sv_iald hx hb hK hP 22 g22 (j := 8 * d + pt) (by omega) (by decide) dX5_hinder_88 ?_
  refine W.eq (g2 := F0 mi 89 ls (.int (nI (Hd (8 * d + pt))) :: [.int (nI (8 * d + pt)), .ref a3])) rfl ?_
  refine lv_iconst (v := nI 1) hx hb dX5_hinder_89 ci_1 ?_
  refine lv_iload_n hx hb dX5_hinder_90 rfl (lv_at hl 6 rfl) ?_
  refine lv_ishl hx hb dX5_hinder_91 ?_
  refine sv_top (y := nI (2 ^ ot)) (sh_l1 (by omega)) ?_
  refine lv_iconst (v := -1) hx hb dX5_hinder_92 ci_m1 ?_
  refine lv_ixor hx hb dX5_hinder_93 ?_
  refine lv_iand hx hb dX5_hinder_94 ?_
  refine sv_top (y := nI (clr (Hd (8 * d + pt)) (2 ^ ot))) (an_not _ _) ?_
  refine lv_iload hx hb dX5_hinder_95 (lv_at hl 7 rfl) ?_
  refine sb_if_eq (tgt := 106) hx hb dX5_hinder_97 (by decide) (fun c10 => ?_) (fun c10 => ?_)
  · refine lv_iconst (v := nI 0) hx hb dX5_hinder_106 ci_0 ?_
    refine lv_ior hx hb dX5_hinder_107 ?_
    refine sv_top (y := nI (chg (Hd (8 * d + pt)) ot is)) ((an_or _ _).trans (chgM_f c10)) ?_
    refine sv_iast hx hb hK hP hD hS 22 g22 (j := 8 * d + pt) (by omega) (by decide) dX5_hinder_108 (fun ws12 H locs hP hD hS g22 fr11 => ?_)
    replace g19 := (fr11 19 (by decide)).trans g19
    replace g20 := (fr11 20 (by decide)).trans g20
    replace g21 := (fr11 21 (by decide)).trans g21
    replace g23 := (fr11 23 (by decide)).trans g23
    replace g24 := (fr11 24 (by decide)).trans g24
    replace g25 := (fr11 25 (by decide)).trans g25
    replace g26 := (fr11 26 (by decide)).trans g26
    replace g27 := (fr11 27 (by decide)).trans g27
    replace g28 := (fr11 28 (by decide)).trans g28
    replace g29 := (fr11 29 (by decide)).trans g29
    rw [upd_N] at g22
    refine lv_aload_n hx hb dX5_hinder_109 rfl (lv_at hl 3 rfl) ?_
    refine va_get (ci := 5) (C := RX5) (T := TX5) (N := 19) hx hb hts hinX5 hown hK hP 19 g19 rfl 4 (by decide) k16 (fun _ h9 => h9) rfl dX5_hinder_110 ?_
    refine lv_iload hx hb dX5_hinder_113 (lv_at hl 0 rfl) ?_
    refine lv_aload_n hx hb dX5_hinder_115 rfl (lv_at hl 3 rfl) ?_
    refine va_get (ci := 5) (C := RX5) (T := TX5) (N := 19) hx hb hts hinX5 hown hK hP 19 g19 rfl 4 (by decide) k16 (fun _ h9 => h9) rfl dX5_hinder_116 ?_
    refine lv_iload hx hb dX5_hinder_119 (lv_at hl 0 rfl) ?_
    refine sv_iald hx hb hK hP 22 g22 (j := (8 * (d ^^^ 1)) + ot) (by omega) (by decide) dX5_hinder_121 ?_
    refine W.eq (g2 := F0 mi 122 ls (.int (nI ((upX Hd (8 * d + pt) (chg (Hd (8 * d + pt)) ot is)) ((8 * (d ^^^ 1)) + ot))) :: [.int (nI ((8 * (d ^^^ 1)) + ot)), .ref a3])) rfl ?_
    refine lv_iconst (v := nI 1) hx hb dX5_hinder_122 ci_1 ?_
    refine lv_iload_n hx hb dX5_hinder_123 rfl (lv_at hl 4 rfl) ?_
    refine lv_ishl hx hb dX5_hinder_124 ?_
    refine sv_top (y := nI (2 ^ pt)) (sh_l1 (by omega)) ?_
    refine lv_iconst (v := -1) hx hb dX5_hinder_125 ci_m1 ?_
    refine lv_ixor hx hb dX5_hinder_126 ?_
    refine lv_iand hx hb dX5_hinder_127 ?_
    refine sv_top (y := nI (clr ((upX Hd (8 * d + pt) (chg (Hd (8 * d + pt)) ot is)) ((8 * (d ^^^ 1)) + ot)) (2 ^ pt))) (an_not _ _) ?_
    refine lv_iload hx hb dX5_hinder_128 (lv_at hl 7 rfl) ?_
    refine sb_if_eq (tgt := 139) hx hb dX5_hinder_130 (by decide) (fun _ => ?_) (fun q => absurd q (by rw [c10]; decide))
    refine lv_iconst (v := nI 0) hx hb dX5_hinder_139 ci_0 ?_
    refine lv_ior hx hb dX5_hinder_140 ?_
    refine sv_top (y := nI (chg ((upX Hd (8 * d + pt) (chg (Hd (8 * d + pt)) ot is)) ((8 * (d ^^^ 1)) + ot)) pt is)) ((an_or _ _).trans (chgM_f c10)) ?_
    refine sv_iast hx hb hK hP hD hS 22 g22 (j := (8 * (d ^^^ 1)) + ot) (by omega) (by decide) dX5_hinder_141 (fun ws15 H locs hP hD hS g22 fr14 => ?_)
    replace g19 := (fr14 19 (by decide)).trans g19
    replace g20 := (fr14 20 (by decide)).trans g20
    replace g21 := (fr14 21 (by decide)).trans g21
    replace g23 := (fr14 23 (by decide)).trans g23
    replace g24 := (fr14 24 (by decide)).trans g24
    replace g25 := (fr14 25 (by decide)).trans g25
    replace g26 := (fr14 26 (by decide)).trans g26
    replace g27 := (fr14 27 (by decide)).trans g27
    replace g28 := (fr14 28 (by decide)).trans g28
    replace g29 := (fr14 29 (by decide)).trans g29
    rw [upd_N] at g22
    refine lv_aload_n hx hb dX5_hinder_142 rfl (lv_at hl 3 rfl) ?_
    refine lv_iconst (v := nI 0) hx hb dX5_hinder_143 ci_0 ?_
    refine W.eq (g2 := F0 mi 144 ls (.int (bI false) :: .ref h :: [])) rfl ?_
    refine sv_put (ci := 5) (C := RX5) (T := TX5) (N := 19) hx hb hts hinX5 tyX5 tyX5_ok nmX5 hown hK hP hD hS 19 g19 rfl 8 (by decide) k54 (fun _ h9 => h9) rfl .boolean (by decide +kernel) (bI_nar _) (bI_fit _) [.int (nI 0), .int (nI n), .ref a1, .ref a2, .ref a3, .int (nI b), .int (bI q), .ref a4, .int (bI false), .int (nI pu), .int (nI bu), .int cl, .int mo, .ref a5, .ref a6, .ref a7, .ref a8, .ref a9, .ref a10] (Nat.le_of_ble_eq_true rfl) rfl dX5_hinder_144 (fun ws17 H locs hP hD hS g19 fr16 => ?_)
    replace g20 := (fr16 20 (by decide)).trans g20
    replace g21 := (fr16 21 (by decide)).trans g21
    replace g22 := (fr16 22 (by decide)).trans g22
    replace g23 := (fr16 23 (by decide)).trans g23
    replace g24 := (fr16 24 (by decide)).trans g24
    replace g25 := (fr16 25 (by decide)).trans g25
    replace g26 := (fr16 26 (by decide)).trans g26
    replace g27 := (fr16 27 (by decide)).trans g27
    replace g28 := (fr16 28 (by decide)).trans g28
    replace g29 := (fr16 29 (by decide)).trans g29
    refine lv_aload_n hx hb dX5_hinder_147 rfl (lv_at hl 3 rfl) ?_
    refine va_get (ci := 5) (C := RX5) (T := TX5) (N := 19) hx hb hts hinX5 hown hK hP 19 g19 rfl 4 (by decide) k16 (fun _ h9 => h9) rfl dX5_hinder_148 ?_
    refine lv_iload hx hb dX5_hinder_151 (lv_at hl 1 rfl) ?_
    refine sv_iald hx hb hK hP 22 g22 (j := 8 * d + pt) (by omega) (by decide) dX5_hinder_153 ?_
    refine W.eq (g2 := F0 mi 154 ls (.int (nI ((upX (upX Hd (8 * d + pt) (chg (Hd (8 * d + pt)) ot is)) ((8 * (d ^^^ 1)) + ot) (chg ((upX Hd (8 * d + pt) (chg (Hd (8 * d + pt)) ot is)) ((8 * (d ^^^ 1)) + ot)) pt is)) (8 * d + pt))) :: [])) rfl ?_
    refine pcS (c_X5_bits  hlt) ⟨hx, hb, hml, hown, hts⟩ hK gX5_hinder_X5_bits rfl hd_X5_bits ⟨by omega, by omega⟩ rfl hl.1 rfl (Nat.le_of_ble_eq_true rfl) dX5_hinder_154 ⟨Nat.zero_le _, Nat.zero_le _⟩ hS (fun locs hS => ?_)
    exact hret 157 ls _ _ locs _ dX5_hinder_157 hP hD hS rfl (⟨rfl, ⟨a1, a2, a3, a4, a5, a6, a7, a8, a9, a10, g19, g20, g21, g22, g23, g24, g25, g26, g27, g28, g29⟩, ((((fr.wd fr7 : fr _ _ 19 29).tr fr11).tr fr14).tr fr16)⟩)
  · refine lv_iconst (v := nI 1) hx hb dX5_hinder_100 ci_1 ?_
    refine lv_iload_n hx hb dX5_hinder_101 rfl (lv_at hl 6 rfl) ?_
    refine lv_ishl hx hb dX5_hinder_102 ?_
    refine sv_top (y := nI (2 ^ ot)) (sh_l1 (by omega)) ?_
    refine lv_goto (tgt := 107) hx hb dX5_hinder_103 (by decide) ?_
    refine lv_ior hx hb dX5_hinder_107 ?_
    refine sv_top (y := nI (chg (Hd (8 * d + pt)) ot is)) ((an_or _ _).trans (chgM_t c10)) ?_
    refine sv_iast hx hb hK hP hD hS 22 g22 (j := 8 * d + pt) (by omega) (by decide) dX5_hinder_108 (fun ws19 H locs hP hD hS g22 fr18 => ?_)
    replace g19 := (fr18 19 (by decide)).trans g19
    replace g20 := (fr18 20 (by decide)).trans g20
    replace g21 := (fr18 21 (by decide)).trans g21
    replace g23 := (fr18 23 (by decide)).trans g23
    replace g24 := (fr18 24 (by decide)).trans g24
    replace g25 := (fr18 25 (by decide)).trans g25
    replace g26 := (fr18 26 (by decide)).trans g26
    replace g27 := (fr18 27 (by decide)).trans g27
    replace g28 := (fr18 28 (by decide)).trans g28
    replace g29 := (fr18 29 (by decide)).trans g29
    rw [upd_N] at g22
    refine lv_aload_n hx hb dX5_hinder_109 rfl (lv_at hl 3 rfl) ?_
    refine va_get (ci := 5) (C := RX5) (T := TX5) (N := 19) hx hb hts hinX5 hown hK hP 19 g19 rfl 4 (by decide) k16 (fun _ h9 => h9) rfl dX5_hinder_110 ?_
    refine lv_iload hx hb dX5_hinder_113 (lv_at hl 0 rfl) ?_
    refine lv_aload_n hx hb dX5_hinder_115 rfl (lv_at hl 3 rfl) ?_
    refine va_get (ci := 5) (C := RX5) (T := TX5) (N := 19) hx hb hts hinX5 hown hK hP 19 g19 rfl 4 (by decide) k16 (fun _ h9 => h9) rfl dX5_hinder_116 ?_
    refine lv_iload hx hb dX5_hinder_119 (lv_at hl 0 rfl) ?_
    refine sv_iald hx hb hK hP 22 g22 (j := (8 * (d ^^^ 1)) + ot) (by omega) (by decide) dX5_hinder_121 ?_
    refine W.eq (g2 := F0 mi 122 ls (.int (nI ((upX Hd (8 * d + pt) (chg (Hd (8 * d + pt)) ot is)) ((8 * (d ^^^ 1)) + ot))) :: [.int (nI ((8 * (d ^^^ 1)) + ot)), .ref a3])) rfl ?_
    refine lv_iconst (v := nI 1) hx hb dX5_hinder_122 ci_1 ?_
    refine lv_iload_n hx hb dX5_hinder_123 rfl (lv_at hl 4 rfl) ?_
    refine lv_ishl hx hb dX5_hinder_124 ?_
    refine sv_top (y := nI (2 ^ pt)) (sh_l1 (by omega)) ?_
    refine lv_iconst (v := -1) hx hb dX5_hinder_125 ci_m1 ?_
    refine lv_ixor hx hb dX5_hinder_126 ?_
    refine lv_iand hx hb dX5_hinder_127 ?_
    refine sv_top (y := nI (clr ((upX Hd (8 * d + pt) (chg (Hd (8 * d + pt)) ot is)) ((8 * (d ^^^ 1)) + ot)) (2 ^ pt))) (an_not _ _) ?_
    refine lv_iload hx hb dX5_hinder_128 (lv_at hl 7 rfl) ?_
    refine sb_if_eq (tgt := 139) hx hb dX5_hinder_130 (by decide) (fun q => absurd q (by rw [c10]; decide)) (fun _ => ?_)
    refine lv_iconst (v := nI 1) hx hb dX5_hinder_133 ci_1 ?_
    refine lv_iload_n hx hb dX5_hinder_134 rfl (lv_at hl 4 rfl) ?_
    refine lv_ishl hx hb dX5_hinder_135 ?_
    refine sv_top (y := nI (2 ^ pt)) (sh_l1 (by omega)) ?_
    refine lv_goto (tgt := 140) hx hb dX5_hinder_136 (by decide) ?_
    refine lv_ior hx hb dX5_hinder_140 ?_
    refine sv_top (y := nI (chg ((upX Hd (8 * d + pt) (chg (Hd (8 * d + pt)) ot is)) ((8 * (d ^^^ 1)) + ot)) pt is)) ((an_or _ _).trans (chgM_t c10)) ?_
    refine sv_iast hx hb hK hP hD hS 22 g22 (j := (8 * (d ^^^ 1)) + ot) (by omega) (by decide) dX5_hinder_141 (fun ws22 H locs hP hD hS g22 fr21 => ?_)
    replace g19 := (fr21 19 (by decide)).trans g19
    replace g20 := (fr21 20 (by decide)).trans g20
    replace g21 := (fr21 21 (by decide)).trans g21
    replace g23 := (fr21 23 (by decide)).trans g23
    replace g24 := (fr21 24 (by decide)).trans g24
    replace g25 := (fr21 25 (by decide)).trans g25
    replace g26 := (fr21 26 (by decide)).trans g26
    replace g27 := (fr21 27 (by decide)).trans g27
    replace g28 := (fr21 28 (by decide)).trans g28
    replace g29 := (fr21 29 (by decide)).trans g29
    rw [upd_N] at g22
    refine lv_aload_n hx hb dX5_hinder_142 rfl (lv_at hl 3 rfl) ?_
    refine lv_iconst (v := nI 0) hx hb dX5_hinder_143 ci_0 ?_
    refine W.eq (g2 := F0 mi 144 ls (.int (bI false) :: .ref h :: [])) rfl ?_
    refine sv_put (ci := 5) (C := RX5) (T := TX5) (N := 19) hx hb hts hinX5 tyX5 tyX5_ok nmX5 hown hK hP hD hS 19 g19 rfl 8 (by decide) k54 (fun _ h9 => h9) rfl .boolean (by decide +kernel) (bI_nar _) (bI_fit _) [.int (nI 0), .int (nI n), .ref a1, .ref a2, .ref a3, .int (nI b), .int (bI q), .ref a4, .int (bI false), .int (nI pu), .int (nI bu), .int cl, .int mo, .ref a5, .ref a6, .ref a7, .ref a8, .ref a9, .ref a10] (Nat.le_of_ble_eq_true rfl) rfl dX5_hinder_144 (fun ws24 H locs hP hD hS g19 fr23 => ?_)
    replace g20 := (fr23 20 (by decide)).trans g20
    replace g21 := (fr23 21 (by decide)).trans g21
    replace g22 := (fr23 22 (by decide)).trans g22
    replace g23 := (fr23 23 (by decide)).trans g23
    replace g24 := (fr23 24 (by decide)).trans g24
    replace g25 := (fr23 25 (by decide)).trans g25
    replace g26 := (fr23 26 (by decide)).trans g26
    replace g27 := (fr23 27 (by decide)).trans g27
    replace g28 := (fr23 28 (by decide)).trans g28
    replace g29 := (fr23 29 (by decide)).trans g29
    refine lv_aload_n hx hb dX5_hinder_147 rfl (lv_at hl 3 rfl) ?_
    refine va_get (ci := 5) (C := RX5) (T := TX5) (N := 19) hx hb hts hinX5 hown hK hP 19 g19 rfl 4 (by decide) k16 (fun _ h9 => h9) rfl dX5_hinder_148 ?_
    refine lv_iload hx hb dX5_hinder_151 (lv_at hl 1 rfl) ?_
    refine sv_iald hx hb hK hP 22 g22 (j := 8 * d + pt) (by omega) (by decide) dX5_hinder_153 ?_
    refine W.eq (g2 := F0 mi 154 ls (.int (nI ((upX (upX Hd (8 * d + pt) (chg (Hd (8 * d + pt)) ot is)) ((8 * (d ^^^ 1)) + ot) (chg ((upX Hd (8 * d + pt) (chg (Hd (8 * d + pt)) ot is)) ((8 * (d ^^^ 1)) + ot)) pt is)) (8 * d + pt))) :: [])) rfl ?_
    refine pcS (c_X5_bits  hlt) ⟨hx, hb, hml, hown, hts⟩ hK gX5_hinder_X5_bits rfl hd_X5_bits ⟨by omega, by omega⟩ rfl hl.1 rfl (Nat.le_of_ble_eq_true rfl) dX5_hinder_154 ⟨Nat.zero_le _, Nat.zero_le _⟩ hS (fun locs hS => ?_)
    exact hret 157 ls _ _ locs _ dX5_hinder_157 hP hD hS rfl (⟨rfl, ⟨a1, a2, a3, a4, a5, a6, a7, a8, a9, a10, g19, g20, g21, g22, g23, g24, g25, g26, g27, g28, g29⟩, ((((fr.wd fr7 : fr _ _ 19 29).tr fr18).tr fr21).tr fr23)⟩)
set_option maxHeartbeats 4000000 in
set_option maxRecDepth 100000 in
theorem c_X5_setBase_1 {l : Launch} {D : va_G} {ky : kT} {A : Nat → Prop} {Hs : Heap} {ws : va_W} (hP : va_P D CL ws Hs) (hD : va_D A ws) {h th n : Nat} {T C Hd : Nat → Nat} {b : Nat} {q : Bool} {J : Nat → Nat} {bg : Bool} {pu bu : Nat} {cl mo : Int32} {K : Nat → Nat} {fw fd fc fg fo : Nat → Int32} (hpr : isMod ky ws h th n T C Hd b q J bg pu bu cl mo K fw fd fc fg fo) {x : Int32} (hk : prt n x = false) : MU l yX5_setBase wsX5_setBase 1 21 0 0 D ky A Hs [.ref h, .int x] (fun r w => r = nI 0 ∧ isMod ky w h 1 n T C Hd b q J bg pu bu cl mo K fw fd fc fg fo ∧ fr ws w 19 29) := by
  refine MU.of (cc := cX5_setBase) (maxL := 3) (ty := .int) (by decide) rfl (Nat.le_of_ble_eq_true rfl) ?_
  intro pg en Rm sg mi av below meth co Qo hRf hRl hRc hRs hx hb hml hown hts hK hret ls hl
  have hl : lv_has ls 3 [(0, .ref h), (1, .int x)] := hl
  have hS : va_S A Hs Hs [] := va_S.rf
  generalize ([] : List Loc) = locs at hS ⊢
  obtain ⟨a1, a2, a3, a4, a5, a6, a7, a8, a9, a10, g19, g20, g21, g22, g23, g24, g25, g26, g27, g28, g29⟩ := id hpr
  refine lv_aload_n hx hb dX5_setBase_0 rfl (lv_at hl 0 rfl) ?_
  refine lv_aload_n hx hb dX5_setBase_1 rfl (lv_at hl 0 rfl) ?_
  refine lv_iload_n hx hb dX5_setBase_2 rfl (lv_at hl 1 rfl) ?_
  refine pcV (c_X5_isPart hP ⟨a1, a2, a3, a4, a5, a6, a7, a8, a9, a10, g19, g20, g21, g22, g23, g24, g25, g26, g27, g28, g29⟩ ) ⟨hx, hb, hml, hown, hts⟩ hK gX5_setBase_X5_isPart rfl hd_X5_isPart ⟨by omega, by omega⟩ (va_recv hK hP (ci := 5) (q0 := 19) rfl g19) rfl hl.1 rfl (Nat.le_of_ble_eq_true rfl) dX5_setBase_3 ⟨Nat.zero_le _, Nat.zero_le _⟩ hS (fun locs hS => ?_)
  refine sb_if_eq (tgt := 13) hx hb dX5_setBase_6 (by decide) (fun _ => ?_) (fun q => absurd q (by rw [hk]; decide))
  refine lv_iconst (v := nI 1) hx hb dX5_setBase_13 ci_1 ?_
  refine mcV (c_X5_holds hP hD ⟨a1, a2, a3, a4, a5, a6, a7, a8, a9, a10, g19, g20, g21, g22, g23, g24, g25, g26, g27, g28, g29⟩ (by decide)) ⟨hx, hb, hml, hown, hts⟩ hK gX5_setBase_X5_holds rfl hd_X5_holds ⟨by omega, by omega⟩ (va_recv hK hP (ci := 5) (q0 := 19) rfl g19) rfl hl.1 rfl (Nat.le_of_ble_eq_true rfl) dX5_setBase_14 ⟨Nat.zero_le _, Nat.zero_le _⟩ hS (fun r ws2 H locs hq4 hP hD hS => ?_)
  obtain ⟨rfl, hpr, fr3⟩ := hq4
  obtain ⟨a1, a2, a3, a4, a5, a6, a7, a8, a9, a10, g19, g20, g21, g22, g23, g24, g25, g26, g27, g28, g29⟩ := id hpr
  refine sv_top (y := nI 0) rfl ?_
  refine sn_if_ne (tgt := 22) hx hb dX5_setBase_17 (by decide) (by decide) (fun q => absurd q (by decide)) (fun _ => ?_)
  refine lv_iconst (v := nI 0) hx hb dX5_setBase_20 ci_0 ?_
  exact hret 21 ls _ _ locs _ dX5_setBase_21 hP hD hS rfl (⟨rfl, ⟨a1, a2, a3, a4, a5, a6, a7, a8, a9, a10, g19, g20, g21, g22, g23, g24, g25, g26, g27, g28, g29⟩, (fr.wd fr3 : fr _ _ 19 29)⟩)
set_option maxHeartbeats 4000000 in
set_option maxRecDepth 100000 in
theorem c_X5_setBase_0 {l : Launch} {D : va_G} {ky : kT} {A : Nat → Prop} {Hs : Heap} {ws : va_W} (hP : va_P D CL ws Hs) (hD : va_D A ws) {h th n : Nat} {T C Hd : Nat → Nat} {b : Nat} {q : Bool} {J : Nat → Nat} {bg : Bool} {pu bu : Nat} {cl mo : Int32} {K : Nat → Nat} {fw fd fc fg fo : Nat → Int32} (hpr : isMod ky ws h th n T C Hd b q J bg pu bu cl mo K fw fd fc fg fo) (hn8 : n ≤ 8) {pt : Nat} (hp : pt < n) : MU l yX5_setBase wsX5_setBase 1 21 0 0 D ky A Hs [.ref h, .int (nI pt)] (fun r w => r = nI b ∧ isMod ky w h 0 n T C Hd pt q J false pu bu cl mo K fw fd fc fg fo ∧ fr ws w 19 29) := by
  refine MU.of (cc := cX5_setBase) (maxL := 3) (ty := .int) (by decide) rfl (Nat.le_of_ble_eq_true rfl) ?_
  intro pg en Rm sg mi av below meth co Qo hRf hRl hRc hRs hx hb hml hown hts hK hret ls hl
  have hl : lv_has ls 3 [(0, .ref h), (1, .int (nI pt))] := hl
  have hS : va_S A Hs Hs [] := va_S.rf
  generalize ([] : List Loc) = locs at hS ⊢
  obtain ⟨a1, a2, a3, a4, a5, a6, a7, a8, a9, a10, g19, g20, g21, g22, g23, g24, g25, g26, g27, g28, g29⟩ := id hpr
  have hk := prt_in hp hn8
  have k68 := hts (.fieldLink RX5 68 "AssemblyPlannerModel" "base" "I") (by decide +kernel)
  have hinX5 : ∀ w ∈ wsX50, w ∈ wsX5_setBase := by decide +kernel
  have k54 := hts (.fieldLink RX5 54 "AssemblyPlannerModel" "isBegun" "Z") (by decide +kernel)
  refine lv_aload_n hx hb dX5_setBase_0 rfl (lv_at hl 0 rfl) ?_
  refine lv_aload_n hx hb dX5_setBase_1 rfl (lv_at hl 0 rfl) ?_
  refine lv_iload_n hx hb dX5_setBase_2 rfl (lv_at hl 1 rfl) ?_
  refine pcV (c_X5_isPart hP ⟨a1, a2, a3, a4, a5, a6, a7, a8, a9, a10, g19, g20, g21, g22, g23, g24, g25, g26, g27, g28, g29⟩ ) ⟨hx, hb, hml, hown, hts⟩ hK gX5_setBase_X5_isPart rfl hd_X5_isPart ⟨by omega, by omega⟩ (va_recv hK hP (ci := 5) (q0 := 19) rfl g19) rfl hl.1 rfl (Nat.le_of_ble_eq_true rfl) dX5_setBase_3 ⟨Nat.zero_le _, Nat.zero_le _⟩ hS (fun locs hS => ?_)
  refine sb_if_eq (tgt := 13) hx hb dX5_setBase_6 (by decide) (fun q => absurd q (by rw [hk]; decide)) (fun _ => ?_)
  refine lv_iconst (v := nI 0) hx hb dX5_setBase_9 ci_0 ?_
  refine lv_goto (tgt := 14) hx hb dX5_setBase_10 (by decide) ?_
  refine mcV (c_X5_holds hP hD ⟨a1, a2, a3, a4, a5, a6, a7, a8, a9, a10, g19, g20, g21, g22, g23, g24, g25, g26, g27, g28, g29⟩ (by decide)) ⟨hx, hb, hml, hown, hts⟩ hK gX5_setBase_X5_holds rfl hd_X5_holds ⟨by omega, by omega⟩ (va_recv hK hP (ci := 5) (q0 := 19) rfl g19) rfl hl.1 rfl (Nat.le_of_ble_eq_true rfl) dX5_setBase_14 ⟨Nat.zero_le _, Nat.zero_le _⟩ hS (fun r ws2 H locs hq4 hP hD hS => ?_)
  obtain ⟨rfl, hpr, fr3⟩ := hq4
  obtain ⟨a1, a2, a3, a4, a5, a6, a7, a8, a9, a10, g19, g20, g21, g22, g23, g24, g25, g26, g27, g28, g29⟩ := id hpr
  refine sv_top (y := nI 1) rfl ?_
  refine sn_if_ne (tgt := 22) hx hb dX5_setBase_17 (by decide) (by decide) (fun _ => ?_) (fun q => absurd q (by decide))
  refine lv_aload_n hx hb dX5_setBase_22 rfl (lv_at hl 0 rfl) ?_
  refine va_get (ci := 5) (C := RX5) (T := TX5) (N := 19) hx hb hts hinX5 hown hK hP 19 g19 rfl 5 (by decide) k68 (fun _ h9 => h9) rfl dX5_setBase_23 ?_
  refine lv_istore_n (lv' := [(2, .int (nI b)), (0, .ref h), (1, .int (nI pt))]) hx hb dX5_setBase_26 rfl hl (by decide) rfl (fun ls hl => ?_)
  refine lv_aload_n hx hb dX5_setBase_27 rfl (lv_at hl 1 rfl) ?_
  refine lv_iload_n hx hb dX5_setBase_28 rfl (lv_at hl 2 rfl) ?_
  refine sv_put (ci := 5) (C := RX5) (T := TX5) (N := 19) hx hb hts hinX5 tyX5 tyX5_ok nmX5 hown hK hP hD hS 19 g19 rfl 5 (by decide) k68 (fun _ h9 => h9) rfl .int (by decide +kernel) rfl rfl [.int (nI 0), .int (nI n), .ref a1, .ref a2, .ref a3, .int (nI pt), .int (bI q), .ref a4, .int (bI bg), .int (nI pu), .int (nI bu), .int cl, .int mo, .ref a5, .ref a6, .ref a7, .ref a8, .ref a9, .ref a10] (Nat.le_of_ble_eq_true rfl) rfl dX5_setBase_29 (fun ws7 H locs hP hD hS g19 fr6 => ?_)
  replace g20 := (fr6 20 (by decide)).trans g20
  replace g21 := (fr6 21 (by decide)).trans g21
  replace g22 := (fr6 22 (by decide)).trans g22
  replace g23 := (fr6 23 (by decide)).trans g23
  replace g24 := (fr6 24 (by decide)).trans g24
  replace g25 := (fr6 25 (by decide)).trans g25
  replace g26 := (fr6 26 (by decide)).trans g26
  replace g27 := (fr6 27 (by decide)).trans g27
  replace g28 := (fr6 28 (by decide)).trans g28
  replace g29 := (fr6 29 (by decide)).trans g29
  refine lv_aload_n hx hb dX5_setBase_32 rfl (lv_at hl 1 rfl) ?_
  refine lv_iconst (v := nI 0) hx hb dX5_setBase_33 ci_0 ?_
  refine W.eq (g2 := F0 mi 34 ls (.int (bI false) :: .ref h :: [])) rfl ?_
  refine sv_put (ci := 5) (C := RX5) (T := TX5) (N := 19) hx hb hts hinX5 tyX5 tyX5_ok nmX5 hown hK hP hD hS 19 g19 rfl 8 (by decide) k54 (fun _ h9 => h9) rfl .boolean (by decide +kernel) (bI_nar _) (bI_fit _) [.int (nI 0), .int (nI n), .ref a1, .ref a2, .ref a3, .int (nI pt), .int (bI q), .ref a4, .int (bI false), .int (nI pu), .int (nI bu), .int cl, .int mo, .ref a5, .ref a6, .ref a7, .ref a8, .ref a9, .ref a10] (Nat.le_of_ble_eq_true rfl) rfl dX5_setBase_34 (fun ws9 H locs hP hD hS g19 fr8 => ?_)
  replace g20 := (fr8 20 (by decide)).trans g20
  replace g21 := (fr8 21 (by decide)).trans g21
  replace g22 := (fr8 22 (by decide)).trans g22
  replace g23 := (fr8 23 (by decide)).trans g23
  replace g24 := (fr8 24 (by decide)).trans g24
  replace g25 := (fr8 25 (by decide)).trans g25
  replace g26 := (fr8 26 (by decide)).trans g26
  replace g27 := (fr8 27 (by decide)).trans g27
  replace g28 := (fr8 28 (by decide)).trans g28
  replace g29 := (fr8 29 (by decide)).trans g29
  refine lv_iload_n hx hb dX5_setBase_37 rfl (lv_at hl 0 rfl) ?_
  exact hret 38 ls _ _ locs _ dX5_setBase_38 hP hD hS rfl (⟨rfl, ⟨a1, a2, a3, a4, a5, a6, a7, a8, a9, a10, g19, g20, g21, g22, g23, g24, g25, g26, g27, g28, g29⟩, (((fr.wd fr3 : fr _ _ 19 29).tr fr6).tr fr8)⟩)
set_option maxHeartbeats 4000000 in
set_option maxRecDepth 100000 in
theorem c_X5_askSteady_0 {l : Launch} {D : va_G} {ky : kT} {A : Nat → Prop} {Hs : Heap} {ws : va_W} (hP : va_P D CL ws Hs) (hD : va_D A ws) {h th n : Nat} {T C Hd : Nat → Nat} {b : Nat} {q : Bool} {J : Nat → Nat} {bg : Bool} {pu bu : Nat} {cl mo : Int32} {K : Nat → Nat} {fw fd fc fg fo : Nat → Int32} (hpr : isMod ky ws h th n T C Hd b q J bg pu bu cl mo K fw fd fc fg fo) {u : Bool} : MU l yX5_askSteady wsX5_askSteady 0 0 0 0 D ky A Hs [.ref h, .int (bI u)] (fun r w => r = bI q ∧ isMod ky w h 0 n T C Hd b u J false pu bu cl mo K fw fd fc fg fo ∧ fr ws w 19 29) := by
  refine MU.of (cc := cX5_askSteady) (maxL := 3) (ty := .boolean) (by decide) rfl (Nat.le_of_ble_eq_true rfl) ?_
  intro pg en Rm sg mi av below meth co Qo hRf hRl hRc hRs hx hb hml hown hts hK hret ls hl
  have hl : lv_has ls 3 [(0, .ref h), (1, .int (bI u))] := hl
  have hS : va_S A Hs Hs [] := va_S.rf
  generalize ([] : List Loc) = locs at hS ⊢
  obtain ⟨a1, a2, a3, a4, a5, a6, a7, a8, a9, a10, g19, g20, g21, g22, g23, g24, g25, g26, g27, g28, g29⟩ := id hpr
  have k40 := hts (.fieldLink RX5 40 "AssemblyPlannerModel" "thrown" "I") (by decide +kernel)
  have hinX5 : ∀ w ∈ wsX50, w ∈ wsX5_askSteady := by decide +kernel
  have k71 := hts (.fieldLink RX5 71 "AssemblyPlannerModel" "isAsked" "Z") (by decide +kernel)
  have k54 := hts (.fieldLink RX5 54 "AssemblyPlannerModel" "isBegun" "Z") (by decide +kernel)
  refine lv_aload_n hx hb dX5_askSteady_0 rfl (lv_at hl 0 rfl) ?_
  refine lv_iconst (v := nI 0) hx hb dX5_askSteady_1 ci_0 ?_
  refine sv_put (ci := 5) (C := RX5) (T := TX5) (N := 19) hx hb hts hinX5 tyX5 tyX5_ok nmX5 hown hK hP hD hS 19 g19 rfl 0 (by decide) k40 (fun _ h9 => h9) rfl .int (by decide +kernel) rfl rfl [.int (nI 0), .int (nI n), .ref a1, .ref a2, .ref a3, .int (nI b), .int (bI q), .ref a4, .int (bI bg), .int (nI pu), .int (nI bu), .int cl, .int mo, .ref a5, .ref a6, .ref a7, .ref a8, .ref a9, .ref a10] (Nat.le_of_ble_eq_true rfl) rfl dX5_askSteady_2 (fun ws2 H locs hP hD hS g19 fr1 => ?_)
  replace g20 := (fr1 20 (by decide)).trans g20
  replace g21 := (fr1 21 (by decide)).trans g21
  replace g22 := (fr1 22 (by decide)).trans g22
  replace g23 := (fr1 23 (by decide)).trans g23
  replace g24 := (fr1 24 (by decide)).trans g24
  replace g25 := (fr1 25 (by decide)).trans g25
  replace g26 := (fr1 26 (by decide)).trans g26
  replace g27 := (fr1 27 (by decide)).trans g27
  replace g28 := (fr1 28 (by decide)).trans g28
  replace g29 := (fr1 29 (by decide)).trans g29
  refine lv_aload_n hx hb dX5_askSteady_5 rfl (lv_at hl 0 rfl) ?_
  refine va_get (ci := 5) (C := RX5) (T := TX5) (N := 19) hx hb hts hinX5 hown hK hP 19 g19 rfl 6 (by decide) k71 (fun _ h9 => h9) rfl dX5_askSteady_6 ?_
  refine lv_istore_n (lv' := [(2, .int (bI q)), (0, .ref h), (1, .int (bI u))]) hx hb dX5_askSteady_9 rfl hl (by decide) rfl (fun ls hl => ?_)
  refine lv_aload_n hx hb dX5_askSteady_10 rfl (lv_at hl 1 rfl) ?_
  refine lv_iload_n hx hb dX5_askSteady_11 rfl (lv_at hl 2 rfl) ?_
  refine sv_put (ci := 5) (C := RX5) (T := TX5) (N := 19) hx hb hts hinX5 tyX5 tyX5_ok nmX5 hown hK hP hD hS 19 g19 rfl 6 (by decide) k71 (fun _ h9 => h9) rfl .boolean (by decide +kernel) (bI_nar _) (bI_fit _) [.int (nI 0), .int (nI n), .ref a1, .ref a2, .ref a3, .int (nI b), .int (bI u), .ref a4, .int (bI bg), .int (nI pu), .int (nI bu), .int cl, .int mo, .ref a5, .ref a6, .ref a7, .ref a8, .ref a9, .ref a10] (Nat.le_of_ble_eq_true rfl) rfl dX5_askSteady_12 (fun ws4 H locs hP hD hS g19 fr3 => ?_)
  replace g20 := (fr3 20 (by decide)).trans g20
  replace g21 := (fr3 21 (by decide)).trans g21
  replace g22 := (fr3 22 (by decide)).trans g22
  replace g23 := (fr3 23 (by decide)).trans g23
  replace g24 := (fr3 24 (by decide)).trans g24
  replace g25 := (fr3 25 (by decide)).trans g25
  replace g26 := (fr3 26 (by decide)).trans g26
  replace g27 := (fr3 27 (by decide)).trans g27
  replace g28 := (fr3 28 (by decide)).trans g28
  replace g29 := (fr3 29 (by decide)).trans g29
  refine lv_aload_n hx hb dX5_askSteady_15 rfl (lv_at hl 1 rfl) ?_
  refine lv_iconst (v := nI 0) hx hb dX5_askSteady_16 ci_0 ?_
  refine W.eq (g2 := F0 mi 17 ls (.int (bI false) :: .ref h :: [])) rfl ?_
  refine sv_put (ci := 5) (C := RX5) (T := TX5) (N := 19) hx hb hts hinX5 tyX5 tyX5_ok nmX5 hown hK hP hD hS 19 g19 rfl 8 (by decide) k54 (fun _ h9 => h9) rfl .boolean (by decide +kernel) (bI_nar _) (bI_fit _) [.int (nI 0), .int (nI n), .ref a1, .ref a2, .ref a3, .int (nI b), .int (bI u), .ref a4, .int (bI false), .int (nI pu), .int (nI bu), .int cl, .int mo, .ref a5, .ref a6, .ref a7, .ref a8, .ref a9, .ref a10] (Nat.le_of_ble_eq_true rfl) rfl dX5_askSteady_17 (fun ws6 H locs hP hD hS g19 fr5 => ?_)
  replace g20 := (fr5 20 (by decide)).trans g20
  replace g21 := (fr5 21 (by decide)).trans g21
  replace g22 := (fr5 22 (by decide)).trans g22
  replace g23 := (fr5 23 (by decide)).trans g23
  replace g24 := (fr5 24 (by decide)).trans g24
  replace g25 := (fr5 25 (by decide)).trans g25
  replace g26 := (fr5 26 (by decide)).trans g26
  replace g27 := (fr5 27 (by decide)).trans g27
  replace g28 := (fr5 28 (by decide)).trans g28
  replace g29 := (fr5 29 (by decide)).trans g29
  refine lv_iload_n hx hb dX5_askSteady_20 rfl (lv_at hl 0 rfl) ?_
  exact hret 21 ls _ _ locs _ dX5_askSteady_21 hP hD hS (bI_nar _) (⟨rfl, ⟨a1, a2, a3, a4, a5, a6, a7, a8, a9, a10, g19, g20, g21, g22, g23, g24, g25, g26, g27, g28, g29⟩, (((fr.wd fr1 : fr _ _ 19 29).tr fr3).tr fr5)⟩)
set_option maxHeartbeats 4000000 in
set_option maxRecDepth 100000 in
theorem c_X5_parts_0 {l : Launch} {D : va_G} {ky : kT} {A : Nat → Prop} {Hs : Heap} {ws : va_W} (hP : va_P D CL ws Hs) (hD : va_D A ws) {h th n : Nat} {T C Hd : Nat → Nat} {b : Nat} {q : Bool} {J : Nat → Nat} {bg : Bool} {pu bu : Nat} {cl mo : Int32} {K : Nat → Nat} {fw fd fc fg fo : Nat → Int32} (hpr : isMod ky ws h th n T C Hd b q J bg pu bu cl mo K fw fd fc fg fo) : MU l yX5_parts wsX5_parts 0 0 0 0 D ky A Hs [.ref h] (fun r w => r = nI n ∧ isMod ky w h 0 n T C Hd b q J bg pu bu cl mo K fw fd fc fg fo ∧ fr ws w 19 29) := by
  refine MU.of (cc := cX5_parts) (maxL := 1) (ty := .int) (by decide) rfl (Nat.le_of_ble_eq_true rfl) ?_
  intro pg en Rm sg mi av below meth co Qo hRf hRl hRc hRs hx hb hml hown hts hK hret ls hl
  have hl : lv_has ls 1 [(0, .ref h)] := hl
  have hS : va_S A Hs Hs [] := va_S.rf
  generalize ([] : List Loc) = locs at hS ⊢
  obtain ⟨a1, a2, a3, a4, a5, a6, a7, a8, a9, a10, g19, g20, g21, g22, g23, g24, g25, g26, g27, g28, g29⟩ := id hpr
  have k40 := hts (.fieldLink RX5 40 "AssemblyPlannerModel" "thrown" "I") (by decide +kernel)
  have hinX5 : ∀ w ∈ wsX50, w ∈ wsX5_parts := by decide +kernel
  have k44 := hts (.fieldLink RX5 44 "AssemblyPlannerModel" "parts" "I") (by decide +kernel)
  refine lv_aload_n hx hb dX5_parts_0 rfl (lv_at hl 0 rfl) ?_
  refine lv_iconst (v := nI 0) hx hb dX5_parts_1 ci_0 ?_
  refine sv_put (ci := 5) (C := RX5) (T := TX5) (N := 19) hx hb hts hinX5 tyX5 tyX5_ok nmX5 hown hK hP hD hS 19 g19 rfl 0 (by decide) k40 (fun _ h9 => h9) rfl .int (by decide +kernel) rfl rfl [.int (nI 0), .int (nI n), .ref a1, .ref a2, .ref a3, .int (nI b), .int (bI q), .ref a4, .int (bI bg), .int (nI pu), .int (nI bu), .int cl, .int mo, .ref a5, .ref a6, .ref a7, .ref a8, .ref a9, .ref a10] (Nat.le_of_ble_eq_true rfl) rfl dX5_parts_2 (fun ws2 H locs hP hD hS g19 fr1 => ?_)
  replace g20 := (fr1 20 (by decide)).trans g20
  replace g21 := (fr1 21 (by decide)).trans g21
  replace g22 := (fr1 22 (by decide)).trans g22
  replace g23 := (fr1 23 (by decide)).trans g23
  replace g24 := (fr1 24 (by decide)).trans g24
  replace g25 := (fr1 25 (by decide)).trans g25
  replace g26 := (fr1 26 (by decide)).trans g26
  replace g27 := (fr1 27 (by decide)).trans g27
  replace g28 := (fr1 28 (by decide)).trans g28
  replace g29 := (fr1 29 (by decide)).trans g29
  refine lv_aload_n hx hb dX5_parts_5 rfl (lv_at hl 0 rfl) ?_
  refine va_get (ci := 5) (C := RX5) (T := TX5) (N := 19) hx hb hts hinX5 hown hK hP 19 g19 rfl 1 (by decide) k44 (fun _ h9 => h9) rfl dX5_parts_6 ?_
  exact hret 9 ls _ _ locs _ dX5_parts_9 hP hD hS rfl (⟨rfl, ⟨a1, a2, a3, a4, a5, a6, a7, a8, a9, a10, g19, g20, g21, g22, g23, g24, g25, g26, g27, g28, g29⟩, (fr.wd fr1 : fr _ _ 19 29)⟩)
set_option maxHeartbeats 4000000 in
set_option maxRecDepth 100000 in
theorem c_X5_built_0 {l : Launch} {D : va_G} {ky : kT} {A : Nat → Prop} {Hs : Heap} {ws : va_W} (hP : va_P D CL ws Hs) (hD : va_D A ws) {h th n : Nat} {T C Hd : Nat → Nat} {b : Nat} {q : Bool} {J : Nat → Nat} {bg : Bool} {pu bu : Nat} {cl mo : Int32} {K : Nat → Nat} {fw fd fc fg fo : Nat → Int32} (hpr : isMod ky ws h th n T C Hd b q J bg pu bu cl mo K fw fd fc fg fo) : MU l yX5_built wsX5_built 0 0 0 0 D ky A Hs [.ref h] (fun r w => r = nI (if bg = true then bu else 0) ∧ isMod ky w h 0 n T C Hd b q J bg pu bu cl mo K fw fd fc fg fo ∧ fr ws w 19 29) := by
  refine MU.of (cc := cX5_built) (maxL := 1) (ty := .int) (by decide) rfl (Nat.le_of_ble_eq_true rfl) ?_
  intro pg en Rm sg mi av below meth co Qo hRf hRl hRc hRs hx hb hml hown hts hK hret ls hl
  have hl : lv_has ls 1 [(0, .ref h)] := hl
  have hS : va_S A Hs Hs [] := va_S.rf
  generalize ([] : List Loc) = locs at hS ⊢
  obtain ⟨a1, a2, a3, a4, a5, a6, a7, a8, a9, a10, g19, g20, g21, g22, g23, g24, g25, g26, g27, g28, g29⟩ := id hpr
  have k40 := hts (.fieldLink RX5 40 "AssemblyPlannerModel" "thrown" "I") (by decide +kernel)
  have hinX5 : ∀ w ∈ wsX50, w ∈ wsX5_built := by decide +kernel
  have k54 := hts (.fieldLink RX5 54 "AssemblyPlannerModel" "isBegun" "Z") (by decide +kernel)
  have k128 := hts (.fieldLink RX5 128 "AssemblyPlannerModel" "built" "I") (by decide +kernel)
  refine lv_aload_n hx hb dX5_built_0 rfl (lv_at hl 0 rfl) ?_
  refine lv_iconst (v := nI 0) hx hb dX5_built_1 ci_0 ?_
  refine sv_put (ci := 5) (C := RX5) (T := TX5) (N := 19) hx hb hts hinX5 tyX5 tyX5_ok nmX5 hown hK hP hD hS 19 g19 rfl 0 (by decide) k40 (fun _ h9 => h9) rfl .int (by decide +kernel) rfl rfl [.int (nI 0), .int (nI n), .ref a1, .ref a2, .ref a3, .int (nI b), .int (bI q), .ref a4, .int (bI bg), .int (nI pu), .int (nI bu), .int cl, .int mo, .ref a5, .ref a6, .ref a7, .ref a8, .ref a9, .ref a10] (Nat.le_of_ble_eq_true rfl) rfl dX5_built_2 (fun ws2 H locs hP hD hS g19 fr1 => ?_)
  replace g20 := (fr1 20 (by decide)).trans g20
  replace g21 := (fr1 21 (by decide)).trans g21
  replace g22 := (fr1 22 (by decide)).trans g22
  replace g23 := (fr1 23 (by decide)).trans g23
  replace g24 := (fr1 24 (by decide)).trans g24
  replace g25 := (fr1 25 (by decide)).trans g25
  replace g26 := (fr1 26 (by decide)).trans g26
  replace g27 := (fr1 27 (by decide)).trans g27
  replace g28 := (fr1 28 (by decide)).trans g28
  replace g29 := (fr1 29 (by decide)).trans g29
  refine lv_aload_n hx hb dX5_built_5 rfl (lv_at hl 0 rfl) ?_
  refine va_get (ci := 5) (C := RX5) (T := TX5) (N := 19) hx hb hts hinX5 hown hK hP 19 g19 rfl 8 (by decide) k54 (fun _ h9 => h9) rfl dX5_built_6 ?_
  refine sb_if_eq (tgt := 19) hx hb dX5_built_9 (by decide) (fun c3 => ?_) (fun c3 => ?_)
  · refine lv_iconst (v := nI 0) hx hb dX5_built_19 ci_0 ?_
    exact hret 20 ls _ _ locs _ dX5_built_20 hP hD hS rfl (⟨congrArg nI (if_neg (by rw [c3]; decide)).symm, ⟨a1, a2, a3, a4, a5, a6, a7, a8, a9, a10, g19, g20, g21, g22, g23, g24, g25, g26, g27, g28, g29⟩, (fr.wd fr1 : fr _ _ 19 29)⟩)
  · refine lv_aload_n hx hb dX5_built_12 rfl (lv_at hl 0 rfl) ?_
    refine va_get (ci := 5) (C := RX5) (T := TX5) (N := 19) hx hb hts hinX5 hown hK hP 19 g19 rfl 10 (by decide) k128 (fun _ h9 => h9) rfl dX5_built_13 ?_
    refine lv_goto (tgt := 20) hx hb dX5_built_16 (by decide) ?_
    exact hret 20 ls _ _ locs _ dX5_built_20 hP hD hS rfl (⟨congrArg nI (if_pos c3).symm, ⟨a1, a2, a3, a4, a5, a6, a7, a8, a9, a10, g19, g20, g21, g22, g23, g24, g25, g26, g27, g28, g29⟩, (fr.wd fr1 : fr _ _ 19 29)⟩)
set_option maxHeartbeats 4000000 in
set_option maxRecDepth 100000 in
theorem c_X5_clock_0 {l : Launch} {D : va_G} {ky : kT} {A : Nat → Prop} {Hs : Heap} {ws : va_W} (hP : va_P D CL ws Hs) (hD : va_D A ws) {h th n : Nat} {T C Hd : Nat → Nat} {b : Nat} {q : Bool} {J : Nat → Nat} {bg : Bool} {pu bu : Nat} {cl mo : Int32} {K : Nat → Nat} {fw fd fc fg fo : Nat → Int32} (hpr : isMod ky ws h th n T C Hd b q J bg pu bu cl mo K fw fd fc fg fo) : MU l yX5_clock wsX5_clock 0 0 0 0 D ky A Hs [.ref h] (fun r w => r = (if bg = true then cl else nI 0) ∧ isMod ky w h 0 n T C Hd b q J bg pu bu cl mo K fw fd fc fg fo ∧ fr ws w 19 29) := by
  refine MU.of (cc := cX5_clock) (maxL := 1) (ty := .int) (by decide) rfl (Nat.le_of_ble_eq_true rfl) ?_
  intro pg en Rm sg mi av below meth co Qo hRf hRl hRc hRs hx hb hml hown hts hK hret ls hl
  have hl : lv_has ls 1 [(0, .ref h)] := hl
  have hS : va_S A Hs Hs [] := va_S.rf
  generalize ([] : List Loc) = locs at hS ⊢
  obtain ⟨a1, a2, a3, a4, a5, a6, a7, a8, a9, a10, g19, g20, g21, g22, g23, g24, g25, g26, g27, g28, g29⟩ := id hpr
  have k40 := hts (.fieldLink RX5 40 "AssemblyPlannerModel" "thrown" "I") (by decide +kernel)
  have hinX5 : ∀ w ∈ wsX50, w ∈ wsX5_clock := by decide +kernel
  have k54 := hts (.fieldLink RX5 54 "AssemblyPlannerModel" "isBegun" "Z") (by decide +kernel)
  have k131 := hts (.fieldLink RX5 131 "AssemblyPlannerModel" "clock" "I") (by decide +kernel)
  refine lv_aload_n hx hb dX5_clock_0 rfl (lv_at hl 0 rfl) ?_
  refine lv_iconst (v := nI 0) hx hb dX5_clock_1 ci_0 ?_
  refine sv_put (ci := 5) (C := RX5) (T := TX5) (N := 19) hx hb hts hinX5 tyX5 tyX5_ok nmX5 hown hK hP hD hS 19 g19 rfl 0 (by decide) k40 (fun _ h9 => h9) rfl .int (by decide +kernel) rfl rfl [.int (nI 0), .int (nI n), .ref a1, .ref a2, .ref a3, .int (nI b), .int (bI q), .ref a4, .int (bI bg), .int (nI pu), .int (nI bu), .int cl, .int mo, .ref a5, .ref a6, .ref a7, .ref a8, .ref a9, .ref a10] (Nat.le_of_ble_eq_true rfl) rfl dX5_clock_2 (fun ws2 H locs hP hD hS g19 fr1 => ?_)
  replace g20 := (fr1 20 (by decide)).trans g20
  replace g21 := (fr1 21 (by decide)).trans g21
  replace g22 := (fr1 22 (by decide)).trans g22
  replace g23 := (fr1 23 (by decide)).trans g23
  replace g24 := (fr1 24 (by decide)).trans g24
  replace g25 := (fr1 25 (by decide)).trans g25
  replace g26 := (fr1 26 (by decide)).trans g26
  replace g27 := (fr1 27 (by decide)).trans g27
  replace g28 := (fr1 28 (by decide)).trans g28
  replace g29 := (fr1 29 (by decide)).trans g29
  refine lv_aload_n hx hb dX5_clock_5 rfl (lv_at hl 0 rfl) ?_
  refine va_get (ci := 5) (C := RX5) (T := TX5) (N := 19) hx hb hts hinX5 hown hK hP 19 g19 rfl 8 (by decide) k54 (fun _ h9 => h9) rfl dX5_clock_6 ?_
  refine sb_if_eq (tgt := 19) hx hb dX5_clock_9 (by decide) (fun c3 => ?_) (fun c3 => ?_)
  · refine lv_iconst (v := nI 0) hx hb dX5_clock_19 ci_0 ?_
    exact hret 20 ls _ _ locs _ dX5_clock_20 hP hD hS rfl (⟨(if_neg (by rw [c3]; decide)).symm, ⟨a1, a2, a3, a4, a5, a6, a7, a8, a9, a10, g19, g20, g21, g22, g23, g24, g25, g26, g27, g28, g29⟩, (fr.wd fr1 : fr _ _ 19 29)⟩)
  · refine lv_aload_n hx hb dX5_clock_12 rfl (lv_at hl 0 rfl) ?_
    refine va_get (ci := 5) (C := RX5) (T := TX5) (N := 19) hx hb hts hinX5 hown hK hP 19 g19 rfl 11 (by decide) k131 (fun _ h9 => h9) rfl dX5_clock_13 ?_
    refine lv_goto (tgt := 20) hx hb dX5_clock_16 (by decide) ?_
    exact hret 20 ls _ _ locs _ dX5_clock_20 hP hD hS rfl (⟨(if_pos c3).symm, ⟨a1, a2, a3, a4, a5, a6, a7, a8, a9, a10, g19, g20, g21, g22, g23, g24, g25, g26, g27, g28, g29⟩, (fr.wd fr1 : fr _ _ 19 29)⟩)
set_option maxHeartbeats 4000000 in
set_option maxRecDepth 100000 in
theorem c_X5_mounted_0 {l : Launch} {D : va_G} {ky : kT} {A : Nat → Prop} {Hs : Heap} {ws : va_W} (hP : va_P D CL ws Hs) (hD : va_D A ws) {h th n : Nat} {T C Hd : Nat → Nat} {b : Nat} {q : Bool} {J : Nat → Nat} {bg : Bool} {pu bu : Nat} {cl mo : Int32} {K : Nat → Nat} {fw fd fc fg fo : Nat → Int32} (hpr : isMod ky ws h th n T C Hd b q J bg pu bu cl mo K fw fd fc fg fo) : MU l yX5_mounted wsX5_mounted 0 0 0 0 D ky A Hs [.ref h] (fun r w => r = (if bg = true then mo else -1) ∧ isMod ky w h 0 n T C Hd b q J bg pu bu cl mo K fw fd fc fg fo ∧ fr ws w 19 29) := by
  refine MU.of (cc := cX5_mounted) (maxL := 1) (ty := .int) (by decide) rfl (Nat.le_of_ble_eq_true rfl) ?_
  intro pg en Rm sg mi av below meth co Qo hRf hRl hRc hRs hx hb hml hown hts hK hret ls hl
  have hl : lv_has ls 1 [(0, .ref h)] := hl
  have hS : va_S A Hs Hs [] := va_S.rf
  generalize ([] : List Loc) = locs at hS ⊢
  obtain ⟨a1, a2, a3, a4, a5, a6, a7, a8, a9, a10, g19, g20, g21, g22, g23, g24, g25, g26, g27, g28, g29⟩ := id hpr
  have k40 := hts (.fieldLink RX5 40 "AssemblyPlannerModel" "thrown" "I") (by decide +kernel)
  have hinX5 : ∀ w ∈ wsX50, w ∈ wsX5_mounted := by decide +kernel
  have k54 := hts (.fieldLink RX5 54 "AssemblyPlannerModel" "isBegun" "Z") (by decide +kernel)
  have k134 := hts (.fieldLink RX5 134 "AssemblyPlannerModel" "mounted" "I") (by decide +kernel)
  refine lv_aload_n hx hb dX5_mounted_0 rfl (lv_at hl 0 rfl) ?_
  refine lv_iconst (v := nI 0) hx hb dX5_mounted_1 ci_0 ?_
  refine sv_put (ci := 5) (C := RX5) (T := TX5) (N := 19) hx hb hts hinX5 tyX5 tyX5_ok nmX5 hown hK hP hD hS 19 g19 rfl 0 (by decide) k40 (fun _ h9 => h9) rfl .int (by decide +kernel) rfl rfl [.int (nI 0), .int (nI n), .ref a1, .ref a2, .ref a3, .int (nI b), .int (bI q), .ref a4, .int (bI bg), .int (nI pu), .int (nI bu), .int cl, .int mo, .ref a5, .ref a6, .ref a7, .ref a8, .ref a9, .ref a10] (Nat.le_of_ble_eq_true rfl) rfl dX5_mounted_2 (fun ws2 H locs hP hD hS g19 fr1 => ?_)
  replace g20 := (fr1 20 (by decide)).trans g20
  replace g21 := (fr1 21 (by decide)).trans g21
  replace g22 := (fr1 22 (by decide)).trans g22
  replace g23 := (fr1 23 (by decide)).trans g23
  replace g24 := (fr1 24 (by decide)).trans g24
  replace g25 := (fr1 25 (by decide)).trans g25
  replace g26 := (fr1 26 (by decide)).trans g26
  replace g27 := (fr1 27 (by decide)).trans g27
  replace g28 := (fr1 28 (by decide)).trans g28
  replace g29 := (fr1 29 (by decide)).trans g29
  refine lv_aload_n hx hb dX5_mounted_5 rfl (lv_at hl 0 rfl) ?_
  refine va_get (ci := 5) (C := RX5) (T := TX5) (N := 19) hx hb hts hinX5 hown hK hP 19 g19 rfl 8 (by decide) k54 (fun _ h9 => h9) rfl dX5_mounted_6 ?_
  refine sb_if_eq (tgt := 19) hx hb dX5_mounted_9 (by decide) (fun c3 => ?_) (fun c3 => ?_)
  · refine lv_iconst (v := -1) hx hb dX5_mounted_19 ci_m1 ?_
    exact hret 20 ls _ _ locs _ dX5_mounted_20 hP hD hS rfl (⟨(if_neg (by rw [c3]; decide)).symm, ⟨a1, a2, a3, a4, a5, a6, a7, a8, a9, a10, g19, g20, g21, g22, g23, g24, g25, g26, g27, g28, g29⟩, (fr.wd fr1 : fr _ _ 19 29)⟩)
  · refine lv_aload_n hx hb dX5_mounted_12 rfl (lv_at hl 0 rfl) ?_
    refine va_get (ci := 5) (C := RX5) (T := TX5) (N := 19) hx hb hts hinX5 hown hK hP 19 g19 rfl 12 (by decide) k134 (fun _ h9 => h9) rfl dX5_mounted_13 ?_
    refine lv_goto (tgt := 20) hx hb dX5_mounted_16 (by decide) ?_
    exact hret 20 ls _ _ locs _ dX5_mounted_20 hP hD hS rfl (⟨(if_pos c3).symm, ⟨a1, a2, a3, a4, a5, a6, a7, a8, a9, a10, g19, g20, g21, g22, g23, g24, g25, g26, g27, g28, g29⟩, (fr.wd fr1 : fr _ _ 19 29)⟩)
set_option maxHeartbeats 4000000 in
set_option maxRecDepth 100000 in
theorem c_X5_isConnected_1 {l : Launch} {D : va_G} {ky : kT} {A : Nat → Prop} {Hs : Heap} {ws : va_W} (hP : va_P D CL ws Hs) (hD : va_D A ws) {h th n : Nat} {T C Hd : Nat → Nat} {b : Nat} {q : Bool} {J : Nat → Nat} {bg : Bool} {pu bu : Nat} {cl mo : Int32} {K : Nat → Nat} {fw fd fc fg fo : Nat → Int32} (hpr : isMod ky ws h th n T C Hd b q J bg pu bu cl mo K fw fd fc fg fo) {x : Int32} (hn8 : n ≤ 8) (hk : stt n x = false) : MU l yX5_isConnected wsX5_isConnected 2 41 0 0 D ky A Hs [.ref h, .int x] (fun r w => r = nI 0 ∧ isMod ky w h 1 n T C Hd b q J bg pu bu cl mo K fw fd fc fg fo ∧ fr ws w 19 29) := by
  refine MU.of (cc := cX5_isConnected) (maxL := 2) (ty := .boolean) (by decide) rfl (Nat.le_of_ble_eq_true rfl) ?_
  intro pg en Rm sg mi av below meth co Qo hRf hRl hRc hRs hx hb hml hown hts hK hret ls hl
  have hl : lv_has ls 2 [(0, .ref h), (1, .int x)] := hl
  have hS : va_S A Hs Hs [] := va_S.rf
  generalize ([] : List Loc) = locs at hS ⊢
  obtain ⟨a1, a2, a3, a4, a5, a6, a7, a8, a9, a10, g19, g20, g21, g22, g23, g24, g25, g26, g27, g28, g29⟩ := id hpr
  refine lv_aload_n hx hb dX5_isConnected_0 rfl (lv_at hl 0 rfl) ?_
  refine lv_aload_n hx hb dX5_isConnected_1 rfl (lv_at hl 0 rfl) ?_
  refine lv_iload_n hx hb dX5_isConnected_2 rfl (lv_at hl 1 rfl) ?_
  refine pcV (c_X5_isSet hP ⟨a1, a2, a3, a4, a5, a6, a7, a8, a9, a10, g19, g20, g21, g22, g23, g24, g25, g26, g27, g28, g29⟩ (by omega)) ⟨hx, hb, hml, hown, hts⟩ hK gX5_isConnected_X5_isSet rfl hd_X5_isSet ⟨by omega, by omega⟩ (va_recv hK hP (ci := 5) (q0 := 19) rfl g19) rfl hl.1 rfl (Nat.le_of_ble_eq_true rfl) dX5_isConnected_3 ⟨Nat.zero_le _, Nat.zero_le _⟩ hS (fun locs hS => ?_)
  refine sb_if_eq (tgt := 13) hx hb dX5_isConnected_6 (by decide) (fun _ => ?_) (fun q => absurd q (by rw [hk]; decide))
  refine lv_iconst (v := nI 1) hx hb dX5_isConnected_13 ci_1 ?_
  refine mcV (c_X5_holds hP hD ⟨a1, a2, a3, a4, a5, a6, a7, a8, a9, a10, g19, g20, g21, g22, g23, g24, g25, g26, g27, g28, g29⟩ (by decide)) ⟨hx, hb, hml, hown, hts⟩ hK gX5_isConnected_X5_holds rfl hd_X5_holds ⟨by omega, by omega⟩ (va_recv hK hP (ci := 5) (q0 := 19) rfl g19) rfl hl.1 rfl (Nat.le_of_ble_eq_true rfl) dX5_isConnected_14 ⟨Nat.zero_le _, Nat.zero_le _⟩ hS (fun r ws2 H locs hq4 hP hD hS => ?_)
  obtain ⟨rfl, hpr, fr3⟩ := hq4
  obtain ⟨a1, a2, a3, a4, a5, a6, a7, a8, a9, a10, g19, g20, g21, g22, g23, g24, g25, g26, g27, g28, g29⟩ := id hpr
  refine sv_top (y := nI 0) rfl ?_
  refine sn_if_eq (tgt := 32) hx hb dX5_isConnected_17 (by decide) (by decide) (fun _ => ?_) (fun q => absurd q (by decide))
  refine lv_iconst (v := nI 0) hx hb dX5_isConnected_32 ci_0 ?_
  exact hret 33 ls _ _ locs _ dX5_isConnected_33 hP hD hS rfl (⟨rfl, ⟨a1, a2, a3, a4, a5, a6, a7, a8, a9, a10, g19, g20, g21, g22, g23, g24, g25, g26, g27, g28, g29⟩, (fr.wd fr3 : fr _ _ 19 29)⟩)
set_option maxHeartbeats 4000000 in
set_option maxRecDepth 100000 in
theorem c_X5_isConnected_0 {l : Launch} {D : va_G} {ky : kT} {A : Nat → Prop} {Hs : Heap} {ws : va_W} (hP : va_P D CL ws Hs) (hD : va_D A ws) {h th n : Nat} {T C Hd : Nat → Nat} {b : Nat} {q : Bool} {J : Nat → Nat} {bg : Bool} {pu bu : Nat} {cl mo : Int32} {K : Nat → Nat} {fw fd fc fg fo : Nat → Int32} (hpr : isMod ky ws h th n T C Hd b q J bg pu bu cl mo K fw fd fc fg fo) (hI : PI0 n C Hd b) {S : Nat} (hS1 : 0 < S) (hS2 : S < 2 ^ n) : MU l yX5_isConnected wsX5_isConnected 2 46 0 0 D ky A Hs [.ref h, .int (nI S)] (fun r w => r = bI (conn C S) ∧ isMod ky w h 0 n T C Hd b q J bg pu bu cl mo K fw fd fc fg fo ∧ fr ws w 19 29) := by
  refine MU.of (cc := cX5_isConnected) (maxL := 2) (ty := .boolean) (by decide) rfl (Nat.le_of_ble_eq_true rfl) ?_
  intro pg en Rm sg mi av below meth co Qo hRf hRl hRc hRs hx hb hml hown hts hK hret ls hl
  have hl : lv_has ls 2 [(0, .ref h), (1, .int (nI S))] := hl
  have hS : va_S A Hs Hs [] := va_S.rf
  generalize ([] : List Loc) = locs at hS ⊢
  obtain ⟨a1, a2, a3, a4, a5, a6, a7, a8, a9, a10, g19, g20, g21, g22, g23, g24, g25, g26, g27, g28, g29⟩ := id hpr
  have hk := stt_in hS1 hS2 hI.1
  have hn8 := hI.1
  have hp2 := p2_le hn8
  refine lv_aload_n hx hb dX5_isConnected_0 rfl (lv_at hl 0 rfl) ?_
  refine lv_aload_n hx hb dX5_isConnected_1 rfl (lv_at hl 0 rfl) ?_
  refine lv_iload_n hx hb dX5_isConnected_2 rfl (lv_at hl 1 rfl) ?_
  refine pcV (c_X5_isSet hP ⟨a1, a2, a3, a4, a5, a6, a7, a8, a9, a10, g19, g20, g21, g22, g23, g24, g25, g26, g27, g28, g29⟩ (by omega)) ⟨hx, hb, hml, hown, hts⟩ hK gX5_isConnected_X5_isSet rfl hd_X5_isSet ⟨by omega, by omega⟩ (va_recv hK hP (ci := 5) (q0 := 19) rfl g19) rfl hl.1 rfl (Nat.le_of_ble_eq_true rfl) dX5_isConnected_3 ⟨Nat.zero_le _, Nat.zero_le _⟩ hS (fun locs hS => ?_)
  refine sb_if_eq (tgt := 13) hx hb dX5_isConnected_6 (by decide) (fun q => absurd q (by rw [hk]; decide)) (fun _ => ?_)
  refine lv_iconst (v := nI 0) hx hb dX5_isConnected_9 ci_0 ?_
  refine lv_goto (tgt := 14) hx hb dX5_isConnected_10 (by decide) ?_
  refine mcV (c_X5_holds hP hD ⟨a1, a2, a3, a4, a5, a6, a7, a8, a9, a10, g19, g20, g21, g22, g23, g24, g25, g26, g27, g28, g29⟩ (by decide)) ⟨hx, hb, hml, hown, hts⟩ hK gX5_isConnected_X5_holds rfl hd_X5_holds ⟨by omega, by omega⟩ (va_recv hK hP (ci := 5) (q0 := 19) rfl g19) rfl hl.1 rfl (Nat.le_of_ble_eq_true rfl) dX5_isConnected_14 ⟨Nat.zero_le _, Nat.zero_le _⟩ hS (fun r ws2 H locs hq4 hP hD hS => ?_)
  obtain ⟨rfl, hpr, fr3⟩ := hq4
  obtain ⟨a1, a2, a3, a4, a5, a6, a7, a8, a9, a10, g19, g20, g21, g22, g23, g24, g25, g26, g27, g28, g29⟩ := id hpr
  refine sv_top (y := nI 1) rfl ?_
  refine sn_if_eq (tgt := 32) hx hb dX5_isConnected_17 (by decide) (by decide) (fun q => absurd q (by decide)) (fun _ => ?_)
  refine lv_aload_n hx hb dX5_isConnected_20 rfl (lv_at hl 0 rfl) ?_
  refine lv_iload_n hx hb dX5_isConnected_21 rfl (lv_at hl 1 rfl) ?_
  refine pcV (c_X5_hangsTogether hP ⟨a1, a2, a3, a4, a5, a6, a7, a8, a9, a10, g19, g20, g21, g22, g23, g24, g25, g26, g27, g28, g29⟩ hI (by omega)) ⟨hx, hb, hml, hown, hts⟩ hK gX5_isConnected_X5_hangsTogether rfl hd_X5_hangsTogether ⟨by omega, by omega⟩ (va_recv hK hP (ci := 5) (q0 := 19) rfl g19) rfl hl.1 rfl (Nat.le_of_ble_eq_true rfl) dX5_isConnected_22 ⟨Nat.zero_le _, Nat.zero_le _⟩ hS (fun locs hS => ?_)
  refine sb_if_eq (tgt := 32) hx hb dX5_isConnected_25 (by decide) (fun c6 => ?_) (fun c6 => ?_)
  · refine lv_iconst (v := nI 0) hx hb dX5_isConnected_32 ci_0 ?_
    exact hret 33 ls _ _ locs _ dX5_isConnected_33 hP hD hS rfl (⟨bI_f c6, ⟨a1, a2, a3, a4, a5, a6, a7, a8, a9, a10, g19, g20, g21, g22, g23, g24, g25, g26, g27, g28, g29⟩, (fr.wd fr3 : fr _ _ 19 29)⟩)
  · refine lv_iconst (v := nI 1) hx hb dX5_isConnected_28 ci_1 ?_
    refine lv_goto (tgt := 33) hx hb dX5_isConnected_29 (by decide) ?_
    exact hret 33 ls _ _ locs _ dX5_isConnected_33 hP hD hS rfl (⟨bI_t c6, ⟨a1, a2, a3, a4, a5, a6, a7, a8, a9, a10, g19, g20, g21, g22, g23, g24, g25, g26, g27, g28, g29⟩, (fr.wd fr3 : fr _ _ 19 29)⟩)
set_option maxHeartbeats 4000000 in
set_option maxRecDepth 100000 in
theorem c_X5_isSteady_1 {l : Launch} {D : va_G} {ky : kT} {A : Nat → Prop} {Hs : Heap} {ws : va_W} (hP : va_P D CL ws Hs) (hD : va_D A ws) {h th n : Nat} {T C Hd : Nat → Nat} {b : Nat} {q : Bool} {J : Nat → Nat} {bg : Bool} {pu bu : Nat} {cl mo : Int32} {K : Nat → Nat} {fw fd fc fg fo : Nat → Int32} (hpr : isMod ky ws h th n T C Hd b q J bg pu bu cl mo K fw fd fc fg fo) {x : Int32} (hn8 : n ≤ 8) (hk : stt n x = false) : MU l yX5_isSteady wsX5_isSteady 2 41 0 0 D ky A Hs [.ref h, .int x] (fun r w => r = nI 0 ∧ isMod ky w h 1 n T C Hd b q J bg pu bu cl mo K fw fd fc fg fo ∧ fr ws w 19 29) := by
  refine MU.of (cc := cX5_isSteady) (maxL := 2) (ty := .boolean) (by decide) rfl (Nat.le_of_ble_eq_true rfl) ?_
  intro pg en Rm sg mi av below meth co Qo hRf hRl hRc hRs hx hb hml hown hts hK hret ls hl
  have hl : lv_has ls 2 [(0, .ref h), (1, .int x)] := hl
  have hS : va_S A Hs Hs [] := va_S.rf
  generalize ([] : List Loc) = locs at hS ⊢
  obtain ⟨a1, a2, a3, a4, a5, a6, a7, a8, a9, a10, g19, g20, g21, g22, g23, g24, g25, g26, g27, g28, g29⟩ := id hpr
  refine lv_aload_n hx hb dX5_isSteady_0 rfl (lv_at hl 0 rfl) ?_
  refine lv_aload_n hx hb dX5_isSteady_1 rfl (lv_at hl 0 rfl) ?_
  refine lv_iload_n hx hb dX5_isSteady_2 rfl (lv_at hl 1 rfl) ?_
  refine pcV (c_X5_isSet hP ⟨a1, a2, a3, a4, a5, a6, a7, a8, a9, a10, g19, g20, g21, g22, g23, g24, g25, g26, g27, g28, g29⟩ (by omega)) ⟨hx, hb, hml, hown, hts⟩ hK gX5_isSteady_X5_isSet rfl hd_X5_isSet ⟨by omega, by omega⟩ (va_recv hK hP (ci := 5) (q0 := 19) rfl g19) rfl hl.1 rfl (Nat.le_of_ble_eq_true rfl) dX5_isSteady_3 ⟨Nat.zero_le _, Nat.zero_le _⟩ hS (fun locs hS => ?_)
  refine sb_if_eq (tgt := 13) hx hb dX5_isSteady_6 (by decide) (fun _ => ?_) (fun q => absurd q (by rw [hk]; decide))
  refine lv_iconst (v := nI 1) hx hb dX5_isSteady_13 ci_1 ?_
  refine mcV (c_X5_holds hP hD ⟨a1, a2, a3, a4, a5, a6, a7, a8, a9, a10, g19, g20, g21, g22, g23, g24, g25, g26, g27, g28, g29⟩ (by decide)) ⟨hx, hb, hml, hown, hts⟩ hK gX5_isSteady_X5_holds rfl hd_X5_holds ⟨by omega, by omega⟩ (va_recv hK hP (ci := 5) (q0 := 19) rfl g19) rfl hl.1 rfl (Nat.le_of_ble_eq_true rfl) dX5_isSteady_14 ⟨Nat.zero_le _, Nat.zero_le _⟩ hS (fun r ws2 H locs hq4 hP hD hS => ?_)
  obtain ⟨rfl, hpr, fr3⟩ := hq4
  obtain ⟨a1, a2, a3, a4, a5, a6, a7, a8, a9, a10, g19, g20, g21, g22, g23, g24, g25, g26, g27, g28, g29⟩ := id hpr
  refine sv_top (y := nI 0) rfl ?_
  refine sn_if_eq (tgt := 32) hx hb dX5_isSteady_17 (by decide) (by decide) (fun _ => ?_) (fun q => absurd q (by decide))
  refine lv_iconst (v := nI 0) hx hb dX5_isSteady_32 ci_0 ?_
  exact hret 33 ls _ _ locs _ dX5_isSteady_33 hP hD hS rfl (⟨rfl, ⟨a1, a2, a3, a4, a5, a6, a7, a8, a9, a10, g19, g20, g21, g22, g23, g24, g25, g26, g27, g28, g29⟩, (fr.wd fr3 : fr _ _ 19 29)⟩)
set_option maxHeartbeats 4000000 in
set_option maxRecDepth 100000 in
theorem c_X5_isSteady_0 {l : Launch} {D : va_G} {ky : kT} {A : Nat → Prop} {Hs : Heap} {ws : va_W} (hP : va_P D CL ws Hs) (hD : va_D A ws) {h th n : Nat} {T C Hd : Nat → Nat} {b : Nat} {q : Bool} {J : Nat → Nat} {bg : Bool} {pu bu : Nat} {cl mo : Int32} {K : Nat → Nat} {fw fd fc fg fo : Nat → Int32} (hpr : isMod ky ws h th n T C Hd b q J bg pu bu cl mo K fw fd fc fg fo) (hI : PI0 n C Hd b) {S : Nat} (hS1 : 0 < S) (hS2 : S < 2 ^ n) : MU l yX5_isSteady wsX5_isSteady 2 41 0 0 D ky A Hs [.ref h, .int (nI S)] (fun r w => r = bI (stdy Hd b S) ∧ isMod ky w h 0 n T C Hd b q J bg pu bu cl mo K fw fd fc fg fo ∧ fr ws w 19 29) := by
  refine MU.of (cc := cX5_isSteady) (maxL := 2) (ty := .boolean) (by decide) rfl (Nat.le_of_ble_eq_true rfl) ?_
  intro pg en Rm sg mi av below meth co Qo hRf hRl hRc hRs hx hb hml hown hts hK hret ls hl
  have hl : lv_has ls 2 [(0, .ref h), (1, .int (nI S))] := hl
  have hS : va_S A Hs Hs [] := va_S.rf
  generalize ([] : List Loc) = locs at hS ⊢
  obtain ⟨a1, a2, a3, a4, a5, a6, a7, a8, a9, a10, g19, g20, g21, g22, g23, g24, g25, g26, g27, g28, g29⟩ := id hpr
  have hk := stt_in hS1 hS2 hI.1
  have hn8 := hI.1
  have hp2 := p2_le hn8
  refine lv_aload_n hx hb dX5_isSteady_0 rfl (lv_at hl 0 rfl) ?_
  refine lv_aload_n hx hb dX5_isSteady_1 rfl (lv_at hl 0 rfl) ?_
  refine lv_iload_n hx hb dX5_isSteady_2 rfl (lv_at hl 1 rfl) ?_
  refine pcV (c_X5_isSet hP ⟨a1, a2, a3, a4, a5, a6, a7, a8, a9, a10, g19, g20, g21, g22, g23, g24, g25, g26, g27, g28, g29⟩ (by omega)) ⟨hx, hb, hml, hown, hts⟩ hK gX5_isSteady_X5_isSet rfl hd_X5_isSet ⟨by omega, by omega⟩ (va_recv hK hP (ci := 5) (q0 := 19) rfl g19) rfl hl.1 rfl (Nat.le_of_ble_eq_true rfl) dX5_isSteady_3 ⟨Nat.zero_le _, Nat.zero_le _⟩ hS (fun locs hS => ?_)
  refine sb_if_eq (tgt := 13) hx hb dX5_isSteady_6 (by decide) (fun q => absurd q (by rw [hk]; decide)) (fun _ => ?_)
  refine lv_iconst (v := nI 0) hx hb dX5_isSteady_9 ci_0 ?_
  refine lv_goto (tgt := 14) hx hb dX5_isSteady_10 (by decide) ?_
  refine mcV (c_X5_holds hP hD ⟨a1, a2, a3, a4, a5, a6, a7, a8, a9, a10, g19, g20, g21, g22, g23, g24, g25, g26, g27, g28, g29⟩ (by decide)) ⟨hx, hb, hml, hown, hts⟩ hK gX5_isSteady_X5_holds rfl hd_X5_holds ⟨by omega, by omega⟩ (va_recv hK hP (ci := 5) (q0 := 19) rfl g19) rfl hl.1 rfl (Nat.le_of_ble_eq_true rfl) dX5_isSteady_14 ⟨Nat.zero_le _, Nat.zero_le _⟩ hS (fun r ws2 H locs hq4 hP hD hS => ?_)
  obtain ⟨rfl, hpr, fr3⟩ := hq4
  obtain ⟨a1, a2, a3, a4, a5, a6, a7, a8, a9, a10, g19, g20, g21, g22, g23, g24, g25, g26, g27, g28, g29⟩ := id hpr
  refine sv_top (y := nI 1) rfl ?_
  refine sn_if_eq (tgt := 32) hx hb dX5_isSteady_17 (by decide) (by decide) (fun q => absurd q (by decide)) (fun _ => ?_)
  refine lv_aload_n hx hb dX5_isSteady_20 rfl (lv_at hl 0 rfl) ?_
  refine lv_iload_n hx hb dX5_isSteady_21 rfl (lv_at hl 1 rfl) ?_
  refine pcV (c_X5_isHeld hP ⟨a1, a2, a3, a4, a5, a6, a7, a8, a9, a10, g19, g20, g21, g22, g23, g24, g25, g26, g27, g28, g29⟩ hI (by omega)) ⟨hx, hb, hml, hown, hts⟩ hK gX5_isSteady_X5_isHeld rfl hd_X5_isHeld ⟨by omega, by omega⟩ (va_recv hK hP (ci := 5) (q0 := 19) rfl g19) rfl hl.1 rfl (Nat.le_of_ble_eq_true rfl) dX5_isSteady_22 ⟨Nat.zero_le _, Nat.zero_le _⟩ hS (fun locs hS => ?_)
  refine sb_if_eq (tgt := 32) hx hb dX5_isSteady_25 (by decide) (fun c6 => ?_) (fun c6 => ?_)
  · refine lv_iconst (v := nI 0) hx hb dX5_isSteady_32 ci_0 ?_
    exact hret 33 ls _ _ locs _ dX5_isSteady_33 hP hD hS rfl (⟨bI_f c6, ⟨a1, a2, a3, a4, a5, a6, a7, a8, a9, a10, g19, g20, g21, g22, g23, g24, g25, g26, g27, g28, g29⟩, (fr.wd fr3 : fr _ _ 19 29)⟩)
  · refine lv_iconst (v := nI 1) hx hb dX5_isSteady_28 ci_1 ?_
    refine lv_goto (tgt := 33) hx hb dX5_isSteady_29 (by decide) ?_
    exact hret 33 ls _ _ locs _ dX5_isSteady_33 hP hD hS rfl (⟨bI_t c6, ⟨a1, a2, a3, a4, a5, a6, a7, a8, a9, a10, g19, g20, g21, g22, g23, g24, g25, g26, g27, g28, g29⟩, (fr.wd fr3 : fr _ _ 19 29)⟩)
set_option maxHeartbeats 4000000 in
set_option maxRecDepth 100000 in
theorem c_X5_splits_1 {l : Launch} {D : va_G} {ky : kT} {A : Nat → Prop} {Hs : Heap} {ws : va_W} (hP : va_P D CL ws Hs) (hD : va_D A ws) {h th n : Nat} {T C Hd : Nat → Nat} {b : Nat} {q : Bool} {J : Nat → Nat} {bg : Bool} {pu bu : Nat} {cl mo : Int32} {K : Nat → Nat} {fw fd fc fg fo : Nat → Int32} (hpr : isMod ky ws h th n T C Hd b q J bg pu bu cl mo K fw fd fc fg fo) {x : Int32} (hn8 : n ≤ 8) (hk : stt n x = false) : MU l yX5_splits wsX5_splits 2 41 0 0 D ky A Hs [.ref h, .int x] (fun r w => r = nI 0 ∧ isMod ky w h 1 n T C Hd b q J bg pu bu cl mo K fw fd fc fg fo ∧ fr ws w 19 29) := by
  refine MU.of (cc := cX5_splits) (maxL := 4) (ty := .int) (by decide) rfl (Nat.le_of_ble_eq_true rfl) ?_
  intro pg en Rm sg mi av below meth co Qo hRf hRl hRc hRs hx hb hml hown hts hK hret ls hl
  have hl : lv_has ls 4 [(0, .ref h), (1, .int x)] := hl
  have hS : va_S A Hs Hs [] := va_S.rf
  generalize ([] : List Loc) = locs at hS ⊢
  obtain ⟨a1, a2, a3, a4, a5, a6, a7, a8, a9, a10, g19, g20, g21, g22, g23, g24, g25, g26, g27, g28, g29⟩ := id hpr
  refine lv_aload_n hx hb dX5_splits_0 rfl (lv_at hl 0 rfl) ?_
  refine lv_aload_n hx hb dX5_splits_1 rfl (lv_at hl 0 rfl) ?_
  refine lv_iload_n hx hb dX5_splits_2 rfl (lv_at hl 1 rfl) ?_
  refine pcV (c_X5_isSet hP ⟨a1, a2, a3, a4, a5, a6, a7, a8, a9, a10, g19, g20, g21, g22, g23, g24, g25, g26, g27, g28, g29⟩ (by omega)) ⟨hx, hb, hml, hown, hts⟩ hK gX5_splits_X5_isSet rfl hd_X5_isSet ⟨by omega, by omega⟩ (va_recv hK hP (ci := 5) (q0 := 19) rfl g19) rfl hl.1 rfl (Nat.le_of_ble_eq_true rfl) dX5_splits_3 ⟨Nat.zero_le _, Nat.zero_le _⟩ hS (fun locs hS => ?_)
  refine sb_if_eq (tgt := 13) hx hb dX5_splits_6 (by decide) (fun _ => ?_) (fun q => absurd q (by rw [hk]; decide))
  refine lv_iconst (v := nI 1) hx hb dX5_splits_13 ci_1 ?_
  refine mcV (c_X5_holds hP hD ⟨a1, a2, a3, a4, a5, a6, a7, a8, a9, a10, g19, g20, g21, g22, g23, g24, g25, g26, g27, g28, g29⟩ (by decide)) ⟨hx, hb, hml, hown, hts⟩ hK gX5_splits_X5_holds rfl hd_X5_holds ⟨by omega, by omega⟩ (va_recv hK hP (ci := 5) (q0 := 19) rfl g19) rfl hl.1 rfl (Nat.le_of_ble_eq_true rfl) dX5_splits_14 ⟨Nat.zero_le _, Nat.zero_le _⟩ hS (fun r ws2 H locs hq4 hP hD hS => ?_)
  obtain ⟨rfl, hpr, fr3⟩ := hq4
  obtain ⟨a1, a2, a3, a4, a5, a6, a7, a8, a9, a10, g19, g20, g21, g22, g23, g24, g25, g26, g27, g28, g29⟩ := id hpr
  refine sv_top (y := nI 0) rfl ?_
  refine sn_if_ne (tgt := 22) hx hb dX5_splits_17 (by decide) (by decide) (fun q => absurd q (by decide)) (fun _ => ?_)
  refine lv_iconst (v := nI 0) hx hb dX5_splits_20 ci_0 ?_
  exact hret 21 ls _ _ locs _ dX5_splits_21 hP hD hS rfl (⟨rfl, ⟨a1, a2, a3, a4, a5, a6, a7, a8, a9, a10, g19, g20, g21, g22, g23, g24, g25, g26, g27, g28, g29⟩, (fr.wd fr3 : fr _ _ 19 29)⟩)
set_option maxHeartbeats 4000000 in
set_option maxRecDepth 100000 in
theorem c_X5_splits_0t {l : Launch} {D : va_G} {ky : kT} {A : Nat → Prop} {Hs : Heap} {ws : va_W} (hP : va_P D CL ws Hs) (hD : va_D A ws) {h th n : Nat} {T C Hd : Nat → Nat} {b : Nat} {q : Bool} {J : Nat → Nat} {bg : Bool} {pu bu : Nat} {cl mo : Int32} {K : Nat → Nat} {fw fd fc fg fo : Nat → Int32} (hpr : isMod ky ws h th n T C Hd b q J bg pu bu cl mo K fw fd fc fg fo) (hI : PI0 n C Hd b) {S : Nat} (hS1 : 0 < S) (hS2 : S < 2 ^ n) (hc : conn C S = true) : MU l yX5_splits wsX5_splits 3 70 0 0 D ky A Hs [.ref h, .int (nI S)] (fun r w => r = nI (spc C Hd n S) ∧ isMod ky w h 0 n T C Hd b q J bg pu bu cl mo K fw fd fc fg fo ∧ fr ws w 19 29) := by
  refine MU.of (cc := cX5_splits) (maxL := 4) (ty := .int) (by decide) rfl (Nat.le_of_ble_eq_true rfl) ?_
  intro pg en Rm sg mi av below meth co Qo hRf hRl hRc hRs hx hb hml hown hts hK hret ls hl
  have hl : lv_has ls 4 [(0, .ref h), (1, .int (nI S))] := hl
  have hS : va_S A Hs Hs [] := va_S.rf
  generalize ([] : List Loc) = locs at hS ⊢
  obtain ⟨a1, a2, a3, a4, a5, a6, a7, a8, a9, a10, g19, g20, g21, g22, g23, g24, g25, g26, g27, g28, g29⟩ := id hpr
  have hk := stt_in hS1 hS2 hI.1
  have hn8 := hI.1
  have hp2 := p2_le hn8
  refine lv_aload_n hx hb dX5_splits_0 rfl (lv_at hl 0 rfl) ?_
  refine lv_aload_n hx hb dX5_splits_1 rfl (lv_at hl 0 rfl) ?_
  refine lv_iload_n hx hb dX5_splits_2 rfl (lv_at hl 1 rfl) ?_
  refine pcV (c_X5_isSet hP ⟨a1, a2, a3, a4, a5, a6, a7, a8, a9, a10, g19, g20, g21, g22, g23, g24, g25, g26, g27, g28, g29⟩ (by omega)) ⟨hx, hb, hml, hown, hts⟩ hK gX5_splits_X5_isSet rfl hd_X5_isSet ⟨by omega, by omega⟩ (va_recv hK hP (ci := 5) (q0 := 19) rfl g19) rfl hl.1 rfl (Nat.le_of_ble_eq_true rfl) dX5_splits_3 ⟨Nat.zero_le _, Nat.zero_le _⟩ hS (fun locs hS => ?_)
  refine sb_if_eq (tgt := 13) hx hb dX5_splits_6 (by decide) (fun q => absurd q (by rw [hk]; decide)) (fun _ => ?_)
  refine lv_iconst (v := nI 0) hx hb dX5_splits_9 ci_0 ?_
  refine lv_goto (tgt := 14) hx hb dX5_splits_10 (by decide) ?_
  refine mcV (c_X5_holds hP hD ⟨a1, a2, a3, a4, a5, a6, a7, a8, a9, a10, g19, g20, g21, g22, g23, g24, g25, g26, g27, g28, g29⟩ (by decide)) ⟨hx, hb, hml, hown, hts⟩ hK gX5_splits_X5_holds rfl hd_X5_holds ⟨by omega, by omega⟩ (va_recv hK hP (ci := 5) (q0 := 19) rfl g19) rfl hl.1 rfl (Nat.le_of_ble_eq_true rfl) dX5_splits_14 ⟨Nat.zero_le _, Nat.zero_le _⟩ hS (fun r ws2 H locs hq4 hP hD hS => ?_)
  obtain ⟨rfl, hpr, fr3⟩ := hq4
  obtain ⟨a1, a2, a3, a4, a5, a6, a7, a8, a9, a10, g19, g20, g21, g22, g23, g24, g25, g26, g27, g28, g29⟩ := id hpr
  refine sv_top (y := nI 1) rfl ?_
  refine sn_if_ne (tgt := 22) hx hb dX5_splits_17 (by decide) (by decide) (fun _ => ?_) (fun q => absurd q (by decide))
  refine lv_iconst (v := nI 0) hx hb dX5_splits_22 ci_0 ?_
  refine lv_istore_n (lv' := [(2, .int (nI 0)), (0, .ref h), (1, .int (nI S))]) hx hb dX5_splits_23 rfl hl (by decide) rfl (fun ls hl => ?_)
  refine lv_iconst (v := nI 1) hx hb dX5_splits_24 ci_1 ?_
  refine lv_istore_n (lv' := [(3, .int (nI 1)), (2, .int (nI 0)), (0, .ref h), (1, .int (nI S))]) hx hb dX5_splits_25 rfl hl (by decide) rfl (fun ls hl => ?_)
  have L26 : ∀ (L26d : Nat) (j : Nat), S - j < L26d → ∀ (wl26 : va_W) (H : Heap), j ≤ S - 1 → va_P D CL wl26 H → va_D A wl26 → wl26[19]? = some (h, .inr (5, [.int (nI 0), .int (nI n), .ref a1, .ref a2, .ref a3, .int (nI b), .int (bI q), .ref a4, .int (bI bg), .int (nI pu), .int (nI bu), .int cl, .int mo, .ref a5, .ref a6, .ref a7, .ref a8, .ref a9, .ref a10])) → wl26[20]? = some (a1, .inl (ky.1, 8, .inl (fun i => nI (T i)))) → wl26[21]? = some (a2, .inl (ky.1, 8, .inl (fun i => nI (C i)))) → wl26[22]? = some (a3, .inl (ky.1, 48, .inl (fun i => nI (Hd i)))) → wl26[23]? = some (a4, .inl (ky.1, 8, .inl (fun i => nI (J i)))) → wl26[24]? = some (a5, .inl (ky.1, 8, .inl (fun i => nI (K i)))) → wl26[25]? = some (a6, .inl (ky.1, 256, .inl fw)) → wl26[26]? = some (a7, .inl (ky.1, 256, .inl fd)) → wl26[27]? = some (a8, .inl (ky.1, 256, .inl fc)) → wl26[28]? = some (a9, .inl (ky.1, 2048, .inl fg)) → wl26[29]? = some (a10, .inl (ky.1, 8, .inl fo)) → fr ws wl26 19 29 → ∀ (ls : Array Slot) (locs : List Loc), lv_has ls 4 [(2, .int (nI (itr (fun j x => if spl C Hd n S (j + 1) = true then x + 1 else x) j 0))), (3, .int (nI (j + 1))), (0, .ref h), (1, .int (nI S))] → va_S A Hs H locs → W pg l en Rm sg mi av below meth co H locs 0 0 Qo (F0 mi 26 ls []) := by
    intro L26d
    induction L26d with
    | zero => intro j hfu; exact absurd hfu (Nat.not_lt_zero _)
    | succ L26d ih26 =>
      intro j hfu wl26 H i26_0 hP hD g19 g20 g21 g22 g23 g24 g25 g26 g27 g28 g29 frwl26 ls locs hl hS
      refine lv_iload_n hx hb dX5_splits_26 rfl (lv_at hl 1 rfl) ?_
      refine lv_iload_n hx hb dX5_splits_27 rfl (lv_at hl 3 rfl) ?_
      refine sn_icmp_ge (tgt := 62) hx hb dX5_splits_28 (by decide) (by omega) (by omega) (fun c6 => ?_) (fun c6 => ?_)
      · refine lv_iload_n hx hb dX5_splits_62 rfl (lv_at hl 0 rfl) ?_
        exact hret 63 ls _ _ locs _ dX5_splits_63 hP hD hS rfl (⟨by unfold spc; rw [if_pos hc, show j = S - 1 by omega], ⟨a1, a2, a3, a4, a5, a6, a7, a8, a9, a10, g19, g20, g21, g22, g23, g24, g25, g26, g27, g28, g29⟩, (fr.wd frwl26 : fr _ _ 19 29)⟩)
      · refine lv_aload_n hx hb dX5_splits_31 rfl (lv_at hl 2 rfl) ?_
        refine lv_iload_n hx hb dX5_splits_32 rfl (lv_at hl 3 rfl) ?_
        refine pcV (c_X5_hangsTogether hP ⟨a1, a2, a3, a4, a5, a6, a7, a8, a9, a10, g19, g20, g21, g22, g23, g24, g25, g26, g27, g28, g29⟩ hI (by omega)) ⟨hx, hb, hml, hown, hts⟩ hK gX5_splits_X5_hangsTogether rfl hd_X5_hangsTogether ⟨by omega, by omega⟩ (va_recv hK hP (ci := 5) (q0 := 19) rfl g19) rfl hl.1 rfl (Nat.le_of_ble_eq_true rfl) dX5_splits_33 ⟨Nat.zero_le _, Nat.zero_le _⟩ hS (fun locs hS => ?_)
        refine sb_if_eq (tgt := 62) hx hb dX5_splits_36 (by decide) (fun q => absurd q (by rw [hc]; decide)) (fun _ => ?_)
        refine lv_iload_n hx hb dX5_splits_39 rfl (lv_at hl 0 rfl) ?_
        refine lv_aload_n hx hb dX5_splits_40 rfl (lv_at hl 2 rfl) ?_
        refine lv_iload_n hx hb dX5_splits_41 rfl (lv_at hl 3 rfl) ?_
        refine lv_iload_n hx hb dX5_splits_42 rfl (lv_at hl 1 rfl) ?_
        refine pcV (c_X5_isSplit hP ⟨a1, a2, a3, a4, a5, a6, a7, a8, a9, a10, g19, g20, g21, g22, g23, g24, g25, g26, g27, g28, g29⟩ hI (by omega) (by omega)) ⟨hx, hb, hml, hown, hts⟩ hK gX5_splits_X5_isSplit rfl hd_X5_isSplit ⟨by omega, by omega⟩ (va_recv hK hP (ci := 5) (q0 := 19) rfl g19) rfl hl.1 rfl (Nat.le_of_ble_eq_true rfl) dX5_splits_43 ⟨Nat.zero_le _, Nat.zero_le _⟩ hS (fun locs hS => ?_)
        refine sb_if_eq (tgt := 53) hx hb dX5_splits_46 (by decide) (fun c8 => ?_) (fun c8 => ?_)
        · refine lv_iconst (v := nI 0) hx hb dX5_splits_53 ci_0 ?_
          refine lv_iadd hx hb dX5_splits_54 ?_
          refine sv_top (y := nI ((itr (fun j x => if spl C Hd n S (j + 1) = true then x + 1 else x) j 0) + 0)) (nI_add _ _) ?_
          refine lv_istore_n (lv' := [(2, .int (nI ((itr (fun j x => if spl C Hd n S (j + 1) = true then x + 1 else x) j 0) + 0))), (3, .int (nI (j + 1))), (0, .ref h), (1, .int (nI S))]) hx hb dX5_splits_55 rfl hl (by decide) rfl (fun ls hl => ?_)
          refine lv_iinc (v := nI (j + 1 + 1)) (lv' := [(3, .int (nI (j + 1 + 1))), (2, .int (nI ((itr (fun j x => if spl C Hd n S (j + 1) = true then x + 1 else x) j 0) + 0))), (0, .ref h), (1, .int (nI S))]) hx hb dX5_splits_56 hl (k := 1) rfl (nI_1 _) (by decide) rfl (fun ls hl => ?_)
          refine lv_goto (tgt := 26) hx hb dX5_splits_59 (by decide) ?_
          have e2 : nI ((itr (fun j x => if spl C Hd n S (j + 1) = true then x + 1 else x) j 0) + 0) = nI (itr (fun j x => if spl C Hd n S (j + 1) = true then x + 1 else x) (j + 1) 0) := (congrArg nI (show _ = (if spl C Hd n S (j + 1) = true then _ else _) from (if_neg (by rw [c8]; decide)).symm))
          rw [e2] at hl
          exact ih26 (j + 1) (by omega) _ _ (by omega) hP hD g19 g20 g21 g22 g23 g24 g25 g26 g27 g28 g29 (fr.wd frwl26 : fr _ _ 19 29) ls locs (lv_sub hl [1, 0, 2, 3] rfl) hS
        · refine lv_iconst (v := nI 1) hx hb dX5_splits_49 ci_1 ?_
          refine lv_goto (tgt := 54) hx hb dX5_splits_50 (by decide) ?_
          refine lv_iadd hx hb dX5_splits_54 ?_
          refine sv_top (y := nI ((itr (fun j x => if spl C Hd n S (j + 1) = true then x + 1 else x) j 0) + 1)) (nI_add _ _) ?_
          refine lv_istore_n (lv' := [(2, .int (nI ((itr (fun j x => if spl C Hd n S (j + 1) = true then x + 1 else x) j 0) + 1))), (3, .int (nI (j + 1))), (0, .ref h), (1, .int (nI S))]) hx hb dX5_splits_55 rfl hl (by decide) rfl (fun ls hl => ?_)
          refine lv_iinc (v := nI (j + 1 + 1)) (lv' := [(3, .int (nI (j + 1 + 1))), (2, .int (nI ((itr (fun j x => if spl C Hd n S (j + 1) = true then x + 1 else x) j 0) + 1))), (0, .ref h), (1, .int (nI S))]) hx hb dX5_splits_56 hl (k := 1) rfl (nI_1 _) (by decide) rfl (fun ls hl => ?_)
          refine lv_goto (tgt := 26) hx hb dX5_splits_59 (by decide) ?_
          have e2 : nI ((itr (fun j x => if spl C Hd n S (j + 1) = true then x + 1 else x) j 0) + 1) = nI (itr (fun j x => if spl C Hd n S (j + 1) = true then x + 1 else x) (j + 1) 0) := (congrArg nI (show _ = (if spl C Hd n S (j + 1) = true then _ else _) from (if_pos c8).symm))
          rw [e2] at hl
          exact ih26 (j + 1) (by omega) _ _ (by omega) hP hD g19 g20 g21 g22 g23 g24 g25 g26 g27 g28 g29 (fr.wd frwl26 : fr _ _ 19 29) ls locs (lv_sub hl [1, 0, 2, 3] rfl) hS
  exact L26 ((S - 0) + 1) 0 (Nat.lt_succ_self _) _ _ (by omega) hP hD g19 g20 g21 g22 g23 g24 g25 g26 g27 g28 g29 (fr.wd fr3 : fr _ _ 19 29) ls locs (lv_sub hl [1, 0, 2, 3] rfl) hS
set_option maxHeartbeats 4000000 in
set_option maxRecDepth 100000 in
theorem c_X5_splits_0f {l : Launch} {D : va_G} {ky : kT} {A : Nat → Prop} {Hs : Heap} {ws : va_W} (hP : va_P D CL ws Hs) (hD : va_D A ws) {h th n : Nat} {T C Hd : Nat → Nat} {b : Nat} {q : Bool} {J : Nat → Nat} {bg : Bool} {pu bu : Nat} {cl mo : Int32} {K : Nat → Nat} {fw fd fc fg fo : Nat → Int32} (hpr : isMod ky ws h th n T C Hd b q J bg pu bu cl mo K fw fd fc fg fo) (hI : PI0 n C Hd b) {S : Nat} (hS1 : 0 < S) (hS2 : S < 2 ^ n) (hc : conn C S = false) : MU l yX5_splits wsX5_splits 2 46 0 0 D ky A Hs [.ref h, .int (nI S)] (fun r w => r = nI (spc C Hd n S) ∧ isMod ky w h 0 n T C Hd b q J bg pu bu cl mo K fw fd fc fg fo ∧ fr ws w 19 29) := by
  refine MU.of (cc := cX5_splits) (maxL := 4) (ty := .int) (by decide) rfl (Nat.le_of_ble_eq_true rfl) ?_
  intro pg en Rm sg mi av below meth co Qo hRf hRl hRc hRs hx hb hml hown hts hK hret ls hl
  have hl : lv_has ls 4 [(0, .ref h), (1, .int (nI S))] := hl
  have hS : va_S A Hs Hs [] := va_S.rf
  generalize ([] : List Loc) = locs at hS ⊢
  obtain ⟨a1, a2, a3, a4, a5, a6, a7, a8, a9, a10, g19, g20, g21, g22, g23, g24, g25, g26, g27, g28, g29⟩ := id hpr
  have hk := stt_in hS1 hS2 hI.1
  have hn8 := hI.1
  have hp2 := p2_le hn8
  refine lv_aload_n hx hb dX5_splits_0 rfl (lv_at hl 0 rfl) ?_
  refine lv_aload_n hx hb dX5_splits_1 rfl (lv_at hl 0 rfl) ?_
  refine lv_iload_n hx hb dX5_splits_2 rfl (lv_at hl 1 rfl) ?_
  refine pcV (c_X5_isSet hP ⟨a1, a2, a3, a4, a5, a6, a7, a8, a9, a10, g19, g20, g21, g22, g23, g24, g25, g26, g27, g28, g29⟩ (by omega)) ⟨hx, hb, hml, hown, hts⟩ hK gX5_splits_X5_isSet rfl hd_X5_isSet ⟨by omega, by omega⟩ (va_recv hK hP (ci := 5) (q0 := 19) rfl g19) rfl hl.1 rfl (Nat.le_of_ble_eq_true rfl) dX5_splits_3 ⟨Nat.zero_le _, Nat.zero_le _⟩ hS (fun locs hS => ?_)
  refine sb_if_eq (tgt := 13) hx hb dX5_splits_6 (by decide) (fun q => absurd q (by rw [hk]; decide)) (fun _ => ?_)
  refine lv_iconst (v := nI 0) hx hb dX5_splits_9 ci_0 ?_
  refine lv_goto (tgt := 14) hx hb dX5_splits_10 (by decide) ?_
  refine mcV (c_X5_holds hP hD ⟨a1, a2, a3, a4, a5, a6, a7, a8, a9, a10, g19, g20, g21, g22, g23, g24, g25, g26, g27, g28, g29⟩ (by decide)) ⟨hx, hb, hml, hown, hts⟩ hK gX5_splits_X5_holds rfl hd_X5_holds ⟨by omega, by omega⟩ (va_recv hK hP (ci := 5) (q0 := 19) rfl g19) rfl hl.1 rfl (Nat.le_of_ble_eq_true rfl) dX5_splits_14 ⟨Nat.zero_le _, Nat.zero_le _⟩ hS (fun r ws2 H locs hq4 hP hD hS => ?_)
  obtain ⟨rfl, hpr, fr3⟩ := hq4
  obtain ⟨a1, a2, a3, a4, a5, a6, a7, a8, a9, a10, g19, g20, g21, g22, g23, g24, g25, g26, g27, g28, g29⟩ := id hpr
  refine sv_top (y := nI 1) rfl ?_
  refine sn_if_ne (tgt := 22) hx hb dX5_splits_17 (by decide) (by decide) (fun _ => ?_) (fun q => absurd q (by decide))
  refine lv_iconst (v := nI 0) hx hb dX5_splits_22 ci_0 ?_
  refine lv_istore_n (lv' := [(2, .int (nI 0)), (0, .ref h), (1, .int (nI S))]) hx hb dX5_splits_23 rfl hl (by decide) rfl (fun ls hl => ?_)
  refine lv_iconst (v := nI 1) hx hb dX5_splits_24 ci_1 ?_
  refine lv_istore_n (lv' := [(3, .int (nI 1)), (2, .int (nI 0)), (0, .ref h), (1, .int (nI S))]) hx hb dX5_splits_25 rfl hl (by decide) rfl (fun ls hl => ?_)
  have L26 : ∀ (L26d : Nat) (j : Nat), S - j < L26d → ∀ (wl26 : va_W) (H : Heap), j = 0 → va_P D CL wl26 H → va_D A wl26 → wl26[19]? = some (h, .inr (5, [.int (nI 0), .int (nI n), .ref a1, .ref a2, .ref a3, .int (nI b), .int (bI q), .ref a4, .int (bI bg), .int (nI pu), .int (nI bu), .int cl, .int mo, .ref a5, .ref a6, .ref a7, .ref a8, .ref a9, .ref a10])) → wl26[20]? = some (a1, .inl (ky.1, 8, .inl (fun i => nI (T i)))) → wl26[21]? = some (a2, .inl (ky.1, 8, .inl (fun i => nI (C i)))) → wl26[22]? = some (a3, .inl (ky.1, 48, .inl (fun i => nI (Hd i)))) → wl26[23]? = some (a4, .inl (ky.1, 8, .inl (fun i => nI (J i)))) → wl26[24]? = some (a5, .inl (ky.1, 8, .inl (fun i => nI (K i)))) → wl26[25]? = some (a6, .inl (ky.1, 256, .inl fw)) → wl26[26]? = some (a7, .inl (ky.1, 256, .inl fd)) → wl26[27]? = some (a8, .inl (ky.1, 256, .inl fc)) → wl26[28]? = some (a9, .inl (ky.1, 2048, .inl fg)) → wl26[29]? = some (a10, .inl (ky.1, 8, .inl fo)) → fr ws wl26 19 29 → ∀ (ls : Array Slot) (locs : List Loc), lv_has ls 4 [(2, .int (nI (itr (fun j x => if spl C Hd n S (j + 1) = true then x + 1 else x) j 0))), (3, .int (nI (j + 1))), (0, .ref h), (1, .int (nI S))] → va_S A Hs H locs → W pg l en Rm sg mi av below meth co H locs 0 0 Qo (F0 mi 26 ls []) := by
    intro L26d
    induction L26d with
    | zero => intro j hfu; exact absurd hfu (Nat.not_lt_zero _)
    | succ L26d ih26 =>
      intro j hfu wl26 H i26_0 hP hD g19 g20 g21 g22 g23 g24 g25 g26 g27 g28 g29 frwl26 ls locs hl hS
      refine lv_iload_n hx hb dX5_splits_26 rfl (lv_at hl 1 rfl) ?_
      refine lv_iload_n hx hb dX5_splits_27 rfl (lv_at hl 3 rfl) ?_
      refine sn_icmp_ge (tgt := 62) hx hb dX5_splits_28 (by decide) (by omega) (by omega) (fun c6 => ?_) (fun c6 => ?_)
      · refine lv_iload_n hx hb dX5_splits_62 rfl (lv_at hl 0 rfl) ?_
        exact hret 63 ls _ _ locs _ dX5_splits_63 hP hD hS rfl (⟨by unfold spc; rw [hc, show j = 0 from i26_0]; rfl, ⟨a1, a2, a3, a4, a5, a6, a7, a8, a9, a10, g19, g20, g21, g22, g23, g24, g25, g26, g27, g28, g29⟩, (fr.wd frwl26 : fr _ _ 19 29)⟩)
      · refine lv_aload_n hx hb dX5_splits_31 rfl (lv_at hl 2 rfl) ?_
        refine lv_iload_n hx hb dX5_splits_32 rfl (lv_at hl 3 rfl) ?_
        refine pcV (c_X5_hangsTogether hP ⟨a1, a2, a3, a4, a5, a6, a7, a8, a9, a10, g19, g20, g21, g22, g23, g24, g25, g26, g27, g28, g29⟩ hI (by omega)) ⟨hx, hb, hml, hown, hts⟩ hK gX5_splits_X5_hangsTogether rfl hd_X5_hangsTogether ⟨by omega, by omega⟩ (va_recv hK hP (ci := 5) (q0 := 19) rfl g19) rfl hl.1 rfl (Nat.le_of_ble_eq_true rfl) dX5_splits_33 ⟨Nat.zero_le _, Nat.zero_le _⟩ hS (fun locs hS => ?_)
        refine sb_if_eq (tgt := 62) hx hb dX5_splits_36 (by decide) (fun _ => ?_) (fun q => absurd q (by rw [hc]; decide))
        refine lv_iload_n hx hb dX5_splits_62 rfl (lv_at hl 0 rfl) ?_
        exact hret 63 ls _ _ locs _ dX5_splits_63 hP hD hS rfl (⟨by unfold spc; rw [hc, show j = 0 from i26_0]; rfl, ⟨a1, a2, a3, a4, a5, a6, a7, a8, a9, a10, g19, g20, g21, g22, g23, g24, g25, g26, g27, g28, g29⟩, (fr.wd frwl26 : fr _ _ 19 29)⟩)
  exact L26 ((S - 0) + 1) 0 (Nat.lt_succ_self _) _ _ rfl hP hD g19 g20 g21 g22 g23 g24 g25 g26 g27 g28 g29 (fr.wd fr3 : fr _ _ 19 29) ls locs (lv_sub hl [1, 0, 2, 3] rfl) hS
set_option maxHeartbeats 4000000 in
set_option maxRecDepth 100000 in
theorem c_X5_isOf_1 {l : Launch} {D : va_G} {ky : kT} {A : Nat → Prop} {Hs : Heap} {ws : va_W} (hP : va_P D CL ws Hs) (hD : va_D A ws) {h th n : Nat} {T C Hd : Nat → Nat} {b : Nat} {q : Bool} {J : Nat → Nat} {bg : Bool} {pu bu : Nat} {cl mo : Int32} {K : Nat → Nat} {fw fd fc fg fo : Nat → Int32} (hpr : isMod ky ws h th n T C Hd b q J bg pu bu cl mo K fw fd fc fg fo) {x y : Int32} (hk : prt n y = false) : MU l yX5_isOf wsX5_isOf 1 21 0 0 D ky A Hs [.ref h, .int x, .int y] (fun r w => r = nI 0 ∧ isMod ky w h 1 n T C Hd b q J bg pu bu cl mo K fw fd fc fg fo ∧ fr ws w 19 29) := by
  refine MU.of (cc := cX5_isOf) (maxL := 3) (ty := .boolean) (by decide) rfl (Nat.le_of_ble_eq_true rfl) ?_
  intro pg en Rm sg mi av below meth co Qo hRf hRl hRc hRs hx hb hml hown hts hK hret ls hl
  have hl : lv_has ls 3 [(0, .ref h), (1, .int x), (2, .int y)] := hl
  have hS : va_S A Hs Hs [] := va_S.rf
  generalize ([] : List Loc) = locs at hS ⊢
  obtain ⟨a1, a2, a3, a4, a5, a6, a7, a8, a9, a10, g19, g20, g21, g22, g23, g24, g25, g26, g27, g28, g29⟩ := id hpr
  refine lv_aload_n hx hb dX5_isOf_0 rfl (lv_at hl 0 rfl) ?_
  refine lv_aload_n hx hb dX5_isOf_1 rfl (lv_at hl 0 rfl) ?_
  refine lv_iload_n hx hb dX5_isOf_2 rfl (lv_at hl 2 rfl) ?_
  refine pcV (c_X5_isPart hP ⟨a1, a2, a3, a4, a5, a6, a7, a8, a9, a10, g19, g20, g21, g22, g23, g24, g25, g26, g27, g28, g29⟩ ) ⟨hx, hb, hml, hown, hts⟩ hK gX5_isOf_X5_isPart rfl hd_X5_isPart ⟨by omega, by omega⟩ (va_recv hK hP (ci := 5) (q0 := 19) rfl g19) rfl hl.1 rfl (Nat.le_of_ble_eq_true rfl) dX5_isOf_3 ⟨Nat.zero_le _, Nat.zero_le _⟩ hS (fun locs hS => ?_)
  refine sb_if_ne (tgt := 13) hx hb dX5_isOf_6 (by decide) (fun q => absurd q (by rw [hk]; decide)) (fun _ => ?_)
  refine lv_iconst (v := nI 1) hx hb dX5_isOf_9 ci_1 ?_
  refine lv_goto (tgt := 35) hx hb dX5_isOf_10 (by decide) ?_
  refine mcV (c_X5_holds hP hD ⟨a1, a2, a3, a4, a5, a6, a7, a8, a9, a10, g19, g20, g21, g22, g23, g24, g25, g26, g27, g28, g29⟩ (by decide)) ⟨hx, hb, hml, hown, hts⟩ hK gX5_isOf_X5_holds rfl hd_X5_holds ⟨by omega, by omega⟩ (va_recv hK hP (ci := 5) (q0 := 19) rfl g19) rfl hl.1 rfl (Nat.le_of_ble_eq_true rfl) dX5_isOf_35 ⟨Nat.zero_le _, Nat.zero_le _⟩ hS (fun r ws2 H locs hq4 hP hD hS => ?_)
  obtain ⟨rfl, hpr, fr3⟩ := hq4
  obtain ⟨a1, a2, a3, a4, a5, a6, a7, a8, a9, a10, g19, g20, g21, g22, g23, g24, g25, g26, g27, g28, g29⟩ := id hpr
  refine sv_top (y := nI 0) rfl ?_
  exact hret 38 ls _ _ locs _ dX5_isOf_38 hP hD hS rfl (⟨rfl, ⟨a1, a2, a3, a4, a5, a6, a7, a8, a9, a10, g19, g20, g21, g22, g23, g24, g25, g26, g27, g28, g29⟩, (fr.wd fr3 : fr _ _ 19 29)⟩)
set_option maxHeartbeats 4000000 in
set_option maxRecDepth 100000 in
theorem c_X5_isOf_2a {l : Launch} {D : va_G} {ky : kT} {A : Nat → Prop} {Hs : Heap} {ws : va_W} (hP : va_P D CL ws Hs) (hD : va_D A ws) {h th n : Nat} {T C Hd : Nat → Nat} {b : Nat} {q : Bool} {J : Nat → Nat} {bg : Bool} {pu bu : Nat} {cl mo : Int32} {K : Nat → Nat} {fw fd fc fg fo : Nat → Int32} (hpr : isMod ky ws h th n T C Hd b q J bg pu bu cl mo K fw fd fc fg fo) {x : Int32} {pt : Nat} (hn8 : n ≤ 8) (hp : pt < n) (hk2 : stt n x = false) : MU l yX5_isOf wsX5_isOf 2 41 0 0 D ky A Hs [.ref h, .int x, .int (nI pt)] (fun r w => r = nI 0 ∧ isMod ky w h 2 n T C Hd b q J bg pu bu cl mo K fw fd fc fg fo ∧ fr ws w 19 29) := by
  refine MU.of (cc := cX5_isOf) (maxL := 3) (ty := .boolean) (by decide) rfl (Nat.le_of_ble_eq_true rfl) ?_
  intro pg en Rm sg mi av below meth co Qo hRf hRl hRc hRs hx hb hml hown hts hK hret ls hl
  have hl : lv_has ls 3 [(0, .ref h), (1, .int x), (2, .int (nI pt))] := hl
  have hS : va_S A Hs Hs [] := va_S.rf
  generalize ([] : List Loc) = locs at hS ⊢
  obtain ⟨a1, a2, a3, a4, a5, a6, a7, a8, a9, a10, g19, g20, g21, g22, g23, g24, g25, g26, g27, g28, g29⟩ := id hpr
  have hk := prt_in hp hn8
  refine lv_aload_n hx hb dX5_isOf_0 rfl (lv_at hl 0 rfl) ?_
  refine lv_aload_n hx hb dX5_isOf_1 rfl (lv_at hl 0 rfl) ?_
  refine lv_iload_n hx hb dX5_isOf_2 rfl (lv_at hl 2 rfl) ?_
  refine pcV (c_X5_isPart hP ⟨a1, a2, a3, a4, a5, a6, a7, a8, a9, a10, g19, g20, g21, g22, g23, g24, g25, g26, g27, g28, g29⟩ ) ⟨hx, hb, hml, hown, hts⟩ hK gX5_isOf_X5_isPart rfl hd_X5_isPart ⟨by omega, by omega⟩ (va_recv hK hP (ci := 5) (q0 := 19) rfl g19) rfl hl.1 rfl (Nat.le_of_ble_eq_true rfl) dX5_isOf_3 ⟨Nat.zero_le _, Nat.zero_le _⟩ hS (fun locs hS => ?_)
  refine sb_if_ne (tgt := 13) hx hb dX5_isOf_6 (by decide) (fun _ => ?_) (fun q => absurd q (by rw [hk]; decide))
  refine lv_aload_n hx hb dX5_isOf_13 rfl (lv_at hl 0 rfl) ?_
  refine lv_iload_n hx hb dX5_isOf_14 rfl (lv_at hl 1 rfl) ?_
  refine pcV (c_X5_isSet hP ⟨a1, a2, a3, a4, a5, a6, a7, a8, a9, a10, g19, g20, g21, g22, g23, g24, g25, g26, g27, g28, g29⟩ (by omega)) ⟨hx, hb, hml, hown, hts⟩ hK gX5_isOf_X5_isSet rfl hd_X5_isSet ⟨by omega, by omega⟩ (va_recv hK hP (ci := 5) (q0 := 19) rfl g19) rfl hl.1 rfl (Nat.le_of_ble_eq_true rfl) dX5_isOf_15 ⟨Nat.zero_le _, Nat.zero_le _⟩ hS (fun locs hS => ?_)
  refine sb_if_eq (tgt := 34) hx hb dX5_isOf_18 (by decide) (fun _ => ?_) (fun q => absurd q (by rw [hk2]; decide))
  refine lv_iconst (v := nI 2) hx hb dX5_isOf_34 ci_2 ?_
  refine mcV (c_X5_holds hP hD ⟨a1, a2, a3, a4, a5, a6, a7, a8, a9, a10, g19, g20, g21, g22, g23, g24, g25, g26, g27, g28, g29⟩ (by decide)) ⟨hx, hb, hml, hown, hts⟩ hK gX5_isOf_X5_holds rfl hd_X5_holds ⟨by omega, by omega⟩ (va_recv hK hP (ci := 5) (q0 := 19) rfl g19) rfl hl.1 rfl (Nat.le_of_ble_eq_true rfl) dX5_isOf_35 ⟨Nat.zero_le _, Nat.zero_le _⟩ hS (fun r ws3 H locs hq5 hP hD hS => ?_)
  obtain ⟨rfl, hpr, fr4⟩ := hq5
  obtain ⟨a1, a2, a3, a4, a5, a6, a7, a8, a9, a10, g19, g20, g21, g22, g23, g24, g25, g26, g27, g28, g29⟩ := id hpr
  refine sv_top (y := nI 0) rfl ?_
  exact hret 38 ls _ _ locs _ dX5_isOf_38 hP hD hS rfl (⟨rfl, ⟨a1, a2, a3, a4, a5, a6, a7, a8, a9, a10, g19, g20, g21, g22, g23, g24, g25, g26, g27, g28, g29⟩, (fr.wd fr4 : fr _ _ 19 29)⟩)
set_option maxHeartbeats 4000000 in
set_option maxRecDepth 100000 in
theorem c_X5_isOf_2b {l : Launch} {D : va_G} {ky : kT} {A : Nat → Prop} {Hs : Heap} {ws : va_W} (hP : va_P D CL ws Hs) (hD : va_D A ws) {h th n : Nat} {T C Hd : Nat → Nat} {b : Nat} {q : Bool} {J : Nat → Nat} {bg : Bool} {pu bu : Nat} {cl mo : Int32} {K : Nat → Nat} {fw fd fc fg fo : Nat → Int32} (hpr : isMod ky ws h th n T C Hd b q J bg pu bu cl mo K fw fd fc fg fo) {S pt : Nat} (hn8 : n ≤ 8) (hp : pt < n) (hS1 : 0 < S) (hS2 : S < 2 ^ n) (hb9 : S.testBit pt = false) : MU l yX5_isOf wsX5_isOf 2 41 0 0 D ky A Hs [.ref h, .int (nI S), .int (nI pt)] (fun r w => r = nI 0 ∧ isMod ky w h 2 n T C Hd b q J bg pu bu cl mo K fw fd fc fg fo ∧ fr ws w 19 29) := by
  refine MU.of (cc := cX5_isOf) (maxL := 3) (ty := .boolean) (by decide) rfl (Nat.le_of_ble_eq_true rfl) ?_
  intro pg en Rm sg mi av below meth co Qo hRf hRl hRc hRs hx hb hml hown hts hK hret ls hl
  have hl : lv_has ls 3 [(0, .ref h), (1, .int (nI S)), (2, .int (nI pt))] := hl
  have hS : va_S A Hs Hs [] := va_S.rf
  generalize ([] : List Loc) = locs at hS ⊢
  obtain ⟨a1, a2, a3, a4, a5, a6, a7, a8, a9, a10, g19, g20, g21, g22, g23, g24, g25, g26, g27, g28, g29⟩ := id hpr
  have hk := prt_in hp hn8
  have hk2 := stt_in hS1 hS2 hn8
  have hp2 := p2_le hn8
  refine lv_aload_n hx hb dX5_isOf_0 rfl (lv_at hl 0 rfl) ?_
  refine lv_aload_n hx hb dX5_isOf_1 rfl (lv_at hl 0 rfl) ?_
  refine lv_iload_n hx hb dX5_isOf_2 rfl (lv_at hl 2 rfl) ?_
  refine pcV (c_X5_isPart hP ⟨a1, a2, a3, a4, a5, a6, a7, a8, a9, a10, g19, g20, g21, g22, g23, g24, g25, g26, g27, g28, g29⟩ ) ⟨hx, hb, hml, hown, hts⟩ hK gX5_isOf_X5_isPart rfl hd_X5_isPart ⟨by omega, by omega⟩ (va_recv hK hP (ci := 5) (q0 := 19) rfl g19) rfl hl.1 rfl (Nat.le_of_ble_eq_true rfl) dX5_isOf_3 ⟨Nat.zero_le _, Nat.zero_le _⟩ hS (fun locs hS => ?_)
  refine sb_if_ne (tgt := 13) hx hb dX5_isOf_6 (by decide) (fun _ => ?_) (fun q => absurd q (by rw [hk]; decide))
  refine lv_aload_n hx hb dX5_isOf_13 rfl (lv_at hl 0 rfl) ?_
  refine lv_iload_n hx hb dX5_isOf_14 rfl (lv_at hl 1 rfl) ?_
  refine pcV (c_X5_isSet hP ⟨a1, a2, a3, a4, a5, a6, a7, a8, a9, a10, g19, g20, g21, g22, g23, g24, g25, g26, g27, g28, g29⟩ (by omega)) ⟨hx, hb, hml, hown, hts⟩ hK gX5_isOf_X5_isSet rfl hd_X5_isSet ⟨by omega, by omega⟩ (va_recv hK hP (ci := 5) (q0 := 19) rfl g19) rfl hl.1 rfl (Nat.le_of_ble_eq_true rfl) dX5_isOf_15 ⟨Nat.zero_le _, Nat.zero_le _⟩ hS (fun locs hS => ?_)
  refine sb_if_eq (tgt := 34) hx hb dX5_isOf_18 (by decide) (fun q => absurd q (by rw [hk2]; decide)) (fun _ => ?_)
  refine lv_iload_n hx hb dX5_isOf_21 rfl (lv_at hl 1 rfl) ?_
  refine lv_iload_n hx hb dX5_isOf_22 rfl (lv_at hl 2 rfl) ?_
  refine lv_ishr hx hb dX5_isOf_23 ?_
  refine sv_top (y := nI (S / 2 ^ pt)) (sh_r (by omega) (by omega)) ?_
  refine lv_iconst (v := nI 1) hx hb dX5_isOf_24 ci_1 ?_
  refine lv_iand hx hb dX5_isOf_25 ?_
  refine sv_top (y := nI (S / 2 ^ pt % 2)) (an_1) ?_
  refine lv_iconst (v := nI 1) hx hb dX5_isOf_26 ci_1 ?_
  refine st_icmp_ne (tgt := 34) hx hb dX5_isOf_27 (by decide) (fun c3 => ?_) (fun c3 => absurd c3 (by rw [hb9]; decide))
  refine lv_iconst (v := nI 2) hx hb dX5_isOf_34 ci_2 ?_
  refine mcV (c_X5_holds hP hD ⟨a1, a2, a3, a4, a5, a6, a7, a8, a9, a10, g19, g20, g21, g22, g23, g24, g25, g26, g27, g28, g29⟩ (by decide)) ⟨hx, hb, hml, hown, hts⟩ hK gX5_isOf_X5_holds rfl hd_X5_holds ⟨by omega, by omega⟩ (va_recv hK hP (ci := 5) (q0 := 19) rfl g19) rfl hl.1 rfl (Nat.le_of_ble_eq_true rfl) dX5_isOf_35 ⟨Nat.zero_le _, Nat.zero_le _⟩ hS (fun r ws4 H locs hq6 hP hD hS => ?_)
  obtain ⟨rfl, hpr, fr5⟩ := hq6
  obtain ⟨a1, a2, a3, a4, a5, a6, a7, a8, a9, a10, g19, g20, g21, g22, g23, g24, g25, g26, g27, g28, g29⟩ := id hpr
  refine sv_top (y := nI 0) rfl ?_
  exact hret 38 ls _ _ locs _ dX5_isOf_38 hP hD hS rfl (⟨rfl, ⟨a1, a2, a3, a4, a5, a6, a7, a8, a9, a10, g19, g20, g21, g22, g23, g24, g25, g26, g27, g28, g29⟩, (fr.wd fr5 : fr _ _ 19 29)⟩)
set_option maxHeartbeats 4000000 in
set_option maxRecDepth 100000 in
theorem c_X5_isOf_0 {l : Launch} {D : va_G} {ky : kT} {A : Nat → Prop} {Hs : Heap} {ws : va_W} (hP : va_P D CL ws Hs) (hD : va_D A ws) {h th n : Nat} {T C Hd : Nat → Nat} {b : Nat} {q : Bool} {J : Nat → Nat} {bg : Bool} {pu bu : Nat} {cl mo : Int32} {K : Nat → Nat} {fw fd fc fg fo : Nat → Int32} (hpr : isMod ky ws h th n T C Hd b q J bg pu bu cl mo K fw fd fc fg fo) {S pt : Nat} (hn8 : n ≤ 8) (hp : pt < n) (hS1 : 0 < S) (hS2 : S < 2 ^ n) (hb9 : S.testBit pt = true) : MU l yX5_isOf wsX5_isOf 2 41 0 0 D ky A Hs [.ref h, .int (nI S), .int (nI pt)] (fun r w => r = nI 1 ∧ isMod ky w h 0 n T C Hd b q J bg pu bu cl mo K fw fd fc fg fo ∧ fr ws w 19 29) := by
  refine MU.of (cc := cX5_isOf) (maxL := 3) (ty := .boolean) (by decide) rfl (Nat.le_of_ble_eq_true rfl) ?_
  intro pg en Rm sg mi av below meth co Qo hRf hRl hRc hRs hx hb hml hown hts hK hret ls hl
  have hl : lv_has ls 3 [(0, .ref h), (1, .int (nI S)), (2, .int (nI pt))] := hl
  have hS : va_S A Hs Hs [] := va_S.rf
  generalize ([] : List Loc) = locs at hS ⊢
  obtain ⟨a1, a2, a3, a4, a5, a6, a7, a8, a9, a10, g19, g20, g21, g22, g23, g24, g25, g26, g27, g28, g29⟩ := id hpr
  have hk := prt_in hp hn8
  have hk2 := stt_in hS1 hS2 hn8
  have hp2 := p2_le hn8
  refine lv_aload_n hx hb dX5_isOf_0 rfl (lv_at hl 0 rfl) ?_
  refine lv_aload_n hx hb dX5_isOf_1 rfl (lv_at hl 0 rfl) ?_
  refine lv_iload_n hx hb dX5_isOf_2 rfl (lv_at hl 2 rfl) ?_
  refine pcV (c_X5_isPart hP ⟨a1, a2, a3, a4, a5, a6, a7, a8, a9, a10, g19, g20, g21, g22, g23, g24, g25, g26, g27, g28, g29⟩ ) ⟨hx, hb, hml, hown, hts⟩ hK gX5_isOf_X5_isPart rfl hd_X5_isPart ⟨by omega, by omega⟩ (va_recv hK hP (ci := 5) (q0 := 19) rfl g19) rfl hl.1 rfl (Nat.le_of_ble_eq_true rfl) dX5_isOf_3 ⟨Nat.zero_le _, Nat.zero_le _⟩ hS (fun locs hS => ?_)
  refine sb_if_ne (tgt := 13) hx hb dX5_isOf_6 (by decide) (fun _ => ?_) (fun q => absurd q (by rw [hk]; decide))
  refine lv_aload_n hx hb dX5_isOf_13 rfl (lv_at hl 0 rfl) ?_
  refine lv_iload_n hx hb dX5_isOf_14 rfl (lv_at hl 1 rfl) ?_
  refine pcV (c_X5_isSet hP ⟨a1, a2, a3, a4, a5, a6, a7, a8, a9, a10, g19, g20, g21, g22, g23, g24, g25, g26, g27, g28, g29⟩ (by omega)) ⟨hx, hb, hml, hown, hts⟩ hK gX5_isOf_X5_isSet rfl hd_X5_isSet ⟨by omega, by omega⟩ (va_recv hK hP (ci := 5) (q0 := 19) rfl g19) rfl hl.1 rfl (Nat.le_of_ble_eq_true rfl) dX5_isOf_15 ⟨Nat.zero_le _, Nat.zero_le _⟩ hS (fun locs hS => ?_)
  refine sb_if_eq (tgt := 34) hx hb dX5_isOf_18 (by decide) (fun q => absurd q (by rw [hk2]; decide)) (fun _ => ?_)
  refine lv_iload_n hx hb dX5_isOf_21 rfl (lv_at hl 1 rfl) ?_
  refine lv_iload_n hx hb dX5_isOf_22 rfl (lv_at hl 2 rfl) ?_
  refine lv_ishr hx hb dX5_isOf_23 ?_
  refine sv_top (y := nI (S / 2 ^ pt)) (sh_r (by omega) (by omega)) ?_
  refine lv_iconst (v := nI 1) hx hb dX5_isOf_24 ci_1 ?_
  refine lv_iand hx hb dX5_isOf_25 ?_
  refine sv_top (y := nI (S / 2 ^ pt % 2)) (an_1) ?_
  refine lv_iconst (v := nI 1) hx hb dX5_isOf_26 ci_1 ?_
  refine st_icmp_ne (tgt := 34) hx hb dX5_isOf_27 (by decide) (fun c3 => absurd hb9 (by rw [c3]; decide)) (fun c3 => ?_)
  refine lv_iconst (v := nI 0) hx hb dX5_isOf_30 ci_0 ?_
  refine lv_goto (tgt := 35) hx hb dX5_isOf_31 (by decide) ?_
  refine mcV (c_X5_holds hP hD ⟨a1, a2, a3, a4, a5, a6, a7, a8, a9, a10, g19, g20, g21, g22, g23, g24, g25, g26, g27, g28, g29⟩ (by decide)) ⟨hx, hb, hml, hown, hts⟩ hK gX5_isOf_X5_holds rfl hd_X5_holds ⟨by omega, by omega⟩ (va_recv hK hP (ci := 5) (q0 := 19) rfl g19) rfl hl.1 rfl (Nat.le_of_ble_eq_true rfl) dX5_isOf_35 ⟨Nat.zero_le _, Nat.zero_le _⟩ hS (fun r ws4 H locs hq6 hP hD hS => ?_)
  obtain ⟨rfl, hpr, fr5⟩ := hq6
  obtain ⟨a1, a2, a3, a4, a5, a6, a7, a8, a9, a10, g19, g20, g21, g22, g23, g24, g25, g26, g27, g28, g29⟩ := id hpr
  refine sv_top (y := nI 1) rfl ?_
  exact hret 38 ls _ _ locs _ dX5_isOf_38 hP hD hS rfl (⟨rfl, ⟨a1, a2, a3, a4, a5, a6, a7, a8, a9, a10, g19, g20, g21, g22, g23, g24, g25, g26, g27, g28, g29⟩, (fr.wd fr5 : fr _ _ 19 29)⟩)
set_option maxHeartbeats 4000000 in
set_option maxRecDepth 100000 in
theorem c_X5_free_1 {l : Launch} {D : va_G} {ky : kT} {A : Nat → Prop} {Hs : Heap} {ws : va_W} (hP : va_P D CL ws Hs) (hD : va_D A ws) {h th n : Nat} {T C Hd : Nat → Nat} {b : Nat} {q : Bool} {J : Nat → Nat} {bg : Bool} {pu bu : Nat} {cl mo : Int32} {K : Nat → Nat} {fw fd fc fg fo : Nat → Int32} (hpr : isMod ky ws h th n T C Hd b q J bg pu bu cl mo K fw fd fc fg fo) {x y : Int32} (hk : prt n y = false) : MU l yX5_free wsX5_free 2 43 0 0 D ky A Hs [.ref h, .int x, .int y] (fun r w => r = nI 0 ∧ isMod ky w h 1 n T C Hd b q J bg pu bu cl mo K fw fd fc fg fo ∧ fr ws w 19 29) := by
  refine MU.of (cc := cX5_free) (maxL := 3) (ty := .int) (by decide) rfl (Nat.le_of_ble_eq_true rfl) ?_
  intro pg en Rm sg mi av below meth co Qo hRf hRl hRc hRs hx hb hml hown hts hK hret ls hl
  have hl : lv_has ls 3 [(0, .ref h), (1, .int x), (2, .int y)] := hl
  have hS : va_S A Hs Hs [] := va_S.rf
  generalize ([] : List Loc) = locs at hS ⊢
  obtain ⟨a1, a2, a3, a4, a5, a6, a7, a8, a9, a10, g19, g20, g21, g22, g23, g24, g25, g26, g27, g28, g29⟩ := id hpr
  refine lv_aload_n hx hb dX5_free_0 rfl (lv_at hl 0 rfl) ?_
  refine lv_iload_n hx hb dX5_free_1 rfl (lv_at hl 1 rfl) ?_
  refine lv_iload_n hx hb dX5_free_2 rfl (lv_at hl 2 rfl) ?_
  refine mcV (c_X5_isOf_1 hP hD ⟨a1, a2, a3, a4, a5, a6, a7, a8, a9, a10, g19, g20, g21, g22, g23, g24, g25, g26, g27, g28, g29⟩ hk) ⟨hx, hb, hml, hown, hts⟩ hK gX5_free_X5_isOf rfl hd_X5_isOf ⟨by omega, by omega⟩ (va_recv hK hP (ci := 5) (q0 := 19) rfl g19) rfl hl.1 rfl (Nat.le_of_ble_eq_true rfl) dX5_free_3 ⟨Nat.zero_le _, Nat.zero_le _⟩ hS (fun r ws1 H locs hq3 hP hD hS => ?_)
  obtain ⟨rfl, hpr, fr2⟩ := hq3
  obtain ⟨a1, a2, a3, a4, a5, a6, a7, a8, a9, a10, g19, g20, g21, g22, g23, g24, g25, g26, g27, g28, g29⟩ := id hpr
  refine sn_if_eq (tgt := 18) hx hb dX5_free_6 (by decide) (by decide) (fun _ => ?_) (fun q => absurd q (by decide))
  refine lv_iconst (v := nI 0) hx hb dX5_free_18 ci_0 ?_
  exact hret 19 ls _ _ locs _ dX5_free_19 hP hD hS rfl (⟨rfl, ⟨a1, a2, a3, a4, a5, a6, a7, a8, a9, a10, g19, g20, g21, g22, g23, g24, g25, g26, g27, g28, g29⟩, (fr.wd fr2 : fr _ _ 19 29)⟩)
set_option maxHeartbeats 4000000 in
set_option maxRecDepth 100000 in
theorem c_X5_canTake_1 {l : Launch} {D : va_G} {ky : kT} {A : Nat → Prop} {Hs : Heap} {ws : va_W} (hP : va_P D CL ws Hs) (hD : va_D A ws) {h th n : Nat} {T C Hd : Nat → Nat} {b : Nat} {q : Bool} {J : Nat → Nat} {bg : Bool} {pu bu : Nat} {cl mo : Int32} {K : Nat → Nat} {fw fd fc fg fo : Nat → Int32} (hpr : isMod ky ws h th n T C Hd b q J bg pu bu cl mo K fw fd fc fg fo) {x y : Int32} (hk : prt n y = false) : MU l yX5_canTake wsX5_canTake 2 43 0 0 D ky A Hs [.ref h, .int x, .int y] (fun r w => r = nI 0 ∧ isMod ky w h 1 n T C Hd b q J bg pu bu cl mo K fw fd fc fg fo ∧ fr ws w 19 29) := by
  refine MU.of (cc := cX5_canTake) (maxL := 3) (ty := .boolean) (by decide) rfl (Nat.le_of_ble_eq_true rfl) ?_
  intro pg en Rm sg mi av below meth co Qo hRf hRl hRc hRs hx hb hml hown hts hK hret ls hl
  have hl : lv_has ls 3 [(0, .ref h), (1, .int x), (2, .int y)] := hl
  have hS : va_S A Hs Hs [] := va_S.rf
  generalize ([] : List Loc) = locs at hS ⊢
  obtain ⟨a1, a2, a3, a4, a5, a6, a7, a8, a9, a10, g19, g20, g21, g22, g23, g24, g25, g26, g27, g28, g29⟩ := id hpr
  refine lv_aload_n hx hb dX5_canTake_0 rfl (lv_at hl 0 rfl) ?_
  refine lv_iload_n hx hb dX5_canTake_1 rfl (lv_at hl 1 rfl) ?_
  refine lv_iload_n hx hb dX5_canTake_2 rfl (lv_at hl 2 rfl) ?_
  refine mcV (c_X5_isOf_1 hP hD ⟨a1, a2, a3, a4, a5, a6, a7, a8, a9, a10, g19, g20, g21, g22, g23, g24, g25, g26, g27, g28, g29⟩ hk) ⟨hx, hb, hml, hown, hts⟩ hK gX5_canTake_X5_isOf rfl hd_X5_isOf ⟨by omega, by omega⟩ (va_recv hK hP (ci := 5) (q0 := 19) rfl g19) rfl hl.1 rfl (Nat.le_of_ble_eq_true rfl) dX5_canTake_3 ⟨Nat.zero_le _, Nat.zero_le _⟩ hS (fun r ws1 H locs hq3 hP hD hS => ?_)
  obtain ⟨rfl, hpr, fr2⟩ := hq3
  obtain ⟨a1, a2, a3, a4, a5, a6, a7, a8, a9, a10, g19, g20, g21, g22, g23, g24, g25, g26, g27, g28, g29⟩ := id hpr
  refine sn_if_eq (tgt := 44) hx hb dX5_canTake_6 (by decide) (by decide) (fun _ => ?_) (fun q => absurd q (by decide))
  refine lv_iconst (v := nI 0) hx hb dX5_canTake_44 ci_0 ?_
  exact hret 45 ls _ _ locs _ dX5_canTake_45 hP hD hS rfl (⟨rfl, ⟨a1, a2, a3, a4, a5, a6, a7, a8, a9, a10, g19, g20, g21, g22, g23, g24, g25, g26, g27, g28, g29⟩, (fr.wd fr2 : fr _ _ 19 29)⟩)
set_option maxHeartbeats 4000000 in
set_option maxRecDepth 100000 in
theorem c_X5_free_2a {l : Launch} {D : va_G} {ky : kT} {A : Nat → Prop} {Hs : Heap} {ws : va_W} (hP : va_P D CL ws Hs) (hD : va_D A ws) {h th n : Nat} {T C Hd : Nat → Nat} {b : Nat} {q : Bool} {J : Nat → Nat} {bg : Bool} {pu bu : Nat} {cl mo : Int32} {K : Nat → Nat} {fw fd fc fg fo : Nat → Int32} (hpr : isMod ky ws h th n T C Hd b q J bg pu bu cl mo K fw fd fc fg fo) {x : Int32} {pt : Nat} (hn8 : n ≤ 8) (hp : pt < n) (hk2 : stt n x = false) : MU l yX5_free wsX5_free 3 63 0 0 D ky A Hs [.ref h, .int x, .int (nI pt)] (fun r w => r = nI 0 ∧ isMod ky w h 2 n T C Hd b q J bg pu bu cl mo K fw fd fc fg fo ∧ fr ws w 19 29) := by
  refine MU.of (cc := cX5_free) (maxL := 3) (ty := .int) (by decide) rfl (Nat.le_of_ble_eq_true rfl) ?_
  intro pg en Rm sg mi av below meth co Qo hRf hRl hRc hRs hx hb hml hown hts hK hret ls hl
  have hl : lv_has ls 3 [(0, .ref h), (1, .int x), (2, .int (nI pt))] := hl
  have hS : va_S A Hs Hs [] := va_S.rf
  generalize ([] : List Loc) = locs at hS ⊢
  obtain ⟨a1, a2, a3, a4, a5, a6, a7, a8, a9, a10, g19, g20, g21, g22, g23, g24, g25, g26, g27, g28, g29⟩ := id hpr
  refine lv_aload_n hx hb dX5_free_0 rfl (lv_at hl 0 rfl) ?_
  refine lv_iload_n hx hb dX5_free_1 rfl (lv_at hl 1 rfl) ?_
  refine lv_iload_n hx hb dX5_free_2 rfl (lv_at hl 2 rfl) ?_
  refine mcV (c_X5_isOf_2a hP hD ⟨a1, a2, a3, a4, a5, a6, a7, a8, a9, a10, g19, g20, g21, g22, g23, g24, g25, g26, g27, g28, g29⟩ hn8 hp hk2) ⟨hx, hb, hml, hown, hts⟩ hK gX5_free_X5_isOf rfl hd_X5_isOf ⟨by omega, by omega⟩ (va_recv hK hP (ci := 5) (q0 := 19) rfl g19) rfl hl.1 rfl (Nat.le_of_ble_eq_true rfl) dX5_free_3 ⟨Nat.zero_le _, Nat.zero_le _⟩ hS (fun r ws1 H locs hq3 hP hD hS => ?_)
  obtain ⟨rfl, hpr, fr2⟩ := hq3
  obtain ⟨a1, a2, a3, a4, a5, a6, a7, a8, a9, a10, g19, g20, g21, g22, g23, g24, g25, g26, g27, g28, g29⟩ := id hpr
  refine sn_if_eq (tgt := 18) hx hb dX5_free_6 (by decide) (by decide) (fun _ => ?_) (fun q => absurd q (by decide))
  refine lv_iconst (v := nI 0) hx hb dX5_free_18 ci_0 ?_
  exact hret 19 ls _ _ locs _ dX5_free_19 hP hD hS rfl (⟨rfl, ⟨a1, a2, a3, a4, a5, a6, a7, a8, a9, a10, g19, g20, g21, g22, g23, g24, g25, g26, g27, g28, g29⟩, (fr.wd fr2 : fr _ _ 19 29)⟩)
set_option maxHeartbeats 4000000 in
set_option maxRecDepth 100000 in
theorem c_X5_canTake_2a {l : Launch} {D : va_G} {ky : kT} {A : Nat → Prop} {Hs : Heap} {ws : va_W} (hP : va_P D CL ws Hs) (hD : va_D A ws) {h th n : Nat} {T C Hd : Nat → Nat} {b : Nat} {q : Bool} {J : Nat → Nat} {bg : Bool} {pu bu : Nat} {cl mo : Int32} {K : Nat → Nat} {fw fd fc fg fo : Nat → Int32} (hpr : isMod ky ws h th n T C Hd b q J bg pu bu cl mo K fw fd fc fg fo) {x : Int32} {pt : Nat} (hn8 : n ≤ 8) (hp : pt < n) (hk2 : stt n x = false) : MU l yX5_canTake wsX5_canTake 3 63 0 0 D ky A Hs [.ref h, .int x, .int (nI pt)] (fun r w => r = nI 0 ∧ isMod ky w h 2 n T C Hd b q J bg pu bu cl mo K fw fd fc fg fo ∧ fr ws w 19 29) := by
  refine MU.of (cc := cX5_canTake) (maxL := 3) (ty := .boolean) (by decide) rfl (Nat.le_of_ble_eq_true rfl) ?_
  intro pg en Rm sg mi av below meth co Qo hRf hRl hRc hRs hx hb hml hown hts hK hret ls hl
  have hl : lv_has ls 3 [(0, .ref h), (1, .int x), (2, .int (nI pt))] := hl
  have hS : va_S A Hs Hs [] := va_S.rf
  generalize ([] : List Loc) = locs at hS ⊢
  obtain ⟨a1, a2, a3, a4, a5, a6, a7, a8, a9, a10, g19, g20, g21, g22, g23, g24, g25, g26, g27, g28, g29⟩ := id hpr
  refine lv_aload_n hx hb dX5_canTake_0 rfl (lv_at hl 0 rfl) ?_
  refine lv_iload_n hx hb dX5_canTake_1 rfl (lv_at hl 1 rfl) ?_
  refine lv_iload_n hx hb dX5_canTake_2 rfl (lv_at hl 2 rfl) ?_
  refine mcV (c_X5_isOf_2a hP hD ⟨a1, a2, a3, a4, a5, a6, a7, a8, a9, a10, g19, g20, g21, g22, g23, g24, g25, g26, g27, g28, g29⟩ hn8 hp hk2) ⟨hx, hb, hml, hown, hts⟩ hK gX5_canTake_X5_isOf rfl hd_X5_isOf ⟨by omega, by omega⟩ (va_recv hK hP (ci := 5) (q0 := 19) rfl g19) rfl hl.1 rfl (Nat.le_of_ble_eq_true rfl) dX5_canTake_3 ⟨Nat.zero_le _, Nat.zero_le _⟩ hS (fun r ws1 H locs hq3 hP hD hS => ?_)
  obtain ⟨rfl, hpr, fr2⟩ := hq3
  obtain ⟨a1, a2, a3, a4, a5, a6, a7, a8, a9, a10, g19, g20, g21, g22, g23, g24, g25, g26, g27, g28, g29⟩ := id hpr
  refine sn_if_eq (tgt := 44) hx hb dX5_canTake_6 (by decide) (by decide) (fun _ => ?_) (fun q => absurd q (by decide))
  refine lv_iconst (v := nI 0) hx hb dX5_canTake_44 ci_0 ?_
  exact hret 45 ls _ _ locs _ dX5_canTake_45 hP hD hS rfl (⟨rfl, ⟨a1, a2, a3, a4, a5, a6, a7, a8, a9, a10, g19, g20, g21, g22, g23, g24, g25, g26, g27, g28, g29⟩, (fr.wd fr2 : fr _ _ 19 29)⟩)
set_option maxHeartbeats 4000000 in
set_option maxRecDepth 100000 in
theorem c_X5_free_2b {l : Launch} {D : va_G} {ky : kT} {A : Nat → Prop} {Hs : Heap} {ws : va_W} (hP : va_P D CL ws Hs) (hD : va_D A ws) {h th n : Nat} {T C Hd : Nat → Nat} {b : Nat} {q : Bool} {J : Nat → Nat} {bg : Bool} {pu bu : Nat} {cl mo : Int32} {K : Nat → Nat} {fw fd fc fg fo : Nat → Int32} (hpr : isMod ky ws h th n T C Hd b q J bg pu bu cl mo K fw fd fc fg fo) {S pt : Nat} (hn8 : n ≤ 8) (hp : pt < n) (hS1 : 0 < S) (hS2 : S < 2 ^ n) (hb9 : S.testBit pt = false) : MU l yX5_free wsX5_free 3 63 0 0 D ky A Hs [.ref h, .int (nI S), .int (nI pt)] (fun r w => r = nI 0 ∧ isMod ky w h 2 n T C Hd b q J bg pu bu cl mo K fw fd fc fg fo ∧ fr ws w 19 29) := by
  refine MU.of (cc := cX5_free) (maxL := 3) (ty := .int) (by decide) rfl (Nat.le_of_ble_eq_true rfl) ?_
  intro pg en Rm sg mi av below meth co Qo hRf hRl hRc hRs hx hb hml hown hts hK hret ls hl
  have hl : lv_has ls 3 [(0, .ref h), (1, .int (nI S)), (2, .int (nI pt))] := hl
  have hS : va_S A Hs Hs [] := va_S.rf
  generalize ([] : List Loc) = locs at hS ⊢
  obtain ⟨a1, a2, a3, a4, a5, a6, a7, a8, a9, a10, g19, g20, g21, g22, g23, g24, g25, g26, g27, g28, g29⟩ := id hpr
  refine lv_aload_n hx hb dX5_free_0 rfl (lv_at hl 0 rfl) ?_
  refine lv_iload_n hx hb dX5_free_1 rfl (lv_at hl 1 rfl) ?_
  refine lv_iload_n hx hb dX5_free_2 rfl (lv_at hl 2 rfl) ?_
  refine mcV (c_X5_isOf_2b hP hD ⟨a1, a2, a3, a4, a5, a6, a7, a8, a9, a10, g19, g20, g21, g22, g23, g24, g25, g26, g27, g28, g29⟩ hn8 hp hS1 hS2 hb9) ⟨hx, hb, hml, hown, hts⟩ hK gX5_free_X5_isOf rfl hd_X5_isOf ⟨by omega, by omega⟩ (va_recv hK hP (ci := 5) (q0 := 19) rfl g19) rfl hl.1 rfl (Nat.le_of_ble_eq_true rfl) dX5_free_3 ⟨Nat.zero_le _, Nat.zero_le _⟩ hS (fun r ws1 H locs hq3 hP hD hS => ?_)
  obtain ⟨rfl, hpr, fr2⟩ := hq3
  obtain ⟨a1, a2, a3, a4, a5, a6, a7, a8, a9, a10, g19, g20, g21, g22, g23, g24, g25, g26, g27, g28, g29⟩ := id hpr
  refine sn_if_eq (tgt := 18) hx hb dX5_free_6 (by decide) (by decide) (fun _ => ?_) (fun q => absurd q (by decide))
  refine lv_iconst (v := nI 0) hx hb dX5_free_18 ci_0 ?_
  exact hret 19 ls _ _ locs _ dX5_free_19 hP hD hS rfl (⟨rfl, ⟨a1, a2, a3, a4, a5, a6, a7, a8, a9, a10, g19, g20, g21, g22, g23, g24, g25, g26, g27, g28, g29⟩, (fr.wd fr2 : fr _ _ 19 29)⟩)
set_option maxHeartbeats 4000000 in
set_option maxRecDepth 100000 in
theorem c_X5_canTake_2b {l : Launch} {D : va_G} {ky : kT} {A : Nat → Prop} {Hs : Heap} {ws : va_W} (hP : va_P D CL ws Hs) (hD : va_D A ws) {h th n : Nat} {T C Hd : Nat → Nat} {b : Nat} {q : Bool} {J : Nat → Nat} {bg : Bool} {pu bu : Nat} {cl mo : Int32} {K : Nat → Nat} {fw fd fc fg fo : Nat → Int32} (hpr : isMod ky ws h th n T C Hd b q J bg pu bu cl mo K fw fd fc fg fo) {S pt : Nat} (hn8 : n ≤ 8) (hp : pt < n) (hS1 : 0 < S) (hS2 : S < 2 ^ n) (hb9 : S.testBit pt = false) : MU l yX5_canTake wsX5_canTake 3 63 0 0 D ky A Hs [.ref h, .int (nI S), .int (nI pt)] (fun r w => r = nI 0 ∧ isMod ky w h 2 n T C Hd b q J bg pu bu cl mo K fw fd fc fg fo ∧ fr ws w 19 29) := by
  refine MU.of (cc := cX5_canTake) (maxL := 3) (ty := .boolean) (by decide) rfl (Nat.le_of_ble_eq_true rfl) ?_
  intro pg en Rm sg mi av below meth co Qo hRf hRl hRc hRs hx hb hml hown hts hK hret ls hl
  have hl : lv_has ls 3 [(0, .ref h), (1, .int (nI S)), (2, .int (nI pt))] := hl
  have hS : va_S A Hs Hs [] := va_S.rf
  generalize ([] : List Loc) = locs at hS ⊢
  obtain ⟨a1, a2, a3, a4, a5, a6, a7, a8, a9, a10, g19, g20, g21, g22, g23, g24, g25, g26, g27, g28, g29⟩ := id hpr
  refine lv_aload_n hx hb dX5_canTake_0 rfl (lv_at hl 0 rfl) ?_
  refine lv_iload_n hx hb dX5_canTake_1 rfl (lv_at hl 1 rfl) ?_
  refine lv_iload_n hx hb dX5_canTake_2 rfl (lv_at hl 2 rfl) ?_
  refine mcV (c_X5_isOf_2b hP hD ⟨a1, a2, a3, a4, a5, a6, a7, a8, a9, a10, g19, g20, g21, g22, g23, g24, g25, g26, g27, g28, g29⟩ hn8 hp hS1 hS2 hb9) ⟨hx, hb, hml, hown, hts⟩ hK gX5_canTake_X5_isOf rfl hd_X5_isOf ⟨by omega, by omega⟩ (va_recv hK hP (ci := 5) (q0 := 19) rfl g19) rfl hl.1 rfl (Nat.le_of_ble_eq_true rfl) dX5_canTake_3 ⟨Nat.zero_le _, Nat.zero_le _⟩ hS (fun r ws1 H locs hq3 hP hD hS => ?_)
  obtain ⟨rfl, hpr, fr2⟩ := hq3
  obtain ⟨a1, a2, a3, a4, a5, a6, a7, a8, a9, a10, g19, g20, g21, g22, g23, g24, g25, g26, g27, g28, g29⟩ := id hpr
  refine sn_if_eq (tgt := 44) hx hb dX5_canTake_6 (by decide) (by decide) (fun _ => ?_) (fun q => absurd q (by decide))
  refine lv_iconst (v := nI 0) hx hb dX5_canTake_44 ci_0 ?_
  exact hret 45 ls _ _ locs _ dX5_canTake_45 hP hD hS rfl (⟨rfl, ⟨a1, a2, a3, a4, a5, a6, a7, a8, a9, a10, g19, g20, g21, g22, g23, g24, g25, g26, g27, g28, g29⟩, (fr.wd fr2 : fr _ _ 19 29)⟩)
set_option maxHeartbeats 4000000 in
set_option maxRecDepth 100000 in
theorem c_X5_free_0 {l : Launch} {D : va_G} {ky : kT} {A : Nat → Prop} {Hs : Heap} {ws : va_W} (hP : va_P D CL ws Hs) (hD : va_D A ws) {h th n : Nat} {T C Hd : Nat → Nat} {b : Nat} {q : Bool} {J : Nat → Nat} {bg : Bool} {pu bu : Nat} {cl mo : Int32} {K : Nat → Nat} {fw fd fc fg fo : Nat → Int32} (hpr : isMod ky ws h th n T C Hd b q J bg pu bu cl mo K fw fd fc fg fo) (hI : PI0 n C Hd b) {S pt : Nat} (hp : pt < n) (hS1 : 0 < S) (hS2 : S < 2 ^ n) (hb9 : S.testBit pt = true) : MU l yX5_free wsX5_free 3 63 0 0 D ky A Hs [.ref h, .int (nI S), .int (nI pt)] (fun r w => r = nI (frd Hd S pt) ∧ isMod ky w h 0 n T C Hd b q J bg pu bu cl mo K fw fd fc fg fo ∧ fr ws w 19 29) := by
  refine MU.of (cc := cX5_free) (maxL := 3) (ty := .int) (by decide) rfl (Nat.le_of_ble_eq_true rfl) ?_
  intro pg en Rm sg mi av below meth co Qo hRf hRl hRc hRs hx hb hml hown hts hK hret ls hl
  have hl : lv_has ls 3 [(0, .ref h), (1, .int (nI S)), (2, .int (nI pt))] := hl
  have hS : va_S A Hs Hs [] := va_S.rf
  generalize ([] : List Loc) = locs at hS ⊢
  obtain ⟨a1, a2, a3, a4, a5, a6, a7, a8, a9, a10, g19, g20, g21, g22, g23, g24, g25, g26, g27, g28, g29⟩ := id hpr
  have hn8 := hI.1
  refine lv_aload_n hx hb dX5_free_0 rfl (lv_at hl 0 rfl) ?_
  refine lv_iload_n hx hb dX5_free_1 rfl (lv_at hl 1 rfl) ?_
  refine lv_iload_n hx hb dX5_free_2 rfl (lv_at hl 2 rfl) ?_
  refine mcV (c_X5_isOf_0 hP hD ⟨a1, a2, a3, a4, a5, a6, a7, a8, a9, a10, g19, g20, g21, g22, g23, g24, g25, g26, g27, g28, g29⟩ hI.1 hp hS1 hS2 hb9) ⟨hx, hb, hml, hown, hts⟩ hK gX5_free_X5_isOf rfl hd_X5_isOf ⟨by omega, by omega⟩ (va_recv hK hP (ci := 5) (q0 := 19) rfl g19) rfl hl.1 rfl (Nat.le_of_ble_eq_true rfl) dX5_free_3 ⟨Nat.zero_le _, Nat.zero_le _⟩ hS (fun r ws1 H locs hq3 hP hD hS => ?_)
  obtain ⟨rfl, hpr, fr2⟩ := hq3
  obtain ⟨a1, a2, a3, a4, a5, a6, a7, a8, a9, a10, g19, g20, g21, g22, g23, g24, g25, g26, g27, g28, g29⟩ := id hpr
  refine sn_if_eq (tgt := 18) hx hb dX5_free_6 (by decide) (by decide) (fun q => absurd q (by decide)) (fun _ => ?_)
  refine lv_aload_n hx hb dX5_free_9 rfl (lv_at hl 0 rfl) ?_
  refine lv_iload_n hx hb dX5_free_10 rfl (lv_at hl 1 rfl) ?_
  refine lv_iload_n hx hb dX5_free_11 rfl (lv_at hl 2 rfl) ?_
  refine pcV (c_X5_freeOf hP ⟨a1, a2, a3, a4, a5, a6, a7, a8, a9, a10, g19, g20, g21, g22, g23, g24, g25, g26, g27, g28, g29⟩ hI (by omega)) ⟨hx, hb, hml, hown, hts⟩ hK gX5_free_X5_freeOf rfl hd_X5_freeOf ⟨by omega, by omega⟩ (va_recv hK hP (ci := 5) (q0 := 19) rfl g19) rfl hl.1 rfl (Nat.le_of_ble_eq_true rfl) dX5_free_12 ⟨Nat.zero_le _, Nat.zero_le _⟩ hS (fun locs hS => ?_)
  refine lv_goto (tgt := 19) hx hb dX5_free_15 (by decide) ?_
  exact hret 19 ls _ _ locs _ dX5_free_19 hP hD hS rfl (⟨rfl, ⟨a1, a2, a3, a4, a5, a6, a7, a8, a9, a10, g19, g20, g21, g22, g23, g24, g25, g26, g27, g28, g29⟩, (fr.wd fr2 : fr _ _ 19 29)⟩)
set_option maxHeartbeats 4000000 in
set_option maxRecDepth 100000 in
theorem c_X5_canTake_0 {l : Launch} {D : va_G} {ky : kT} {A : Nat → Prop} {Hs : Heap} {ws : va_W} (hP : va_P D CL ws Hs) (hD : va_D A ws) {h th n : Nat} {T C Hd : Nat → Nat} {b : Nat} {q : Bool} {J : Nat → Nat} {bg : Bool} {pu bu : Nat} {cl mo : Int32} {K : Nat → Nat} {fw fd fc fg fo : Nat → Int32} (hpr : isMod ky ws h th n T C Hd b q J bg pu bu cl mo K fw fd fc fg fo) (hI : PI0 n C Hd b) {S pt : Nat} (hp : pt < n) (hS1 : 0 < S) (hS2 : S < 2 ^ n) (hb9 : S.testBit pt = true) : MU l yX5_canTake wsX5_canTake 3 67 0 0 D ky A Hs [.ref h, .int (nI S), .int (nI pt)] (fun r w => r = bI (tke C Hd b q S pt) ∧ isMod ky w h 0 n T C Hd b q J bg pu bu cl mo K fw fd fc fg fo ∧ fr ws w 19 29) := by
  refine MU.of (cc := cX5_canTake) (maxL := 3) (ty := .boolean) (by decide) rfl (Nat.le_of_ble_eq_true rfl) ?_
  intro pg en Rm sg mi av below meth co Qo hRf hRl hRc hRs hx hb hml hown hts hK hret ls hl
  have hl : lv_has ls 3 [(0, .ref h), (1, .int (nI S)), (2, .int (nI pt))] := hl
  have hS : va_S A Hs Hs [] := va_S.rf
  generalize ([] : List Loc) = locs at hS ⊢
  obtain ⟨a1, a2, a3, a4, a5, a6, a7, a8, a9, a10, g19, g20, g21, g22, g23, g24, g25, g26, g27, g28, g29⟩ := id hpr
  have hn8 := hI.1
  refine lv_aload_n hx hb dX5_canTake_0 rfl (lv_at hl 0 rfl) ?_
  refine lv_iload_n hx hb dX5_canTake_1 rfl (lv_at hl 1 rfl) ?_
  refine lv_iload_n hx hb dX5_canTake_2 rfl (lv_at hl 2 rfl) ?_
  refine mcV (c_X5_isOf_0 hP hD ⟨a1, a2, a3, a4, a5, a6, a7, a8, a9, a10, g19, g20, g21, g22, g23, g24, g25, g26, g27, g28, g29⟩ hI.1 hp hS1 hS2 hb9) ⟨hx, hb, hml, hown, hts⟩ hK gX5_canTake_X5_isOf rfl hd_X5_isOf ⟨by omega, by omega⟩ (va_recv hK hP (ci := 5) (q0 := 19) rfl g19) rfl hl.1 rfl (Nat.le_of_ble_eq_true rfl) dX5_canTake_3 ⟨Nat.zero_le _, Nat.zero_le _⟩ hS (fun r ws1 H locs hq3 hP hD hS => ?_)
  obtain ⟨rfl, hpr, fr2⟩ := hq3
  obtain ⟨a1, a2, a3, a4, a5, a6, a7, a8, a9, a10, g19, g20, g21, g22, g23, g24, g25, g26, g27, g28, g29⟩ := id hpr
  refine sn_if_eq (tgt := 44) hx hb dX5_canTake_6 (by decide) (by decide) (fun q => absurd q (by decide)) (fun _ => ?_)
  refine lv_aload_n hx hb dX5_canTake_9 rfl (lv_at hl 0 rfl) ?_
  refine lv_iload_n hx hb dX5_canTake_10 rfl (lv_at hl 1 rfl) ?_
  refine pcV (c_X5_isSound hP ⟨a1, a2, a3, a4, a5, a6, a7, a8, a9, a10, g19, g20, g21, g22, g23, g24, g25, g26, g27, g28, g29⟩ hI hS2) ⟨hx, hb, hml, hown, hts⟩ hK gX5_canTake_X5_isSound rfl hd_X5_isSound ⟨by omega, by omega⟩ (va_recv hK hP (ci := 5) (q0 := 19) rfl g19) rfl hl.1 rfl (Nat.le_of_ble_eq_true rfl) dX5_canTake_11 ⟨Nat.zero_le _, Nat.zero_le _⟩ hS (fun locs hS => ?_)
  refine sb_if_eq (tgt := 44) hx hb dX5_canTake_14 (by decide) (fun c5 => ?_) (fun c5 => ?_)
  · refine lv_iconst (v := nI 0) hx hb dX5_canTake_44 ci_0 ?_
    exact hret 45 ls _ _ locs _ dX5_canTake_45 hP hD hS rfl (⟨bI_f (by unfold tke; rw [c5]; rfl), ⟨a1, a2, a3, a4, a5, a6, a7, a8, a9, a10, g19, g20, g21, g22, g23, g24, g25, g26, g27, g28, g29⟩, (fr.wd fr2 : fr _ _ 19 29)⟩)
  · refine lv_aload_n hx hb dX5_canTake_17 rfl (lv_at hl 0 rfl) ?_
    refine lv_iload_n hx hb dX5_canTake_18 rfl (lv_at hl 1 rfl) ?_
    refine lv_iload_n hx hb dX5_canTake_19 rfl (lv_at hl 2 rfl) ?_
    refine pcV (c_X5_freeOf hP ⟨a1, a2, a3, a4, a5, a6, a7, a8, a9, a10, g19, g20, g21, g22, g23, g24, g25, g26, g27, g28, g29⟩ hI (by omega)) ⟨hx, hb, hml, hown, hts⟩ hK gX5_canTake_X5_freeOf rfl hd_X5_freeOf ⟨by omega, by omega⟩ (va_recv hK hP (ci := 5) (q0 := 19) rfl g19) rfl hl.1 rfl (Nat.le_of_ble_eq_true rfl) dX5_canTake_20 ⟨Nat.zero_le _, Nat.zero_le _⟩ hS (fun locs hS => ?_)
    refine sn_if_eq (tgt := 44) hx hb dX5_canTake_23 (by decide) (Nat.lt_trans (frd_lt _ _ _) (by decide)) (fun c6 => ?_) (fun c6 => ?_)
    · refine lv_iconst (v := nI 0) hx hb dX5_canTake_44 ci_0 ?_
      exact hret 45 ls _ _ locs _ dX5_canTake_45 hP hD hS rfl (⟨bI_f (by unfold tke; rw [decide_eq_false (p := frd Hd S pt ≠ 0) (fun z => z c6)]; simp), ⟨a1, a2, a3, a4, a5, a6, a7, a8, a9, a10, g19, g20, g21, g22, g23, g24, g25, g26, g27, g28, g29⟩, (fr.wd fr2 : fr _ _ 19 29)⟩)
    · refine lv_aload_n hx hb dX5_canTake_26 rfl (lv_at hl 0 rfl) ?_
      refine lv_iload_n hx hb dX5_canTake_27 rfl (lv_at hl 1 rfl) ?_
      refine lv_iconst (v := nI 1) hx hb dX5_canTake_28 ci_1 ?_
      refine lv_iload_n hx hb dX5_canTake_29 rfl (lv_at hl 2 rfl) ?_
      refine lv_ishl hx hb dX5_canTake_30 ?_
      refine sv_top (y := nI (2 ^ pt)) (sh_l1 (by omega)) ?_
      refine lv_iconst (v := -1) hx hb dX5_canTake_31 ci_m1 ?_
      refine lv_ixor hx hb dX5_canTake_32 ?_
      refine lv_iand hx hb dX5_canTake_33 ?_
      refine sv_top (y := nI (clr S (2 ^ pt))) (an_not _ _) ?_
      refine pcV (c_X5_isSound hP ⟨a1, a2, a3, a4, a5, a6, a7, a8, a9, a10, g19, g20, g21, g22, g23, g24, g25, g26, g27, g28, g29⟩ hI (clr_lt hS2)) ⟨hx, hb, hml, hown, hts⟩ hK gX5_canTake_X5_isSound rfl hd_X5_isSound ⟨by omega, by omega⟩ (va_recv hK hP (ci := 5) (q0 := 19) rfl g19) rfl hl.1 rfl (Nat.le_of_ble_eq_true rfl) dX5_canTake_34 ⟨Nat.zero_le _, Nat.zero_le _⟩ hS (fun locs hS => ?_)
      refine sb_if_eq (tgt := 44) hx hb dX5_canTake_37 (by decide) (fun c7 => ?_) (fun c7 => ?_)
      · refine lv_iconst (v := nI 0) hx hb dX5_canTake_44 ci_0 ?_
        exact hret 45 ls _ _ locs _ dX5_canTake_45 hP hD hS rfl (⟨bI_f (by unfold tke; rw [c7]; simp), ⟨a1, a2, a3, a4, a5, a6, a7, a8, a9, a10, g19, g20, g21, g22, g23, g24, g25, g26, g27, g28, g29⟩, (fr.wd fr2 : fr _ _ 19 29)⟩)
      · refine lv_iconst (v := nI 1) hx hb dX5_canTake_40 ci_1 ?_
        refine lv_goto (tgt := 45) hx hb dX5_canTake_41 (by decide) ?_
        exact hret 45 ls _ _ locs _ dX5_canTake_45 hP hD hS rfl (⟨bI_t (by unfold tke; rw [c5, decide_eq_true c6, c7]; rfl), ⟨a1, a2, a3, a4, a5, a6, a7, a8, a9, a10, g19, g20, g21, g22, g23, g24, g25, g26, g27, g28, g29⟩, (fr.wd fr2 : fr _ _ 19 29)⟩)
set_option maxHeartbeats 4000000 in
set_option maxRecDepth 100000 in
theorem c_X5_movesWith_1 {l : Launch} {D : va_G} {ky : kT} {A : Nat → Prop} {Hs : Heap} {ws : va_W} (hP : va_P D CL ws Hs) (hD : va_D A ws) {h th n : Nat} {T C Hd : Nat → Nat} {b : Nat} {q : Bool} {J : Nat → Nat} {bg : Bool} {pu bu : Nat} {cl mo : Int32} {K : Nat → Nat} {fw fd fc fg fo : Nat → Int32} (hpr : isMod ky ws h th n T C Hd b q J bg pu bu cl mo K fw fd fc fg fo) {x y : Int32} (hk : (prt n x && prt 6 y) = false) : MU l yX5_movesWith wsX5_movesWith 1 21 0 0 D ky A Hs [.ref h, .int x, .int y] (fun r w => r = nI 0 ∧ isMod ky w h 1 n T C Hd b q J bg pu bu cl mo K fw fd fc fg fo ∧ fr ws w 19 29) := by
  refine MU.of (cc := cX5_movesWith) (maxL := 3) (ty := .int) (by decide) rfl (Nat.le_of_ble_eq_true rfl) ?_
  intro pg en Rm sg mi av below meth co Qo hRf hRl hRc hRs hx hb hml hown hts hK hret ls hl
  have hl : lv_has ls 3 [(0, .ref h), (1, .int x), (2, .int y)] := hl
  have hS : va_S A Hs Hs [] := va_S.rf
  generalize ([] : List Loc) = locs at hS ⊢
  obtain ⟨a1, a2, a3, a4, a5, a6, a7, a8, a9, a10, g19, g20, g21, g22, g23, g24, g25, g26, g27, g28, g29⟩ := id hpr
  refine lv_aload_n hx hb dX5_movesWith_0 rfl (lv_at hl 0 rfl) ?_
  refine lv_aload_n hx hb dX5_movesWith_1 rfl (lv_at hl 0 rfl) ?_
  refine lv_iload_n hx hb dX5_movesWith_2 rfl (lv_at hl 1 rfl) ?_
  refine pcV (c_X5_isPart hP ⟨a1, a2, a3, a4, a5, a6, a7, a8, a9, a10, g19, g20, g21, g22, g23, g24, g25, g26, g27, g28, g29⟩ ) ⟨hx, hb, hml, hown, hts⟩ hK gX5_movesWith_X5_isPart rfl hd_X5_isPart ⟨by omega, by omega⟩ (va_recv hK hP (ci := 5) (q0 := 19) rfl g19) rfl hl.1 rfl (Nat.le_of_ble_eq_true rfl) dX5_movesWith_3 ⟨Nat.zero_le _, Nat.zero_le _⟩ hS (fun locs hS => ?_)
  refine sb_if_eq (tgt := 20) hx hb dX5_movesWith_6 (by decide) (fun c1 => ?_) (fun c1 => ?_)
  · refine lv_iconst (v := nI 1) hx hb dX5_movesWith_20 ci_1 ?_
    refine mcV (c_X5_holds hP hD ⟨a1, a2, a3, a4, a5, a6, a7, a8, a9, a10, g19, g20, g21, g22, g23, g24, g25, g26, g27, g28, g29⟩ (by decide)) ⟨hx, hb, hml, hown, hts⟩ hK gX5_movesWith_X5_holds rfl hd_X5_holds ⟨by omega, by omega⟩ (va_recv hK hP (ci := 5) (q0 := 19) rfl g19) rfl hl.1 rfl (Nat.le_of_ble_eq_true rfl) dX5_movesWith_21 ⟨Nat.zero_le _, Nat.zero_le _⟩ hS (fun r ws2 H locs hq4 hP hD hS => ?_)
    obtain ⟨rfl, hpr, fr3⟩ := hq4
    obtain ⟨a1, a2, a3, a4, a5, a6, a7, a8, a9, a10, g19, g20, g21, g22, g23, g24, g25, g26, g27, g28, g29⟩ := id hpr
    refine sv_top (y := nI 0) rfl ?_
    refine sn_if_eq (tgt := 36) hx hb dX5_movesWith_24 (by decide) (by decide) (fun _ => ?_) (fun q => absurd q (by decide))
    refine lv_iconst (v := nI 0) hx hb dX5_movesWith_36 ci_0 ?_
    exact hret 37 ls _ _ locs _ dX5_movesWith_37 hP hD hS rfl (⟨rfl, ⟨a1, a2, a3, a4, a5, a6, a7, a8, a9, a10, g19, g20, g21, g22, g23, g24, g25, g26, g27, g28, g29⟩, (fr.wd fr3 : fr _ _ 19 29)⟩)
  · refine lv_iload_n hx hb dX5_movesWith_9 rfl (lv_at hl 2 rfl) ?_
    refine pcS (c_X5_isDirection  ) ⟨hx, hb, hml, hown, hts⟩ hK gX5_movesWith_X5_isDirection rfl hd_X5_isDirection ⟨by omega, by omega⟩ rfl hl.1 rfl (Nat.le_of_ble_eq_true rfl) dX5_movesWith_10 ⟨Nat.zero_le _, Nat.zero_le _⟩ hS (fun locs hS => ?_)
    refine sb_if_eq (tgt := 20) hx hb dX5_movesWith_13 (by decide) (fun c6 => ?_) (fun c6 => absurd hk (by rw [c1, c6]; decide))
    refine lv_iconst (v := nI 1) hx hb dX5_movesWith_20 ci_1 ?_
    refine mcV (c_X5_holds hP hD ⟨a1, a2, a3, a4, a5, a6, a7, a8, a9, a10, g19, g20, g21, g22, g23, g24, g25, g26, g27, g28, g29⟩ (by decide)) ⟨hx, hb, hml, hown, hts⟩ hK gX5_movesWith_X5_holds rfl hd_X5_holds ⟨by omega, by omega⟩ (va_recv hK hP (ci := 5) (q0 := 19) rfl g19) rfl hl.1 rfl (Nat.le_of_ble_eq_true rfl) dX5_movesWith_21 ⟨Nat.zero_le _, Nat.zero_le _⟩ hS (fun r ws7 H locs hq9 hP hD hS => ?_)
    obtain ⟨rfl, hpr, fr8⟩ := hq9
    obtain ⟨a1, a2, a3, a4, a5, a6, a7, a8, a9, a10, g19, g20, g21, g22, g23, g24, g25, g26, g27, g28, g29⟩ := id hpr
    refine sv_top (y := nI 0) rfl ?_
    refine sn_if_eq (tgt := 36) hx hb dX5_movesWith_24 (by decide) (by decide) (fun _ => ?_) (fun q => absurd q (by decide))
    refine lv_iconst (v := nI 0) hx hb dX5_movesWith_36 ci_0 ?_
    exact hret 37 ls _ _ locs _ dX5_movesWith_37 hP hD hS rfl (⟨rfl, ⟨a1, a2, a3, a4, a5, a6, a7, a8, a9, a10, g19, g20, g21, g22, g23, g24, g25, g26, g27, g28, g29⟩, (fr.wd fr8 : fr _ _ 19 29)⟩)
set_option maxHeartbeats 4000000 in
set_option maxRecDepth 100000 in
theorem c_X5_movesWith_0 {l : Launch} {D : va_G} {ky : kT} {A : Nat → Prop} {Hs : Heap} {ws : va_W} (hP : va_P D CL ws Hs) (hD : va_D A ws) {h th n : Nat} {T C Hd : Nat → Nat} {b : Nat} {q : Bool} {J : Nat → Nat} {bg : Bool} {pu bu : Nat} {cl mo : Int32} {K : Nat → Nat} {fw fd fc fg fo : Nat → Int32} (hpr : isMod ky ws h th n T C Hd b q J bg pu bu cl mo K fw fd fc fg fo) (hI : PI0 n C Hd b) {pt d : Nat} (hp : pt < n) (hd : d < 6) : MU l yX5_movesWith wsX5_movesWith 1 25 0 0 D ky A Hs [.ref h, .int (nI pt), .int (nI d)] (fun r w => r = nI (mov Hd n pt d) ∧ isMod ky w h 0 n T C Hd b q J bg pu bu cl mo K fw fd fc fg fo ∧ fr ws w 19 29) := by
  refine MU.of (cc := cX5_movesWith) (maxL := 3) (ty := .int) (by decide) rfl (Nat.le_of_ble_eq_true rfl) ?_
  intro pg en Rm sg mi av below meth co Qo hRf hRl hRc hRs hx hb hml hown hts hK hret ls hl
  have hl : lv_has ls 3 [(0, .ref h), (1, .int (nI pt)), (2, .int (nI d))] := hl
  have hS : va_S A Hs Hs [] := va_S.rf
  generalize ([] : List Loc) = locs at hS ⊢
  obtain ⟨a1, a2, a3, a4, a5, a6, a7, a8, a9, a10, g19, g20, g21, g22, g23, g24, g25, g26, g27, g28, g29⟩ := id hpr
  have hk := prt_in hp hI.1
  have hk2 := prt_in hd (by decide)
  refine lv_aload_n hx hb dX5_movesWith_0 rfl (lv_at hl 0 rfl) ?_
  refine lv_aload_n hx hb dX5_movesWith_1 rfl (lv_at hl 0 rfl) ?_
  refine lv_iload_n hx hb dX5_movesWith_2 rfl (lv_at hl 1 rfl) ?_
  refine pcV (c_X5_isPart hP ⟨a1, a2, a3, a4, a5, a6, a7, a8, a9, a10, g19, g20, g21, g22, g23, g24, g25, g26, g27, g28, g29⟩ ) ⟨hx, hb, hml, hown, hts⟩ hK gX5_movesWith_X5_isPart rfl hd_X5_isPart ⟨by omega, by omega⟩ (va_recv hK hP (ci := 5) (q0 := 19) rfl g19) rfl hl.1 rfl (Nat.le_of_ble_eq_true rfl) dX5_movesWith_3 ⟨Nat.zero_le _, Nat.zero_le _⟩ hS (fun locs hS => ?_)
  refine sb_if_eq (tgt := 20) hx hb dX5_movesWith_6 (by decide) (fun q => absurd q (by rw [hk]; decide)) (fun _ => ?_)
  refine lv_iload_n hx hb dX5_movesWith_9 rfl (lv_at hl 2 rfl) ?_
  refine pcS (c_X5_isDirection  ) ⟨hx, hb, hml, hown, hts⟩ hK gX5_movesWith_X5_isDirection rfl hd_X5_isDirection ⟨by omega, by omega⟩ rfl hl.1 rfl (Nat.le_of_ble_eq_true rfl) dX5_movesWith_10 ⟨Nat.zero_le _, Nat.zero_le _⟩ hS (fun locs hS => ?_)
  refine sb_if_eq (tgt := 20) hx hb dX5_movesWith_13 (by decide) (fun q => absurd q (by rw [hk2]; decide)) (fun _ => ?_)
  refine lv_iconst (v := nI 0) hx hb dX5_movesWith_16 ci_0 ?_
  refine lv_goto (tgt := 21) hx hb dX5_movesWith_17 (by decide) ?_
  refine mcV (c_X5_holds hP hD ⟨a1, a2, a3, a4, a5, a6, a7, a8, a9, a10, g19, g20, g21, g22, g23, g24, g25, g26, g27, g28, g29⟩ (by decide)) ⟨hx, hb, hml, hown, hts⟩ hK gX5_movesWith_X5_holds rfl hd_X5_holds ⟨by omega, by omega⟩ (va_recv hK hP (ci := 5) (q0 := 19) rfl g19) rfl hl.1 rfl (Nat.le_of_ble_eq_true rfl) dX5_movesWith_21 ⟨Nat.zero_le _, Nat.zero_le _⟩ hS (fun r ws3 H locs hq5 hP hD hS => ?_)
  obtain ⟨rfl, hpr, fr4⟩ := hq5
  obtain ⟨a1, a2, a3, a4, a5, a6, a7, a8, a9, a10, g19, g20, g21, g22, g23, g24, g25, g26, g27, g28, g29⟩ := id hpr
  refine sv_top (y := nI 1) rfl ?_
  refine sn_if_eq (tgt := 36) hx hb dX5_movesWith_24 (by decide) (by decide) (fun q => absurd q (by decide)) (fun _ => ?_)
  refine lv_aload_n hx hb dX5_movesWith_27 rfl (lv_at hl 0 rfl) ?_
  refine lv_iload_n hx hb dX5_movesWith_28 rfl (lv_at hl 1 rfl) ?_
  refine lv_iload_n hx hb dX5_movesWith_29 rfl (lv_at hl 2 rfl) ?_
  refine pcV (c_X5_moving hP ⟨a1, a2, a3, a4, a5, a6, a7, a8, a9, a10, g19, g20, g21, g22, g23, g24, g25, g26, g27, g28, g29⟩ hI (by omega) (by omega)) ⟨hx, hb, hml, hown, hts⟩ hK gX5_movesWith_X5_moving rfl hd_X5_moving ⟨by omega, by omega⟩ (va_recv hK hP (ci := 5) (q0 := 19) rfl g19) rfl hl.1 rfl (Nat.le_of_ble_eq_true rfl) dX5_movesWith_30 ⟨Nat.zero_le _, Nat.zero_le _⟩ hS (fun locs hS => ?_)
  refine lv_goto (tgt := 37) hx hb dX5_movesWith_33 (by decide) ?_
  exact hret 37 ls _ _ locs _ dX5_movesWith_37 hP hD hS rfl (⟨rfl, ⟨a1, a2, a3, a4, a5, a6, a7, a8, a9, a10, g19, g20, g21, g22, g23, g24, g25, g26, g27, g28, g29⟩, (fr.wd fr4 : fr _ _ 19 29)⟩)
set_option maxHeartbeats 4000000 in
set_option maxRecDepth 100000 in
theorem c_X5_boundTo_1 {l : Launch} {D : va_G} {ky : kT} {A : Nat → Prop} {Hs : Heap} {ws : va_W} (hP : va_P D CL ws Hs) (hD : va_D A ws) {h th n : Nat} {T C Hd : Nat → Nat} {b : Nat} {q : Bool} {J : Nat → Nat} {bg : Bool} {pu bu : Nat} {cl mo : Int32} {K : Nat → Nat} {fw fd fc fg fo : Nat → Int32} (hpr : isMod ky ws h th n T C Hd b q J bg pu bu cl mo K fw fd fc fg fo) {x y : Int32} (hk : (prt n x && prt 6 y) = false) : MU l yX5_boundTo wsX5_boundTo 1 21 0 0 D ky A Hs [.ref h, .int x, .int y] (fun r w => r = nI 0 ∧ isMod ky w h 1 n T C Hd b q J bg pu bu cl mo K fw fd fc fg fo ∧ fr ws w 19 29) := by
  refine MU.of (cc := cX5_boundTo) (maxL := 3) (ty := .int) (by decide) rfl (Nat.le_of_ble_eq_true rfl) ?_
  intro pg en Rm sg mi av below meth co Qo hRf hRl hRc hRs hx hb hml hown hts hK hret ls hl
  have hl : lv_has ls 3 [(0, .ref h), (1, .int x), (2, .int y)] := hl
  have hS : va_S A Hs Hs [] := va_S.rf
  generalize ([] : List Loc) = locs at hS ⊢
  obtain ⟨a1, a2, a3, a4, a5, a6, a7, a8, a9, a10, g19, g20, g21, g22, g23, g24, g25, g26, g27, g28, g29⟩ := id hpr
  refine lv_aload_n hx hb dX5_boundTo_0 rfl (lv_at hl 0 rfl) ?_
  refine lv_aload_n hx hb dX5_boundTo_1 rfl (lv_at hl 0 rfl) ?_
  refine lv_iload_n hx hb dX5_boundTo_2 rfl (lv_at hl 1 rfl) ?_
  refine pcV (c_X5_isPart hP ⟨a1, a2, a3, a4, a5, a6, a7, a8, a9, a10, g19, g20, g21, g22, g23, g24, g25, g26, g27, g28, g29⟩ ) ⟨hx, hb, hml, hown, hts⟩ hK gX5_boundTo_X5_isPart rfl hd_X5_isPart ⟨by omega, by omega⟩ (va_recv hK hP (ci := 5) (q0 := 19) rfl g19) rfl hl.1 rfl (Nat.le_of_ble_eq_true rfl) dX5_boundTo_3 ⟨Nat.zero_le _, Nat.zero_le _⟩ hS (fun locs hS => ?_)
  refine sb_if_eq (tgt := 20) hx hb dX5_boundTo_6 (by decide) (fun c1 => ?_) (fun c1 => ?_)
  · refine lv_iconst (v := nI 1) hx hb dX5_boundTo_20 ci_1 ?_
    refine mcV (c_X5_holds hP hD ⟨a1, a2, a3, a4, a5, a6, a7, a8, a9, a10, g19, g20, g21, g22, g23, g24, g25, g26, g27, g28, g29⟩ (by decide)) ⟨hx, hb, hml, hown, hts⟩ hK gX5_boundTo_X5_holds rfl hd_X5_holds ⟨by omega, by omega⟩ (va_recv hK hP (ci := 5) (q0 := 19) rfl g19) rfl hl.1 rfl (Nat.le_of_ble_eq_true rfl) dX5_boundTo_21 ⟨Nat.zero_le _, Nat.zero_le _⟩ hS (fun r ws2 H locs hq4 hP hD hS => ?_)
    obtain ⟨rfl, hpr, fr3⟩ := hq4
    obtain ⟨a1, a2, a3, a4, a5, a6, a7, a8, a9, a10, g19, g20, g21, g22, g23, g24, g25, g26, g27, g28, g29⟩ := id hpr
    refine sv_top (y := nI 0) rfl ?_
    refine sn_if_eq (tgt := 36) hx hb dX5_boundTo_24 (by decide) (by decide) (fun _ => ?_) (fun q => absurd q (by decide))
    refine lv_iconst (v := nI 0) hx hb dX5_boundTo_36 ci_0 ?_
    exact hret 37 ls _ _ locs _ dX5_boundTo_37 hP hD hS rfl (⟨rfl, ⟨a1, a2, a3, a4, a5, a6, a7, a8, a9, a10, g19, g20, g21, g22, g23, g24, g25, g26, g27, g28, g29⟩, (fr.wd fr3 : fr _ _ 19 29)⟩)
  · refine lv_iload_n hx hb dX5_boundTo_9 rfl (lv_at hl 2 rfl) ?_
    refine pcS (c_X5_isDirection  ) ⟨hx, hb, hml, hown, hts⟩ hK gX5_boundTo_X5_isDirection rfl hd_X5_isDirection ⟨by omega, by omega⟩ rfl hl.1 rfl (Nat.le_of_ble_eq_true rfl) dX5_boundTo_10 ⟨Nat.zero_le _, Nat.zero_le _⟩ hS (fun locs hS => ?_)
    refine sb_if_eq (tgt := 20) hx hb dX5_boundTo_13 (by decide) (fun c6 => ?_) (fun c6 => absurd hk (by rw [c1, c6]; decide))
    refine lv_iconst (v := nI 1) hx hb dX5_boundTo_20 ci_1 ?_
    refine mcV (c_X5_holds hP hD ⟨a1, a2, a3, a4, a5, a6, a7, a8, a9, a10, g19, g20, g21, g22, g23, g24, g25, g26, g27, g28, g29⟩ (by decide)) ⟨hx, hb, hml, hown, hts⟩ hK gX5_boundTo_X5_holds rfl hd_X5_holds ⟨by omega, by omega⟩ (va_recv hK hP (ci := 5) (q0 := 19) rfl g19) rfl hl.1 rfl (Nat.le_of_ble_eq_true rfl) dX5_boundTo_21 ⟨Nat.zero_le _, Nat.zero_le _⟩ hS (fun r ws7 H locs hq9 hP hD hS => ?_)
    obtain ⟨rfl, hpr, fr8⟩ := hq9
    obtain ⟨a1, a2, a3, a4, a5, a6, a7, a8, a9, a10, g19, g20, g21, g22, g23, g24, g25, g26, g27, g28, g29⟩ := id hpr
    refine sv_top (y := nI 0) rfl ?_
    refine sn_if_eq (tgt := 36) hx hb dX5_boundTo_24 (by decide) (by decide) (fun _ => ?_) (fun q => absurd q (by decide))
    refine lv_iconst (v := nI 0) hx hb dX5_boundTo_36 ci_0 ?_
    exact hret 37 ls _ _ locs _ dX5_boundTo_37 hP hD hS rfl (⟨rfl, ⟨a1, a2, a3, a4, a5, a6, a7, a8, a9, a10, g19, g20, g21, g22, g23, g24, g25, g26, g27, g28, g29⟩, (fr.wd fr8 : fr _ _ 19 29)⟩)
set_option maxHeartbeats 4000000 in
set_option maxRecDepth 100000 in
theorem c_X5_boundTo_0 {l : Launch} {D : va_G} {ky : kT} {A : Nat → Prop} {Hs : Heap} {ws : va_W} (hP : va_P D CL ws Hs) (hD : va_D A ws) {h th n : Nat} {T C Hd : Nat → Nat} {b : Nat} {q : Bool} {J : Nat → Nat} {bg : Bool} {pu bu : Nat} {cl mo : Int32} {K : Nat → Nat} {fw fd fc fg fo : Nat → Int32} (hpr : isMod ky ws h th n T C Hd b q J bg pu bu cl mo K fw fd fc fg fo) (hI : PI0 n C Hd b) {pt d : Nat} (hp : pt < n) (hd : d < 6) : MU l yX5_boundTo wsX5_boundTo 2 51 0 0 D ky A Hs [.ref h, .int (nI pt), .int (nI d)] (fun r w => r = nI (bnd Hd n pt d) ∧ isMod ky w h 0 n T C Hd b q J bg pu bu cl mo K fw fd fc fg fo ∧ fr ws w 19 29) := by
  refine MU.of (cc := cX5_boundTo) (maxL := 3) (ty := .int) (by decide) rfl (Nat.le_of_ble_eq_true rfl) ?_
  intro pg en Rm sg mi av below meth co Qo hRf hRl hRc hRs hx hb hml hown hts hK hret ls hl
  have hl : lv_has ls 3 [(0, .ref h), (1, .int (nI pt)), (2, .int (nI d))] := hl
  have hS : va_S A Hs Hs [] := va_S.rf
  generalize ([] : List Loc) = locs at hS ⊢
  obtain ⟨a1, a2, a3, a4, a5, a6, a7, a8, a9, a10, g19, g20, g21, g22, g23, g24, g25, g26, g27, g28, g29⟩ := id hpr
  have hk := prt_in hp hI.1
  have hk2 := prt_in hd (by decide)
  refine lv_aload_n hx hb dX5_boundTo_0 rfl (lv_at hl 0 rfl) ?_
  refine lv_aload_n hx hb dX5_boundTo_1 rfl (lv_at hl 0 rfl) ?_
  refine lv_iload_n hx hb dX5_boundTo_2 rfl (lv_at hl 1 rfl) ?_
  refine pcV (c_X5_isPart hP ⟨a1, a2, a3, a4, a5, a6, a7, a8, a9, a10, g19, g20, g21, g22, g23, g24, g25, g26, g27, g28, g29⟩ ) ⟨hx, hb, hml, hown, hts⟩ hK gX5_boundTo_X5_isPart rfl hd_X5_isPart ⟨by omega, by omega⟩ (va_recv hK hP (ci := 5) (q0 := 19) rfl g19) rfl hl.1 rfl (Nat.le_of_ble_eq_true rfl) dX5_boundTo_3 ⟨Nat.zero_le _, Nat.zero_le _⟩ hS (fun locs hS => ?_)
  refine sb_if_eq (tgt := 20) hx hb dX5_boundTo_6 (by decide) (fun q => absurd q (by rw [hk]; decide)) (fun _ => ?_)
  refine lv_iload_n hx hb dX5_boundTo_9 rfl (lv_at hl 2 rfl) ?_
  refine pcS (c_X5_isDirection  ) ⟨hx, hb, hml, hown, hts⟩ hK gX5_boundTo_X5_isDirection rfl hd_X5_isDirection ⟨by omega, by omega⟩ rfl hl.1 rfl (Nat.le_of_ble_eq_true rfl) dX5_boundTo_10 ⟨Nat.zero_le _, Nat.zero_le _⟩ hS (fun locs hS => ?_)
  refine sb_if_eq (tgt := 20) hx hb dX5_boundTo_13 (by decide) (fun q => absurd q (by rw [hk2]; decide)) (fun _ => ?_)
  refine lv_iconst (v := nI 0) hx hb dX5_boundTo_16 ci_0 ?_
  refine lv_goto (tgt := 21) hx hb dX5_boundTo_17 (by decide) ?_
  refine mcV (c_X5_holds hP hD ⟨a1, a2, a3, a4, a5, a6, a7, a8, a9, a10, g19, g20, g21, g22, g23, g24, g25, g26, g27, g28, g29⟩ (by decide)) ⟨hx, hb, hml, hown, hts⟩ hK gX5_boundTo_X5_holds rfl hd_X5_holds ⟨by omega, by omega⟩ (va_recv hK hP (ci := 5) (q0 := 19) rfl g19) rfl hl.1 rfl (Nat.le_of_ble_eq_true rfl) dX5_boundTo_21 ⟨Nat.zero_le _, Nat.zero_le _⟩ hS (fun r ws3 H locs hq5 hP hD hS => ?_)
  obtain ⟨rfl, hpr, fr4⟩ := hq5
  obtain ⟨a1, a2, a3, a4, a5, a6, a7, a8, a9, a10, g19, g20, g21, g22, g23, g24, g25, g26, g27, g28, g29⟩ := id hpr
  refine sv_top (y := nI 1) rfl ?_
  refine sn_if_eq (tgt := 36) hx hb dX5_boundTo_24 (by decide) (by decide) (fun q => absurd q (by decide)) (fun _ => ?_)
  refine lv_aload_n hx hb dX5_boundTo_27 rfl (lv_at hl 0 rfl) ?_
  refine lv_iload_n hx hb dX5_boundTo_28 rfl (lv_at hl 1 rfl) ?_
  refine lv_iload_n hx hb dX5_boundTo_29 rfl (lv_at hl 2 rfl) ?_
  refine pcV (c_X5_bound hP ⟨a1, a2, a3, a4, a5, a6, a7, a8, a9, a10, g19, g20, g21, g22, g23, g24, g25, g26, g27, g28, g29⟩ hI (by omega) (by omega)) ⟨hx, hb, hml, hown, hts⟩ hK gX5_boundTo_X5_bound rfl hd_X5_bound ⟨by omega, by omega⟩ (va_recv hK hP (ci := 5) (q0 := 19) rfl g19) rfl hl.1 rfl (Nat.le_of_ble_eq_true rfl) dX5_boundTo_30 ⟨Nat.zero_le _, Nat.zero_le _⟩ hS (fun locs hS => ?_)
  refine lv_goto (tgt := 37) hx hb dX5_boundTo_33 (by decide) ?_
  exact hret 37 ls _ _ locs _ dX5_boundTo_37 hP hD hS rfl (⟨rfl, ⟨a1, a2, a3, a4, a5, a6, a7, a8, a9, a10, g19, g20, g21, g22, g23, g24, g25, g26, g27, g28, g29⟩, (fr.wd fr4 : fr _ _ 19 29)⟩)
set_option maxHeartbeats 4000000 in
set_option maxRecDepth 100000 in
theorem c_X5_groups_1 {l : Launch} {D : va_G} {ky : kT} {A : Nat → Prop} {Hs : Heap} {ws : va_W} (hP : va_P D CL ws Hs) (hD : va_D A ws) {h th n : Nat} {T C Hd : Nat → Nat} {b : Nat} {q : Bool} {J : Nat → Nat} {bg : Bool} {pu bu : Nat} {cl mo : Int32} {K : Nat → Nat} {fw fd fc fg fo : Nat → Int32} (hpr : isMod ky ws h th n T C Hd b q J bg pu bu cl mo K fw fd fc fg fo) {x : Int32} (hk : prt 6 x = false) : MU l yX5_groups wsX5_groups 1 21 0 0 D ky A Hs [.ref h, .int x] (fun r w => r = nI 0 ∧ isMod ky w h 1 n T C Hd b q J bg pu bu cl mo K fw fd fc fg fo ∧ fr ws w 19 29) := by
  refine MU.of (cc := cX5_groups) (maxL := 5) (ty := .int) (by decide) rfl (Nat.le_of_ble_eq_true rfl) ?_
  intro pg en Rm sg mi av below meth co Qo hRf hRl hRc hRs hx hb hml hown hts hK hret ls hl
  have hl : lv_has ls 5 [(0, .ref h), (1, .int x)] := hl
  have hS : va_S A Hs Hs [] := va_S.rf
  generalize ([] : List Loc) = locs at hS ⊢
  obtain ⟨a1, a2, a3, a4, a5, a6, a7, a8, a9, a10, g19, g20, g21, g22, g23, g24, g25, g26, g27, g28, g29⟩ := id hpr
  refine lv_aload_n hx hb dX5_groups_0 rfl (lv_at hl 0 rfl) ?_
  refine lv_iload_n hx hb dX5_groups_1 rfl (lv_at hl 1 rfl) ?_
  refine pcS (c_X5_isDirection  ) ⟨hx, hb, hml, hown, hts⟩ hK gX5_groups_X5_isDirection rfl hd_X5_isDirection ⟨by omega, by omega⟩ rfl hl.1 rfl (Nat.le_of_ble_eq_true rfl) dX5_groups_2 ⟨Nat.zero_le _, Nat.zero_le _⟩ hS (fun locs hS => ?_)
  refine sb_if_eq (tgt := 12) hx hb dX5_groups_5 (by decide) (fun _ => ?_) (fun q => absurd q (by rw [hk]; decide))
  refine lv_iconst (v := nI 1) hx hb dX5_groups_12 ci_1 ?_
  refine mcV (c_X5_holds hP hD ⟨a1, a2, a3, a4, a5, a6, a7, a8, a9, a10, g19, g20, g21, g22, g23, g24, g25, g26, g27, g28, g29⟩ (by decide)) ⟨hx, hb, hml, hown, hts⟩ hK gX5_groups_X5_holds rfl hd_X5_holds ⟨by omega, by omega⟩ (va_recv hK hP (ci := 5) (q0 := 19) rfl g19) rfl hl.1 rfl (Nat.le_of_ble_eq_true rfl) dX5_groups_13 ⟨Nat.zero_le _, Nat.zero_le _⟩ hS (fun r ws2 H locs hq4 hP hD hS => ?_)
  obtain ⟨rfl, hpr, fr3⟩ := hq4
  obtain ⟨a1, a2, a3, a4, a5, a6, a7, a8, a9, a10, g19, g20, g21, g22, g23, g24, g25, g26, g27, g28, g29⟩ := id hpr
  refine sv_top (y := nI 0) rfl ?_
  refine sn_if_ne (tgt := 21) hx hb dX5_groups_16 (by decide) (by decide) (fun q => absurd q (by decide)) (fun _ => ?_)
  refine lv_iconst (v := nI 0) hx hb dX5_groups_19 ci_0 ?_
  exact hret 20 ls _ _ locs _ dX5_groups_20 hP hD hS rfl (⟨rfl, ⟨a1, a2, a3, a4, a5, a6, a7, a8, a9, a10, g19, g20, g21, g22, g23, g24, g25, g26, g27, g28, g29⟩, (fr.wd fr3 : fr _ _ 19 29)⟩)
set_option maxHeartbeats 4000000 in
set_option maxRecDepth 100000 in
theorem c_X5_groups_0 {l : Launch} {D : va_G} {ky : kT} {A : Nat → Prop} {Hs : Heap} {ws : va_W} (hP : va_P D CL ws Hs) (hD : va_D A ws) {h th n : Nat} {T C Hd : Nat → Nat} {b : Nat} {q : Bool} {J : Nat → Nat} {bg : Bool} {pu bu : Nat} {cl mo : Int32} {K : Nat → Nat} {fw fd fc fg fo : Nat → Int32} (hpr : isMod ky ws h th n T C Hd b q J bg pu bu cl mo K fw fd fc fg fo) (hI : PI0 n C Hd b) {d : Nat} (hd : d < 6) : MU l yX5_groups wsX5_groups 2 51 0 0 D ky A Hs [.ref h, .int (nI d)] (fun r w => r = nI (grp Hd n d) ∧ isMod ky w h 0 n T C Hd b q J bg pu bu cl mo K fw fd fc fg fo ∧ fr ws w 19 29) := by
  refine MU.of (cc := cX5_groups) (maxL := 5) (ty := .int) (by decide) rfl (Nat.le_of_ble_eq_true rfl) ?_
  intro pg en Rm sg mi av below meth co Qo hRf hRl hRc hRs hx hb hml hown hts hK hret ls hl
  have hl : lv_has ls 5 [(0, .ref h), (1, .int (nI d))] := hl
  have hS : va_S A Hs Hs [] := va_S.rf
  generalize ([] : List Loc) = locs at hS ⊢
  obtain ⟨a1, a2, a3, a4, a5, a6, a7, a8, a9, a10, g19, g20, g21, g22, g23, g24, g25, g26, g27, g28, g29⟩ := id hpr
  have hk := prt_in hd (by decide)
  have hn8 := hI.1
  have hp2 := p2_le hn8
  have k44 := hts (.fieldLink RX5 44 "AssemblyPlannerModel" "parts" "I") (by decide +kernel)
  have hinX5 : ∀ w ∈ wsX50, w ∈ wsX5_groups := by decide +kernel
  refine lv_aload_n hx hb dX5_groups_0 rfl (lv_at hl 0 rfl) ?_
  refine lv_iload_n hx hb dX5_groups_1 rfl (lv_at hl 1 rfl) ?_
  refine pcS (c_X5_isDirection  ) ⟨hx, hb, hml, hown, hts⟩ hK gX5_groups_X5_isDirection rfl hd_X5_isDirection ⟨by omega, by omega⟩ rfl hl.1 rfl (Nat.le_of_ble_eq_true rfl) dX5_groups_2 ⟨Nat.zero_le _, Nat.zero_le _⟩ hS (fun locs hS => ?_)
  refine sb_if_eq (tgt := 12) hx hb dX5_groups_5 (by decide) (fun q => absurd q (by rw [hk]; decide)) (fun _ => ?_)
  refine lv_iconst (v := nI 0) hx hb dX5_groups_8 ci_0 ?_
  refine lv_goto (tgt := 13) hx hb dX5_groups_9 (by decide) ?_
  refine mcV (c_X5_holds hP hD ⟨a1, a2, a3, a4, a5, a6, a7, a8, a9, a10, g19, g20, g21, g22, g23, g24, g25, g26, g27, g28, g29⟩ (by decide)) ⟨hx, hb, hml, hown, hts⟩ hK gX5_groups_X5_holds rfl hd_X5_holds ⟨by omega, by omega⟩ (va_recv hK hP (ci := 5) (q0 := 19) rfl g19) rfl hl.1 rfl (Nat.le_of_ble_eq_true rfl) dX5_groups_13 ⟨Nat.zero_le _, Nat.zero_le _⟩ hS (fun r ws2 H locs hq4 hP hD hS => ?_)
  obtain ⟨rfl, hpr, fr3⟩ := hq4
  obtain ⟨a1, a2, a3, a4, a5, a6, a7, a8, a9, a10, g19, g20, g21, g22, g23, g24, g25, g26, g27, g28, g29⟩ := id hpr
  refine sv_top (y := nI 1) rfl ?_
  refine sn_if_ne (tgt := 21) hx hb dX5_groups_16 (by decide) (by decide) (fun _ => ?_) (fun q => absurd q (by decide))
  refine lv_iconst (v := nI 0) hx hb dX5_groups_21 ci_0 ?_
  refine lv_istore_n (lv' := [(2, .int (nI 0)), (0, .ref h), (1, .int (nI d))]) hx hb dX5_groups_22 rfl hl (by decide) rfl (fun ls hl => ?_)
  refine lv_iconst (v := nI 0) hx hb dX5_groups_23 ci_0 ?_
  refine lv_istore_n (lv' := [(3, .int (nI 0)), (2, .int (nI 0)), (0, .ref h), (1, .int (nI d))]) hx hb dX5_groups_24 rfl hl (by decide) rfl (fun ls hl => ?_)
  have L25 : ∀ (L25d : Nat) (t : Nat), n - t < L25d → ∀ (wl25 : va_W) (H : Heap), t ≤ n → va_P D CL wl25 H → va_D A wl25 → wl25[19]? = some (h, .inr (5, [.int (nI 0), .int (nI n), .ref a1, .ref a2, .ref a3, .int (nI b), .int (bI q), .ref a4, .int (bI bg), .int (nI pu), .int (nI bu), .int cl, .int mo, .ref a5, .ref a6, .ref a7, .ref a8, .ref a9, .ref a10])) → wl25[20]? = some (a1, .inl (ky.1, 8, .inl (fun i => nI (T i)))) → wl25[21]? = some (a2, .inl (ky.1, 8, .inl (fun i => nI (C i)))) → wl25[22]? = some (a3, .inl (ky.1, 48, .inl (fun i => nI (Hd i)))) → wl25[23]? = some (a4, .inl (ky.1, 8, .inl (fun i => nI (J i)))) → wl25[24]? = some (a5, .inl (ky.1, 8, .inl (fun i => nI (K i)))) → wl25[25]? = some (a6, .inl (ky.1, 256, .inl fw)) → wl25[26]? = some (a7, .inl (ky.1, 256, .inl fd)) → wl25[27]? = some (a8, .inl (ky.1, 256, .inl fc)) → wl25[28]? = some (a9, .inl (ky.1, 2048, .inl fg)) → wl25[29]? = some (a10, .inl (ky.1, 8, .inl fo)) → fr ws wl25 19 29 → ∀ (ls : Array Slot) (locs : List Loc), lv_has ls 5 [(2, .int (nI (itr (grs Hd n d) t 0))), (3, .int (nI t)), (0, .ref h), (1, .int (nI d))] → va_S A Hs H locs → W pg l en Rm sg mi av below meth co H locs 0 0 Qo (F0 mi 25 ls []) := by
    intro L25d
    induction L25d with
    | zero => intro t hfu; exact absurd hfu (Nat.not_lt_zero _)
    | succ L25d ih25 =>
      intro t hfu wl25 H i25_0 hP hD g19 g20 g21 g22 g23 g24 g25 g26 g27 g28 g29 frwl25 ls locs hl hS
      refine lv_iload_n hx hb dX5_groups_25 rfl (lv_at hl 1 rfl) ?_
      refine lv_aload_n hx hb dX5_groups_26 rfl (lv_at hl 2 rfl) ?_
      refine va_get (ci := 5) (C := RX5) (T := TX5) (N := 19) hx hb hts hinX5 hown hK hP 19 g19 rfl 1 (by decide) k44 (fun _ h9 => h9) rfl dX5_groups_27 ?_
      refine sn_icmp_ge (tgt := 67) hx hb dX5_groups_30 (by decide) (by omega) (by omega) (fun c6 => ?_) (fun c6 => ?_)
      · refine lv_iload_n hx hb dX5_groups_67 rfl (lv_at hl 0 rfl) ?_
        exact hret 68 ls _ _ locs _ dX5_groups_68 hP hD hS rfl (⟨by rw [show t = n by omega]; rfl, ⟨a1, a2, a3, a4, a5, a6, a7, a8, a9, a10, g19, g20, g21, g22, g23, g24, g25, g26, g27, g28, g29⟩, (fr.wd frwl25 : fr _ _ 19 29)⟩)
      · have hbl := Nat.lt_of_lt_of_le (bnd_lt (d := d) hI c6) hp2
        have hlw := low_grp _ hbl t (by omega) (bnd_self hI t d)
        have hlb := (low_lt _ hbl).1
        refine lv_aload_n hx hb dX5_groups_33 rfl (lv_at hl 2 rfl) ?_
        refine lv_iload_n hx hb dX5_groups_34 rfl (lv_at hl 1 rfl) ?_
        refine lv_iload_n hx hb dX5_groups_35 rfl (lv_at hl 3 rfl) ?_
        refine pcV (c_X5_bound hP ⟨a1, a2, a3, a4, a5, a6, a7, a8, a9, a10, g19, g20, g21, g22, g23, g24, g25, g26, g27, g28, g29⟩ hI (by omega) (by omega)) ⟨hx, hb, hml, hown, hts⟩ hK gX5_groups_X5_bound rfl hd_X5_bound ⟨by omega, by omega⟩ (va_recv hK hP (ci := 5) (q0 := 19) rfl g19) rfl hl.1 rfl (Nat.le_of_ble_eq_true rfl) dX5_groups_36 ⟨Nat.zero_le _, Nat.zero_le _⟩ hS (fun locs hS => ?_)
        refine lv_istore (lv' := [(4, .int (nI (bnd Hd n t d))), (2, .int (nI (itr (grs Hd n d) t 0))), (3, .int (nI t)), (0, .ref h), (1, .int (nI d))]) hx hb dX5_groups_39 hl (by decide) rfl (fun ls hl => ?_)
        refine lv_iload_n hx hb dX5_groups_41 rfl (lv_at hl 1 rfl) ?_
        refine lv_iload hx hb dX5_groups_42 (lv_at hl 0 rfl) ?_
        refine lv_iload hx hb dX5_groups_44 (lv_at hl 0 rfl) ?_
        refine lv_ineg hx hb dX5_groups_46 ?_
        refine lv_iand hx hb dX5_groups_47 ?_
        refine sv_top (y := nI (low (bnd Hd n t d))) (low_eq _) ?_
        refine lv_iconst (v := nI 1) hx hb dX5_groups_48 ci_1 ?_
        refine lv_iload_n hx hb dX5_groups_49 rfl (lv_at hl 2 rfl) ?_
        refine lv_ishl hx hb dX5_groups_50 ?_
        refine sv_top (y := nI (2 ^ t)) (sh_l1 (by omega)) ?_
        refine sn_icmp_ne (tgt := 58) hx hb dX5_groups_51 (by decide) (by omega) (pw_lt (by omega)) (fun c7 => ?_) (fun c7 => ?_)
        · refine lv_iconst (v := nI 0) hx hb dX5_groups_58 ci_0 ?_
          refine lv_iadd hx hb dX5_groups_59 ?_
          refine sv_top (y := nI ((itr (grs Hd n d) t 0) + 0)) (nI_add _ _) ?_
          refine lv_istore_n (lv' := [(2, .int (nI ((itr (grs Hd n d) t 0) + 0))), (4, .int (nI (bnd Hd n t d))), (3, .int (nI t)), (0, .ref h), (1, .int (nI d))]) hx hb dX5_groups_60 rfl hl (by decide) rfl (fun ls hl => ?_)
          refine lv_iinc (v := nI (t + 1)) (lv' := [(3, .int (nI (t + 1))), (2, .int (nI ((itr (grs Hd n d) t 0) + 0))), (4, .int (nI (bnd Hd n t d))), (0, .ref h), (1, .int (nI d))]) hx hb dX5_groups_61 hl (k := 2) rfl (nI_1 _) (by decide) rfl (fun ls hl => ?_)
          refine lv_goto (tgt := 25) hx hb dX5_groups_64 (by decide) ?_
          have e2 : nI ((itr (grs Hd n d) t 0) + 0) = nI (itr (grs Hd n d) (t + 1) 0) := (congrArg nI (show _ = grs Hd n d t _ from (if_neg (fun z => c7 (hlw.mpr z))).symm))
          rw [e2] at hl
          exact ih25 (t + 1) (by omega) _ _ (by omega) hP hD g19 g20 g21 g22 g23 g24 g25 g26 g27 g28 g29 (fr.wd frwl25 : fr _ _ 19 29) ls locs (lv_sub hl [1, 0, 3, 4] rfl) hS
        · refine lv_iconst (v := nI 1) hx hb dX5_groups_54 ci_1 ?_
          refine lv_goto (tgt := 59) hx hb dX5_groups_55 (by decide) ?_
          refine lv_iadd hx hb dX5_groups_59 ?_
          refine sv_top (y := nI ((itr (grs Hd n d) t 0) + 1)) (nI_add _ _) ?_
          refine lv_istore_n (lv' := [(2, .int (nI ((itr (grs Hd n d) t 0) + 1))), (4, .int (nI (bnd Hd n t d))), (3, .int (nI t)), (0, .ref h), (1, .int (nI d))]) hx hb dX5_groups_60 rfl hl (by decide) rfl (fun ls hl => ?_)
          refine lv_iinc (v := nI (t + 1)) (lv' := [(3, .int (nI (t + 1))), (2, .int (nI ((itr (grs Hd n d) t 0) + 1))), (4, .int (nI (bnd Hd n t d))), (0, .ref h), (1, .int (nI d))]) hx hb dX5_groups_61 hl (k := 2) rfl (nI_1 _) (by decide) rfl (fun ls hl => ?_)
          refine lv_goto (tgt := 25) hx hb dX5_groups_64 (by decide) ?_
          have e2 : nI ((itr (grs Hd n d) t 0) + 1) = nI (itr (grs Hd n d) (t + 1) 0) := (congrArg nI (show _ = grs Hd n d t _ from (if_pos (hlw.mp c7)).symm))
          rw [e2] at hl
          exact ih25 (t + 1) (by omega) _ _ (by omega) hP hD g19 g20 g21 g22 g23 g24 g25 g26 g27 g28 g29 (fr.wd frwl25 : fr _ _ 19 29) ls locs (lv_sub hl [1, 0, 3, 4] rfl) hS
  exact L25 ((n - 0) + 1) 0 (Nat.lt_succ_self _) _ _ (by omega) hP hD g19 g20 g21 g22 g23 g24 g25 g26 g27 g28 g29 (fr.wd fr3 : fr _ _ 19 29) ls locs (lv_sub hl [1, 0, 2, 3] rfl) hS
set_option maxHeartbeats 4000000 in
set_option maxRecDepth 100000 in
theorem c_X5_setJams_1 {l : Launch} {D : va_G} {ky : kT} {A : Nat → Prop} {Hs : Heap} {ws : va_W} (hP : va_P D CL ws Hs) (hD : va_D A ws) {h th n : Nat} {T C Hd : Nat → Nat} {b : Nat} {q : Bool} {J : Nat → Nat} {bg : Bool} {pu bu : Nat} {cl mo : Int32} {K : Nat → Nat} {fw fd fc fg fo : Nat → Int32} (hpr : isMod ky ws h th n T C Hd b q J bg pu bu cl mo K fw fd fc fg fo) {x y : Int32} (hk : prt n x = false) : MU l yX5_setJams wsX5_setJams 1 21 0 0 D ky A Hs [.ref h, .int x, .int y] (fun r w => r = nI 0 ∧ isMod ky w h 1 n T C Hd b q J bg pu bu cl mo K fw fd fc fg fo ∧ fr ws w 19 29) := by
  refine MU.of (cc := cX5_setJams) (maxL := 4) (ty := .int) (by decide) rfl (Nat.le_of_ble_eq_true rfl) ?_
  intro pg en Rm sg mi av below meth co Qo hRf hRl hRc hRs hx hb hml hown hts hK hret ls hl
  have hl : lv_has ls 4 [(0, .ref h), (1, .int x), (2, .int y)] := hl
  have hS : va_S A Hs Hs [] := va_S.rf
  generalize ([] : List Loc) = locs at hS ⊢
  obtain ⟨a1, a2, a3, a4, a5, a6, a7, a8, a9, a10, g19, g20, g21, g22, g23, g24, g25, g26, g27, g28, g29⟩ := id hpr
  refine lv_aload_n hx hb dX5_setJams_0 rfl (lv_at hl 0 rfl) ?_
  refine lv_aload_n hx hb dX5_setJams_1 rfl (lv_at hl 0 rfl) ?_
  refine lv_iload_n hx hb dX5_setJams_2 rfl (lv_at hl 1 rfl) ?_
  refine pcV (c_X5_isPart hP ⟨a1, a2, a3, a4, a5, a6, a7, a8, a9, a10, g19, g20, g21, g22, g23, g24, g25, g26, g27, g28, g29⟩ ) ⟨hx, hb, hml, hown, hts⟩ hK gX5_setJams_X5_isPart rfl hd_X5_isPart ⟨by omega, by omega⟩ (va_recv hK hP (ci := 5) (q0 := 19) rfl g19) rfl hl.1 rfl (Nat.le_of_ble_eq_true rfl) dX5_setJams_3 ⟨Nat.zero_le _, Nat.zero_le _⟩ hS (fun locs hS => ?_)
  refine sb_if_ne (tgt := 13) hx hb dX5_setJams_6 (by decide) (fun q => absurd q (by rw [hk]; decide)) (fun _ => ?_)
  refine lv_iconst (v := nI 1) hx hb dX5_setJams_9 ci_1 ?_
  refine lv_goto (tgt := 27) hx hb dX5_setJams_10 (by decide) ?_
  refine mcV (c_X5_holds hP hD ⟨a1, a2, a3, a4, a5, a6, a7, a8, a9, a10, g19, g20, g21, g22, g23, g24, g25, g26, g27, g28, g29⟩ (by decide)) ⟨hx, hb, hml, hown, hts⟩ hK gX5_setJams_X5_holds rfl hd_X5_holds ⟨by omega, by omega⟩ (va_recv hK hP (ci := 5) (q0 := 19) rfl g19) rfl hl.1 rfl (Nat.le_of_ble_eq_true rfl) dX5_setJams_27 ⟨Nat.zero_le _, Nat.zero_le _⟩ hS (fun r ws2 H locs hq4 hP hD hS => ?_)
  obtain ⟨rfl, hpr, fr3⟩ := hq4
  obtain ⟨a1, a2, a3, a4, a5, a6, a7, a8, a9, a10, g19, g20, g21, g22, g23, g24, g25, g26, g27, g28, g29⟩ := id hpr
  refine sv_top (y := nI 0) rfl ?_
  refine sn_if_ne (tgt := 35) hx hb dX5_setJams_30 (by decide) (by decide) (fun q => absurd q (by decide)) (fun _ => ?_)
  refine lv_iconst (v := nI 0) hx hb dX5_setJams_33 ci_0 ?_
  exact hret 34 ls _ _ locs _ dX5_setJams_34 hP hD hS rfl (⟨rfl, ⟨a1, a2, a3, a4, a5, a6, a7, a8, a9, a10, g19, g20, g21, g22, g23, g24, g25, g26, g27, g28, g29⟩, (fr.wd fr3 : fr _ _ 19 29)⟩)
set_option maxHeartbeats 4000000 in
set_option maxRecDepth 100000 in
theorem c_X5_setJams_2 {l : Launch} {D : va_G} {ky : kT} {A : Nat → Prop} {Hs : Heap} {ws : va_W} (hP : va_P D CL ws Hs) (hD : va_D A ws) {h th n : Nat} {T C Hd : Nat → Nat} {b : Nat} {q : Bool} {J : Nat → Nat} {bg : Bool} {pu bu : Nat} {cl mo : Int32} {K : Nat → Nat} {fw fd fc fg fo : Nat → Int32} (hpr : isMod ky ws h th n T C Hd b q J bg pu bu cl mo K fw fd fc fg fo) {x y : Int32} (hk : prt n x = true) (hk2 : ¬ (¬ y < 0 ∧ y ≤ nI 5)) : MU l yX5_setJams wsX5_setJams 1 21 0 0 D ky A Hs [.ref h, .int x, .int y] (fun r w => r = nI 0 ∧ isMod ky w h 2 n T C Hd b q J bg pu bu cl mo K fw fd fc fg fo ∧ fr ws w 19 29) := by
  refine MU.of (cc := cX5_setJams) (maxL := 4) (ty := .int) (by decide) rfl (Nat.le_of_ble_eq_true rfl) ?_
  intro pg en Rm sg mi av below meth co Qo hRf hRl hRc hRs hx hb hml hown hts hK hret ls hl
  have hl : lv_has ls 4 [(0, .ref h), (1, .int x), (2, .int y)] := hl
  have hS : va_S A Hs Hs [] := va_S.rf
  generalize ([] : List Loc) = locs at hS ⊢
  obtain ⟨a1, a2, a3, a4, a5, a6, a7, a8, a9, a10, g19, g20, g21, g22, g23, g24, g25, g26, g27, g28, g29⟩ := id hpr
  refine lv_aload_n hx hb dX5_setJams_0 rfl (lv_at hl 0 rfl) ?_
  refine lv_aload_n hx hb dX5_setJams_1 rfl (lv_at hl 0 rfl) ?_
  refine lv_iload_n hx hb dX5_setJams_2 rfl (lv_at hl 1 rfl) ?_
  refine pcV (c_X5_isPart hP ⟨a1, a2, a3, a4, a5, a6, a7, a8, a9, a10, g19, g20, g21, g22, g23, g24, g25, g26, g27, g28, g29⟩ ) ⟨hx, hb, hml, hown, hts⟩ hK gX5_setJams_X5_isPart rfl hd_X5_isPart ⟨by omega, by omega⟩ (va_recv hK hP (ci := 5) (q0 := 19) rfl g19) rfl hl.1 rfl (Nat.le_of_ble_eq_true rfl) dX5_setJams_3 ⟨Nat.zero_le _, Nat.zero_le _⟩ hS (fun locs hS => ?_)
  refine sb_if_ne (tgt := 13) hx hb dX5_setJams_6 (by decide) (fun _ => ?_) (fun q => absurd q (by rw [hk]; decide))
  refine lv_iload_n hx hb dX5_setJams_13 rfl (lv_at hl 2 rfl) ?_
  refine lv_if_lt (tgt := 22) hx hb dX5_setJams_14 (by decide) (fun c2 => ?_) (fun c2 => ?_)
  · refine lv_iconst (v := nI 2) hx hb dX5_setJams_22 ci_2 ?_
    refine lv_goto (tgt := 27) hx hb dX5_setJams_23 (by decide) ?_
    refine mcV (c_X5_holds hP hD ⟨a1, a2, a3, a4, a5, a6, a7, a8, a9, a10, g19, g20, g21, g22, g23, g24, g25, g26, g27, g28, g29⟩ (by decide)) ⟨hx, hb, hml, hown, hts⟩ hK gX5_setJams_X5_holds rfl hd_X5_holds ⟨by omega, by omega⟩ (va_recv hK hP (ci := 5) (q0 := 19) rfl g19) rfl hl.1 rfl (Nat.le_of_ble_eq_true rfl) dX5_setJams_27 ⟨Nat.zero_le _, Nat.zero_le _⟩ hS (fun r ws3 H locs hq5 hP hD hS => ?_)
    obtain ⟨rfl, hpr, fr4⟩ := hq5
    obtain ⟨a1, a2, a3, a4, a5, a6, a7, a8, a9, a10, g19, g20, g21, g22, g23, g24, g25, g26, g27, g28, g29⟩ := id hpr
    refine sv_top (y := nI 0) rfl ?_
    refine sn_if_ne (tgt := 35) hx hb dX5_setJams_30 (by decide) (by decide) (fun q => absurd q (by decide)) (fun _ => ?_)
    refine lv_iconst (v := nI 0) hx hb dX5_setJams_33 ci_0 ?_
    exact hret 34 ls _ _ locs _ dX5_setJams_34 hP hD hS rfl (⟨rfl, ⟨a1, a2, a3, a4, a5, a6, a7, a8, a9, a10, g19, g20, g21, g22, g23, g24, g25, g26, g27, g28, g29⟩, (fr.wd fr4 : fr _ _ 19 29)⟩)
  · refine lv_iload_n hx hb dX5_setJams_17 rfl (lv_at hl 2 rfl) ?_
    refine lv_iconst (v := nI 5) hx hb dX5_setJams_18 ci_5 ?_
    refine lv_icmp_le (tgt := 26) hx hb dX5_setJams_19 (by decide) (fun c7 => absurd ⟨c2, c7⟩ hk2) (fun c7 => ?_)
    refine lv_iconst (v := nI 2) hx hb dX5_setJams_22 ci_2 ?_
    refine lv_goto (tgt := 27) hx hb dX5_setJams_23 (by decide) ?_
    refine mcV (c_X5_holds hP hD ⟨a1, a2, a3, a4, a5, a6, a7, a8, a9, a10, g19, g20, g21, g22, g23, g24, g25, g26, g27, g28, g29⟩ (by decide)) ⟨hx, hb, hml, hown, hts⟩ hK gX5_setJams_X5_holds rfl hd_X5_holds ⟨by omega, by omega⟩ (va_recv hK hP (ci := 5) (q0 := 19) rfl g19) rfl hl.1 rfl (Nat.le_of_ble_eq_true rfl) dX5_setJams_27 ⟨Nat.zero_le _, Nat.zero_le _⟩ hS (fun r ws8 H locs hq10 hP hD hS => ?_)
    obtain ⟨rfl, hpr, fr9⟩ := hq10
    obtain ⟨a1, a2, a3, a4, a5, a6, a7, a8, a9, a10, g19, g20, g21, g22, g23, g24, g25, g26, g27, g28, g29⟩ := id hpr
    refine sv_top (y := nI 0) rfl ?_
    refine sn_if_ne (tgt := 35) hx hb dX5_setJams_30 (by decide) (by decide) (fun q => absurd q (by decide)) (fun _ => ?_)
    refine lv_iconst (v := nI 0) hx hb dX5_setJams_33 ci_0 ?_
    exact hret 34 ls _ _ locs _ dX5_setJams_34 hP hD hS rfl (⟨rfl, ⟨a1, a2, a3, a4, a5, a6, a7, a8, a9, a10, g19, g20, g21, g22, g23, g24, g25, g26, g27, g28, g29⟩, (fr.wd fr9 : fr _ _ 19 29)⟩)
set_option maxHeartbeats 4000000 in
set_option maxRecDepth 100000 in
theorem c_X5_setJams_0 {l : Launch} {D : va_G} {ky : kT} {A : Nat → Prop} {Hs : Heap} {ws : va_W} (hP : va_P D CL ws Hs) (hD : va_D A ws) {h th n : Nat} {T C Hd : Nat → Nat} {b : Nat} {q : Bool} {J : Nat → Nat} {bg : Bool} {pu bu : Nat} {cl mo : Int32} {K : Nat → Nat} {fw fd fc fg fo : Nat → Int32} (hpr : isMod ky ws h th n T C Hd b q J bg pu bu cl mo K fw fd fc fg fo) (hn8 : n ≤ 8) {pt j : Nat} (hp : pt < n) (hj : j ≤ 5) : MU l yX5_setJams wsX5_setJams 1 21 0 0 D ky A Hs [.ref h, .int (nI pt), .int (nI j)] (fun r w => r = nI (J pt) ∧ isMod ky w h 0 n T C Hd b q (upX J pt j) bg pu bu cl mo K fw fd fc fg fo ∧ fr ws w 19 29) := by
  refine MU.of (cc := cX5_setJams) (maxL := 4) (ty := .int) (by decide) rfl (Nat.le_of_ble_eq_true rfl) ?_
  intro pg en Rm sg mi av below meth co Qo hRf hRl hRc hRs hx hb hml hown hts hK hret ls hl
  have hl : lv_has ls 4 [(0, .ref h), (1, .int (nI pt)), (2, .int (nI j))] := hl
  have hS : va_S A Hs Hs [] := va_S.rf
  generalize ([] : List Loc) = locs at hS ⊢
  obtain ⟨a1, a2, a3, a4, a5, a6, a7, a8, a9, a10, g19, g20, g21, g22, g23, g24, g25, g26, g27, g28, g29⟩ := id hpr
  have hk := prt_in hp hn8
  have k19 := hts (.fieldLink RX5 19 "AssemblyPlannerModel" "jams" "[I") (by decide +kernel)
  have hinX5 : ∀ w ∈ wsX50, w ∈ wsX5_setJams := by decide +kernel
  refine lv_aload_n hx hb dX5_setJams_0 rfl (lv_at hl 0 rfl) ?_
  refine lv_aload_n hx hb dX5_setJams_1 rfl (lv_at hl 0 rfl) ?_
  refine lv_iload_n hx hb dX5_setJams_2 rfl (lv_at hl 1 rfl) ?_
  refine pcV (c_X5_isPart hP ⟨a1, a2, a3, a4, a5, a6, a7, a8, a9, a10, g19, g20, g21, g22, g23, g24, g25, g26, g27, g28, g29⟩ ) ⟨hx, hb, hml, hown, hts⟩ hK gX5_setJams_X5_isPart rfl hd_X5_isPart ⟨by omega, by omega⟩ (va_recv hK hP (ci := 5) (q0 := 19) rfl g19) rfl hl.1 rfl (Nat.le_of_ble_eq_true rfl) dX5_setJams_3 ⟨Nat.zero_le _, Nat.zero_le _⟩ hS (fun locs hS => ?_)
  refine sb_if_ne (tgt := 13) hx hb dX5_setJams_6 (by decide) (fun _ => ?_) (fun q => absurd q (by rw [hk]; decide))
  refine lv_iload_n hx hb dX5_setJams_13 rfl (lv_at hl 2 rfl) ?_
  refine lv_if_lt (tgt := 22) hx hb dX5_setJams_14 (by decide) (fun q => absurd q (nI_pos (by omega))) (fun _ => ?_)
  refine lv_iload_n hx hb dX5_setJams_17 rfl (lv_at hl 2 rfl) ?_
  refine lv_iconst (v := nI 5) hx hb dX5_setJams_18 ci_5 ?_
  refine sn_icmp_le (tgt := 26) hx hb dX5_setJams_19 (by decide) (by omega) (by decide) (fun c3 => ?_) (fun c3 => absurd c3 (by omega))
  refine lv_iconst (v := nI 0) hx hb dX5_setJams_26 ci_0 ?_
  refine mcV (c_X5_holds hP hD ⟨a1, a2, a3, a4, a5, a6, a7, a8, a9, a10, g19, g20, g21, g22, g23, g24, g25, g26, g27, g28, g29⟩ (by decide)) ⟨hx, hb, hml, hown, hts⟩ hK gX5_setJams_X5_holds rfl hd_X5_holds ⟨by omega, by omega⟩ (va_recv hK hP (ci := 5) (q0 := 19) rfl g19) rfl hl.1 rfl (Nat.le_of_ble_eq_true rfl) dX5_setJams_27 ⟨Nat.zero_le _, Nat.zero_le _⟩ hS (fun r ws4 H locs hq6 hP hD hS => ?_)
  obtain ⟨rfl, hpr, fr5⟩ := hq6
  obtain ⟨a1, a2, a3, a4, a5, a6, a7, a8, a9, a10, g19, g20, g21, g22, g23, g24, g25, g26, g27, g28, g29⟩ := id hpr
  refine sv_top (y := nI 1) rfl ?_
  refine sn_if_ne (tgt := 35) hx hb dX5_setJams_30 (by decide) (by decide) (fun _ => ?_) (fun q => absurd q (by decide))
  refine lv_aload_n hx hb dX5_setJams_35 rfl (lv_at hl 0 rfl) ?_
  refine va_get (ci := 5) (C := RX5) (T := TX5) (N := 19) hx hb hts hinX5 hown hK hP 19 g19 rfl 7 (by decide) k19 (fun _ h9 => h9) rfl dX5_setJams_36 ?_
  refine lv_iload_n hx hb dX5_setJams_39 rfl (lv_at hl 1 rfl) ?_
  refine sv_iald hx hb hK hP 23 g23 (j := pt) (by omega) (by decide) dX5_setJams_40 ?_
  refine W.eq (g2 := F0 mi 41 ls (.int (nI (J pt)) :: [])) rfl ?_
  refine lv_istore_n (lv' := [(3, .int (nI (J pt))), (0, .ref h), (1, .int (nI pt)), (2, .int (nI j))]) hx hb dX5_setJams_41 rfl hl (by decide) rfl (fun ls hl => ?_)
  refine lv_aload_n hx hb dX5_setJams_42 rfl (lv_at hl 1 rfl) ?_
  refine va_get (ci := 5) (C := RX5) (T := TX5) (N := 19) hx hb hts hinX5 hown hK hP 19 g19 rfl 7 (by decide) k19 (fun _ h9 => h9) rfl dX5_setJams_43 ?_
  refine lv_iload_n hx hb dX5_setJams_46 rfl (lv_at hl 2 rfl) ?_
  refine lv_iload_n hx hb dX5_setJams_47 rfl (lv_at hl 3 rfl) ?_
  refine sv_iast hx hb hK hP hD hS 23 g23 (j := pt) (by omega) (by decide) dX5_setJams_48 (fun ws9 H locs hP hD hS g23 fr8 => ?_)
  replace g19 := (fr8 19 (by decide)).trans g19
  replace g20 := (fr8 20 (by decide)).trans g20
  replace g21 := (fr8 21 (by decide)).trans g21
  replace g22 := (fr8 22 (by decide)).trans g22
  replace g24 := (fr8 24 (by decide)).trans g24
  replace g25 := (fr8 25 (by decide)).trans g25
  replace g26 := (fr8 26 (by decide)).trans g26
  replace g27 := (fr8 27 (by decide)).trans g27
  replace g28 := (fr8 28 (by decide)).trans g28
  replace g29 := (fr8 29 (by decide)).trans g29
  rw [upd_N] at g23
  refine lv_iload_n hx hb dX5_setJams_49 rfl (lv_at hl 0 rfl) ?_
  exact hret 50 ls _ _ locs _ dX5_setJams_50 hP hD hS rfl (⟨rfl, ⟨a1, a2, a3, a4, a5, a6, a7, a8, a9, a10, g19, g20, g21, g22, g23, g24, g25, g26, g27, g28, g29⟩, ((fr.wd fr5 : fr _ _ 19 29).tr fr8)⟩)
set_option maxHeartbeats 4000000 in
set_option maxRecDepth 100000 in
theorem c_X5_isBypassed_1 {l : Launch} {D : va_G} {ky : kT} {A : Nat → Prop} {Hs : Heap} {ws : va_W} (hP : va_P D CL ws Hs) (hD : va_D A ws) {h th n : Nat} {T C Hd : Nat → Nat} {b : Nat} {q : Bool} {J : Nat → Nat} {bg : Bool} {pu bu : Nat} {cl mo : Int32} {K : Nat → Nat} {fw fd fc fg fo : Nat → Int32} (hpr : isMod ky ws h th n T C Hd b q J bg pu bu cl mo K fw fd fc fg fo) {x : Int32} (hk : prt n x = false) : MU l yX5_isBypassed wsX5_isBypassed 1 21 0 0 D ky A Hs [.ref h, .int x] (fun r w => r = nI 0 ∧ isMod ky w h 1 n T C Hd b q J bg pu bu cl mo K fw fd fc fg fo ∧ fr ws w 19 29) := by
  refine MU.of (cc := cX5_isBypassed) (maxL := 2) (ty := .boolean) (by decide) rfl (Nat.le_of_ble_eq_true rfl) ?_
  intro pg en Rm sg mi av below meth co Qo hRf hRl hRc hRs hx hb hml hown hts hK hret ls hl
  have hl : lv_has ls 2 [(0, .ref h), (1, .int x)] := hl
  have hS : va_S A Hs Hs [] := va_S.rf
  generalize ([] : List Loc) = locs at hS ⊢
  obtain ⟨a1, a2, a3, a4, a5, a6, a7, a8, a9, a10, g19, g20, g21, g22, g23, g24, g25, g26, g27, g28, g29⟩ := id hpr
  refine lv_aload_n hx hb dX5_isBypassed_0 rfl (lv_at hl 0 rfl) ?_
  refine lv_aload_n hx hb dX5_isBypassed_1 rfl (lv_at hl 0 rfl) ?_
  refine lv_iload_n hx hb dX5_isBypassed_2 rfl (lv_at hl 1 rfl) ?_
  refine pcV (c_X5_isPart hP ⟨a1, a2, a3, a4, a5, a6, a7, a8, a9, a10, g19, g20, g21, g22, g23, g24, g25, g26, g27, g28, g29⟩ ) ⟨hx, hb, hml, hown, hts⟩ hK gX5_isBypassed_X5_isPart rfl hd_X5_isPart ⟨by omega, by omega⟩ (va_recv hK hP (ci := 5) (q0 := 19) rfl g19) rfl hl.1 rfl (Nat.le_of_ble_eq_true rfl) dX5_isBypassed_3 ⟨Nat.zero_le _, Nat.zero_le _⟩ hS (fun locs hS => ?_)
  refine sb_if_eq (tgt := 13) hx hb dX5_isBypassed_6 (by decide) (fun _ => ?_) (fun q => absurd q (by rw [hk]; decide))
  refine lv_iconst (v := nI 1) hx hb dX5_isBypassed_13 ci_1 ?_
  refine mcV (c_X5_holds hP hD ⟨a1, a2, a3, a4, a5, a6, a7, a8, a9, a10, g19, g20, g21, g22, g23, g24, g25, g26, g27, g28, g29⟩ (by decide)) ⟨hx, hb, hml, hown, hts⟩ hK gX5_isBypassed_X5_holds rfl hd_X5_holds ⟨by omega, by omega⟩ (va_recv hK hP (ci := 5) (q0 := 19) rfl g19) rfl hl.1 rfl (Nat.le_of_ble_eq_true rfl) dX5_isBypassed_14 ⟨Nat.zero_le _, Nat.zero_le _⟩ hS (fun r ws2 H locs hq4 hP hD hS => ?_)
  obtain ⟨rfl, hpr, fr3⟩ := hq4
  obtain ⟨a1, a2, a3, a4, a5, a6, a7, a8, a9, a10, g19, g20, g21, g22, g23, g24, g25, g26, g27, g28, g29⟩ := id hpr
  refine sv_top (y := nI 0) rfl ?_
  refine sn_if_eq (tgt := 39) hx hb dX5_isBypassed_17 (by decide) (by decide) (fun _ => ?_) (fun q => absurd q (by decide))
  refine lv_iconst (v := nI 0) hx hb dX5_isBypassed_39 ci_0 ?_
  exact hret 40 ls _ _ locs _ dX5_isBypassed_40 hP hD hS rfl (⟨rfl, ⟨a1, a2, a3, a4, a5, a6, a7, a8, a9, a10, g19, g20, g21, g22, g23, g24, g25, g26, g27, g28, g29⟩, (fr.wd fr3 : fr _ _ 19 29)⟩)
set_option maxHeartbeats 4000000 in
set_option maxRecDepth 100000 in
theorem c_X5_isBypassed_0 {l : Launch} {D : va_G} {ky : kT} {A : Nat → Prop} {Hs : Heap} {ws : va_W} (hP : va_P D CL ws Hs) (hD : va_D A ws) {h th n : Nat} {T C Hd : Nat → Nat} {b : Nat} {q : Bool} {J : Nat → Nat} {bg : Bool} {pu bu : Nat} {cl mo : Int32} {K : Nat → Nat} {fw fd fc fg fo : Nat → Int32} (hpr : isMod ky ws h th n T C Hd b q J bg pu bu cl mo K fw fd fc fg fo) (hn8 : n ≤ 8) {pt : Nat} (hp : pt < n) (hK2 : K pt < 2 ^ 31) : MU l yX5_isBypassed wsX5_isBypassed 1 21 0 0 D ky A Hs [.ref h, .int (nI pt)] (fun r w => r = bI (bg && decide (2 ≤ K pt)) ∧ isMod ky w h 0 n T C Hd b q J bg pu bu cl mo K fw fd fc fg fo ∧ fr ws w 19 29) := by
  refine MU.of (cc := cX5_isBypassed) (maxL := 2) (ty := .boolean) (by decide) rfl (Nat.le_of_ble_eq_true rfl) ?_
  intro pg en Rm sg mi av below meth co Qo hRf hRl hRc hRs hx hb hml hown hts hK hret ls hl
  have hl : lv_has ls 2 [(0, .ref h), (1, .int (nI pt))] := hl
  have hS : va_S A Hs Hs [] := va_S.rf
  generalize ([] : List Loc) = locs at hS ⊢
  obtain ⟨a1, a2, a3, a4, a5, a6, a7, a8, a9, a10, g19, g20, g21, g22, g23, g24, g25, g26, g27, g28, g29⟩ := id hpr
  have hk := prt_in hp hn8
  have k54 := hts (.fieldLink RX5 54 "AssemblyPlannerModel" "isBegun" "Z") (by decide +kernel)
  have hinX5 : ∀ w ∈ wsX50, w ∈ wsX5_isBypassed := by decide +kernel
  refine lv_aload_n hx hb dX5_isBypassed_0 rfl (lv_at hl 0 rfl) ?_
  refine lv_aload_n hx hb dX5_isBypassed_1 rfl (lv_at hl 0 rfl) ?_
  refine lv_iload_n hx hb dX5_isBypassed_2 rfl (lv_at hl 1 rfl) ?_
  refine pcV (c_X5_isPart hP ⟨a1, a2, a3, a4, a5, a6, a7, a8, a9, a10, g19, g20, g21, g22, g23, g24, g25, g26, g27, g28, g29⟩ ) ⟨hx, hb, hml, hown, hts⟩ hK gX5_isBypassed_X5_isPart rfl hd_X5_isPart ⟨by omega, by omega⟩ (va_recv hK hP (ci := 5) (q0 := 19) rfl g19) rfl hl.1 rfl (Nat.le_of_ble_eq_true rfl) dX5_isBypassed_3 ⟨Nat.zero_le _, Nat.zero_le _⟩ hS (fun locs hS => ?_)
  refine sb_if_eq (tgt := 13) hx hb dX5_isBypassed_6 (by decide) (fun q => absurd q (by rw [hk]; decide)) (fun _ => ?_)
  refine lv_iconst (v := nI 0) hx hb dX5_isBypassed_9 ci_0 ?_
  refine lv_goto (tgt := 14) hx hb dX5_isBypassed_10 (by decide) ?_
  refine mcV (c_X5_holds hP hD ⟨a1, a2, a3, a4, a5, a6, a7, a8, a9, a10, g19, g20, g21, g22, g23, g24, g25, g26, g27, g28, g29⟩ (by decide)) ⟨hx, hb, hml, hown, hts⟩ hK gX5_isBypassed_X5_holds rfl hd_X5_holds ⟨by omega, by omega⟩ (va_recv hK hP (ci := 5) (q0 := 19) rfl g19) rfl hl.1 rfl (Nat.le_of_ble_eq_true rfl) dX5_isBypassed_14 ⟨Nat.zero_le _, Nat.zero_le _⟩ hS (fun r ws2 H locs hq4 hP hD hS => ?_)
  obtain ⟨rfl, hpr, fr3⟩ := hq4
  obtain ⟨a1, a2, a3, a4, a5, a6, a7, a8, a9, a10, g19, g20, g21, g22, g23, g24, g25, g26, g27, g28, g29⟩ := id hpr
  refine sv_top (y := nI 1) rfl ?_
  refine sn_if_eq (tgt := 39) hx hb dX5_isBypassed_17 (by decide) (by decide) (fun q => absurd q (by decide)) (fun _ => ?_)
  refine lv_aload_n hx hb dX5_isBypassed_20 rfl (lv_at hl 0 rfl) ?_
  refine va_get (ci := 5) (C := RX5) (T := TX5) (N := 19) hx hb hts hinX5 hown hK hP 19 g19 rfl 8 (by decide) k54 (fun _ h9 => h9) rfl dX5_isBypassed_21 ?_
  refine sb_if_eq (tgt := 39) hx hb dX5_isBypassed_24 (by decide) (fun c6 => ?_) (fun c6 => ?_)
  · refine lv_iconst (v := nI 0) hx hb dX5_isBypassed_39 ci_0 ?_
    exact hret 40 ls _ _ locs _ dX5_isBypassed_40 hP hD hS rfl (⟨bI_f (by rw [c6]; simp), ⟨a1, a2, a3, a4, a5, a6, a7, a8, a9, a10, g19, g20, g21, g22, g23, g24, g25, g26, g27, g28, g29⟩, (fr.wd fr3 : fr _ _ 19 29)⟩)
  · refine lv_aload_n hx hb dX5_isBypassed_27 rfl (lv_at hl 0 rfl) ?_
    refine lv_iload_n hx hb dX5_isBypassed_28 rfl (lv_at hl 1 rfl) ?_
    refine pcV (c_X5_isPassed hP ⟨a1, a2, a3, a4, a5, a6, a7, a8, a9, a10, g19, g20, g21, g22, g23, g24, g25, g26, g27, g28, g29⟩ (by omega) hK2) ⟨hx, hb, hml, hown, hts⟩ hK gX5_isBypassed_X5_isPassed rfl hd_X5_isPassed ⟨by omega, by omega⟩ (va_recv hK hP (ci := 5) (q0 := 19) rfl g19) rfl hl.1 rfl (Nat.le_of_ble_eq_true rfl) dX5_isBypassed_29 ⟨Nat.zero_le _, Nat.zero_le _⟩ hS (fun locs hS => ?_)
    refine sb_if_eq (tgt := 39) hx hb dX5_isBypassed_32 (by decide) (fun c7 => ?_) (fun c7 => ?_)
    · refine lv_iconst (v := nI 0) hx hb dX5_isBypassed_39 ci_0 ?_
      exact hret 40 ls _ _ locs _ dX5_isBypassed_40 hP hD hS rfl (⟨bI_f (by rw [c7]; simp), ⟨a1, a2, a3, a4, a5, a6, a7, a8, a9, a10, g19, g20, g21, g22, g23, g24, g25, g26, g27, g28, g29⟩, (fr.wd fr3 : fr _ _ 19 29)⟩)
    · refine lv_iconst (v := nI 1) hx hb dX5_isBypassed_35 ci_1 ?_
      refine lv_goto (tgt := 40) hx hb dX5_isBypassed_36 (by decide) ?_
      exact hret 40 ls _ _ locs _ dX5_isBypassed_40 hP hD hS rfl (⟨bI_t (by rw [c6, c7]; rfl), ⟨a1, a2, a3, a4, a5, a6, a7, a8, a9, a10, g19, g20, g21, g22, g23, g24, g25, g26, g27, g28, g29⟩, (fr.wd fr3 : fr _ _ 19 29)⟩)
