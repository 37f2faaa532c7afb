theorem bi_40 : (Int8.ofInt 40).toInt32 = nI 40 := by decide +kernel
theorem ci_2 : Int32.ofInt 2 = nI 2 := by decide +kernel
theorem ci_4 : Int32.ofInt 4 = nI 4 := by decide +kernel
theorem hd_X5_canPart : yX5_canPart.cls = RX5 ∧ yX5_canPart.cls ≠ "java/lang/invoke/MethodHandle" ∧ yX5_canPart.cls ≠ "java/lang/invoke/VarHandle" ∧ (parseMethodDescriptor yX5_canPart.desc).map (fun d => d.parameters.length) = some 2 := by decide +kernel
theorem hd_X5_freeOf : yX5_freeOf.cls = RX5 ∧ yX5_freeOf.cls ≠ "java/lang/invoke/MethodHandle" ∧ yX5_freeOf.cls ≠ "java/lang/invoke/VarHandle" ∧ (parseMethodDescriptor yX5_freeOf.desc).map (fun d => d.parameters.length) = some 2 := by decide +kernel
theorem hd_X5_hangsTogether : yX5_hangsTogether.cls = RX5 ∧ yX5_hangsTogether.cls ≠ "java/lang/invoke/MethodHandle" ∧ yX5_hangsTogether.cls ≠ "java/lang/invoke/VarHandle" ∧ (parseMethodDescriptor yX5_hangsTogether.desc).map (fun d => d.parameters.length) = some 1 := by decide +kernel
theorem hd_X5_isHeld : yX5_isHeld.cls = RX5 ∧ yX5_isHeld.cls ≠ "java/lang/invoke/MethodHandle" ∧ yX5_isHeld.cls ≠ "java/lang/invoke/VarHandle" ∧ (parseMethodDescriptor yX5_isHeld.desc).map (fun d => d.parameters.length) = some 1 := by decide +kernel
theorem hd_X5_isSound : yX5_isSound.cls = RX5 ∧ yX5_isSound.cls ≠ "java/lang/invoke/MethodHandle" ∧ yX5_isSound.cls ≠ "java/lang/invoke/VarHandle" ∧ (parseMethodDescriptor yX5_isSound.desc).map (fun d => d.parameters.length) = some 1 := by decide +kernel
theorem hd_X5_moving : yX5_moving.cls = RX5 ∧ yX5_moving.cls ≠ "java/lang/invoke/MethodHandle" ∧ yX5_moving.cls ≠ "java/lang/invoke/VarHandle" ∧ (parseMethodDescriptor yX5_moving.desc).map (fun d => d.parameters.length) = some 2 := by decide +kernel
theorem hd_X5_reached : yX5_reached.cls = RX5 ∧ yX5_reached.cls ≠ "java/lang/invoke/MethodHandle" ∧ yX5_reached.cls ≠ "java/lang/invoke/VarHandle" ∧ (parseMethodDescriptor yX5_reached.desc).map (fun d => d.parameters.length) = some 2 := by decide +kernel
theorem hd_X5_whole : yX5_whole.cls = RX5 ∧ yX5_whole.cls ≠ "java/lang/invoke/MethodHandle" ∧ yX5_whole.cls ≠ "java/lang/invoke/VarHandle" ∧ (parseMethodDescriptor yX5_whole.desc).map (fun d => d.parameters.length) = some 0 := by decide +kernel
set_option maxHeartbeats 4000000 in
set_option maxRecDepth 100000 in
theorem c_X5_isPart {l : Launch} {D : va_G} {ky : kT} {Hs : Heap} {ws : va_W} {h th n : Nat} {T C Hd : Nat → Nat} {b : Nat} {q : Bool} {J : Nat → Nat} {bg : Bool} {pu bu : Nat} {cl mo : Int32} {K : Nat → Nat} {fw fd fc fg fo : Nat → Int32} (hP : va_P D CL ws Hs) (hpr : isMod ky ws h th n T C Hd b q J bg pu bu cl mo K fw fd fc fg fo) {x : Int32} : PI l yX5_isPart wsX5_isPart 0 0 D ky Hs [.ref h, .int x] (bI (prt n x)) := by
  refine PI.of (cc := cX5_isPart) (maxL := 2) (ty := .boolean) (by decide) rfl (bI_nar _) (Nat.le_of_ble_eq_true rfl) ?_
  intro pg en Rm sg mi av below meth co Qo hRf hRl hx hb hml hown hts hK hret ls hl
  have hl : lv_has ls 2 [(0, .ref h), (1, .int x)] := hl
  have hS : va_S (fun _ => False) Hs Hs [] := va_S.rf
  generalize ([] : List Loc) = locs at hS ⊢
  obtain ⟨a1, a2, a3, a4, a5, a6, a7, a8, a9, a10, g19, g20, g21, g22, g23, g24, g25, g26, g27, g28, g29⟩ := id hpr
  have k44 := hts (.fieldLink RX5 44 "AssemblyPlannerModel" "parts" "I") (by decide +kernel)
  have hinX5 : ∀ w ∈ wsX50, w ∈ wsX5_isPart := by decide +kernel
  refine lv_iload_n hx hb dX5_isPart_0 rfl (lv_at hl 1 rfl) ?_
  refine lv_if_lt (tgt := 16) hx hb dX5_isPart_1 (by decide) (fun c1 => ?_) (fun c1 => ?_)
  · refine lv_iconst (v := nI 0) hx hb dX5_isPart_16 ci_0 ?_
    exact hret 17 ls locs _ dX5_isPart_17 hS (bI_f (by unfold prt; rw [decide_eq_false (fun q => q c1)]; rfl))
  · refine lv_iload_n hx hb dX5_isPart_4 rfl (lv_at hl 1 rfl) ?_
    refine lv_aload_n hx hb dX5_isPart_5 rfl (lv_at hl 0 rfl) ?_
    refine va_get (ci := 5) (C := RX5) (T := TX5) (N := 19) hx hb hts hinX5 hown hK hP 19 g19 rfl 1 (by decide) k44 (fun _ h9 => h9) rfl dX5_isPart_6 ?_
    refine lv_icmp_ge (tgt := 16) hx hb dX5_isPart_9 (by decide) (fun c2 => ?_) (fun c2 => ?_)
    · refine lv_iconst (v := nI 0) hx hb dX5_isPart_16 ci_0 ?_
      exact hret 17 ls locs _ dX5_isPart_17 hS (bI_f (by unfold prt; rw [decide_eq_false (Int32.not_lt.mpr c2), Bool.and_false]))
    · refine lv_iconst (v := nI 1) hx hb dX5_isPart_12 ci_1 ?_
      refine lv_goto (tgt := 17) hx hb dX5_isPart_13 (by decide) ?_
      exact hret 17 ls locs _ dX5_isPart_17 hS (bI_t (by unfold prt; rw [decide_eq_true c1, decide_eq_true (Int32.not_le.mp c2)]; rfl))
set_option maxHeartbeats 4000000 in
set_option maxRecDepth 100000 in
theorem c_X5_isTool {l : Launch} {D : va_G} {ky : kT} {Hs : Heap} {x : Int32} : PI l yX5_isTool wsX5_isTool 0 0 D ky Hs [.int x] (bI (prt 4 x)) := by
  refine PI.of (cc := cX5_isTool) (maxL := 1) (ty := .boolean) (by decide) rfl (bI_nar _) (Nat.le_of_ble_eq_true rfl) ?_
  intro pg en Rm sg mi av below meth co Qo hRf hRl hx hb hml hown hts hK hret ls hl
  have hl : lv_has ls 1 [(0, .int x)] := hl
  have hS : va_S (fun _ => False) Hs Hs [] := va_S.rf
  generalize ([] : List Loc) = locs at hS ⊢
  refine lv_iload_n hx hb dX5_isTool_0 rfl (lv_at hl 0 rfl) ?_
  refine lv_if_lt (tgt := 13) hx hb dX5_isTool_1 (by decide) (fun c1 => ?_) (fun c1 => ?_)
  · refine lv_iconst (v := nI 0) hx hb dX5_isTool_13 ci_0 ?_
    exact hret 14 ls locs _ dX5_isTool_14 hS (bI_f (by unfold prt; rw [decide_eq_false (fun q => q c1)]; rfl))
  · refine lv_iload_n hx hb dX5_isTool_4 rfl (lv_at hl 0 rfl) ?_
    refine lv_iconst (v := nI 4) hx hb dX5_isTool_5 ci_4 ?_
    refine lv_icmp_ge (tgt := 13) hx hb dX5_isTool_6 (by decide) (fun c2 => ?_) (fun c2 => ?_)
    · refine lv_iconst (v := nI 0) hx hb dX5_isTool_13 ci_0 ?_
      exact hret 14 ls locs _ dX5_isTool_14 hS (bI_f (by unfold prt; rw [decide_eq_false (Int32.not_lt.mpr c2), Bool.and_false]))
    · refine lv_iconst (v := nI 1) hx hb dX5_isTool_9 ci_1 ?_
      refine lv_goto (tgt := 14) hx hb dX5_isTool_10 (by decide) ?_
      exact hret 14 ls locs _ dX5_isTool_14 hS (bI_t (by unfold prt; rw [decide_eq_true c1, decide_eq_true (Int32.not_le.mp c2)]; rfl))
set_option maxHeartbeats 4000000 in
set_option maxRecDepth 100000 in
theorem c_X5_isDirection {l : Launch} {D : va_G} {ky : kT} {Hs : Heap} {x : Int32} : PI l yX5_isDirection wsX5_isDirection 0 0 D ky Hs [.int x] (bI (prt 6 x)) := by
  refine PI.of (cc := cX5_isDirection) (maxL := 1) (ty := .boolean) (by decide) rfl (bI_nar _) (Nat.le_of_ble_eq_true rfl) ?_
  intro pg en Rm sg mi av below meth co Qo hRf hRl hx hb hml hown hts hK hret ls hl
  have hl : lv_has ls 1 [(0, .int x)] := hl
  have hS : va_S (fun _ => False) Hs Hs [] := va_S.rf
  generalize ([] : List Loc) = locs at hS ⊢
  refine lv_iload_n hx hb dX5_isDirection_0 rfl (lv_at hl 0 rfl) ?_
  refine lv_if_lt (tgt := 14) hx hb dX5_isDirection_1 (by decide) (fun c1 => ?_) (fun c1 => ?_)
  · refine lv_iconst (v := nI 0) hx hb dX5_isDirection_14 ci_0 ?_
    exact hret 15 ls locs _ dX5_isDirection_15 hS (bI_f (by unfold prt; rw [decide_eq_false (fun q => q c1)]; rfl))
  · refine lv_iload_n hx hb dX5_isDirection_4 rfl (lv_at hl 0 rfl) ?_
    refine lv_bipush (v := nI 6) hx hb dX5_isDirection_5 bi_6 ?_
    refine lv_icmp_ge (tgt := 14) hx hb dX5_isDirection_7 (by decide) (fun c2 => ?_) (fun c2 => ?_)
    · refine lv_iconst (v := nI 0) hx hb dX5_isDirection_14 ci_0 ?_
      exact hret 15 ls locs _ dX5_isDirection_15 hS (bI_f (by unfold prt; rw [decide_eq_false (Int32.not_lt.mpr c2), Bool.and_false]))
    · refine lv_iconst (v := nI 1) hx hb dX5_isDirection_10 ci_1 ?_
      refine lv_goto (tgt := 15) hx hb dX5_isDirection_11 (by decide) ?_
      exact hret 15 ls locs _ dX5_isDirection_15 hS (bI_t (by unfold prt; rw [decide_eq_true c1, decide_eq_true (Int32.not_le.mp c2)]; rfl))
set_option maxHeartbeats 4000000 in
set_option maxRecDepth 100000 in
theorem c_X5_whole {l : Launch} {D : va_G} {ky : kT} {Hs : Heap} {ws : va_W} {h th n : Nat} {T C Hd : Nat → Nat} {b : Nat} {q : Bool} {J : Nat → Nat} {bg : Bool} {pu bu : Nat} {cl mo : Int32} {K : Nat → Nat} {fw fd fc fg fo : Nat → Int32} (hP : va_P D CL ws Hs) (hpr : isMod ky ws h th n T C Hd b q J bg pu bu cl mo K fw fd fc fg fo) (hn8 : n ≤ 8) : PI l yX5_whole wsX5_whole 0 0 D ky Hs [.ref h] (nI (2 ^ n - 1)) := by
  refine PI.of (cc := cX5_whole) (maxL := 1) (ty := .int) (by decide) rfl rfl (Nat.le_of_ble_eq_true rfl) ?_
  intro pg en Rm sg mi av below meth co Qo hRf hRl hx hb hml hown hts hK hret ls hl
  have hl : lv_has ls 1 [(0, .ref h)] := hl
  have hS : va_S (fun _ => False) Hs Hs [] := va_S.rf
  generalize ([] : List Loc) = locs at hS ⊢
  obtain ⟨a1, a2, a3, a4, a5, a6, a7, a8, a9, a10, g19, g20, g21, g22, g23, g24, g25, g26, g27, g28, g29⟩ := id hpr
  have hp1 : 1 ≤ 2 ^ n := Nat.one_le_two_pow
  have k44 := hts (.fieldLink RX5 44 "AssemblyPlannerModel" "parts" "I") (by decide +kernel)
  have hinX5 : ∀ w ∈ wsX50, w ∈ wsX5_whole := by decide +kernel
  refine lv_iconst (v := nI 1) hx hb dX5_whole_0 ci_1 ?_
  refine lv_aload_n hx hb dX5_whole_1 rfl (lv_at hl 0 rfl) ?_
  refine va_get (ci := 5) (C := RX5) (T := TX5) (N := 19) hx hb hts hinX5 hown hK hP 19 g19 rfl 1 (by decide) k44 (fun _ h9 => h9) rfl dX5_whole_2 ?_
  refine lv_ishl hx hb dX5_whole_5 ?_
  refine sv_top (y := nI (2 ^ n)) (sh_l1 (by omega)) ?_
  refine lv_iconst (v := nI 1) hx hb dX5_whole_6 ci_1 ?_
  refine lv_isub hx hb dX5_whole_7 ?_
  refine sv_top (y := nI ((2 ^ n) - 1)) (pk_sub (by omega)) ?_
  exact hret 8 ls locs _ dX5_whole_8 hS (rfl)
set_option maxHeartbeats 4000000 in
set_option maxRecDepth 100000 in
theorem c_X5_bits {l : Launch} {D : va_G} {ky : kT} {Hs : Heap} {S : Nat} (hS : S < 256) : PI l yX5_bits wsX5_bits 0 0 D ky Hs [.int (nI S)] (nI (cnt S)) := by
  refine PI.of (cc := cX5_bits) (maxL := 3) (ty := .int) (by decide) rfl rfl (Nat.le_of_ble_eq_true rfl) ?_
  intro pg en Rm sg mi av below meth co Qo hRf hRl hx hb hml hown hts hK hret ls hl
  have hl : lv_has ls 3 [(0, .int (nI S))] := hl
  have hS : va_S (fun _ => False) Hs Hs [] := va_S.rf
  generalize ([] : List Loc) = locs at hS ⊢
  refine lv_iconst (v := nI 0) hx hb dX5_bits_0 ci_0 ?_
  refine lv_istore_n (lv' := [(1, .int (nI 0)), (0, .int (nI S))]) hx hb dX5_bits_1 rfl hl (by decide) rfl (fun ls hl => ?_)
  refine lv_iconst (v := nI 0) hx hb dX5_bits_2 ci_0 ?_
  refine lv_istore_n (lv' := [(2, .int (nI 0)), (1, .int (nI 0)), (0, .int (nI S))]) hx hb dX5_bits_3 rfl hl (by decide) rfl (fun ls hl => ?_)
  have L4 : ∀ (L4d : Nat) (t : Nat), 8 - t < L4d → t ≤ 8 → ∀ (ls : Array Slot) (locs : List Loc), lv_has ls 3 [(1, .int (nI (itr (fun k x => x + S / 2 ^ k % 2) t 0))), (2, .int (nI t)), (0, .int (nI S))] → va_S (fun _ => False) Hs Hs locs → W pg l en Rm sg mi av below meth co Hs locs 0 0 Qo (F0 mi 4 ls []) := by
    intro L4d
    induction L4d with
    | zero => intro t hfu; exact absurd hfu (Nat.not_lt_zero _)
    | succ L4d ih4 =>
      intro t hfu i4_0 ls locs hl hS
      refine lv_iload_n hx hb dX5_bits_4 rfl (lv_at hl 1 rfl) ?_
      refine lv_bipush (v := nI 8) hx hb dX5_bits_5 bi_8 ?_
      refine sn_icmp_ge (tgt := 24) hx hb dX5_bits_7 (by decide) (by omega) (by decide) (fun c1 => ?_) (fun c1 => ?_)
      · refine lv_iload_n hx hb dX5_bits_24 rfl (lv_at hl 0 rfl) ?_
        exact hret 25 ls locs _ dX5_bits_25 hS (by rw [show t = 8 by omega]; rfl)
      · refine lv_iload_n hx hb dX5_bits_10 rfl (lv_at hl 0 rfl) ?_
        refine lv_iload_n hx hb dX5_bits_11 rfl (lv_at hl 2 rfl) ?_
        refine lv_iload_n hx hb dX5_bits_12 rfl (lv_at hl 1 rfl) ?_
        refine lv_ishr hx hb dX5_bits_13 ?_
        refine sv_top (y := nI (S / 2 ^ t)) (sh_r (by omega) (by omega)) ?_
        refine lv_iconst (v := nI 1) hx hb dX5_bits_14 ci_1 ?_
        refine lv_iand hx hb dX5_bits_15 ?_
        refine sv_top (y := nI (S / 2 ^ t % 2)) (an_1) ?_
        refine lv_iadd hx hb dX5_bits_16 ?_
        refine sv_top (y := nI ((itr (fun k x => x + S / 2 ^ k % 2) t 0) + (S / 2 ^ t % 2))) (nI_add _ _) ?_
        refine lv_istore_n (lv' := [(1, .int (nI ((itr (fun k x => x + S / 2 ^ k % 2) t 0) + (S / 2 ^ t % 2)))), (2, .int (nI t)), (0, .int (nI S))]) hx hb dX5_bits_17 rfl hl (by decide) rfl (fun ls hl => ?_)
        refine lv_iinc (v := nI (t + 1)) (lv' := [(2, .int (nI (t + 1))), (1, .int (nI ((itr (fun k x => x + S / 2 ^ k % 2) t 0) + (S / 2 ^ t % 2)))), (0, .int (nI S))]) hx hb dX5_bits_18 hl (k := 1) rfl (nI_1 _) (by decide) rfl (fun ls hl => ?_)
        refine lv_goto (tgt := 4) hx hb dX5_bits_21 (by decide) ?_
        have e1 : nI ((itr (fun k x => x + S / 2 ^ k % 2) t 0) + (S / 2 ^ t % 2)) = nI (itr (fun k x => x + S / 2 ^ k % 2) (t + 1) 0) := (rfl)
        rw [e1] at hl
        exact ih4 (t + 1) (by omega) (by omega) ls locs (lv_sub hl [1, 0, 2] rfl) hS
  exact L4 ((8 - 0) + 1) 0 (Nat.lt_succ_self _) (by omega) ls locs (lv_sub hl [1, 0, 2] rfl) hS
set_option maxHeartbeats 4000000 in
set_option maxRecDepth 100000 in
theorem c_X5_isSet {l : Launch} {D : va_G} {ky : kT} {Hs : Heap} {ws : va_W} {h th n : Nat} {T C Hd : Nat → Nat} {b : Nat} {q : Bool} {J : Nat → Nat} {bg : Bool} {pu bu : Nat} {cl mo : Int32} {K : Nat → Nat} {fw fd fc fg fo : Nat → Int32} (hP : va_P D CL ws Hs) (hpr : isMod ky ws h th n T C Hd b q J bg pu bu cl mo K fw fd fc fg fo) (hn8 : n ≤ 8) {x : Int32} : PI l yX5_isSet wsX5_isSet 1 20 D ky Hs [.ref h, .int x] (bI (stt n x)) := by
  refine PI.of (cc := cX5_isSet) (maxL := 2) (ty := .boolean) (by decide) rfl (bI_nar _) (Nat.le_of_ble_eq_true rfl) ?_
  intro pg en Rm sg mi av below meth co Qo hRf hRl hx hb hml hown hts hK hret ls hl
  have hl : lv_has ls 2 [(0, .ref h), (1, .int x)] := hl
  have hS : va_S (fun _ => False) Hs Hs [] := va_S.rf
  generalize ([] : List Loc) = locs at hS ⊢
  obtain ⟨a1, a2, a3, a4, a5, a6, a7, a8, a9, a10, g19, g20, g21, g22, g23, g24, g25, g26, g27, g28, g29⟩ := id hpr
  refine lv_iload_n hx hb dX5_isSet_0 rfl (lv_at hl 1 rfl) ?_
  refine lv_if_le (tgt := 16) hx hb dX5_isSet_1 (by decide) (fun c1 => ?_) (fun c1 => ?_)
  · refine lv_iconst (v := nI 0) hx hb dX5_isSet_16 ci_0 ?_
    exact hret 17 ls locs _ dX5_isSet_17 hS (bI_f (by unfold stt; rw [decide_eq_false (Int32.not_lt.mpr c1)]; rfl))
  · refine lv_iload_n hx hb dX5_isSet_4 rfl (lv_at hl 1 rfl) ?_
    refine lv_aload_n hx hb dX5_isSet_5 rfl (lv_at hl 0 rfl) ?_
    refine pcV (c_X5_whole hP hpr hn8) ⟨hx, hb, hml, hown, hts⟩ hK gX5_isSet_X5_whole rfl hd_X5_whole ⟨by omega, by omega⟩ (va_recv hK hP (ci := 5) (q0 := 19) rfl g19) rfl hl.1 rfl (Nat.le_of_ble_eq_true rfl) dX5_isSet_6 ⟨Nat.zero_le _, Nat.zero_le _⟩ hS (fun locs hS => ?_)
    refine lv_icmp_gt (tgt := 16) hx hb dX5_isSet_9 (by decide) (fun c2 => ?_) (fun c2 => ?_)
    · refine lv_iconst (v := nI 0) hx hb dX5_isSet_16 ci_0 ?_
      exact hret 17 ls locs _ dX5_isSet_17 hS (bI_f (by unfold stt; rw [decide_eq_false (Int32.not_le.mpr c2), Bool.and_false]))
    · refine lv_iconst (v := nI 1) hx hb dX5_isSet_12 ci_1 ?_
      refine lv_goto (tgt := 17) hx hb dX5_isSet_13 (by decide) ?_
      exact hret 17 ls locs _ dX5_isSet_17 hS (bI_t (by unfold stt; rw [decide_eq_true (Int32.not_le.mp c1), decide_eq_true (Int32.not_lt.mp c2)]; rfl))
set_option maxHeartbeats 4000000 in
set_option maxRecDepth 100000 in
theorem c_X5_reached {l : Launch} {D : va_G} {ky : kT} {Hs : Heap} {ws : va_W} {h th n : Nat} {T C Hd : Nat → Nat} {b : Nat} {q : Bool} {J : Nat → Nat} {bg : Bool} {pu bu : Nat} {cl mo : Int32} {K : Nat → Nat} {fw fd fc fg fo : Nat → Int32} (hP : va_P D CL ws Hs) (hpr : isMod ky ws h th n T C Hd b q J bg pu bu cl mo K fw fd fc fg fo) (hI : PI0 n C Hd b) {S f : Nat} (hf : f < 2 ^ n) : PI l yX5_reached wsX5_reached 0 0 D ky Hs [.ref h, .int (nI S), .int (nI f)] (nI (rch (fun i => C i &&& S) f 7)) := by
  refine PI.of (cc := cX5_reached) (maxL := 6) (ty := .int) (by decide) rfl rfl (Nat.le_of_ble_eq_true rfl) ?_
  intro pg en Rm sg mi av below meth co Qo hRf hRl hx hb hml hown hts hK hret ls hl
  have hl : lv_has ls 6 [(0, .ref h), (1, .int (nI S)), (2, .int (nI f))] := hl
  have hS : va_S (fun _ => False) Hs Hs [] := va_S.rf
  generalize ([] : List Loc) = locs at hS ⊢
  obtain ⟨a1, a2, a3, a4, a5, a6, a7, a8, a9, a10, g19, g20, g21, g22, g23, g24, g25, g26, g27, g28, g29⟩ := id hpr
  obtain ⟨hn8, hb8, hC, hH, hsy⟩ := id hI
  have hp2 : 2 ^ n ≤ 256 := p2_le hn8
  have hLa : ∀ i, (fun i => C i &&& S) i < 2 ^ n := fun i => and_b1 (hC i)
  have hLn : ∀ i, i < n → (fun i => C i &&& S) i < 2 ^ n := fun i _ => hLa i
  have hL8 : ∀ i, i < 8 → (fun i => C i &&& S) i < 2 ^ 8 := fun i _ => Nat.lt_of_lt_of_le (hLa i) hp2
  have k44 := hts (.fieldLink RX5 44 "AssemblyPlannerModel" "parts" "I") (by decide +kernel)
  have hinX5 : ∀ w ∈ wsX50, w ∈ wsX5_reached := by decide +kernel
  have k13 := hts (.fieldLink RX5 13 "AssemblyPlannerModel" "contacts" "[I") (by decide +kernel)
  refine lv_iconst (v := nI 0) hx hb dX5_reached_0 ci_0 ?_
  refine lv_istore_n (lv' := [(3, .int (nI 0)), (0, .ref h), (1, .int (nI S)), (2, .int (nI f))]) hx hb dX5_reached_1 rfl hl (by decide) rfl (fun ls hl => ?_)
  refine lv_iload_n hx hb dX5_reached_2 rfl (lv_at hl 3 rfl) ?_
  refine lv_istore (lv' := [(4, .int (nI f)), (3, .int (nI 0)), (0, .ref h), (1, .int (nI S)), (2, .int (nI f))]) hx hb dX5_reached_3 hl (by decide) rfl (fun ls hl => ?_)
  have L5 : ∀ (L5d : Nat) (had : Nat) (now : Nat), 256 - had < L5d → MI (fun i => C i &&& S) n f had now → ∀ (ls : Array Slot) (locs : List Loc), lv_has ls 6 [(3, .int (nI had)), (4, .int (nI now)), (0, .ref h), (1, .int (nI S)), (2, .int (nI f))] → va_S (fun _ => False) Hs Hs locs → W pg l en Rm sg mi av below meth co Hs locs 0 0 Qo (F0 mi 5 ls []) := by
    intro L5d
    induction L5d with
    | zero => intro had now hfu; exact absurd hfu (Nat.not_lt_zero _)
    | succ L5d ih5 =>
      intro had now hfu i5_0 ls locs hl hS
      have hnb : now < 2 ^ 31 := lt_31 i5_0.1 hn8
      have hhb : had < 2 ^ 31 := Nat.lt_of_le_of_lt (sbs_le i5_0.2.2.2.1) hnb
      refine lv_iload_n hx hb dX5_reached_5 rfl (lv_at hl 0 rfl) ?_
      refine lv_iload hx hb dX5_reached_6 (lv_at hl 1 rfl) ?_
      refine sn_icmp_eq (tgt := 63) hx hb dX5_reached_8 (by decide) (by omega) (by omega) (fun c1 => ?_) (fun c1 => ?_)
      · refine lv_iload hx hb dX5_reached_63 (lv_at hl 1 rfl) ?_
        exact hret 65 ls locs _ dX5_reached_65 hS (congrArg nI (MI_end (Eq.subst (motive := fun z => MI (fun i => C i &&& S) n f z now) c1 i5_0) hn8 hL8 hf))
      · have hm := MI_ne i5_0 hn8 c1
        refine lv_iload hx hb dX5_reached_11 (lv_at hl 1 rfl) ?_
        refine lv_istore_n (lv' := [(3, .int (nI now)), (4, .int (nI now)), (0, .ref h), (1, .int (nI S)), (2, .int (nI f))]) hx hb dX5_reached_13 rfl hl (by decide) rfl (fun ls hl => ?_)
        refine lv_iconst (v := nI 0) hx hb dX5_reached_14 ci_0 ?_
        refine lv_istore (lv' := [(5, .int (nI 0)), (3, .int (nI now)), (4, .int (nI now)), (0, .ref h), (1, .int (nI S)), (2, .int (nI f))]) hx hb dX5_reached_15 hl (by decide) rfl (fun ls hl => ?_)
        have L17 : ∀ (L17d : Nat) (j : Nat), n - j < L17d → j ≤ n → ∀ (ls : Array Slot) (locs : List Loc), lv_has ls 6 [(4, .int (nI (itr (mss (fun i => C i &&& S) now) j now))), (5, .int (nI j)), (3, .int (nI now)), (0, .ref h), (1, .int (nI S)), (2, .int (nI f))] → va_S (fun _ => False) Hs Hs locs → W pg l en Rm sg mi av below meth co Hs locs 0 0 Qo (F0 mi 17 ls []) := by
          intro L17d
          induction L17d with
          | zero => intro j hfu; exact absurd hfu (Nat.not_lt_zero _)
          | succ L17d ih17 =>
            intro j hfu i17_0 ls locs hl hS
            refine lv_iload hx hb dX5_reached_17 (lv_at hl 1 rfl) ?_
            refine lv_aload_n hx hb dX5_reached_19 rfl (lv_at hl 3 rfl) ?_
            refine va_get (ci := 5) (C := RX5) (T := TX5) (N := 19) hx hb hts hinX5 hown hK hP 19 g19 rfl 1 (by decide) k44 (fun _ h9 => h9) rfl dX5_reached_20 ?_
            refine sn_icmp_ge (tgt := 60) hx hb dX5_reached_23 (by decide) (by omega) (by omega) (fun c2 => ?_) (fun c2 => ?_)
            · refine lv_goto (tgt := 5) hx hb dX5_reached_60 (by decide) ?_
              have e4 : nI (itr (mss (fun i => C i &&& S) now) j now) = nI (itr (mss (fun i => C i &&& S) now) n now) := (by rw [show j = n by omega])
              rw [e4] at hl
              exact ih5 now (itr (mss (fun i => C i &&& S) now) n now) (by omega) (MI_s i5_0 hn8 hLn) ls locs (lv_sub hl [2, 0, 3, 4, 5] rfl) hS
            · refine lv_iload hx hb dX5_reached_26 (lv_at hl 0 rfl) ?_
              refine lv_iload_n hx hb dX5_reached_28 rfl (lv_at hl 2 rfl) ?_
              refine lv_iload hx hb dX5_reached_29 (lv_at hl 1 rfl) ?_
              refine lv_ishr hx hb dX5_reached_31 ?_
              refine sv_top (y := nI (now / 2 ^ j)) (sh_r (by omega) (by omega)) ?_
              refine lv_iconst (v := nI 1) hx hb dX5_reached_32 ci_1 ?_
              refine lv_iand hx hb dX5_reached_33 ?_
              refine sv_top (y := nI (now / 2 ^ j % 2)) (an_1) ?_
              refine lv_iconst (v := nI 1) hx hb dX5_reached_34 ci_1 ?_
              refine st_icmp_ne (tgt := 50) hx hb dX5_reached_35 (by decide) (fun c3 => ?_) (fun c3 => ?_)
              · refine lv_iconst (v := nI 0) hx hb dX5_reached_50 ci_0 ?_
                refine lv_ior hx hb dX5_reached_51 ?_
                refine sv_top (y := nI ((itr (mss (fun i => C i &&& S) now) j now) ||| 0)) (an_or _ _) ?_
                refine lv_istore (lv' := [(4, .int (nI ((itr (mss (fun i => C i &&& S) now) j now) ||| 0))), (5, .int (nI j)), (3, .int (nI now)), (0, .ref h), (1, .int (nI S)), (2, .int (nI f))]) hx hb dX5_reached_52 hl (by decide) rfl (fun ls hl => ?_)
                refine lv_iinc (v := nI (j + 1)) (lv' := [(5, .int (nI (j + 1))), (4, .int (nI ((itr (mss (fun i => C i &&& S) now) j now) ||| 0))), (3, .int (nI now)), (0, .ref h), (1, .int (nI S)), (2, .int (nI f))]) hx hb dX5_reached_54 hl (k := 1) rfl (nI_1 _) (by decide) rfl (fun ls hl => ?_)
                refine lv_goto (tgt := 17) hx hb dX5_reached_57 (by decide) ?_
                have e4 : nI ((itr (mss (fun i => C i &&& S) now) j now) ||| 0) = nI (itr (mss (fun i => C i &&& S) now) (j + 1) now) := (or_0 (show _ = mss (fun i => C i &&& S) now j _ from (if_neg (by rw [c3]; decide)).symm))
                rw [e4] at hl
                exact ih17 (j + 1) (by omega) (by omega) ls locs (lv_sub hl [1, 0, 2, 3, 4, 5] rfl) hS
              · refine lv_aload_n hx hb dX5_reached_38 rfl (lv_at hl 3 rfl) ?_
                refine va_get (ci := 5) (C := RX5) (T := TX5) (N := 19) hx hb hts hinX5 hown hK hP 19 g19 rfl 3 (by decide) k13 (fun _ h9 => h9) rfl dX5_reached_39 ?_
                refine lv_iload hx hb dX5_reached_42 (lv_at hl 1 rfl) ?_
                refine sv_iald hx hb hK hP 21 g21 (j := j) (by omega) (by decide) dX5_reached_44 ?_
                refine W.eq (g2 := F0 mi 45 ls (.int (nI (C j)) :: [.int (nI (itr (mss (fun i => C i &&& S) now) j now))])) rfl ?_
                refine lv_iload_n hx hb dX5_reached_45 rfl (lv_at hl 4 rfl) ?_
                refine lv_iand hx hb dX5_reached_46 ?_
                refine sv_top (y := nI ((C j) &&& S)) (an_and _ _) ?_
                refine lv_goto (tgt := 51) hx hb dX5_reached_47 (by decide) ?_
                refine lv_ior hx hb dX5_reached_51 ?_
                refine sv_top (y := nI ((itr (mss (fun i => C i &&& S) now) j now) ||| ((C j) &&& S))) (an_or _ _) ?_
                refine lv_istore (lv' := [(4, .int (nI ((itr (mss (fun i => C i &&& S) now) j now) ||| ((C j) &&& S)))), (5, .int (nI j)), (3, .int (nI now)), (0, .ref h), (1, .int (nI S)), (2, .int (nI f))]) hx hb dX5_reached_52 hl (by decide) rfl (fun ls hl => ?_)
                refine lv_iinc (v := nI (j + 1)) (lv' := [(5, .int (nI (j + 1))), (4, .int (nI ((itr (mss (fun i => C i &&& S) now) j now) ||| ((C j) &&& S)))), (3, .int (nI now)), (0, .ref h), (1, .int (nI S)), (2, .int (nI f))]) hx hb dX5_reached_54 hl (k := 1) rfl (nI_1 _) (by decide) rfl (fun ls hl => ?_)
                refine lv_goto (tgt := 17) hx hb dX5_reached_57 (by decide) ?_
                have e4 : nI ((itr (mss (fun i => C i &&& S) now) j now) ||| ((C j) &&& S)) = nI (itr (mss (fun i => C i &&& S) now) (j + 1) now) := (congrArg nI (show _ = mss (fun i => C i &&& S) now j _ from (if_pos c3).symm))
                rw [e4] at hl
                exact ih17 (j + 1) (by omega) (by omega) ls locs (lv_sub hl [1, 0, 2, 3, 4, 5] rfl) hS
        exact L17 ((n - 0) + 1) 0 (Nat.lt_succ_self _) (by omega) ls locs (lv_sub hl [2, 0, 1, 3, 4, 5] rfl) hS
  exact L5 ((256 - 0) + 1) 0 f (Nat.lt_succ_self _) (MI_0 hf) ls locs (lv_sub hl [1, 0, 2, 3, 4] rfl) hS
set_option maxHeartbeats 4000000 in
set_option maxRecDepth 100000 in
theorem c_X5_moving {l : Launch} {D : va_G} {ky : kT} {Hs : Heap} {ws : va_W} {h th n : Nat} {T C Hd : Nat → Nat} {b : Nat} {q : Bool} {J : Nat → Nat} {bg : Bool} {pu bu : Nat} {cl mo : Int32} {K : Nat → Nat} {fw fd fc fg fo : Nat → Int32} (hP : va_P D CL ws Hs) (hpr : isMod ky ws h th n T C Hd b q J bg pu bu cl mo K fw fd fc fg fo) (hI : PI0 n C Hd b) {pt d : Nat} (hp : pt < n) (hd : d < 6) : PI l yX5_moving wsX5_moving 0 0 D ky Hs [.ref h, .int (nI pt), .int (nI d)] (nI (mov Hd n pt d)) := by
  refine PI.of (cc := cX5_moving) (maxL := 6) (ty := .int) (by decide) rfl rfl (Nat.le_of_ble_eq_true rfl) ?_
  intro pg en Rm sg mi av below meth co Qo hRf hRl hx hb hml hown hts hK hret ls hl
  have hl : lv_has ls 6 [(0, .ref h), (1, .int (nI pt)), (2, .int (nI d))] := hl
  have hS : va_S (fun _ => False) Hs Hs [] := va_S.rf
  generalize ([] : List Loc) = locs at hS ⊢
  obtain ⟨a1, a2, a3, a4, a5, a6, a7, a8, a9, a10, g19, g20, g21, g22, g23, g24, g25, g26, g27, g28, g29⟩ := id hpr
  obtain ⟨hn8, hb8, hC, hH, hsy⟩ := id hI
  have hp2 : 2 ^ n ≤ 256 := p2_le hn8
  have hf : 2 ^ pt < 2 ^ n := Nat.pow_lt_pow_right (by decide) hp
  rw [mov_L hI] at hret
  have hLa : ∀ i, (fun i => Hd (8 * d + i)) i < 2 ^ n := fun i => hH _
  have hLn : ∀ i, i < n → (fun i => Hd (8 * d + i)) i < 2 ^ n := fun i _ => hLa i
  have hL8 : ∀ i, i < 8 → (fun i => Hd (8 * d + i)) i < 2 ^ 8 := fun i _ => Nat.lt_of_lt_of_le (hLa i) hp2
  have k44 := hts (.fieldLink RX5 44 "AssemblyPlannerModel" "parts" "I") (by decide +kernel)
  have hinX5 : ∀ w ∈ wsX50, w ∈ wsX5_moving := by decide +kernel
  have k16 := hts (.fieldLink RX5 16 "AssemblyPlannerModel" "hinders" "[I") (by decide +kernel)
  refine lv_iconst (v := nI 0) hx hb dX5_moving_0 ci_0 ?_
  refine lv_istore_n (lv' := [(3, .int (nI 0)), (0, .ref h), (1, .int (nI pt)), (2, .int (nI d))]) hx hb dX5_moving_1 rfl hl (by decide) rfl (fun ls hl => ?_)
  refine lv_iconst (v := nI 1) hx hb dX5_moving_2 ci_1 ?_
  refine lv_iload_n hx hb dX5_moving_3 rfl (lv_at hl 2 rfl) ?_
  refine lv_ishl hx hb dX5_moving_4 ?_
  refine sv_top (y := nI (2 ^ pt)) (sh_l1 (by omega)) ?_
  refine lv_istore (lv' := [(4, .int (nI (2 ^ pt))), (3, .int (nI 0)), (0, .ref h), (1, .int (nI pt)), (2, .int (nI d))]) hx hb dX5_moving_5 hl (by decide) rfl (fun ls hl => ?_)
  have L7 : ∀ (L7d : Nat) (had : Nat) (now : Nat), 256 - had < L7d → MI (fun i => Hd (8 * d + i)) n (2 ^ pt) had now → ∀ (ls : Array Slot) (locs : List Loc), lv_has ls 6 [(3, .int (nI had)), (4, .int (nI now)), (0, .ref h), (1, .int (nI pt)), (2, .int (nI d))] → va_S (fun _ => False) Hs Hs locs → W pg l en Rm sg mi av below meth co Hs locs 0 0 Qo (F0 mi 7 ls []) := by
    intro L7d
    induction L7d with
    | zero => intro had now hfu; exact absurd hfu (Nat.not_lt_zero _)
    | succ L7d ih7 =>
      intro had now hfu i7_0 ls locs hl hS
      have hnb : now < 2 ^ 31 := lt_31 i7_0.1 hn8
      have hhb : had < 2 ^ 31 := Nat.lt_of_le_of_lt (sbs_le i7_0.2.2.2.1) hnb
      refine lv_iload_n hx hb dX5_moving_7 rfl (lv_at hl 0 rfl) ?_
      refine lv_iload hx hb dX5_moving_8 (lv_at hl 1 rfl) ?_
      refine sn_icmp_eq (tgt := 68) hx hb dX5_moving_10 (by decide) (by omega) (by omega) (fun c1 => ?_) (fun c1 => ?_)
      · refine lv_iload hx hb dX5_moving_68 (lv_at hl 1 rfl) ?_
        exact hret 70 ls locs _ dX5_moving_70 hS (congrArg nI (MI_end (Eq.subst (motive := fun z => MI (fun i => Hd (8 * d + i)) n (2 ^ pt) z now) c1 i7_0) hn8 hL8 hf))
      · have hm := MI_ne i7_0 hn8 c1
        refine lv_iload hx hb dX5_moving_13 (lv_at hl 1 rfl) ?_
        refine lv_istore_n (lv' := [(3, .int (nI now)), (4, .int (nI now)), (0, .ref h), (1, .int (nI pt)), (2, .int (nI d))]) hx hb dX5_moving_15 rfl hl (by decide) rfl (fun ls hl => ?_)
        refine lv_iconst (v := nI 0) hx hb dX5_moving_16 ci_0 ?_
        refine lv_istore (lv' := [(5, .int (nI 0)), (3, .int (nI now)), (4, .int (nI now)), (0, .ref h), (1, .int (nI pt)), (2, .int (nI d))]) hx hb dX5_moving_17 hl (by decide) rfl (fun ls hl => ?_)
        have L19 : ∀ (L19d : Nat) (j : Nat), n - j < L19d → j ≤ n → ∀ (ls : Array Slot) (locs : List Loc), lv_has ls 6 [(4, .int (nI (itr (mss (fun i => Hd (8 * d + i)) now) j now))), (5, .int (nI j)), (3, .int (nI now)), (0, .ref h), (1, .int (nI pt)), (2, .int (nI d))] → va_S (fun _ => False) Hs Hs locs → W pg l en Rm sg mi av below meth co Hs locs 0 0 Qo (F0 mi 19 ls []) := by
          intro L19d
          induction L19d with
          | zero => intro j hfu; exact absurd hfu (Nat.not_lt_zero _)
          | succ L19d ih19 =>
            intro j hfu i19_0 ls locs hl hS
            refine lv_iload hx hb dX5_moving_19 (lv_at hl 1 rfl) ?_
            refine lv_aload_n hx hb dX5_moving_21 rfl (lv_at hl 3 rfl) ?_
            refine va_get (ci := 5) (C := RX5) (T := TX5) (N := 19) hx hb hts hinX5 hown hK hP 19 g19 rfl 1 (by decide) k44 (fun _ h9 => h9) rfl dX5_moving_22 ?_
            refine sn_icmp_ge (tgt := 65) hx hb dX5_moving_25 (by decide) (by omega) (by omega) (fun c2 => ?_) (fun c2 => ?_)
            · refine lv_goto (tgt := 7) hx hb dX5_moving_65 (by decide) ?_
              have e4 : nI (itr (mss (fun i => Hd (8 * d + i)) now) j now) = nI (itr (mss (fun i => Hd (8 * d + i)) now) n now) := (by rw [show j = n by omega])
              rw [e4] at hl
              exact ih7 now (itr (mss (fun i => Hd (8 * d + i)) now) n now) (by omega) (MI_s i7_0 hn8 hLn) ls locs (lv_sub hl [2, 0, 3, 4, 5] rfl) hS
            · refine lv_iload hx hb dX5_moving_28 (lv_at hl 0 rfl) ?_
              refine lv_iload_n hx hb dX5_moving_30 rfl (lv_at hl 2 rfl) ?_
              refine lv_iload hx hb dX5_moving_31 (lv_at hl 1 rfl) ?_
              refine lv_ishr hx hb dX5_moving_33 ?_
              refine sv_top (y := nI (now / 2 ^ j)) (sh_r (by omega) (by omega)) ?_
              refine lv_iconst (v := nI 1) hx hb dX5_moving_34 ci_1 ?_
              refine lv_iand hx hb dX5_moving_35 ?_
              refine sv_top (y := nI (now / 2 ^ j % 2)) (an_1) ?_
              refine lv_iconst (v := nI 1) hx hb dX5_moving_36 ci_1 ?_
              refine st_icmp_ne (tgt := 55) hx hb dX5_moving_37 (by decide) (fun c3 => ?_) (fun c3 => ?_)
              · refine lv_iconst (v := nI 0) hx hb dX5_moving_55 ci_0 ?_
                refine lv_ior hx hb dX5_moving_56 ?_
                refine sv_top (y := nI ((itr (mss (fun i => Hd (8 * d + i)) now) j now) ||| 0)) (an_or _ _) ?_
                refine lv_istore (lv' := [(4, .int (nI ((itr (mss (fun i => Hd (8 * d + i)) now) j now) ||| 0))), (5, .int (nI j)), (3, .int (nI now)), (0, .ref h), (1, .int (nI pt)), (2, .int (nI d))]) hx hb dX5_moving_57 hl (by decide) rfl (fun ls hl => ?_)
                refine lv_iinc (v := nI (j + 1)) (lv' := [(5, .int (nI (j + 1))), (4, .int (nI ((itr (mss (fun i => Hd (8 * d + i)) now) j now) ||| 0))), (3, .int (nI now)), (0, .ref h), (1, .int (nI pt)), (2, .int (nI d))]) hx hb dX5_moving_59 hl (k := 1) rfl (nI_1 _) (by decide) rfl (fun ls hl => ?_)
                refine lv_goto (tgt := 19) hx hb dX5_moving_62 (by decide) ?_
                have e4 : nI ((itr (mss (fun i => Hd (8 * d + i)) now) j now) ||| 0) = nI (itr (mss (fun i => Hd (8 * d + i)) now) (j + 1) now) := (or_0 (show _ = mss (fun i => Hd (8 * d + i)) now j _ from (if_neg (by rw [c3]; decide)).symm))
                rw [e4] at hl
                exact ih19 (j + 1) (by omega) (by omega) ls locs (lv_sub hl [1, 0, 2, 3, 4, 5] rfl) hS
              · refine lv_aload_n hx hb dX5_moving_40 rfl (lv_at hl 3 rfl) ?_
                refine va_get (ci := 5) (C := RX5) (T := TX5) (N := 19) hx hb hts hinX5 hown hK hP 19 g19 rfl 4 (by decide) k16 (fun _ h9 => h9) rfl dX5_moving_41 ?_
                refine lv_bipush (v := nI 8) hx hb dX5_moving_44 bi_8 ?_
                refine lv_iload_n hx hb dX5_moving_46 rfl (lv_at hl 5 rfl) ?_
                refine lv_imul hx hb dX5_moving_47 ?_
                refine sv_top (y := nI (8 * d)) (mul_n _ _) ?_
                refine lv_iload hx hb dX5_moving_48 (lv_at hl 1 rfl) ?_
                refine lv_iadd hx hb dX5_moving_50 ?_
                refine sv_top (y := nI (8 * d + j)) (nI_add _ _) ?_
                refine sv_iald hx hb hK hP 22 g22 (j := 8 * d + j) (by omega) (by decide) dX5_moving_51 ?_
                refine W.eq (g2 := F0 mi 52 ls (.int (nI (Hd (8 * d + j))) :: [.int (nI (itr (mss (fun i => Hd (8 * d + i)) now) j now))])) rfl ?_
                refine lv_goto (tgt := 56) hx hb dX5_moving_52 (by decide) ?_
                refine lv_ior hx hb dX5_moving_56 ?_
                refine sv_top (y := nI ((itr (mss (fun i => Hd (8 * d + i)) now) j now) ||| (Hd (8 * d + j)))) (an_or _ _) ?_
                refine lv_istore (lv' := [(4, .int (nI ((itr (mss (fun i => Hd (8 * d + i)) now) j now) ||| (Hd (8 * d + j))))), (5, .int (nI j)), (3, .int (nI now)), (0, .ref h), (1, .int (nI pt)), (2, .int (nI d))]) hx hb dX5_moving_57 hl (by decide) rfl (fun ls hl => ?_)
                refine lv_iinc (v := nI (j + 1)) (lv' := [(5, .int (nI (j + 1))), (4, .int (nI ((itr (mss (fun i => Hd (8 * d + i)) now) j now) ||| (Hd (8 * d + j))))), (3, .int (nI now)), (0, .ref h), (1, .int (nI pt)), (2, .int (nI d))]) hx hb dX5_moving_59 hl (k := 1) rfl (nI_1 _) (by decide) rfl (fun ls hl => ?_)
                refine lv_goto (tgt := 19) hx hb dX5_moving_62 (by decide) ?_
                have e4 : nI ((itr (mss (fun i => Hd (8 * d + i)) now) j now) ||| (Hd (8 * d + j))) = nI (itr (mss (fun i => Hd (8 * d + i)) now) (j + 1) now) := (congrArg nI (show _ = mss (fun i => Hd (8 * d + i)) now j _ from (if_pos c3).symm))
                rw [e4] at hl
                exact ih19 (j + 1) (by omega) (by omega) ls locs (lv_sub hl [1, 0, 2, 3, 4, 5] rfl) hS
        exact L19 ((n - 0) + 1) 0 (Nat.lt_succ_self _) (by omega) ls locs (lv_sub hl [2, 0, 1, 3, 4, 5] rfl) hS
  exact L7 ((256 - 0) + 1) 0 ((2 ^ pt)) (Nat.lt_succ_self _) (MI_0 hf) ls locs (lv_sub hl [1, 0, 2, 3, 4] rfl) hS
set_option maxHeartbeats 4000000 in
set_option maxRecDepth 100000 in
theorem c_X5_hangsTogether {l : Launch} {D : va_G} {ky : kT} {Hs : Heap} {ws : va_W} {h th n : Nat} {T C Hd : Nat → Nat} {b : Nat} {q : Bool} {J : Nat → Nat} {bg : Bool} {pu bu : Nat} {cl mo : Int32} {K : Nat → Nat} {fw fd fc fg fo : Nat → Int32} (hP : va_P D CL ws Hs) (hpr : isMod ky ws h th n T C Hd b q J bg pu bu cl mo K fw fd fc fg fo) (hI : PI0 n C Hd b) {S : Nat} (hS0 : S < 2 ^ n) : PI l yX5_hangsTogether wsX5_hangsTogether 1 25 D ky Hs [.ref h, .int (nI S)] (bI (conn C S)) := by
  refine PI.of (cc := cX5_hangsTogether) (maxL := 2) (ty := .boolean) (by decide) rfl (bI_nar _) (Nat.le_of_ble_eq_true rfl) ?_
  intro pg en Rm sg mi av below meth co Qo hRf hRl hx hb hml hown hts hK hret ls hl
  have hl : lv_has ls 2 [(0, .ref h), (1, .int (nI S))] := hl
  have hS : va_S (fun _ => False) Hs Hs [] := va_S.rf
  generalize ([] : List Loc) = locs at hS ⊢
  obtain ⟨a1, a2, a3, a4, a5, a6, a7, a8, a9, a10, g19, g20, g21, g22, g23, g24, g25, g26, g27, g28, g29⟩ := id hpr
  obtain ⟨hn8, hb8, hC, hH, hsy⟩ := id hI
  have hp2 : 2 ^ n ≤ 256 := p2_le hn8
  have hS8 : S < 256 := Nat.lt_of_lt_of_le hS0 (p2_le hn8)
  have hS31 : S < 2 ^ 31 := lt_31 hS0 hn8
  refine lv_iload_n hx hb dX5_hangsTogether_0 rfl (lv_at hl 1 rfl) ?_
  refine sn_if_eq (tgt := 21) hx hb dX5_hangsTogether_1 (by decide) (by omega) (fun c1 => ?_) (fun c1 => ?_)
  · refine lv_iconst (v := nI 0) hx hb dX5_hangsTogether_21 ci_0 ?_
    exact hret 22 ls locs _ dX5_hangsTogether_22 hS (bI_f (by unfold conn; rw [decide_eq_false (fun q => q c1)]; rfl))
  · refine lv_aload_n hx hb dX5_hangsTogether_4 rfl (lv_at hl 0 rfl) ?_
    refine lv_iload_n hx hb dX5_hangsTogether_5 rfl (lv_at hl 1 rfl) ?_
    refine lv_iload_n hx hb dX5_hangsTogether_6 rfl (lv_at hl 1 rfl) ?_
    refine lv_iload_n hx hb dX5_hangsTogether_7 rfl (lv_at hl 1 rfl) ?_
    refine lv_ineg hx hb dX5_hangsTogether_8 ?_
    refine lv_iand hx hb dX5_hangsTogether_9 ?_
    refine sv_top (y := nI (low S)) (low_eq _) ?_
    refine pcV (c_X5_reached hP hpr hI (Nat.lt_of_le_of_lt (low_lt S hS8).2.1 hS0)) ⟨hx, hb, hml, hown, hts⟩ hK gX5_hangsTogether_X5_reached rfl hd_X5_reached ⟨by omega, by omega⟩ (va_recv hK hP (ci := 5) (q0 := 19) rfl g19) rfl hl.1 rfl (Nat.le_of_ble_eq_true rfl) dX5_hangsTogether_10 ⟨Nat.zero_le _, Nat.zero_le _⟩ hS (fun locs hS => ?_)
    refine lv_iload_n hx hb dX5_hangsTogether_13 rfl (lv_at hl 1 rfl) ?_
    refine sn_icmp_ne (tgt := 21) hx hb dX5_hangsTogether_14 (by decide) (lt_31 (rch_lt (fun i _ => and_b1 (hC i)) (Nat.lt_of_le_of_lt (low_lt S hS8).2.1 hS0) 7) hn8) (by omega) (fun c2 => ?_) (fun c2 => ?_)
    · refine lv_iconst (v := nI 0) hx hb dX5_hangsTogether_21 ci_0 ?_
      exact hret 22 ls locs _ dX5_hangsTogether_22 hS (bI_f (by unfold conn; rw [decide_eq_false c2, Bool.and_false]))
    · refine lv_iconst (v := nI 1) hx hb dX5_hangsTogether_17 ci_1 ?_
      refine lv_goto (tgt := 22) hx hb dX5_hangsTogether_18 (by decide) ?_
      exact hret 22 ls locs _ dX5_hangsTogether_22 hS (bI_t (by unfold conn; rw [decide_eq_true c1, decide_eq_true c2]; rfl))
set_option maxHeartbeats 4000000 in
set_option maxRecDepth 100000 in
theorem c_X5_isHeld {l : Launch} {D : va_G} {ky : kT} {Hs : Heap} {ws : va_W} {h th n : Nat} {T C Hd : Nat → Nat} {b : Nat} {q : Bool} {J : Nat → Nat} {bg : Bool} {pu bu : Nat} {cl mo : Int32} {K : Nat → Nat} {fw fd fc fg fo : Nat → Int32} (hP : va_P D CL ws Hs) (hpr : isMod ky ws h th n T C Hd b q J bg pu bu cl mo K fw fd fc fg fo) (hI : PI0 n C Hd b) {S : Nat} (hS0 : S < 2 ^ n) : PI l yX5_isHeld wsX5_isHeld 0 0 D ky Hs [.ref h, .int (nI S)] (bI (stdy Hd b S)) := by
  refine PI.of (cc := cX5_isHeld) (maxL := 6) (ty := .boolean) (by decide) rfl (bI_nar _) (Nat.le_of_ble_eq_true rfl) ?_
  intro pg en Rm sg mi av below meth co Qo hRf hRl hx hb hml hown hts hK hret ls hl
  have hl : lv_has ls 6 [(0, .ref h), (1, .int (nI S))] := hl
  have hS : va_S (fun _ => False) Hs Hs [] := va_S.rf
  generalize ([] : List Loc) = locs at hS ⊢
  obtain ⟨a1, a2, a3, a4, a5, a6, a7, a8, a9, a10, g19, g20, g21, g22, g23, g24, g25, g26, g27, g28, g29⟩ := id hpr
  obtain ⟨hn8, hb8, hC, hH, hsy⟩ := id hI
  have hp2 : 2 ^ n ≤ 256 := p2_le hn8
  have hf : S &&& 2 ^ b < 2 ^ n := and_b1 hS0
  have hS31 : S < 2 ^ 31 := lt_31 hS0 hn8
  have hLn : ∀ i, i < n → (fun i => Hd (32 + i) &&& S) i < 2 ^ n := fun i _ => and_b1 (hH _)
  have hL8 : ∀ i, i < 8 → (fun i => Hd (32 + i) &&& S) i < 2 ^ 8 := fun i _ => Nat.lt_of_lt_of_le (and_b1 (hH _)) hp2
  have hf31 : S &&& 2 ^ b < 2 ^ 31 := lt_31 hf hn8
  have k68 := hts (.fieldLink RX5 68 "AssemblyPlannerModel" "base" "I") (by decide +kernel)
  have hinX5 : ∀ w ∈ wsX50, w ∈ wsX5_isHeld := by decide +kernel
  have k44 := hts (.fieldLink RX5 44 "AssemblyPlannerModel" "parts" "I") (by decide +kernel)
  have k16 := hts (.fieldLink RX5 16 "AssemblyPlannerModel" "hinders" "[I") (by decide +kernel)
  refine lv_iconst (v := -1) hx hb dX5_isHeld_0 ci_m1 ?_
  refine lv_istore_n (lv' := [(2, .int (-1)), (0, .ref h), (1, .int (nI S))]) hx hb dX5_isHeld_1 rfl hl (by decide) rfl (fun ls hl => ?_)
  refine lv_iload_n hx hb dX5_isHeld_2 rfl (lv_at hl 2 rfl) ?_
  refine lv_iconst (v := nI 1) hx hb dX5_isHeld_3 ci_1 ?_
  refine lv_aload_n hx hb dX5_isHeld_4 rfl (lv_at hl 1 rfl) ?_
  refine va_get (ci := 5) (C := RX5) (T := TX5) (N := 19) hx hb hts hinX5 hown hK hP 19 g19 rfl 5 (by decide) k68 (fun _ h9 => h9) rfl dX5_isHeld_5 ?_
  refine lv_ishl hx hb dX5_isHeld_8 ?_
  refine sv_top (y := nI (2 ^ b)) (sh_l1 (by omega)) ?_
  refine lv_iand hx hb dX5_isHeld_9 ?_
  refine sv_top (y := nI (S &&& (2 ^ b))) (an_and _ _) ?_
  refine lv_istore_n (lv' := [(3, .int (nI (S &&& (2 ^ b)))), (2, .int (-1)), (0, .ref h), (1, .int (nI S))]) hx hb dX5_isHeld_10 rfl hl (by decide) rfl (fun ls hl => ?_)
  refine lv_iload_n hx hb dX5_isHeld_11 rfl (lv_at hl 1 rfl) ?_
  refine lv_iload_n hx hb dX5_isHeld_12 rfl (lv_at hl 0 rfl) ?_
  refine lv_icmp_eq (tgt := 87) hx hb dX5_isHeld_13 (by decide) (fun q => absurd q (m1_ne (and_b2 (pw_lt (by omega))))) (fun _ => ?_)
  refine lv_iload_n hx hb dX5_isHeld_16 rfl (lv_at hl 0 rfl) ?_
  refine lv_istore_n (lv' := [(2, .int (nI (S &&& (2 ^ b)))), (3, .int (nI (S &&& (2 ^ b)))), (0, .ref h), (1, .int (nI S))]) hx hb dX5_isHeld_17 rfl hl (by decide) rfl (fun ls hl => ?_)
  refine lv_iconst (v := nI 0) hx hb dX5_isHeld_18 ci_0 ?_
  refine lv_istore (lv' := [(4, .int (nI 0)), (2, .int (nI (S &&& (2 ^ b)))), (3, .int (nI (S &&& (2 ^ b)))), (0, .ref h), (1, .int (nI S))]) hx hb dX5_isHeld_19 hl (by decide) rfl (fun ls hl => ?_)
  have L21 : ∀ (L21d : Nat) (j : Nat), n - j < L21d → j ≤ n → ∀ (ls : Array Slot) (locs : List Loc), lv_has ls 6 [(3, .int (nI (mkb (hsP Hd S (S &&& (2 ^ b))) j (S &&& (2 ^ b))))), (4, .int (nI j)), (2, .int (nI ((S &&& (2 ^ b))))), (0, .ref h), (1, .int (nI S))] → va_S (fun _ => False) Hs Hs locs → W pg l en Rm sg mi av below meth co Hs locs 0 0 Qo (F0 mi 21 ls []) := by
    intro L21d
    induction L21d with
    | zero => intro j hfu; exact absurd hfu (Nat.not_lt_zero _)
    | succ L21d ih21 =>
      intro j hfu i21_0 ls locs hl hS
      refine lv_iload hx hb dX5_isHeld_21 (lv_at hl 1 rfl) ?_
      refine lv_aload_n hx hb dX5_isHeld_23 rfl (lv_at hl 3 rfl) ?_
      refine va_get (ci := 5) (C := RX5) (T := TX5) (N := 19) hx hb hts hinX5 hown hK hP 19 g19 rfl 1 (by decide) k44 (fun _ h9 => h9) rfl dX5_isHeld_24 ?_
      refine sn_icmp_ge (tgt := 84) hx hb dX5_isHeld_27 (by decide) (by omega) (by omega) (fun c2 => ?_) (fun c2 => ?_)
      · refine lv_goto (tgt := 11) hx hb dX5_isHeld_84 (by decide) ?_
        have L11 : ∀ (L11d : Nat) (had : Nat) (now : Nat), 256 - had < L11d → MI (fun i => Hd (32 + i) &&& S) n (S &&& 2 ^ b) had now → ∀ (ls : Array Slot) (locs : List Loc), lv_has ls 6 [(2, .int (nI had)), (3, .int (nI now)), (0, .ref h), (1, .int (nI S))] → va_S (fun _ => False) Hs Hs locs → W pg l en Rm sg mi av below meth co Hs locs 0 0 Qo (F0 mi 11 ls []) := by
          intro L11d
          induction L11d with
          | zero => intro had now hfu; exact absurd hfu (Nat.not_lt_zero _)
          | succ L11d ih11 =>
            intro had now hfu i11_0 ls locs hl hS
            have hnb : now < 2 ^ 31 := lt_31 i11_0.1 hn8
            have hhb : had < 2 ^ 31 := Nat.lt_of_le_of_lt (sbs_le i11_0.2.2.2.1) hnb
            refine lv_iload_n hx hb dX5_isHeld_11 rfl (lv_at hl 0 rfl) ?_
            refine lv_iload_n hx hb dX5_isHeld_12 rfl (lv_at hl 1 rfl) ?_
            refine sn_icmp_eq (tgt := 87) hx hb dX5_isHeld_13 (by decide) (by omega) (by omega) (fun c3 => ?_) (fun c3 => ?_)
            · have hend : now = rch (fun i => Hd (32 + i) &&& S) (S &&& 2 ^ b) 7 := MI_end (Eq.subst (motive := fun z => MI (fun i => Hd (32 + i) &&& S) n (S &&& 2 ^ b) z now) c3 i11_0) hn8 hL8 hf
              refine lv_iload_n hx hb dX5_isHeld_87 rfl (lv_at hl 1 rfl) ?_
              refine lv_iload_n hx hb dX5_isHeld_88 rfl (lv_at hl 3 rfl) ?_
              refine sn_icmp_ne (tgt := 96) hx hb dX5_isHeld_89 (by decide) (by omega) (by omega) (fun c4 => ?_) (fun c4 => ?_)
              · refine lv_iconst (v := nI 0) hx hb dX5_isHeld_96 ci_0 ?_
                exact hret 97 ls locs _ dX5_isHeld_97 hS (bI_f (by unfold stdy; rw [← hend]; exact decide_eq_false c4))
              · refine lv_iconst (v := nI 1) hx hb dX5_isHeld_92 ci_1 ?_
                refine lv_goto (tgt := 97) hx hb dX5_isHeld_93 (by decide) ?_
                exact hret 97 ls locs _ dX5_isHeld_97 hS (bI_t (by unfold stdy; rw [← hend]; exact decide_eq_true c4))
            · have hm := MI_ne i11_0 hn8 c3
              refine lv_iload_n hx hb dX5_isHeld_16 rfl (lv_at hl 1 rfl) ?_
              refine lv_istore_n (lv' := [(2, .int (nI now)), (3, .int (nI now)), (0, .ref h), (1, .int (nI S))]) hx hb dX5_isHeld_17 rfl hl (by decide) rfl (fun ls hl => ?_)
              refine lv_iconst (v := nI 0) hx hb dX5_isHeld_18 ci_0 ?_
              refine lv_istore (lv' := [(4, .int (nI 0)), (2, .int (nI now)), (3, .int (nI now)), (0, .ref h), (1, .int (nI S))]) hx hb dX5_isHeld_19 hl (by decide) rfl (fun ls hl => ?_)
              have L21 : ∀ (L21d : Nat) (j : Nat), n - j < L21d → j ≤ n → ∀ (ls : Array Slot) (locs : List Loc), lv_has ls 6 [(3, .int (nI (mkb (hsP Hd S now) j now))), (4, .int (nI j)), (2, .int (nI now)), (0, .ref h), (1, .int (nI S))] → va_S (fun _ => False) Hs Hs locs → W pg l en Rm sg mi av below meth co Hs locs 0 0 Qo (F0 mi 21 ls []) := by
                intro L21d
                induction L21d with
                | zero => intro j hfu; exact absurd hfu (Nat.not_lt_zero _)
                | succ L21d ih21 =>
                  intro j hfu i21_0 ls locs hl hS
                  refine lv_iload hx hb dX5_isHeld_21 (lv_at hl 1 rfl) ?_
                  refine lv_aload_n hx hb dX5_isHeld_23 rfl (lv_at hl 3 rfl) ?_
                  refine va_get (ci := 5) (C := RX5) (T := TX5) (N := 19) hx hb hts hinX5 hown hK hP 19 g19 rfl 1 (by decide) k44 (fun _ h9 => h9) rfl dX5_isHeld_24 ?_
                  refine sn_icmp_ge (tgt := 84) hx hb dX5_isHeld_27 (by decide) (by omega) (by omega) (fun c5 => ?_) (fun c5 => ?_)
                  · refine lv_goto (tgt := 11) hx hb dX5_isHeld_84 (by decide) ?_
                    have e3 : nI (mkb (hsP Hd S now) j now) = nI (itr (mss (fun i => Hd (32 + i) &&& S) now) n now) := (by rw [show j = n by omega]; exact congrArg nI (held_step hI hS0 i11_0.1))
                    rw [e3] at hl
                    exact ih11 now (itr (mss (fun i => Hd (32 + i) &&& S) now) n now) (by omega) (MI_s i11_0 hn8 hLn) ls locs (lv_sub hl [2, 0, 3, 4] rfl) hS
                  · refine lv_iload_n hx hb dX5_isHeld_30 rfl (lv_at hl 4 rfl) ?_
                    refine lv_iload hx hb dX5_isHeld_31 (lv_at hl 1 rfl) ?_
                    refine lv_ishr hx hb dX5_isHeld_33 ?_
                    refine sv_top (y := nI (S / 2 ^ j)) (sh_r (by omega) (by omega)) ?_
                    refine lv_iconst (v := nI 1) hx hb dX5_isHeld_34 ci_1 ?_
                    refine lv_iand hx hb dX5_isHeld_35 ?_
                    refine sv_top (y := nI (S / 2 ^ j % 2)) (an_1) ?_
                    refine lv_iconst (v := nI 1) hx hb dX5_isHeld_36 ci_1 ?_
                    refine st_icmp_ne (tgt := 59) hx hb dX5_isHeld_37 (by decide) (fun c6 => ?_) (fun c6 => ?_)
                    · refine lv_iconst (v := nI 0) hx hb dX5_isHeld_59 ci_0 ?_
                      refine lv_istore (lv' := [(5, .int (nI 0)), (3, .int (nI (mkb (hsP Hd S now) j now))), (4, .int (nI j)), (2, .int (nI now)), (0, .ref h), (1, .int (nI S))]) hx hb dX5_isHeld_60 hl (by decide) rfl (fun ls hl => ?_)
                      refine lv_iload_n hx hb dX5_isHeld_62 rfl (lv_at hl 1 rfl) ?_
                      refine lv_iload hx hb dX5_isHeld_63 (lv_at hl 0 rfl) ?_
                      refine sn_if_eq (tgt := 75) hx hb dX5_isHeld_65 (by decide) (by decide) (fun _ => ?_) (fun q => absurd q (by decide))
                      refine lv_iconst (v := nI 0) hx hb dX5_isHeld_75 ci_0 ?_
                      refine lv_ior hx hb dX5_isHeld_76 ?_
                      refine sv_top (y := nI ((mkb (hsP Hd S now) j now) ||| 0)) (an_or _ _) ?_
                      refine lv_istore_n (lv' := [(3, .int (nI ((mkb (hsP Hd S now) j now) ||| 0))), (5, .int (nI 0)), (4, .int (nI j)), (2, .int (nI now)), (0, .ref h), (1, .int (nI S))]) hx hb dX5_isHeld_77 rfl hl (by decide) rfl (fun ls hl => ?_)
                      refine lv_iinc (v := nI (j + 1)) (lv' := [(4, .int (nI (j + 1))), (3, .int (nI ((mkb (hsP Hd S now) j now) ||| 0))), (5, .int (nI 0)), (2, .int (nI now)), (0, .ref h), (1, .int (nI S))]) hx hb dX5_isHeld_78 hl (k := 2) rfl (nI_1 _) (by decide) rfl (fun ls hl => ?_)
                      refine lv_goto (tgt := 21) hx hb dX5_isHeld_81 (by decide) ?_
                      have e3 : nI ((mkb (hsP Hd S now) j now) ||| 0) = nI (mkb (hsP Hd S now) (j + 1) now) := (or_0 (show _ = (if hsP Hd S now j = true then _ else _) from (if_neg (by unfold hsP; rw [c6]; simp)).symm))
                      rw [e3] at hl
                      exact ih21 (j + 1) (by omega) (by omega) ls locs (lv_sub hl [1, 0, 3, 4, 5] rfl) hS
                    · refine lv_aload_n hx hb dX5_isHeld_40 rfl (lv_at hl 3 rfl) ?_
                      refine va_get (ci := 5) (C := RX5) (T := TX5) (N := 19) hx hb hts hinX5 hown hK hP 19 g19 rfl 4 (by decide) k16 (fun _ h9 => h9) rfl dX5_isHeld_41 ?_
                      refine lv_bipush (v := nI 40) hx hb dX5_isHeld_44 bi_40 ?_
                      refine lv_iload hx hb dX5_isHeld_46 (lv_at hl 1 rfl) ?_
                      refine lv_iadd hx hb dX5_isHeld_48 ?_
                      refine sv_top (y := nI (40 + j)) (nI_add _ _) ?_
                      refine sv_iald hx hb hK hP 22 g22 (j := 40 + j) (by omega) (by decide) dX5_isHeld_49 ?_
                      refine W.eq (g2 := F0 mi 50 ls (.int (nI (Hd (40 + j))) :: [])) rfl ?_
                      refine lv_iload_n hx hb dX5_isHeld_50 rfl (lv_at hl 2 rfl) ?_
                      refine lv_iand hx hb dX5_isHeld_51 ?_
                      refine sv_top (y := nI ((Hd (40 + j)) &&& now)) (an_and _ _) ?_
                      refine sn_if_eq (tgt := 59) hx hb dX5_isHeld_52 (by decide) (and_b1 (lt_31 (hH _) hn8)) (fun c8 => ?_) (fun c8 => ?_)
                      · refine lv_iconst (v := nI 0) hx hb dX5_isHeld_59 ci_0 ?_
                        refine lv_istore (lv' := [(5, .int (nI 0)), (3, .int (nI (mkb (hsP Hd S now) j now))), (4, .int (nI j)), (2, .int (nI now)), (0, .ref h), (1, .int (nI S))]) hx hb dX5_isHeld_60 hl (by decide) rfl (fun ls hl => ?_)
                        refine lv_iload_n hx hb dX5_isHeld_62 rfl (lv_at hl 1 rfl) ?_
                        refine lv_iload hx hb dX5_isHeld_63 (lv_at hl 0 rfl) ?_
                        refine sn_if_eq (tgt := 75) hx hb dX5_isHeld_65 (by decide) (by decide) (fun _ => ?_) (fun q => absurd q (by decide))
                        refine lv_iconst (v := nI 0) hx hb dX5_isHeld_75 ci_0 ?_
                        refine lv_ior hx hb dX5_isHeld_76 ?_
                        refine sv_top (y := nI ((mkb (hsP Hd S now) j now) ||| 0)) (an_or _ _) ?_
                        refine lv_istore_n (lv' := [(3, .int (nI ((mkb (hsP Hd S now) j now) ||| 0))), (5, .int (nI 0)), (4, .int (nI j)), (2, .int (nI now)), (0, .ref h), (1, .int (nI S))]) hx hb dX5_isHeld_77 rfl hl (by decide) rfl (fun ls hl => ?_)
                        refine lv_iinc (v := nI (j + 1)) (lv' := [(4, .int (nI (j + 1))), (3, .int (nI ((mkb (hsP Hd S now) j now) ||| 0))), (5, .int (nI 0)), (2, .int (nI now)), (0, .ref h), (1, .int (nI S))]) hx hb dX5_isHeld_78 hl (k := 2) rfl (nI_1 _) (by decide) rfl (fun ls hl => ?_)
                        refine lv_goto (tgt := 21) hx hb dX5_isHeld_81 (by decide) ?_
                        have e3 : nI ((mkb (hsP Hd S now) j now) ||| 0) = nI (mkb (hsP Hd S now) (j + 1) now) := (or_0 (show _ = (if hsP Hd S now j = true then _ else _) from (if_neg (by unfold hsP; rw [decide_eq_false (fun q => q c8)]; simp)).symm))
                        rw [e3] at hl
                        exact ih21 (j + 1) (by omega) (by omega) ls locs (lv_sub hl [1, 0, 3, 4, 5] rfl) hS
                      · refine lv_iconst (v := nI 1) hx hb dX5_isHeld_55 ci_1 ?_
                        refine lv_goto (tgt := 60) hx hb dX5_isHeld_56 (by decide) ?_
                        refine lv_istore (lv' := [(5, .int (nI 1)), (3, .int (nI (mkb (hsP Hd S now) j now))), (4, .int (nI j)), (2, .int (nI now)), (0, .ref h), (1, .int (nI S))]) hx hb dX5_isHeld_60 hl (by decide) rfl (fun ls hl => ?_)
                        refine lv_iload_n hx hb dX5_isHeld_62 rfl (lv_at hl 1 rfl) ?_
                        refine lv_iload hx hb dX5_isHeld_63 (lv_at hl 0 rfl) ?_
                        refine sn_if_eq (tgt := 75) hx hb dX5_isHeld_65 (by decide) (by decide) (fun q => absurd q (by decide)) (fun _ => ?_)
                        refine lv_iconst (v := nI 1) hx hb dX5_isHeld_68 ci_1 ?_
                        refine lv_iload hx hb dX5_isHeld_69 (lv_at hl 2 rfl) ?_
                        refine lv_ishl hx hb dX5_isHeld_71 ?_
                        refine sv_top (y := nI (2 ^ j)) (sh_l1 (by omega)) ?_
                        refine lv_goto (tgt := 76) hx hb dX5_isHeld_72 (by decide) ?_
                        refine lv_ior hx hb dX5_isHeld_76 ?_
                        refine sv_top (y := nI ((mkb (hsP Hd S now) j now) ||| (2 ^ j))) (an_or _ _) ?_
                        refine lv_istore_n (lv' := [(3, .int (nI ((mkb (hsP Hd S now) j now) ||| (2 ^ j)))), (5, .int (nI 1)), (4, .int (nI j)), (2, .int (nI now)), (0, .ref h), (1, .int (nI S))]) hx hb dX5_isHeld_77 rfl hl (by decide) rfl (fun ls hl => ?_)
                        refine lv_iinc (v := nI (j + 1)) (lv' := [(4, .int (nI (j + 1))), (3, .int (nI ((mkb (hsP Hd S now) j now) ||| (2 ^ j)))), (5, .int (nI 1)), (2, .int (nI now)), (0, .ref h), (1, .int (nI S))]) hx hb dX5_isHeld_78 hl (k := 2) rfl (nI_1 _) (by decide) rfl (fun ls hl => ?_)
                        refine lv_goto (tgt := 21) hx hb dX5_isHeld_81 (by decide) ?_
                        have e3 : nI ((mkb (hsP Hd S now) j now) ||| (2 ^ j)) = nI (mkb (hsP Hd S now) (j + 1) now) := (congrArg nI (show _ = (if hsP Hd S now j = true then _ else _) from (if_pos (by unfold hsP; rw [c6, decide_eq_true c8]; rfl)).symm))
                        rw [e3] at hl
                        exact ih21 (j + 1) (by omega) (by omega) ls locs (lv_sub hl [1, 0, 3, 4, 5] rfl) hS
              exact L21 ((n - 0) + 1) 0 (Nat.lt_succ_self _) (by omega) ls locs (lv_sub hl [2, 0, 1, 3, 4] rfl) hS
        have e3 : nI (mkb (hsP Hd S (S &&& (2 ^ b))) j (S &&& (2 ^ b))) = nI (itr (mss (fun i => Hd (32 + i) &&& S) (S &&& 2 ^ b)) n (S &&& 2 ^ b)) := (by rw [show j = n by omega]; exact congrArg nI (held_step hI hS0 hf))
        rw [e3] at hl
        exact L11 ((256 - (S &&& 2 ^ b)) + 1) (S &&& 2 ^ b) (itr (mss (fun i => Hd (32 + i) &&& S) (S &&& 2 ^ b)) n (S &&& 2 ^ b)) (Nat.lt_succ_self _) (MI_s (MI_0 hf) hn8 hLn) ls locs (lv_sub hl [2, 0, 3, 4] rfl) hS
      · refine lv_iload_n hx hb dX5_isHeld_30 rfl (lv_at hl 4 rfl) ?_
        refine lv_iload hx hb dX5_isHeld_31 (lv_at hl 1 rfl) ?_
        refine lv_ishr hx hb dX5_isHeld_33 ?_
        refine sv_top (y := nI (S / 2 ^ j)) (sh_r (by omega) (by omega)) ?_
        refine lv_iconst (v := nI 1) hx hb dX5_isHeld_34 ci_1 ?_
        refine lv_iand hx hb dX5_isHeld_35 ?_
        refine sv_top (y := nI (S / 2 ^ j % 2)) (an_1) ?_
        refine lv_iconst (v := nI 1) hx hb dX5_isHeld_36 ci_1 ?_
        refine st_icmp_ne (tgt := 59) hx hb dX5_isHeld_37 (by decide) (fun c11 => ?_) (fun c11 => ?_)
        · refine lv_iconst (v := nI 0) hx hb dX5_isHeld_59 ci_0 ?_
          refine lv_istore (lv' := [(5, .int (nI 0)), (3, .int (nI (mkb (hsP Hd S (S &&& (2 ^ b))) j (S &&& (2 ^ b))))), (4, .int (nI j)), (2, .int (nI ((S &&& (2 ^ b))))), (0, .ref h), (1, .int (nI S))]) hx hb dX5_isHeld_60 hl (by decide) rfl (fun ls hl => ?_)
          refine lv_iload_n hx hb dX5_isHeld_62 rfl (lv_at hl 1 rfl) ?_
          refine lv_iload hx hb dX5_isHeld_63 (lv_at hl 0 rfl) ?_
          refine sn_if_eq (tgt := 75) hx hb dX5_isHeld_65 (by decide) (by decide) (fun _ => ?_) (fun q => absurd q (by decide))
          refine lv_iconst (v := nI 0) hx hb dX5_isHeld_75 ci_0 ?_
          refine lv_ior hx hb dX5_isHeld_76 ?_
          refine sv_top (y := nI ((mkb (hsP Hd S (S &&& (2 ^ b))) j (S &&& (2 ^ b))) ||| 0)) (an_or _ _) ?_
          refine lv_istore_n (lv' := [(3, .int (nI ((mkb (hsP Hd S (S &&& (2 ^ b))) j (S &&& (2 ^ b))) ||| 0))), (5, .int (nI 0)), (4, .int (nI j)), (2, .int (nI ((S &&& (2 ^ b))))), (0, .ref h), (1, .int (nI S))]) hx hb dX5_isHeld_77 rfl hl (by decide) rfl (fun ls hl => ?_)
          refine lv_iinc (v := nI (j + 1)) (lv' := [(4, .int (nI (j + 1))), (3, .int (nI ((mkb (hsP Hd S (S &&& (2 ^ b))) j (S &&& (2 ^ b))) ||| 0))), (5, .int (nI 0)), (2, .int (nI ((S &&& (2 ^ b))))), (0, .ref h), (1, .int (nI S))]) hx hb dX5_isHeld_78 hl (k := 2) rfl (nI_1 _) (by decide) rfl (fun ls hl => ?_)
          refine lv_goto (tgt := 21) hx hb dX5_isHeld_81 (by decide) ?_
          have e3 : nI ((mkb (hsP Hd S (S &&& (2 ^ b))) j (S &&& (2 ^ b))) ||| 0) = nI (mkb (hsP Hd S ((S &&& (2 ^ b)))) (j + 1) ((S &&& (2 ^ b)))) := (or_0 (show _ = (if hsP Hd S ((S &&& (2 ^ b))) j = true then _ else _) from (if_neg (by unfold hsP; rw [c11]; simp)).symm))
          rw [e3] at hl
          exact ih21 (j + 1) (by omega) (by omega) ls locs (lv_sub hl [1, 0, 3, 4, 5] rfl) hS
        · refine lv_aload_n hx hb dX5_isHeld_40 rfl (lv_at hl 3 rfl) ?_
          refine va_get (ci := 5) (C := RX5) (T := TX5) (N := 19) hx hb hts hinX5 hown hK hP 19 g19 rfl 4 (by decide) k16 (fun _ h9 => h9) rfl dX5_isHeld_41 ?_
          refine lv_bipush (v := nI 40) hx hb dX5_isHeld_44 bi_40 ?_
          refine lv_iload hx hb dX5_isHeld_46 (lv_at hl 1 rfl) ?_
          refine lv_iadd hx hb dX5_isHeld_48 ?_
          refine sv_top (y := nI (40 + j)) (nI_add _ _) ?_
          refine sv_iald hx hb hK hP 22 g22 (j := 40 + j) (by omega) (by decide) dX5_isHeld_49 ?_
          refine W.eq (g2 := F0 mi 50 ls (.int (nI (Hd (40 + j))) :: [])) rfl ?_
          refine lv_iload_n hx hb dX5_isHeld_50 rfl (lv_at hl 2 rfl) ?_
          refine lv_iand hx hb dX5_isHeld_51 ?_
          refine sv_top (y := nI ((Hd (40 + j)) &&& ((S &&& (2 ^ b))))) (an_and _ _) ?_
          refine sn_if_eq (tgt := 59) hx hb dX5_isHeld_52 (by decide) (and_b1 (lt_31 (hH _) hn8)) (fun c13 => ?_) (fun c13 => ?_)
          · refine lv_iconst (v := nI 0) hx hb dX5_isHeld_59 ci_0 ?_
            refine lv_istore (lv' := [(5, .int (nI 0)), (3, .int (nI (mkb (hsP Hd S (S &&& (2 ^ b))) j (S &&& (2 ^ b))))), (4, .int (nI j)), (2, .int (nI ((S &&& (2 ^ b))))), (0, .ref h), (1, .int (nI S))]) hx hb dX5_isHeld_60 hl (by decide) rfl (fun ls hl => ?_)
            refine lv_iload_n hx hb dX5_isHeld_62 rfl (lv_at hl 1 rfl) ?_
            refine lv_iload hx hb dX5_isHeld_63 (lv_at hl 0 rfl) ?_
            refine sn_if_eq (tgt := 75) hx hb dX5_isHeld_65 (by decide) (by decide) (fun _ => ?_) (fun q => absurd q (by decide))
            refine lv_iconst (v := nI 0) hx hb dX5_isHeld_75 ci_0 ?_
            refine lv_ior hx hb dX5_isHeld_76 ?_
            refine sv_top (y := nI ((mkb (hsP Hd S (S &&& (2 ^ b))) j (S &&& (2 ^ b))) ||| 0)) (an_or _ _) ?_
            refine lv_istore_n (lv' := [(3, .int (nI ((mkb (hsP Hd S (S &&& (2 ^ b))) j (S &&& (2 ^ b))) ||| 0))), (5, .int (nI 0)), (4, .int (nI j)), (2, .int (nI ((S &&& (2 ^ b))))), (0, .ref h), (1, .int (nI S))]) hx hb dX5_isHeld_77 rfl hl (by decide) rfl (fun ls hl => ?_)
            refine lv_iinc (v := nI (j + 1)) (lv' := [(4, .int (nI (j + 1))), (3, .int (nI ((mkb (hsP Hd S (S &&& (2 ^ b))) j (S &&& (2 ^ b))) ||| 0))), (5, .int (nI 0)), (2, .int (nI ((S &&& (2 ^ b))))), (0, .ref h), (1, .int (nI S))]) hx hb dX5_isHeld_78 hl (k := 2) rfl (nI_1 _) (by decide) rfl (fun ls hl => ?_)
            refine lv_goto (tgt := 21) hx hb dX5_isHeld_81 (by decide) ?_
            have e3 : nI ((mkb (hsP Hd S (S &&& (2 ^ b))) j (S &&& (2 ^ b))) ||| 0) = nI (mkb (hsP Hd S ((S &&& (2 ^ b)))) (j + 1) ((S &&& (2 ^ b)))) := (or_0 (show _ = (if hsP Hd S ((S &&& (2 ^ b))) j = true then _ else _) from (if_neg (by unfold hsP; rw [decide_eq_false (fun q => q c13)]; simp)).symm))
            rw [e3] at hl
            exact ih21 (j + 1) (by omega) (by omega) ls locs (lv_sub hl [1, 0, 3, 4, 5] rfl) hS
          · refine lv_iconst (v := nI 1) hx hb dX5_isHeld_55 ci_1 ?_
            refine lv_goto (tgt := 60) hx hb dX5_isHeld_56 (by decide) ?_
            refine lv_istore (lv' := [(5, .int (nI 1)), (3, .int (nI (mkb (hsP Hd S (S &&& (2 ^ b))) j (S &&& (2 ^ b))))), (4, .int (nI j)), (2, .int (nI ((S &&& (2 ^ b))))), (0, .ref h), (1, .int (nI S))]) hx hb dX5_isHeld_60 hl (by decide) rfl (fun ls hl => ?_)
            refine lv_iload_n hx hb dX5_isHeld_62 rfl (lv_at hl 1 rfl) ?_
            refine lv_iload hx hb dX5_isHeld_63 (lv_at hl 0 rfl) ?_
            refine sn_if_eq (tgt := 75) hx hb dX5_isHeld_65 (by decide) (by decide) (fun q => absurd q (by decide)) (fun _ => ?_)
            refine lv_iconst (v := nI 1) hx hb dX5_isHeld_68 ci_1 ?_
            refine lv_iload hx hb dX5_isHeld_69 (lv_at hl 2 rfl) ?_
            refine lv_ishl hx hb dX5_isHeld_71 ?_
            refine sv_top (y := nI (2 ^ j)) (sh_l1 (by omega)) ?_
            refine lv_goto (tgt := 76) hx hb dX5_isHeld_72 (by decide) ?_
            refine lv_ior hx hb dX5_isHeld_76 ?_
            refine sv_top (y := nI ((mkb (hsP Hd S (S &&& (2 ^ b))) j (S &&& (2 ^ b))) ||| (2 ^ j))) (an_or _ _) ?_
            refine lv_istore_n (lv' := [(3, .int (nI ((mkb (hsP Hd S (S &&& (2 ^ b))) j (S &&& (2 ^ b))) ||| (2 ^ j)))), (5, .int (nI 1)), (4, .int (nI j)), (2, .int (nI ((S &&& (2 ^ b))))), (0, .ref h), (1, .int (nI S))]) hx hb dX5_isHeld_77 rfl hl (by decide) rfl (fun ls hl => ?_)
            refine lv_iinc (v := nI (j + 1)) (lv' := [(4, .int (nI (j + 1))), (3, .int (nI ((mkb (hsP Hd S (S &&& (2 ^ b))) j (S &&& (2 ^ b))) ||| (2 ^ j)))), (5, .int (nI 1)), (2, .int (nI ((S &&& (2 ^ b))))), (0, .ref h), (1, .int (nI S))]) hx hb dX5_isHeld_78 hl (k := 2) rfl (nI_1 _) (by decide) rfl (fun ls hl => ?_)
            refine lv_goto (tgt := 21) hx hb dX5_isHeld_81 (by decide) ?_
            have e3 : nI ((mkb (hsP Hd S (S &&& (2 ^ b))) j (S &&& (2 ^ b))) ||| (2 ^ j)) = nI (mkb (hsP Hd S ((S &&& (2 ^ b)))) (j + 1) ((S &&& (2 ^ b)))) := (congrArg nI (show _ = (if hsP Hd S ((S &&& (2 ^ b))) j = true then _ else _) from (if_pos (by unfold hsP; rw [c11, decide_eq_true c13]; rfl)).symm))
            rw [e3] at hl
            exact ih21 (j + 1) (by omega) (by omega) ls locs (lv_sub hl [1, 0, 3, 4, 5] rfl) hS
  exact L21 ((n - 0) + 1) 0 (Nat.lt_succ_self _) (by omega) ls locs (lv_sub hl [2, 0, 1, 3, 4] rfl) hS
set_option maxHeartbeats 4000000 in
set_option maxRecDepth 100000 in
theorem c_X5_isSound {l : Launch} {D : va_G} {ky : kT} {Hs : Heap} {ws : va_W} {h th n : Nat} {T C Hd : Nat → Nat} {b : Nat} {q : Bool} {J : Nat → Nat} {bg : Bool} {pu bu : Nat} {cl mo : Int32} {K : Nat → Nat} {fw fd fc fg fo : Nat → Int32} (hP : va_P D CL ws Hs) (hpr : isMod ky ws h th n T C Hd b q J bg pu bu cl mo K fw fd fc fg fo) (hI : PI0 n C Hd b) {S : Nat} (hS0 : S < 2 ^ n) : PI l yX5_isSound wsX5_isSound 2 46 D ky Hs [.ref h, .int (nI S)] (bI (sou C Hd b q S)) := by
  refine PI.of (cc := cX5_isSound) (maxL := 2) (ty := .boolean) (by decide) rfl (bI_nar _) (Nat.le_of_ble_eq_true rfl) ?_
  intro pg en Rm sg mi av below meth co Qo hRf hRl hx hb hml hown hts hK hret ls hl
  have hl : lv_has ls 2 [(0, .ref h), (1, .int (nI S))] := hl
  have hS : va_S (fun _ => False) Hs Hs [] := va_S.rf
  generalize ([] : List Loc) = locs at hS ⊢
  obtain ⟨a1, a2, a3, a4, a5, a6, a7, a8, a9, a10, g19, g20, g21, g22, g23, g24, g25, g26, g27, g28, g29⟩ := id hpr
  obtain ⟨hn8, hb8, hC, hH, hsy⟩ := id hI
  have hp2 : 2 ^ n ≤ 256 := p2_le hn8
  have hS31 : S < 2 ^ 31 := lt_31 hS0 hn8
  have k71 := hts (.fieldLink RX5 71 "AssemblyPlannerModel" "isAsked" "Z") (by decide +kernel)
  have hinX5 : ∀ w ∈ wsX50, w ∈ wsX5_isSound := by decide +kernel
  refine lv_iload_n hx hb dX5_isSound_0 rfl (lv_at hl 1 rfl) ?_
  refine sn_if_eq (tgt := 27) hx hb dX5_isSound_1 (by decide) hS31 (fun c1 => ?_) (fun c1 => ?_)
  · refine lv_iconst (v := nI 1) hx hb dX5_isSound_27 ci_1 ?_
    refine lv_goto (tgt := 32) hx hb dX5_isSound_28 (by decide) ?_
    exact hret 32 ls locs _ dX5_isSound_32 hS (bI_t (by unfold sou; rw [decide_eq_true c1]; rfl))
  · refine lv_aload_n hx hb dX5_isSound_4 rfl (lv_at hl 0 rfl) ?_
    refine lv_iload_n hx hb dX5_isSound_5 rfl (lv_at hl 1 rfl) ?_
    refine pcV (c_X5_hangsTogether hP hpr hI hS0) ⟨hx, hb, hml, hown, hts⟩ hK gX5_isSound_X5_hangsTogether rfl hd_X5_hangsTogether ⟨by omega, by omega⟩ (va_recv hK hP (ci := 5) (q0 := 19) rfl g19) rfl hl.1 rfl (Nat.le_of_ble_eq_true rfl) dX5_isSound_6 ⟨Nat.zero_le _, Nat.zero_le _⟩ hS (fun locs hS => ?_)
    refine sb_if_eq (tgt := 31) hx hb dX5_isSound_9 (by decide) (fun c2 => ?_) (fun c2 => ?_)
    · refine lv_iconst (v := nI 0) hx hb dX5_isSound_31 ci_0 ?_
      exact hret 32 ls locs _ dX5_isSound_32 hS (bI_f (by unfold sou; rw [decide_eq_false c1, c2]; rfl))
    · refine lv_aload_n hx hb dX5_isSound_12 rfl (lv_at hl 0 rfl) ?_
      refine va_get (ci := 5) (C := RX5) (T := TX5) (N := 19) hx hb hts hinX5 hown hK hP 19 g19 rfl 6 (by decide) k71 (fun _ h9 => h9) rfl dX5_isSound_13 ?_
      refine sb_if_eq (tgt := 27) hx hb dX5_isSound_16 (by decide) (fun c3 => ?_) (fun c3 => ?_)
      · refine lv_iconst (v := nI 1) hx hb dX5_isSound_27 ci_1 ?_
        refine lv_goto (tgt := 32) hx hb dX5_isSound_28 (by decide) ?_
        exact hret 32 ls locs _ dX5_isSound_32 hS (bI_t (by unfold sou; rw [c2, c3]; simp))
      · refine lv_aload_n hx hb dX5_isSound_19 rfl (lv_at hl 0 rfl) ?_
        refine lv_iload_n hx hb dX5_isSound_20 rfl (lv_at hl 1 rfl) ?_
        refine pcV (c_X5_isHeld hP hpr hI hS0) ⟨hx, hb, hml, hown, hts⟩ hK gX5_isSound_X5_isHeld rfl hd_X5_isHeld ⟨by omega, by omega⟩ (va_recv hK hP (ci := 5) (q0 := 19) rfl g19) rfl hl.1 rfl (Nat.le_of_ble_eq_true rfl) dX5_isSound_21 ⟨Nat.zero_le _, Nat.zero_le _⟩ hS (fun locs hS => ?_)
        refine sb_if_eq (tgt := 31) hx hb dX5_isSound_24 (by decide) (fun c4 => ?_) (fun c4 => ?_)
        · refine lv_iconst (v := nI 0) hx hb dX5_isSound_31 ci_0 ?_
          exact hret 32 ls locs _ dX5_isSound_32 hS (bI_f (by unfold sou; rw [decide_eq_false c1, c3, c4]; simp))
        · refine lv_iconst (v := nI 1) hx hb dX5_isSound_27 ci_1 ?_
          refine lv_goto (tgt := 32) hx hb dX5_isSound_28 (by decide) ?_
          exact hret 32 ls locs _ dX5_isSound_32 hS (bI_t (by unfold sou; rw [c2, c4]; simp))
set_option maxHeartbeats 4000000 in
set_option maxRecDepth 100000 in
theorem c_X5_freeOf {l : Launch} {D : va_G} {ky : kT} {Hs : Heap} {ws : va_W} {h th n : Nat} {T C Hd : Nat → Nat} {b : Nat} {q : Bool} {J : Nat → Nat} {bg : Bool} {pu bu : Nat} {cl mo : Int32} {K : Nat → Nat} {fw fd fc fg fo : Nat → Int32} (hP : va_P D CL ws Hs) (hpr : isMod ky ws h th n T C Hd b q J bg pu bu cl mo K fw fd fc fg fo) (hI : PI0 n C Hd b) {S pt : Nat} (hp : pt < 8) : PI l yX5_freeOf wsX5_freeOf 0 0 D ky Hs [.ref h, .int (nI S), .int (nI pt)] (nI (frd Hd S pt)) := by
  refine PI.of (cc := cX5_freeOf) (maxL := 5) (ty := .int) (by decide) rfl rfl (Nat.le_of_ble_eq_true rfl) ?_
  intro pg en Rm sg mi av below meth co Qo hRf hRl hx hb hml hown hts hK hret ls hl
  have hl : lv_has ls 5 [(0, .ref h), (1, .int (nI S)), (2, .int (nI pt))] := hl
  have hS : va_S (fun _ => False) Hs Hs [] := va_S.rf
  generalize ([] : List Loc) = locs at hS ⊢
  obtain ⟨a1, a2, a3, a4, a5, a6, a7, a8, a9, a10, g19, g20, g21, g22, g23, g24, g25, g26, g27, g28, g29⟩ := id hpr
  obtain ⟨hn8, hb8, hC, hH, hsy⟩ := id hI
  have hp2 : 2 ^ n ≤ 256 := p2_le hn8
  have k16 := hts (.fieldLink RX5 16 "AssemblyPlannerModel" "hinders" "[I") (by decide +kernel)
  have hinX5 : ∀ w ∈ wsX50, w ∈ wsX5_freeOf := by decide +kernel
  refine lv_iconst (v := nI 0) hx hb dX5_freeOf_0 ci_0 ?_
  refine lv_istore_n (lv' := [(3, .int (nI 0)), (0, .ref h), (1, .int (nI S)), (2, .int (nI pt))]) hx hb dX5_freeOf_1 rfl hl (by decide) rfl (fun ls hl => ?_)
  refine lv_iconst (v := nI 0) hx hb dX5_freeOf_2 ci_0 ?_
  refine lv_istore (lv' := [(4, .int (nI 0)), (3, .int (nI 0)), (0, .ref h), (1, .int (nI S)), (2, .int (nI pt))]) hx hb dX5_freeOf_3 hl (by decide) rfl (fun ls hl => ?_)
  have L5 : ∀ (L5d : Nat) (d : Nat), 6 - d < L5d → d ≤ 6 → ∀ (ls : Array Slot) (locs : List Loc), lv_has ls 5 [(3, .int (nI (itr (frs Hd S pt) d 0))), (4, .int (nI d)), (0, .ref h), (1, .int (nI S)), (2, .int (nI pt))] → va_S (fun _ => False) Hs Hs locs → W pg l en Rm sg mi av below meth co Hs locs 0 0 Qo (F0 mi 5 ls []) := by
    intro L5d
    induction L5d with
    | zero => intro d hfu; exact absurd hfu (Nat.not_lt_zero _)
    | succ L5d ih5 =>
      intro d hfu i5_0 ls locs hl hS
      refine lv_iload hx hb dX5_freeOf_5 (lv_at hl 1 rfl) ?_
      refine lv_bipush (v := nI 6) hx hb dX5_freeOf_7 bi_6 ?_
      refine sn_icmp_ge (tgt := 46) hx hb dX5_freeOf_9 (by decide) (by omega) (by decide) (fun c1 => ?_) (fun c1 => ?_)
      · refine lv_iload_n hx hb dX5_freeOf_46 rfl (lv_at hl 0 rfl) ?_
        exact hret 47 ls locs _ dX5_freeOf_47 hS (by rw [show d = 6 by omega]; rfl)
      · refine lv_iload_n hx hb dX5_freeOf_12 rfl (lv_at hl 0 rfl) ?_
        refine lv_aload_n hx hb dX5_freeOf_13 rfl (lv_at hl 2 rfl) ?_
        refine va_get (ci := 5) (C := RX5) (T := TX5) (N := 19) hx hb hts hinX5 hown hK hP 19 g19 rfl 4 (by decide) k16 (fun _ h9 => h9) rfl dX5_freeOf_14 ?_
        refine lv_bipush (v := nI 8) hx hb dX5_freeOf_17 bi_8 ?_
        refine lv_iload hx hb dX5_freeOf_19 (lv_at hl 1 rfl) ?_
        refine lv_imul hx hb dX5_freeOf_21 ?_
        refine sv_top (y := nI (8 * d)) (mul_n _ _) ?_
        refine lv_iload_n hx hb dX5_freeOf_22 rfl (lv_at hl 4 rfl) ?_
        refine lv_iadd hx hb dX5_freeOf_23 ?_
        refine sv_top (y := nI (8 * d + pt)) (nI_add _ _) ?_
        refine sv_iald hx hb hK hP 22 g22 (j := 8 * d + pt) (by omega) (by decide) dX5_freeOf_24 ?_
        refine W.eq (g2 := F0 mi 25 ls (.int (nI (Hd (8 * d + pt))) :: [.int (nI (itr (frs Hd S pt) d 0))])) rfl ?_
        refine lv_iload_n hx hb dX5_freeOf_25 rfl (lv_at hl 3 rfl) ?_
        refine lv_iand hx hb dX5_freeOf_26 ?_
        refine sv_top (y := nI ((Hd (8 * d + pt)) &&& S)) (an_and _ _) ?_
        refine sn_if_ne (tgt := 37) hx hb dX5_freeOf_27 (by decide) (and_b1 (lt_31 (hH _) hn8)) (fun c2 => ?_) (fun c2 => ?_)
        · refine lv_iconst (v := nI 0) hx hb dX5_freeOf_37 ci_0 ?_
          refine lv_ior hx hb dX5_freeOf_38 ?_
          refine sv_top (y := nI ((itr (frs Hd S pt) d 0) ||| 0)) (an_or _ _) ?_
          refine lv_istore_n (lv' := [(3, .int (nI ((itr (frs Hd S pt) d 0) ||| 0))), (4, .int (nI d)), (0, .ref h), (1, .int (nI S)), (2, .int (nI pt))]) hx hb dX5_freeOf_39 rfl hl (by decide) rfl (fun ls hl => ?_)
          refine lv_iinc (v := nI (d + 1)) (lv' := [(4, .int (nI (d + 1))), (3, .int (nI ((itr (frs Hd S pt) d 0) ||| 0))), (0, .ref h), (1, .int (nI S)), (2, .int (nI pt))]) hx hb dX5_freeOf_40 hl (k := 1) rfl (nI_1 _) (by decide) rfl (fun ls hl => ?_)
          refine lv_goto (tgt := 5) hx hb dX5_freeOf_43 (by decide) ?_
          have e3 : nI ((itr (frs Hd S pt) d 0) ||| 0) = nI (itr (frs Hd S pt) (d + 1) 0) := (or_0 (show _ = frs Hd S pt d _ from (if_neg c2).symm))
          rw [e3] at hl
          exact ih5 (d + 1) (by omega) (by omega) ls locs (lv_sub hl [1, 0, 2, 3, 4] rfl) hS
        · refine lv_iconst (v := nI 1) hx hb dX5_freeOf_30 ci_1 ?_
          refine lv_iload hx hb dX5_freeOf_31 (lv_at hl 1 rfl) ?_
          refine lv_ishl hx hb dX5_freeOf_33 ?_
          refine sv_top (y := nI (2 ^ d)) (sh_l1 (by omega)) ?_
          refine lv_goto (tgt := 38) hx hb dX5_freeOf_34 (by decide) ?_
          refine lv_ior hx hb dX5_freeOf_38 ?_
          refine sv_top (y := nI ((itr (frs Hd S pt) d 0) ||| (2 ^ d))) (an_or _ _) ?_
          refine lv_istore_n (lv' := [(3, .int (nI ((itr (frs Hd S pt) d 0) ||| (2 ^ d)))), (4, .int (nI d)), (0, .ref h), (1, .int (nI S)), (2, .int (nI pt))]) hx hb dX5_freeOf_39 rfl hl (by decide) rfl (fun ls hl => ?_)
          refine lv_iinc (v := nI (d + 1)) (lv' := [(4, .int (nI (d + 1))), (3, .int (nI ((itr (frs Hd S pt) d 0) ||| (2 ^ d)))), (0, .ref h), (1, .int (nI S)), (2, .int (nI pt))]) hx hb dX5_freeOf_40 hl (k := 1) rfl (nI_1 _) (by decide) rfl (fun ls hl => ?_)
          refine lv_goto (tgt := 5) hx hb dX5_freeOf_43 (by decide) ?_
          have e3 : nI ((itr (frs Hd S pt) d 0) ||| (2 ^ d)) = nI (itr (frs Hd S pt) (d + 1) 0) := (congrArg nI (show _ = frs Hd S pt d _ from (if_pos c2).symm))
          rw [e3] at hl
          exact ih5 (d + 1) (by omega) (by omega) ls locs (lv_sub hl [1, 0, 2, 3, 4] rfl) hS
  exact L5 ((6 - 0) + 1) 0 (Nat.lt_succ_self _) (by omega) ls locs (lv_sub hl [1, 0, 2, 3, 4] rfl) hS
set_option maxHeartbeats 4000000 in
set_option maxRecDepth 100000 in
theorem c_X5_bound {l : Launch} {D : va_G} {ky : kT} {Hs : Heap} {ws : va_W} {h th n : Nat} {T C Hd : Nat → Nat} {b : Nat} {q : Bool} {J : Nat → Nat} {bg : Bool} {pu bu : Nat} {cl mo : Int32} {K : Nat → Nat} {fw fd fc fg fo : Nat → Int32} (hP : va_P D CL ws Hs) (hpr : isMod ky ws h th n T C Hd b q J bg pu bu cl mo K fw fd fc fg fo) (hI : PI0 n C Hd b) {pt d : Nat} (hp : pt < n) (hd : d < 6) : PI l yX5_bound wsX5_bound 1 25 D ky Hs [.ref h, .int (nI pt), .int (nI d)] (nI (bnd Hd n pt d)) := by
  refine PI.of (cc := cX5_bound) (maxL := 7) (ty := .int) (by decide) rfl rfl (Nat.le_of_ble_eq_true rfl) ?_
  intro pg en Rm sg mi av below meth co Qo hRf hRl hx hb hml hown hts hK hret ls hl
  have hl : lv_has ls 7 [(0, .ref h), (1, .int (nI pt)), (2, .int (nI d))] := hl
  have hS : va_S (fun _ => False) Hs Hs [] := va_S.rf
  generalize ([] : List Loc) = locs at hS ⊢
  obtain ⟨a1, a2, a3, a4, a5, a6, a7, a8, a9, a10, g19, g20, g21, g22, g23, g24, g25, g26, g27, g28, g29⟩ := id hpr
  obtain ⟨hn8, hb8, hC, hH, hsy⟩ := id hI
  have hp2 : 2 ^ n ≤ 256 := p2_le hn8
  have hm0 : ∀ p, p < n → mov Hd n p d < 2 ^ 31 := fun p h => lt_31 (mov_lt hI h) hn8
  have k44 := hts (.fieldLink RX5 44 "AssemblyPlannerModel" "parts" "I") (by decide +kernel)
  have hinX5 : ∀ w ∈ wsX50, w ∈ wsX5_bound := by decide +kernel
  refine lv_iconst (v := nI 0) hx hb dX5_bound_0 ci_0 ?_
  refine lv_istore_n (lv' := [(3, .int (nI 0)), (0, .ref h), (1, .int (nI pt)), (2, .int (nI d))]) hx hb dX5_bound_1 rfl hl (by decide) rfl (fun ls hl => ?_)
  refine lv_aload_n hx hb dX5_bound_2 rfl (lv_at hl 1 rfl) ?_
  refine lv_iload_n hx hb dX5_bound_3 rfl (lv_at hl 2 rfl) ?_
  refine lv_iload_n hx hb dX5_bound_4 rfl (lv_at hl 3 rfl) ?_
  refine pcV (c_X5_moving hP hpr hI (by omega) hd) ⟨hx, hb, hml, hown, hts⟩ hK gX5_bound_X5_moving rfl hd_X5_moving ⟨by omega, by omega⟩ (va_recv hK hP (ci := 5) (q0 := 19) rfl g19) rfl hl.1 rfl (Nat.le_of_ble_eq_true rfl) dX5_bound_5 ⟨Nat.zero_le _, Nat.zero_le _⟩ hS (fun locs hS => ?_)
  refine lv_istore (lv' := [(4, .int (nI (mov Hd n pt d))), (3, .int (nI 0)), (0, .ref h), (1, .int (nI pt)), (2, .int (nI d))]) hx hb dX5_bound_8 hl (by decide) rfl (fun ls hl => ?_)
  refine lv_iconst (v := nI 0) hx hb dX5_bound_10 ci_0 ?_
  refine lv_istore (lv' := [(5, .int (nI 0)), (4, .int (nI (mov Hd n pt d))), (3, .int (nI 0)), (0, .ref h), (1, .int (nI pt)), (2, .int (nI d))]) hx hb dX5_bound_11 hl (by decide) rfl (fun ls hl => ?_)
  have L13 : ∀ (L13d : Nat) (j : Nat), n - j < L13d → j ≤ n → ∀ (ls : Array Slot) (locs : List Loc), lv_has ls 7 [(3, .int (nI (mkb (bdP Hd n pt d) j 0))), (5, .int (nI j)), (4, .int (nI (mov Hd n pt d))), (0, .ref h), (1, .int (nI pt)), (2, .int (nI d))] → va_S (fun _ => False) Hs Hs locs → W pg l en Rm sg mi av below meth co Hs locs 0 0 Qo (F0 mi 13 ls []) := by
    intro L13d
    induction L13d with
    | zero => intro j hfu; exact absurd hfu (Nat.not_lt_zero _)
    | succ L13d ih13 =>
      intro j hfu i13_0 ls locs hl hS
      refine lv_iload hx hb dX5_bound_13 (lv_at hl 1 rfl) ?_
      refine lv_aload_n hx hb dX5_bound_15 rfl (lv_at hl 3 rfl) ?_
      refine va_get (ci := 5) (C := RX5) (T := TX5) (N := 19) hx hb hts hinX5 hown hK hP 19 g19 rfl 1 (by decide) k44 (fun _ h9 => h9) rfl dX5_bound_16 ?_
      refine sn_icmp_ge (tgt := 77) hx hb dX5_bound_19 (by decide) (by omega) (by omega) (fun c1 => ?_) (fun c1 => ?_)
      · refine lv_iload_n hx hb dX5_bound_77 rfl (lv_at hl 0 rfl) ?_
        exact hret 78 ls locs _ dX5_bound_78 hS (by rw [show j = n by omega, bnd_mk hI hp hd])
      · refine lv_iload hx hb dX5_bound_22 (lv_at hl 2 rfl) ?_
        refine lv_iload hx hb dX5_bound_24 (lv_at hl 1 rfl) ?_
        refine lv_ishr hx hb dX5_bound_26 ?_
        refine sv_top (y := nI ((mov Hd n pt d) / 2 ^ j)) (sh_r (by omega) (hm0 _ (by omega))) ?_
        refine lv_iconst (v := nI 1) hx hb dX5_bound_27 ci_1 ?_
        refine lv_iand hx hb dX5_bound_28 ?_
        refine sv_top (y := nI ((mov Hd n pt d) / 2 ^ j % 2)) (an_1) ?_
        refine lv_iconst (v := nI 1) hx hb dX5_bound_29 ci_1 ?_
        refine st_icmp_ne (tgt := 52) hx hb dX5_bound_30 (by decide) (fun c2 => ?_) (fun c2 => ?_)
        · refine lv_iconst (v := nI 0) hx hb dX5_bound_52 ci_0 ?_
          refine lv_istore (lv' := [(6, .int (nI 0)), (3, .int (nI (mkb (bdP Hd n pt d) j 0))), (5, .int (nI j)), (4, .int (nI (mov Hd n pt d))), (0, .ref h), (1, .int (nI pt)), (2, .int (nI d))]) hx hb dX5_bound_53 hl (by decide) rfl (fun ls hl => ?_)
          refine lv_iload_n hx hb dX5_bound_55 rfl (lv_at hl 1 rfl) ?_
          refine lv_iload hx hb dX5_bound_56 (lv_at hl 0 rfl) ?_
          refine sn_if_eq (tgt := 68) hx hb dX5_bound_58 (by decide) (by decide) (fun _ => ?_) (fun q => absurd q (by decide))
          refine lv_iconst (v := nI 0) hx hb dX5_bound_68 ci_0 ?_
          refine lv_ior hx hb dX5_bound_69 ?_
          refine sv_top (y := nI ((mkb (bdP Hd n pt d) j 0) ||| 0)) (an_or _ _) ?_
          refine lv_istore_n (lv' := [(3, .int (nI ((mkb (bdP Hd n pt d) j 0) ||| 0))), (6, .int (nI 0)), (5, .int (nI j)), (4, .int (nI (mov Hd n pt d))), (0, .ref h), (1, .int (nI pt)), (2, .int (nI d))]) hx hb dX5_bound_70 rfl hl (by decide) rfl (fun ls hl => ?_)
          refine lv_iinc (v := nI (j + 1)) (lv' := [(5, .int (nI (j + 1))), (3, .int (nI ((mkb (bdP Hd n pt d) j 0) ||| 0))), (6, .int (nI 0)), (4, .int (nI (mov Hd n pt d))), (0, .ref h), (1, .int (nI pt)), (2, .int (nI d))]) hx hb dX5_bound_71 hl (k := 2) rfl (nI_1 _) (by decide) rfl (fun ls hl => ?_)
          refine lv_goto (tgt := 13) hx hb dX5_bound_74 (by decide) ?_
          have e3 : nI ((mkb (bdP Hd n pt d) j 0) ||| 0) = nI (mkb (bdP Hd n pt d) (j + 1) 0) := (or_0 (show _ = (if bdP Hd n pt d j = true then _ else _) from (if_neg (by unfold bdP; rw [c2]; simp)).symm))
          rw [e3] at hl
          exact ih13 (j + 1) (by omega) (by omega) ls locs (lv_sub hl [1, 0, 3, 4, 5, 6] rfl) hS
        · refine lv_aload_n hx hb dX5_bound_33 rfl (lv_at hl 3 rfl) ?_
          refine lv_iload hx hb dX5_bound_34 (lv_at hl 1 rfl) ?_
          refine lv_iload_n hx hb dX5_bound_36 rfl (lv_at hl 5 rfl) ?_
          refine pcV (c_X5_moving hP hpr hI (by omega) hd) ⟨hx, hb, hml, hown, hts⟩ hK gX5_bound_X5_moving rfl hd_X5_moving ⟨by omega, by omega⟩ (va_recv hK hP (ci := 5) (q0 := 19) rfl g19) rfl hl.1 rfl (Nat.le_of_ble_eq_true rfl) dX5_bound_37 ⟨Nat.zero_le _, Nat.zero_le _⟩ hS (fun locs hS => ?_)
          refine lv_iload_n hx hb dX5_bound_40 rfl (lv_at hl 4 rfl) ?_
          refine lv_ishr hx hb dX5_bound_41 ?_
          refine sv_top (y := nI ((mov Hd n j d) / 2 ^ pt)) (sh_r (by omega) (hm0 _ (by omega))) ?_
          refine lv_iconst (v := nI 1) hx hb dX5_bound_42 ci_1 ?_
          refine lv_iand hx hb dX5_bound_43 ?_
          refine sv_top (y := nI ((mov Hd n j d) / 2 ^ pt % 2)) (an_1) ?_
          refine lv_iconst (v := nI 1) hx hb dX5_bound_44 ci_1 ?_
          refine st_icmp_ne (tgt := 52) hx hb dX5_bound_45 (by decide) (fun c4 => ?_) (fun c4 => ?_)
          · refine lv_iconst (v := nI 0) hx hb dX5_bound_52 ci_0 ?_
            refine lv_istore (lv' := [(6, .int (nI 0)), (3, .int (nI (mkb (bdP Hd n pt d) j 0))), (5, .int (nI j)), (4, .int (nI (mov Hd n pt d))), (0, .ref h), (1, .int (nI pt)), (2, .int (nI d))]) hx hb dX5_bound_53 hl (by decide) rfl (fun ls hl => ?_)
            refine lv_iload_n hx hb dX5_bound_55 rfl (lv_at hl 1 rfl) ?_
            refine lv_iload hx hb dX5_bound_56 (lv_at hl 0 rfl) ?_
            refine sn_if_eq (tgt := 68) hx hb dX5_bound_58 (by decide) (by decide) (fun _ => ?_) (fun q => absurd q (by decide))
            refine lv_iconst (v := nI 0) hx hb dX5_bound_68 ci_0 ?_
            refine lv_ior hx hb dX5_bound_69 ?_
            refine sv_top (y := nI ((mkb (bdP Hd n pt d) j 0) ||| 0)) (an_or _ _) ?_
            refine lv_istore_n (lv' := [(3, .int (nI ((mkb (bdP Hd n pt d) j 0) ||| 0))), (6, .int (nI 0)), (5, .int (nI j)), (4, .int (nI (mov Hd n pt d))), (0, .ref h), (1, .int (nI pt)), (2, .int (nI d))]) hx hb dX5_bound_70 rfl hl (by decide) rfl (fun ls hl => ?_)
            refine lv_iinc (v := nI (j + 1)) (lv' := [(5, .int (nI (j + 1))), (3, .int (nI ((mkb (bdP Hd n pt d) j 0) ||| 0))), (6, .int (nI 0)), (4, .int (nI (mov Hd n pt d))), (0, .ref h), (1, .int (nI pt)), (2, .int (nI d))]) hx hb dX5_bound_71 hl (k := 2) rfl (nI_1 _) (by decide) rfl (fun ls hl => ?_)
            refine lv_goto (tgt := 13) hx hb dX5_bound_74 (by decide) ?_
            have e3 : nI ((mkb (bdP Hd n pt d) j 0) ||| 0) = nI (mkb (bdP Hd n pt d) (j + 1) 0) := (or_0 (show _ = (if bdP Hd n pt d j = true then _ else _) from (if_neg (by unfold bdP; rw [c4, Bool.and_false]; decide)).symm))
            rw [e3] at hl
            exact ih13 (j + 1) (by omega) (by omega) ls locs (lv_sub hl [1, 0, 3, 4, 5, 6] rfl) hS
          · refine lv_iconst (v := nI 1) hx hb dX5_bound_48 ci_1 ?_
            refine lv_goto (tgt := 53) hx hb dX5_bound_49 (by decide) ?_
            refine lv_istore (lv' := [(6, .int (nI 1)), (3, .int (nI (mkb (bdP Hd n pt d) j 0))), (5, .int (nI j)), (4, .int (nI (mov Hd n pt d))), (0, .ref h), (1, .int (nI pt)), (2, .int (nI d))]) hx hb dX5_bound_53 hl (by decide) rfl (fun ls hl => ?_)
            refine lv_iload_n hx hb dX5_bound_55 rfl (lv_at hl 1 rfl) ?_
            refine lv_iload hx hb dX5_bound_56 (lv_at hl 0 rfl) ?_
            refine sn_if_eq (tgt := 68) hx hb dX5_bound_58 (by decide) (by decide) (fun q => absurd q (by decide)) (fun _ => ?_)
            refine lv_iconst (v := nI 1) hx hb dX5_bound_61 ci_1 ?_
            refine lv_iload hx hb dX5_bound_62 (lv_at hl 2 rfl) ?_
            refine lv_ishl hx hb dX5_bound_64 ?_
            refine sv_top (y := nI (2 ^ j)) (sh_l1 (by omega)) ?_
            refine lv_goto (tgt := 69) hx hb dX5_bound_65 (by decide) ?_
            refine lv_ior hx hb dX5_bound_69 ?_
            refine sv_top (y := nI ((mkb (bdP Hd n pt d) j 0) ||| (2 ^ j))) (an_or _ _) ?_
            refine lv_istore_n (lv' := [(3, .int (nI ((mkb (bdP Hd n pt d) j 0) ||| (2 ^ j)))), (6, .int (nI 1)), (5, .int (nI j)), (4, .int (nI (mov Hd n pt d))), (0, .ref h), (1, .int (nI pt)), (2, .int (nI d))]) hx hb dX5_bound_70 rfl hl (by decide) rfl (fun ls hl => ?_)
            refine lv_iinc (v := nI (j + 1)) (lv' := [(5, .int (nI (j + 1))), (3, .int (nI ((mkb (bdP Hd n pt d) j 0) ||| (2 ^ j)))), (6, .int (nI 1)), (4, .int (nI (mov Hd n pt d))), (0, .ref h), (1, .int (nI pt)), (2, .int (nI d))]) hx hb dX5_bound_71 hl (k := 2) rfl (nI_1 _) (by decide) rfl (fun ls hl => ?_)
            refine lv_goto (tgt := 13) hx hb dX5_bound_74 (by decide) ?_
            have e3 : nI ((mkb (bdP Hd n pt d) j 0) ||| (2 ^ j)) = nI (mkb (bdP Hd n pt d) (j + 1) 0) := (congrArg nI (show _ = (if bdP Hd n pt d j = true then _ else _) from (if_pos (by unfold bdP; rw [c2, c4]; rfl)).symm))
            rw [e3] at hl
            exact ih13 (j + 1) (by omega) (by omega) ls locs (lv_sub hl [1, 0, 3, 4, 5, 6] rfl) hS
  exact L13 ((n - 0) + 1) 0 (Nat.lt_succ_self _) (by omega) ls locs (lv_sub hl [2, 0, 1, 3, 4, 5] rfl) hS
set_option maxHeartbeats 4000000 in
set_option maxRecDepth 100000 in
theorem c_X5_canPart {l : Launch} {D : va_G} {ky : kT} {Hs : Heap} {ws : va_W} {h th n : Nat} {T C Hd : Nat → Nat} {b : Nat} {q : Bool} {J : Nat → Nat} {bg : Bool} {pu bu : Nat} {cl mo : Int32} {K : Nat → Nat} {fw fd fc fg fo : Nat → Int32} (hP : va_P D CL ws Hs) (hpr : isMod ky ws h th n T C Hd b q J bg pu bu cl mo K fw fd fc fg fo) (hI : PI0 n C Hd b) {one oth : Nat} (h1 : one < 2 ^ n) (ho : oth < 2 ^ n) : PI l yX5_canPart wsX5_canPart 0 0 D ky Hs [.ref h, .int (nI one), .int (nI oth)] (bI (sep Hd n one oth)) := by
  refine PI.of (cc := cX5_canPart) (maxL := 7) (ty := .boolean) (by decide) rfl (bI_nar _) (Nat.le_of_ble_eq_true rfl) ?_
  intro pg en Rm sg mi av below meth co Qo hRf hRl hx hb hml hown hts hK hret ls hl
  have hl : lv_has ls 7 [(0, .ref h), (1, .int (nI one)), (2, .int (nI oth))] := hl
  have hS : va_S (fun _ => False) Hs Hs [] := va_S.rf
  generalize ([] : List Loc) = locs at hS ⊢
  obtain ⟨a1, a2, a3, a4, a5, a6, a7, a8, a9, a10, g19, g20, g21, g22, g23, g24, g25, g26, g27, g28, g29⟩ := id hpr
  obtain ⟨hn8, hb8, hC, hH, hsy⟩ := id hI
  have hp2 : 2 ^ n ≤ 256 := p2_le hn8
  have h131 : one < 2 ^ 31 := lt_31 h1 hn8
  have hw : ∀ d j, j ≤ n → itr (mss (fun k => Hd (8 * d + k) &&& oth) one) j 0 < 2 ^ 31 := fun d j hj => Nat.lt_of_le_of_lt (sbs_le (msw_mono _ _ _ hj)) (lt_31 (msw_lt (fun i _ => and_b1 (hH _)) (Nat.two_pow_pos n)) hn8)
  have k44 := hts (.fieldLink RX5 44 "AssemblyPlannerModel" "parts" "I") (by decide +kernel)
  have hinX5 : ∀ w ∈ wsX50, w ∈ wsX5_canPart := by decide +kernel
  have k16 := hts (.fieldLink RX5 16 "AssemblyPlannerModel" "hinders" "[I") (by decide +kernel)
  refine lv_iconst (v := nI 0) hx hb dX5_canPart_0 ci_0 ?_
  refine lv_istore_n (lv' := [(3, .int (nI 0)), (0, .ref h), (1, .int (nI one)), (2, .int (nI oth))]) hx hb dX5_canPart_1 rfl hl (by decide) rfl (fun ls hl => ?_)
  refine lv_iconst (v := nI 0) hx hb dX5_canPart_2 ci_0 ?_
  refine lv_istore (lv' := [(4, .int (nI 0)), (3, .int (nI 0)), (0, .ref h), (1, .int (nI one)), (2, .int (nI oth))]) hx hb dX5_canPart_3 hl (by decide) rfl (fun ls hl => ?_)
  have L5 : ∀ (L5d : Nat) (d : Nat), 6 - d < L5d → d ≤ 6 → ∀ (ls : Array Slot) (locs : List Loc), lv_has ls 7 [(3, .int (bI (exB (fun d => !hnd Hd n one d oth) d))), (4, .int (nI d)), (0, .ref h), (1, .int (nI one)), (2, .int (nI oth))] → va_S (fun _ => False) Hs Hs locs → W pg l en Rm sg mi av below meth co Hs locs 0 0 Qo (F0 mi 5 ls []) := by
    intro L5d
    induction L5d with
    | zero => intro d hfu; exact absurd hfu (Nat.not_lt_zero _)
    | succ L5d ih5 =>
      intro d hfu i5_0 ls locs hl hS
      refine lv_iload hx hb dX5_canPart_5 (lv_at hl 1 rfl) ?_
      refine lv_bipush (v := nI 6) hx hb dX5_canPart_7 bi_6 ?_
      refine sn_icmp_ge (tgt := 88) hx hb dX5_canPart_9 (by decide) (by omega) (by decide) (fun c1 => ?_) (fun c1 => ?_)
      · refine lv_iload_n hx hb dX5_canPart_88 rfl (lv_at hl 0 rfl) ?_
        exact hret 89 ls locs _ dX5_canPart_89 hS (by rw [show d = 6 by omega]; rfl)
      · refine lv_iconst (v := nI 0) hx hb dX5_canPart_12 ci_0 ?_
        refine lv_istore (lv' := [(5, .int (nI 0)), (3, .int (bI (exB (fun d => !hnd Hd n one d oth) d))), (4, .int (nI d)), (0, .ref h), (1, .int (nI one)), (2, .int (nI oth))]) hx hb dX5_canPart_13 hl (by decide) rfl (fun ls hl => ?_)
        refine lv_iconst (v := nI 0) hx hb dX5_canPart_15 ci_0 ?_
        refine lv_istore (lv' := [(6, .int (nI 0)), (5, .int (nI 0)), (3, .int (bI (exB (fun d => !hnd Hd n one d oth) d))), (4, .int (nI d)), (0, .ref h), (1, .int (nI one)), (2, .int (nI oth))]) hx hb dX5_canPart_16 hl (by decide) rfl (fun ls hl => ?_)
        have L18 : ∀ (L18d : Nat) (j : Nat), n - j < L18d → j ≤ n → ∀ (ls : Array Slot) (locs : List Loc), lv_has ls 7 [(5, .int (nI (itr (mss (fun k => Hd (8 * d + k) &&& oth) one) j 0))), (6, .int (nI j)), (3, .int (bI (exB (fun d => !hnd Hd n one d oth) d))), (4, .int (nI d)), (0, .ref h), (1, .int (nI one)), (2, .int (nI oth))] → va_S (fun _ => False) Hs Hs locs → W pg l en Rm sg mi av below meth co Hs locs 0 0 Qo (F0 mi 18 ls []) := by
          intro L18d
          induction L18d with
          | zero => intro j hfu; exact absurd hfu (Nat.not_lt_zero _)
          | succ L18d ih18 =>
            intro j hfu i18_0 ls locs hl hS
            refine lv_iload hx hb dX5_canPart_18 (lv_at hl 1 rfl) ?_
            refine lv_aload_n hx hb dX5_canPart_20 rfl (lv_at hl 4 rfl) ?_
            refine va_get (ci := 5) (C := RX5) (T := TX5) (N := 19) hx hb hts hinX5 hown hK hP 19 g19 rfl 1 (by decide) k44 (fun _ h9 => h9) rfl dX5_canPart_21 ?_
            refine sn_icmp_ge (tgt := 67) hx hb dX5_canPart_24 (by decide) (by omega) (by omega) (fun c2 => ?_) (fun c2 => ?_)
            · refine lv_iload_n hx hb dX5_canPart_67 rfl (lv_at hl 2 rfl) ?_
              refine sb_if_ne (tgt := 76) hx hb dX5_canPart_68 (by decide) (fun c3 => ?_) (fun c3 => ?_)
              · refine lv_iconst (v := nI 1) hx hb dX5_canPart_76 ci_1 ?_
                refine lv_goto (tgt := 81) hx hb dX5_canPart_77 (by decide) ?_
                refine lv_istore_n (lv' := [(3, .int (nI 1)), (5, .int (nI (itr (mss (fun k => Hd (8 * d + k) &&& oth) one) j 0))), (6, .int (nI j)), (4, .int (nI d)), (0, .ref h), (1, .int (nI one)), (2, .int (nI oth))]) hx hb dX5_canPart_81 rfl hl (by decide) rfl (fun ls hl => ?_)
                refine lv_iinc (v := nI (d + 1)) (lv' := [(4, .int (nI (d + 1))), (3, .int (nI 1)), (5, .int (nI (itr (mss (fun k => Hd (8 * d + k) &&& oth) one) j 0))), (6, .int (nI j)), (0, .ref h), (1, .int (nI one)), (2, .int (nI oth))]) hx hb dX5_canPart_82 hl (k := 3) rfl (nI_1 _) (by decide) rfl (fun ls hl => ?_)
                refine lv_goto (tgt := 5) hx hb dX5_canPart_85 (by decide) ?_
                have e3 : nI 1 = bI (exB (fun d => !hnd Hd n one d oth) (d + 1)) := (bI_t (by show (exB (fun d => !hnd Hd n one d oth) d || !hnd Hd n one d oth) = true; rw [c3]; rfl))
                rw [e3] at hl
                exact ih5 (d + 1) (by omega) (by omega) ls locs (lv_sub hl [1, 0, 4, 5, 6] rfl) hS
              · refine lv_iload hx hb dX5_canPart_71 (lv_at hl 0 rfl) ?_
                refine sn_if_ne (tgt := 80) hx hb dX5_canPart_73 (by decide) (hw d j i18_0) (fun c4 => ?_) (fun c4 => ?_)
                · refine lv_iconst (v := nI 0) hx hb dX5_canPart_80 ci_0 ?_
                  refine lv_istore_n (lv' := [(3, .int (nI 0)), (5, .int (nI (itr (mss (fun k => Hd (8 * d + k) &&& oth) one) j 0))), (6, .int (nI j)), (4, .int (nI d)), (0, .ref h), (1, .int (nI one)), (2, .int (nI oth))]) hx hb dX5_canPart_81 rfl hl (by decide) rfl (fun ls hl => ?_)
                  refine lv_iinc (v := nI (d + 1)) (lv' := [(4, .int (nI (d + 1))), (3, .int (nI 0)), (5, .int (nI (itr (mss (fun k => Hd (8 * d + k) &&& oth) one) j 0))), (6, .int (nI j)), (0, .ref h), (1, .int (nI one)), (2, .int (nI oth))]) hx hb dX5_canPart_82 hl (k := 3) rfl (nI_1 _) (by decide) rfl (fun ls hl => ?_)
                  refine lv_goto (tgt := 5) hx hb dX5_canPart_85 (by decide) ?_
                  have e3 : nI 0 = bI (exB (fun d => !hnd Hd n one d oth) (d + 1)) := (bI_f (by show (exB (fun d => !hnd Hd n one d oth) d || !hnd Hd n one d oth) = false; rw [c3, hos1 (by rw [← show j = n by omega]; exact c4)]; rfl))
                  rw [e3] at hl
                  exact ih5 (d + 1) (by omega) (by omega) ls locs (lv_sub hl [1, 0, 4, 5, 6] rfl) hS
                · refine lv_iconst (v := nI 1) hx hb dX5_canPart_76 ci_1 ?_
                  refine lv_goto (tgt := 81) hx hb dX5_canPart_77 (by decide) ?_
                  refine lv_istore_n (lv' := [(3, .int (nI 1)), (5, .int (nI (itr (mss (fun k => Hd (8 * d + k) &&& oth) one) j 0))), (6, .int (nI j)), (4, .int (nI d)), (0, .ref h), (1, .int (nI one)), (2, .int (nI oth))]) hx hb dX5_canPart_81 rfl hl (by decide) rfl (fun ls hl => ?_)
                  refine lv_iinc (v := nI (d + 1)) (lv' := [(4, .int (nI (d + 1))), (3, .int (nI 1)), (5, .int (nI (itr (mss (fun k => Hd (8 * d + k) &&& oth) one) j 0))), (6, .int (nI j)), (0, .ref h), (1, .int (nI one)), (2, .int (nI oth))]) hx hb dX5_canPart_82 hl (k := 3) rfl (nI_1 _) (by decide) rfl (fun ls hl => ?_)
                  refine lv_goto (tgt := 5) hx hb dX5_canPart_85 (by decide) ?_
                  have e3 : nI 1 = bI (exB (fun d => !hnd Hd n one d oth) (d + 1)) := (bI_t (by show (exB (fun d => !hnd Hd n one d oth) d || !hnd Hd n one d oth) = true; rw [hos0 (by rw [← show j = n by omega]; exact c4)]; simp))
                  rw [e3] at hl
                  exact ih5 (d + 1) (by omega) (by omega) ls locs (lv_sub hl [1, 0, 4, 5, 6] rfl) hS
            · refine lv_iload hx hb dX5_canPart_27 (lv_at hl 0 rfl) ?_
              refine lv_iload_n hx hb dX5_canPart_29 rfl (lv_at hl 5 rfl) ?_
              refine lv_iload hx hb dX5_canPart_30 (lv_at hl 1 rfl) ?_
              refine lv_ishr hx hb dX5_canPart_32 ?_
              refine sv_top (y := nI (one / 2 ^ j)) (sh_r (by omega) (by omega)) ?_
              refine lv_iconst (v := nI 1) hx hb dX5_canPart_33 ci_1 ?_
              refine lv_iand hx hb dX5_canPart_34 ?_
              refine sv_top (y := nI (one / 2 ^ j % 2)) (an_1) ?_
              refine lv_iconst (v := nI 1) hx hb dX5_canPart_35 ci_1 ?_
              refine st_icmp_ne (tgt := 57) hx hb dX5_canPart_36 (by decide) (fun c5 => ?_) (fun c5 => ?_)
              · refine lv_iconst (v := nI 0) hx hb dX5_canPart_57 ci_0 ?_
                refine lv_ior hx hb dX5_canPart_58 ?_
                refine sv_top (y := nI ((itr (mss (fun k => Hd (8 * d + k) &&& oth) one) j 0) ||| 0)) (an_or _ _) ?_
                refine lv_istore (lv' := [(5, .int (nI ((itr (mss (fun k => Hd (8 * d + k) &&& oth) one) j 0) ||| 0))), (6, .int (nI j)), (3, .int (bI (exB (fun d => !hnd Hd n one d oth) d))), (4, .int (nI d)), (0, .ref h), (1, .int (nI one)), (2, .int (nI oth))]) hx hb dX5_canPart_59 hl (by decide) rfl (fun ls hl => ?_)
                refine lv_iinc (v := nI (j + 1)) (lv' := [(6, .int (nI (j + 1))), (5, .int (nI ((itr (mss (fun k => Hd (8 * d + k) &&& oth) one) j 0) ||| 0))), (3, .int (bI (exB (fun d => !hnd Hd n one d oth) d))), (4, .int (nI d)), (0, .ref h), (1, .int (nI one)), (2, .int (nI oth))]) hx hb dX5_canPart_61 hl (k := 1) rfl (nI_1 _) (by decide) rfl (fun ls hl => ?_)
                refine lv_goto (tgt := 18) hx hb dX5_canPart_64 (by decide) ?_
                have e5 : nI ((itr (mss (fun k => Hd (8 * d + k) &&& oth) one) j 0) ||| 0) = nI (itr (mss (fun k => Hd (8 * d + k) &&& oth) one) (j + 1) 0) := (or_0 (show _ = mss (fun k => Hd (8 * d + k) &&& oth) one j _ from (if_neg (by rw [c5]; decide)).symm))
                rw [e5] at hl
                exact ih18 (j + 1) (by omega) (by omega) ls locs (lv_sub hl [1, 0, 2, 3, 4, 5, 6] rfl) hS
              · refine lv_aload_n hx hb dX5_canPart_39 rfl (lv_at hl 4 rfl) ?_
                refine va_get (ci := 5) (C := RX5) (T := TX5) (N := 19) hx hb hts hinX5 hown hK hP 19 g19 rfl 4 (by decide) k16 (fun _ h9 => h9) rfl dX5_canPart_40 ?_
                refine lv_bipush (v := nI 8) hx hb dX5_canPart_43 bi_8 ?_
                refine lv_iload hx hb dX5_canPart_45 (lv_at hl 3 rfl) ?_
                refine lv_imul hx hb dX5_canPart_47 ?_
                refine sv_top (y := nI (8 * d)) (mul_n _ _) ?_
                refine lv_iload hx hb dX5_canPart_48 (lv_at hl 1 rfl) ?_
                refine lv_iadd hx hb dX5_canPart_50 ?_
                refine sv_top (y := nI (8 * d + j)) (nI_add _ _) ?_
                refine sv_iald hx hb hK hP 22 g22 (j := 8 * d + j) (by omega) (by decide) dX5_canPart_51 ?_
                refine W.eq (g2 := F0 mi 52 ls (.int (nI (Hd (8 * d + j))) :: [.int (nI (itr (mss (fun k => Hd (8 * d + k) &&& oth) one) j 0))])) rfl ?_
                refine lv_iload_n hx hb dX5_canPart_52 rfl (lv_at hl 6 rfl) ?_
                refine lv_iand hx hb dX5_canPart_53 ?_
                refine sv_top (y := nI ((Hd (8 * d + j)) &&& oth)) (an_and _ _) ?_
                refine lv_goto (tgt := 58) hx hb dX5_canPart_54 (by decide) ?_
                refine lv_ior hx hb dX5_canPart_58 ?_
                refine sv_top (y := nI ((itr (mss (fun k => Hd (8 * d + k) &&& oth) one) j 0) ||| ((Hd (8 * d + j)) &&& oth))) (an_or _ _) ?_
                refine lv_istore (lv' := [(5, .int (nI ((itr (mss (fun k => Hd (8 * d + k) &&& oth) one) j 0) ||| ((Hd (8 * d + j)) &&& oth)))), (6, .int (nI j)), (3, .int (bI (exB (fun d => !hnd Hd n one d oth) d))), (4, .int (nI d)), (0, .ref h), (1, .int (nI one)), (2, .int (nI oth))]) hx hb dX5_canPart_59 hl (by decide) rfl (fun ls hl => ?_)
                refine lv_iinc (v := nI (j + 1)) (lv' := [(6, .int (nI (j + 1))), (5, .int (nI ((itr (mss (fun k => Hd (8 * d + k) &&& oth) one) j 0) ||| ((Hd (8 * d + j)) &&& oth)))), (3, .int (bI (exB (fun d => !hnd Hd n one d oth) d))), (4, .int (nI d)), (0, .ref h), (1, .int (nI one)), (2, .int (nI oth))]) hx hb dX5_canPart_61 hl (k := 1) rfl (nI_1 _) (by decide) rfl (fun ls hl => ?_)
                refine lv_goto (tgt := 18) hx hb dX5_canPart_64 (by decide) ?_
                have e5 : nI ((itr (mss (fun k => Hd (8 * d + k) &&& oth) one) j 0) ||| ((Hd (8 * d + j)) &&& oth)) = nI (itr (mss (fun k => Hd (8 * d + k) &&& oth) one) (j + 1) 0) := (congrArg nI (show _ = mss (fun k => Hd (8 * d + k) &&& oth) one j _ from (if_pos c5).symm))
                rw [e5] at hl
                exact ih18 (j + 1) (by omega) (by omega) ls locs (lv_sub hl [1, 0, 2, 3, 4, 5, 6] rfl) hS
        exact L18 ((n - 0) + 1) 0 (Nat.lt_succ_self _) (by omega) ls locs (lv_sub hl [1, 0, 2, 3, 4, 5, 6] rfl) hS
  have e3 : nI 0 = bI (exB (fun d => !hnd Hd n one d oth) 0) := (bI_f rfl)
  rw [e3] at hl
  exact L5 ((6 - 0) + 1) 0 (Nat.lt_succ_self _) (by omega) ls locs (lv_sub hl [1, 0, 2, 3, 4] rfl) hS
set_option maxHeartbeats 4000000 in
set_option maxRecDepth 100000 in
theorem c_X5_isSplit {l : Launch} {D : va_G} {ky : kT} {Hs : Heap} {ws : va_W} {h th n : Nat} {T C Hd : Nat → Nat} {b : Nat} {q : Bool} {J : Nat → Nat} {bg : Bool} {pu bu : Nat} {cl mo : Int32} {K : Nat → Nat} {fw fd fc fg fo : Nat → Int32} (hP : va_P D CL ws Hs) (hpr : isMod ky ws h th n T C Hd b q J bg pu bu cl mo K fw fd fc fg fo) (hI : PI0 n C Hd b) {S one : Nat} (hS0 : S < 2 ^ n) (h1 : one < 2 ^ n) : PI l yX5_isSplit wsX5_isSplit 2 46 D ky Hs [.ref h, .int (nI S), .int (nI one)] (bI (spl C Hd n S one)) := by
  refine PI.of (cc := cX5_isSplit) (maxL := 5) (ty := .boolean) (by decide) rfl (bI_nar _) (Nat.le_of_ble_eq_true rfl) ?_
  intro pg en Rm sg mi av below meth co Qo hRf hRl hx hb hml hown hts hK hret ls hl
  have hl : lv_has ls 5 [(0, .ref h), (1, .int (nI S)), (2, .int (nI one))] := hl
  have hS : va_S (fun _ => False) Hs Hs [] := va_S.rf
  generalize ([] : List Loc) = locs at hS ⊢
  obtain ⟨a1, a2, a3, a4, a5, a6, a7, a8, a9, a10, g19, g20, g21, g22, g23, g24, g25, g26, g27, g28, g29⟩ := id hpr
  obtain ⟨hn8, hb8, hC, hH, hsy⟩ := id hI
  have hp2 : 2 ^ n ≤ 256 := p2_le hn8
  have hcl : clr S one < 2 ^ n := clr_lt hS0
  have hcl2 : clr one S < 2 ^ n := clr_lt h1
  have hb31 : ∀ x, x < 2 ^ n → x < 2 ^ 31 := fun x h => lt_31 h hn8
  refine lv_iload_n hx hb dX5_isSplit_0 rfl (lv_at hl 1 rfl) ?_
  refine lv_iload_n hx hb dX5_isSplit_1 rfl (lv_at hl 2 rfl) ?_
  refine lv_iconst (v := -1) hx hb dX5_isSplit_2 ci_m1 ?_
  refine lv_ixor hx hb dX5_isSplit_3 ?_
  refine lv_iand hx hb dX5_isSplit_4 ?_
  refine sv_top (y := nI (clr S one)) (an_not _ _) ?_
  refine lv_istore_n (lv' := [(3, .int (nI (clr S one))), (0, .ref h), (1, .int (nI S)), (2, .int (nI one))]) hx hb dX5_isSplit_5 rfl hl (by decide) rfl (fun ls hl => ?_)
  refine lv_iload_n hx hb dX5_isSplit_6 rfl (lv_at hl 3 rfl) ?_
  refine lv_iload_n hx hb dX5_isSplit_7 rfl (lv_at hl 2 rfl) ?_
  refine lv_iconst (v := -1) hx hb dX5_isSplit_8 ci_m1 ?_
  refine lv_ixor hx hb dX5_isSplit_9 ?_
  refine lv_iand hx hb dX5_isSplit_10 ?_
  refine sv_top (y := nI (clr one S)) (an_not _ _) ?_
  refine sn_if_ne (tgt := 31) hx hb dX5_isSplit_11 (by decide) (hb31 _ hcl2) (fun c1 => ?_) (fun c1 => ?_)
  · refine lv_iconst (v := nI 0) hx hb dX5_isSplit_31 ci_0 ?_
    refine lv_istore (lv' := [(4, .int (nI 0)), (3, .int (nI (clr S one))), (0, .ref h), (1, .int (nI S)), (2, .int (nI one))]) hx hb dX5_isSplit_32 hl (by decide) rfl (fun ls hl => ?_)
    refine lv_iload hx hb dX5_isSplit_34 (lv_at hl 0 rfl) ?_
    refine sn_if_eq (tgt := 68) hx hb dX5_isSplit_36 (by decide) (by decide) (fun _ => ?_) (fun q => absurd q (by decide))
    refine lv_iconst (v := nI 0) hx hb dX5_isSplit_68 ci_0 ?_
    exact hret 69 ls locs _ dX5_isSplit_69 hS (bI_f (by unfold spl; rw [decide_eq_false c1]; simp))
  · refine lv_iload_n hx hb dX5_isSplit_14 rfl (lv_at hl 0 rfl) ?_
    refine sn_if_eq (tgt := 31) hx hb dX5_isSplit_15 (by decide) (hb31 _ hcl) (fun c3 => ?_) (fun c3 => ?_)
    · refine lv_iconst (v := nI 0) hx hb dX5_isSplit_31 ci_0 ?_
      refine lv_istore (lv' := [(4, .int (nI 0)), (3, .int (nI (clr S one))), (0, .ref h), (1, .int (nI S)), (2, .int (nI one))]) hx hb dX5_isSplit_32 hl (by decide) rfl (fun ls hl => ?_)
      refine lv_iload hx hb dX5_isSplit_34 (lv_at hl 0 rfl) ?_
      refine sn_if_eq (tgt := 68) hx hb dX5_isSplit_36 (by decide) (by decide) (fun _ => ?_) (fun q => absurd q (by decide))
      refine lv_iconst (v := nI 0) hx hb dX5_isSplit_68 ci_0 ?_
      exact hret 69 ls locs _ dX5_isSplit_69 hS (bI_f (by unfold spl; rw [decide_eq_false (p := clr S one ≠ 0) (fun q => q c3)]; simp))
    · refine lv_iload_n hx hb dX5_isSplit_18 rfl (lv_at hl 3 rfl) ?_
      refine lv_iload_n hx hb dX5_isSplit_19 rfl (lv_at hl 2 rfl) ?_
      refine lv_iand hx hb dX5_isSplit_20 ?_
      refine sv_top (y := nI (one &&& S)) (an_and _ _) ?_
      refine lv_iload_n hx hb dX5_isSplit_21 rfl (lv_at hl 2 rfl) ?_
      refine lv_ineg hx hb dX5_isSplit_22 ?_
      refine lv_iand hx hb dX5_isSplit_23 ?_
      refine sv_top (y := nI (one &&& (low S))) (and_low _ _) ?_
      refine sn_if_eq (tgt := 31) hx hb dX5_isSplit_24 (by decide) (hb31 _ (and_b1 h1)) (fun c5 => ?_) (fun c5 => ?_)
      · refine lv_iconst (v := nI 0) hx hb dX5_isSplit_31 ci_0 ?_
        refine lv_istore (lv' := [(4, .int (nI 0)), (3, .int (nI (clr S one))), (0, .ref h), (1, .int (nI S)), (2, .int (nI one))]) hx hb dX5_isSplit_32 hl (by decide) rfl (fun ls hl => ?_)
        refine lv_iload hx hb dX5_isSplit_34 (lv_at hl 0 rfl) ?_
        refine sn_if_eq (tgt := 68) hx hb dX5_isSplit_36 (by decide) (by decide) (fun _ => ?_) (fun q => absurd q (by decide))
        refine lv_iconst (v := nI 0) hx hb dX5_isSplit_68 ci_0 ?_
        exact hret 69 ls locs _ dX5_isSplit_69 hS (bI_f (by unfold spl; rw [decide_eq_false (p := one &&& low S ≠ 0) (fun q => q c5)]; simp))
      · refine lv_iconst (v := nI 1) hx hb dX5_isSplit_27 ci_1 ?_
        refine lv_goto (tgt := 32) hx hb dX5_isSplit_28 (by decide) ?_
        refine lv_istore (lv' := [(4, .int (nI 1)), (3, .int (nI (clr S one))), (0, .ref h), (1, .int (nI S)), (2, .int (nI one))]) hx hb dX5_isSplit_32 hl (by decide) rfl (fun ls hl => ?_)
        refine lv_iload hx hb dX5_isSplit_34 (lv_at hl 0 rfl) ?_
        refine sn_if_eq (tgt := 68) hx hb dX5_isSplit_36 (by decide) (by decide) (fun q => absurd q (by decide)) (fun _ => ?_)
        refine lv_aload_n hx hb dX5_isSplit_39 rfl (lv_at hl 2 rfl) ?_
        refine lv_iload_n hx hb dX5_isSplit_40 rfl (lv_at hl 4 rfl) ?_
        refine pcV (c_X5_hangsTogether hP hpr hI h1) ⟨hx, hb, hml, hown, hts⟩ hK gX5_isSplit_X5_hangsTogether rfl hd_X5_hangsTogether ⟨by omega, by omega⟩ (va_recv hK hP (ci := 5) (q0 := 19) rfl g19) rfl hl.1 rfl (Nat.le_of_ble_eq_true rfl) dX5_isSplit_41 ⟨Nat.zero_le _, Nat.zero_le _⟩ hS (fun locs hS => ?_)
        refine sb_if_eq (tgt := 68) hx hb dX5_isSplit_44 (by decide) (fun c8 => ?_) (fun c8 => ?_)
        · refine lv_iconst (v := nI 0) hx hb dX5_isSplit_68 ci_0 ?_
          exact hret 69 ls locs _ dX5_isSplit_69 hS (bI_f (by unfold spl; rw [c8]; simp))
        · refine lv_aload_n hx hb dX5_isSplit_47 rfl (lv_at hl 2 rfl) ?_
          refine lv_iload_n hx hb dX5_isSplit_48 rfl (lv_at hl 1 rfl) ?_
          refine pcV (c_X5_hangsTogether hP hpr hI hcl) ⟨hx, hb, hml, hown, hts⟩ hK gX5_isSplit_X5_hangsTogether rfl hd_X5_hangsTogether ⟨by omega, by omega⟩ (va_recv hK hP (ci := 5) (q0 := 19) rfl g19) rfl hl.1 rfl (Nat.le_of_ble_eq_true rfl) dX5_isSplit_49 ⟨Nat.zero_le _, Nat.zero_le _⟩ hS (fun locs hS => ?_)
          refine sb_if_eq (tgt := 68) hx hb dX5_isSplit_52 (by decide) (fun c9 => ?_) (fun c9 => ?_)
          · refine lv_iconst (v := nI 0) hx hb dX5_isSplit_68 ci_0 ?_
            exact hret 69 ls locs _ dX5_isSplit_69 hS (bI_f (by unfold spl; rw [c9]; simp))
          · refine lv_aload_n hx hb dX5_isSplit_55 rfl (lv_at hl 2 rfl) ?_
            refine lv_iload_n hx hb dX5_isSplit_56 rfl (lv_at hl 4 rfl) ?_
            refine lv_iload_n hx hb dX5_isSplit_57 rfl (lv_at hl 1 rfl) ?_
            refine pcV (c_X5_canPart hP hpr hI h1 hcl) ⟨hx, hb, hml, hown, hts⟩ hK gX5_isSplit_X5_canPart rfl hd_X5_canPart ⟨by omega, by omega⟩ (va_recv hK hP (ci := 5) (q0 := 19) rfl g19) rfl hl.1 rfl (Nat.le_of_ble_eq_true rfl) dX5_isSplit_58 ⟨Nat.zero_le _, Nat.zero_le _⟩ hS (fun locs hS => ?_)
            refine sb_if_eq (tgt := 68) hx hb dX5_isSplit_61 (by decide) (fun c10 => ?_) (fun c10 => ?_)
            · refine lv_iconst (v := nI 0) hx hb dX5_isSplit_68 ci_0 ?_
              exact hret 69 ls locs _ dX5_isSplit_69 hS (bI_f (by unfold spl; rw [c10]; simp))
            · refine lv_iconst (v := nI 1) hx hb dX5_isSplit_64 ci_1 ?_
              refine lv_goto (tgt := 69) hx hb dX5_isSplit_65 (by decide) ?_
              exact hret 69 ls locs _ dX5_isSplit_69 hS (bI_t (by unfold spl; rw [decide_eq_true c1, decide_eq_true c3, decide_eq_true c5, c8, c9, c10]; rfl))
set_option maxHeartbeats 4000000 in
set_option maxRecDepth 100000 in
theorem c_X5_canAdd {l : Launch} {D : va_G} {ky : kT} {Hs : Heap} {ws : va_W} {h th n : Nat} {T C Hd : Nat → Nat} {b : Nat} {q : Bool} {J : Nat → Nat} {bg : Bool} {pu bu : Nat} {cl mo : Int32} {K : Nat → Nat} {fw fd fc fg fo : Nat → Int32} (hP : va_P D CL ws Hs) (hpr : isMod ky ws h th n T C Hd b q J bg pu bu cl mo K fw fd fc fg fo) (hI : PI0 n C Hd b) {S pt : Nat} (hS0 : S < 2 ^ n) (hp : pt < n) : PI l yX5_canAdd wsX5_canAdd 3 67 D ky Hs [.ref h, .int (nI S), .int (nI pt)] (bI (cad C Hd b q S pt)) := by
  refine PI.of (cc := cX5_canAdd) (maxL := 4) (ty := .boolean) (by decide) rfl (bI_nar _) (Nat.le_of_ble_eq_true rfl) ?_
  intro pg en Rm sg mi av below meth co Qo hRf hRl hx hb hml hown hts hK hret ls hl
  have hl : lv_has ls 4 [(0, .ref h), (1, .int (nI S)), (2, .int (nI pt))] := hl
  have hS : va_S (fun _ => False) Hs Hs [] := va_S.rf
  generalize ([] : List Loc) = locs at hS ⊢
  obtain ⟨a1, a2, a3, a4, a5, a6, a7, a8, a9, a10, g19, g20, g21, g22, g23, g24, g25, g26, g27, g28, g29⟩ := id hpr
  obtain ⟨hn8, hb8, hC, hH, hsy⟩ := id hI
  have hp2 : 2 ^ n ≤ 256 := p2_le hn8
  have hor : S ||| 2 ^ pt < 2 ^ n := or_lt hS0 (Nat.pow_lt_pow_right (by decide) hp)
  have hb31 : ∀ x, x < 2 ^ n → x < 2 ^ 31 := fun x h => lt_31 h hn8
  refine lv_iload_n hx hb dX5_canAdd_0 rfl (lv_at hl 1 rfl) ?_
  refine lv_iconst (v := nI 1) hx hb dX5_canAdd_1 ci_1 ?_
  refine lv_iload_n hx hb dX5_canAdd_2 rfl (lv_at hl 2 rfl) ?_
  refine lv_ishl hx hb dX5_canAdd_3 ?_
  refine sv_top (y := nI (2 ^ pt)) (sh_l1 (by omega)) ?_
  refine lv_ior hx hb dX5_canAdd_4 ?_
  refine sv_top (y := nI (S ||| (2 ^ pt))) (an_or _ _) ?_
  refine lv_istore_n (lv' := [(3, .int (nI (S ||| (2 ^ pt)))), (0, .ref h), (1, .int (nI S)), (2, .int (nI pt))]) hx hb dX5_canAdd_5 rfl hl (by decide) rfl (fun ls hl => ?_)
  refine lv_iload_n hx hb dX5_canAdd_6 rfl (lv_at hl 0 rfl) ?_
  refine lv_iload_n hx hb dX5_canAdd_7 rfl (lv_at hl 2 rfl) ?_
  refine sn_icmp_eq (tgt := 40) hx hb dX5_canAdd_8 (by decide) (hb31 _ hor) (hb31 _ hS0) (fun c1 => ?_) (fun c1 => ?_)
  · refine lv_iconst (v := nI 0) hx hb dX5_canAdd_40 ci_0 ?_
    exact hret 41 ls locs _ dX5_canAdd_41 hS (bI_f (by unfold cad; rw [decide_eq_false (p := S ||| 2 ^ pt ≠ S) (fun q => q c1)]; simp))
  · refine lv_aload_n hx hb dX5_canAdd_11 rfl (lv_at hl 1 rfl) ?_
    refine lv_iload_n hx hb dX5_canAdd_12 rfl (lv_at hl 2 rfl) ?_
    refine pcV (c_X5_isSound hP hpr hI hS0) ⟨hx, hb, hml, hown, hts⟩ hK gX5_canAdd_X5_isSound rfl hd_X5_isSound ⟨by omega, by omega⟩ (va_recv hK hP (ci := 5) (q0 := 19) rfl g19) rfl hl.1 rfl (Nat.le_of_ble_eq_true rfl) dX5_canAdd_13 ⟨Nat.zero_le _, Nat.zero_le _⟩ hS (fun locs hS => ?_)
    refine sb_if_eq (tgt := 40) hx hb dX5_canAdd_16 (by decide) (fun c2 => ?_) (fun c2 => ?_)
    · refine lv_iconst (v := nI 0) hx hb dX5_canAdd_40 ci_0 ?_
      exact hret 41 ls locs _ dX5_canAdd_41 hS (bI_f (by unfold cad; rw [c2]; simp))
    · refine lv_aload_n hx hb dX5_canAdd_19 rfl (lv_at hl 1 rfl) ?_
      refine lv_iload_n hx hb dX5_canAdd_20 rfl (lv_at hl 0 rfl) ?_
      refine pcV (c_X5_isSound hP hpr hI hor) ⟨hx, hb, hml, hown, hts⟩ hK gX5_canAdd_X5_isSound rfl hd_X5_isSound ⟨by omega, by omega⟩ (va_recv hK hP (ci := 5) (q0 := 19) rfl g19) rfl hl.1 rfl (Nat.le_of_ble_eq_true rfl) dX5_canAdd_21 ⟨Nat.zero_le _, Nat.zero_le _⟩ hS (fun locs hS => ?_)
      refine sb_if_eq (tgt := 40) hx hb dX5_canAdd_24 (by decide) (fun c3 => ?_) (fun c3 => ?_)
      · refine lv_iconst (v := nI 0) hx hb dX5_canAdd_40 ci_0 ?_
        exact hret 41 ls locs _ dX5_canAdd_41 hS (bI_f (by unfold cad; rw [c3]; simp))
      · refine lv_aload_n hx hb dX5_canAdd_27 rfl (lv_at hl 1 rfl) ?_
        refine lv_iload_n hx hb dX5_canAdd_28 rfl (lv_at hl 0 rfl) ?_
        refine lv_iload_n hx hb dX5_canAdd_29 rfl (lv_at hl 3 rfl) ?_
        refine pcV (c_X5_freeOf hP hpr hI (by omega)) ⟨hx, hb, hml, hown, hts⟩ hK gX5_canAdd_X5_freeOf rfl hd_X5_freeOf ⟨by omega, by omega⟩ (va_recv hK hP (ci := 5) (q0 := 19) rfl g19) rfl hl.1 rfl (Nat.le_of_ble_eq_true rfl) dX5_canAdd_30 ⟨Nat.zero_le _, Nat.zero_le _⟩ hS (fun locs hS => ?_)
        refine sn_if_eq (tgt := 40) hx hb dX5_canAdd_33 (by decide) (Nat.lt_trans (frd_lt _ _ _) (by decide)) (fun c4 => ?_) (fun c4 => ?_)
        · refine lv_iconst (v := nI 0) hx hb dX5_canAdd_40 ci_0 ?_
          exact hret 41 ls locs _ dX5_canAdd_41 hS (bI_f (by unfold cad; rw [decide_eq_false (p := frd Hd (S ||| 2 ^ pt) pt ≠ 0) (fun q => q c4)]; simp))
        · refine lv_iconst (v := nI 1) hx hb dX5_canAdd_36 ci_1 ?_
          refine lv_goto (tgt := 41) hx hb dX5_canAdd_37 (by decide) ?_
          exact hret 41 ls locs _ dX5_canAdd_41 hS (bI_t (by unfold cad; rw [decide_eq_true c1, c2, c3, decide_eq_true c4]; rfl))
set_option maxHeartbeats 4000000 in
set_option maxRecDepth 100000 in
theorem c_X5_isPassed {l : Launch} {D : va_G} {ky : kT} {Hs : Heap} {ws : va_W} {h th n : Nat} {T C Hd : Nat → Nat} {b : Nat} {q : Bool} {J : Nat → Nat} {bg : Bool} {pu bu : Nat} {cl mo : Int32} {K : Nat → Nat} {fw fd fc fg fo : Nat → Int32} (hP : va_P D CL ws Hs) (hpr : isMod ky ws h th n T C Hd b q J bg pu bu cl mo K fw fd fc fg fo) {pt : Nat} (hp : pt < 8) (hK2 : K pt < 2 ^ 31) : PI l yX5_isPassed wsX5_isPassed 0 0 D ky Hs [.ref h, .int (nI pt)] (bI (decide (2 ≤ K pt))) := by
  refine PI.of (cc := cX5_isPassed) (maxL := 2) (ty := .boolean) (by decide) rfl (bI_nar _) (Nat.le_of_ble_eq_true rfl) ?_
  intro pg en Rm sg mi av below meth co Qo hRf hRl hx hb hml hown hts hK hret ls hl
  have hl : lv_has ls 2 [(0, .ref h), (1, .int (nI pt))] := hl
  have hS : va_S (fun _ => False) Hs Hs [] := va_S.rf
  generalize ([] : List Loc) = locs at hS ⊢
  obtain ⟨a1, a2, a3, a4, a5, a6, a7, a8, a9, a10, g19, g20, g21, g22, g23, g24, g25, g26, g27, g28, g29⟩ := id hpr
  have k22 := hts (.fieldLink RX5 22 "AssemblyPlannerModel" "cleared" "[I") (by decide +kernel)
  have hinX5 : ∀ w ∈ wsX50, w ∈ wsX5_isPassed := by decide +kernel
  refine lv_aload_n hx hb dX5_isPassed_0 rfl (lv_at hl 0 rfl) ?_
  refine va_get (ci := 5) (C := RX5) (T := TX5) (N := 19) hx hb hts hinX5 hown hK hP 19 g19 rfl 13 (by decide) k22 (fun _ h9 => h9) rfl dX5_isPassed_1 ?_
  refine lv_iload_n hx hb dX5_isPassed_4 rfl (lv_at hl 1 rfl) ?_
  refine sv_iald hx hb hK hP 24 g24 (j := pt) (by omega) (by decide) dX5_isPassed_5 ?_
  refine W.eq (g2 := F0 mi 6 ls (.int (nI (K pt)) :: [])) rfl ?_
  refine lv_iconst (v := nI 2) hx hb dX5_isPassed_6 ci_2 ?_
  refine sn_icmp_lt (tgt := 14) hx hb dX5_isPassed_7 (by decide) hK2 (by decide) (fun c1 => ?_) (fun c1 => ?_)
  · refine lv_iconst (v := nI 0) hx hb dX5_isPassed_14 ci_0 ?_
    exact hret 15 ls locs _ dX5_isPassed_15 hS (bI_f (decide_eq_false (Nat.not_le.mpr c1)))
  · refine lv_iconst (v := nI 1) hx hb dX5_isPassed_10 ci_1 ?_
    refine lv_goto (tgt := 15) hx hb dX5_isPassed_11 (by decide) ?_
    exact hret 15 ls locs _ dX5_isPassed_15 hS (bI_t (decide_eq_true c1))
set_option maxHeartbeats 4000000 in
set_option maxRecDepth 100000 in
theorem c_X5_thrown {l : Launch} {D : va_G} {ky : kT} {Hs : Heap} {ws : va_W} {h th n : Nat} {T C Hd : Nat → Nat} {b : Nat} {q : Bool} {J : Nat → Nat} {bg : Bool} {pu bu : Nat} {cl mo : Int32} {K : Nat → Nat} {fw fd fc fg fo : Nat → Int32} (hP : va_P D CL ws Hs) (hpr : isMod ky ws h th n T C Hd b q J bg pu bu cl mo K fw fd fc fg fo) : PI l yX5_thrown wsX5_thrown 0 0 D ky Hs [.ref h] (nI th) := by
  refine PI.of (cc := cX5_thrown) (maxL := 1) (ty := .int) (by decide) rfl rfl (Nat.le_of_ble_eq_true rfl) ?_
  intro pg en Rm sg mi av below meth co Qo hRf hRl hx hb hml hown hts hK hret ls hl
  have hl : lv_has ls 1 [(0, .ref h)] := hl
  have hS : va_S (fun _ => False) Hs Hs [] := va_S.rf
  generalize ([] : List Loc) = locs at hS ⊢
  obtain ⟨a1, a2, a3, a4, a5, a6, a7, a8, a9, a10, g19, g20, g21, g22, g23, g24, g25, g26, g27, g28, g29⟩ := id hpr
  have k40 := hts (.fieldLink RX5 40 "AssemblyPlannerModel" "thrown" "I") (by decide +kernel)
  have hinX5 : ∀ w ∈ wsX50, w ∈ wsX5_thrown := by decide +kernel
  refine lv_aload_n hx hb dX5_thrown_0 rfl (lv_at hl 0 rfl) ?_
  refine va_get (ci := 5) (C := RX5) (T := TX5) (N := 19) hx hb hts hinX5 hown hK hP 19 g19 rfl 0 (by decide) k40 (fun _ h9 => h9) rfl dX5_thrown_1 ?_
  exact hret 4 ls locs _ dX5_thrown_4 hS (rfl)
