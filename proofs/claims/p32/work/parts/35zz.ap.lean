theorem hd_X0_changeJams : yX0_changeJams.cls = RX0 ∧ yX0_changeJams.cls ≠ "java/lang/invoke/MethodHandle" ∧ yX0_changeJams.cls ≠ "java/lang/invoke/VarHandle" ∧ (parseMethodDescriptor yX0_changeJams.desc).map (fun d => d.parameters.length) = some 2 := by decide +kernel
theorem hd_X0_lastPlace : yX0_lastPlace.cls = RX0 ∧ yX0_lastPlace.cls ≠ "java/lang/invoke/MethodHandle" ∧ yX0_lastPlace.cls ≠ "java/lang/invoke/VarHandle" ∧ (parseMethodDescriptor yX0_lastPlace.desc).map (fun d => d.parameters.length) = some 0 := by decide +kernel
theorem hd_X0_nextPlace : yX0_nextPlace.cls = RX0 ∧ yX0_nextPlace.cls ≠ "java/lang/invoke/MethodHandle" ∧ yX0_nextPlace.cls ≠ "java/lang/invoke/VarHandle" ∧ (parseMethodDescriptor yX0_nextPlace.desc).map (fun d => d.parameters.length) = some 0 := by decide +kernel
theorem hd_X0_partsIn : yX0_partsIn.cls = RX0 ∧ yX0_partsIn.cls ≠ "java/lang/invoke/MethodHandle" ∧ yX0_partsIn.cls ≠ "java/lang/invoke/VarHandle" ∧ (parseMethodDescriptor yX0_partsIn.desc).map (fun d => d.parameters.length) = some 0 := by decide +kernel
theorem hd_X0_start : yX0_start.cls = RX0 ∧ yX0_start.cls ≠ "java/lang/invoke/MethodHandle" ∧ yX0_start.cls ≠ "java/lang/invoke/VarHandle" ∧ (parseMethodDescriptor yX0_start.desc).map (fun d => d.parameters.length) = some 0 := by decide +kernel
theorem hd_X0_takeOut : yX0_takeOut.cls = RX0 ∧ yX0_takeOut.cls ≠ "java/lang/invoke/MethodHandle" ∧ yX0_takeOut.cls ≠ "java/lang/invoke/VarHandle" ∧ (parseMethodDescriptor yX0_takeOut.desc).map (fun d => d.parameters.length) = some 1 := by decide +kernel
theorem hd_X0_timeSinceStart : yX0_timeSinceStart.cls = RX0 ∧ yX0_timeSinceStart.cls ≠ "java/lang/invoke/MethodHandle" ∧ yX0_timeSinceStart.cls ≠ "java/lang/invoke/VarHandle" ∧ (parseMethodDescriptor yX0_timeSinceStart.desc).map (fun d => d.parameters.length) = some 0 := by decide +kernel
theorem hd_X0_toolMounted : yX0_toolMounted.cls = RX0 ∧ yX0_toolMounted.cls ≠ "java/lang/invoke/MethodHandle" ∧ yX0_toolMounted.cls ≠ "java/lang/invoke/VarHandle" ∧ (parseMethodDescriptor yX0_toolMounted.desc).map (fun d => d.parameters.length) = some 0 := by decide +kernel
theorem hd_X0_tryToPutIn : yX0_tryToPutIn.cls = RX0 ∧ yX0_tryToPutIn.cls ≠ "java/lang/invoke/MethodHandle" ∧ yX0_tryToPutIn.cls ≠ "java/lang/invoke/VarHandle" ∧ (parseMethodDescriptor yX0_tryToPutIn.desc).map (fun d => d.parameters.length) = some 1 := by decide +kernel
theorem hd_X1_bestAt : yX1_bestAt.cls = RX1 ∧ yX1_bestAt.cls ≠ "java/lang/invoke/MethodHandle" ∧ yX1_bestAt.cls ≠ "java/lang/invoke/VarHandle" ∧ (parseMethodDescriptor yX1_bestAt.desc).map (fun d => d.parameters.length) = some 1 := by decide +kernel
theorem hd_X1_fewestBySets : yX1_fewestBySets.cls = RX1 ∧ yX1_fewestBySets.cls ≠ "java/lang/invoke/MethodHandle" ∧ yX1_fewestBySets.cls ≠ "java/lang/invoke/VarHandle" ∧ (parseMethodDescriptor yX1_fewestBySets.desc).map (fun d => d.parameters.length) = some 0 := by decide +kernel
theorem hd_X1_fewestListed : yX1_fewestListed.cls = RX1 ∧ yX1_fewestListed.cls ≠ "java/lang/invoke/MethodHandle" ∧ yX1_fewestListed.cls ≠ "java/lang/invoke/VarHandle" ∧ (parseMethodDescriptor yX1_fewestListed.desc).map (fun d => d.parameters.length) = some 0 := by decide +kernel
theorem hd_X1_forget : yX1_forget.cls = RX1 ∧ yX1_forget.cls ≠ "java/lang/invoke/MethodHandle" ∧ yX1_forget.cls ≠ "java/lang/invoke/VarHandle" ∧ (parseMethodDescriptor yX1_forget.desc).map (fun d => d.parameters.length) = some 0 := by decide +kernel
theorem hd_X1_possible : yX1_possible.cls = RX1 ∧ yX1_possible.cls ≠ "java/lang/invoke/MethodHandle" ∧ yX1_possible.cls ≠ "java/lang/invoke/VarHandle" ∧ (parseMethodDescriptor yX1_possible.desc).map (fun d => d.parameters.length) = some 0 := by decide +kernel
theorem hd_X2_forget : yX2_forget.cls = RX2 ∧ yX2_forget.cls ≠ "java/lang/invoke/MethodHandle" ∧ yX2_forget.cls ≠ "java/lang/invoke/VarHandle" ∧ (parseMethodDescriptor yX2_forget.desc).map (fun d => d.parameters.length) = some 0 := by decide +kernel
theorem hd_X2_leastDepthOf : yX2_leastDepthOf.cls = RX2 ∧ yX2_leastDepthOf.cls ≠ "java/lang/invoke/MethodHandle" ∧ yX2_leastDepthOf.cls ≠ "java/lang/invoke/VarHandle" ∧ (parseMethodDescriptor yX2_leastDepthOf.desc).map (fun d => d.parameters.length) = some 1 := by decide +kernel
theorem hd_X2_splitsOf : yX2_splitsOf.cls = RX2 ∧ yX2_splitsOf.cls ≠ "java/lang/invoke/MethodHandle" ∧ yX2_splitsOf.cls ≠ "java/lang/invoke/VarHandle" ∧ (parseMethodDescriptor yX2_splitsOf.desc).map (fun d => d.parameters.length) = some 1 := by decide +kernel
theorem hd_X2_waysOf : yX2_waysOf.cls = RX2 ∧ yX2_waysOf.cls ≠ "java/lang/invoke/MethodHandle" ∧ yX2_waysOf.cls ≠ "java/lang/invoke/VarHandle" ∧ (parseMethodDescriptor yX2_waysOf.desc).map (fun d => d.parameters.length) = some 1 := by decide +kernel
theorem hd_X3_add : yX3_add.cls = RX3 ∧ yX3_add.cls ≠ "java/lang/invoke/MethodHandle" ∧ yX3_add.cls ≠ "java/lang/invoke/VarHandle" ∧ (parseMethodDescriptor yX3_add.desc).map (fun d => d.parameters.length) = some 1 := by decide +kernel
theorem hd_X3_boundGroups : yX3_boundGroups.cls = RX3 ∧ yX3_boundGroups.cls ≠ "java/lang/invoke/MethodHandle" ∧ yX3_boundGroups.cls ≠ "java/lang/invoke/VarHandle" ∧ (parseMethodDescriptor yX3_boundGroups.desc).map (fun d => d.parameters.length) = some 1 := by decide +kernel
theorem hd_X3_changeBase : yX3_changeBase.cls = RX3 ∧ yX3_changeBase.cls ≠ "java/lang/invoke/MethodHandle" ∧ yX3_changeBase.cls ≠ "java/lang/invoke/VarHandle" ∧ (parseMethodDescriptor yX3_changeBase.desc).map (fun d => d.parameters.length) = some 1 := by decide +kernel
theorem hd_X3_changeSteadyAsked : yX3_changeSteadyAsked.cls = RX3 ∧ yX3_changeSteadyAsked.cls ≠ "java/lang/invoke/MethodHandle" ∧ yX3_changeSteadyAsked.cls ≠ "java/lang/invoke/VarHandle" ∧ (parseMethodDescriptor yX3_changeSteadyAsked.desc).map (fun d => d.parameters.length) = some 1 := by decide +kernel
theorem hd_X3_changeTool : yX3_changeTool.cls = RX3 ∧ yX3_changeTool.cls ≠ "java/lang/invoke/MethodHandle" ∧ yX3_changeTool.cls ≠ "java/lang/invoke/VarHandle" ∧ (parseMethodDescriptor yX3_changeTool.desc).map (fun d => d.parameters.length) = some 2 := by decide +kernel
theorem hd_X3_takeable : yX3_takeable.cls = RX3 ∧ yX3_takeable.cls ≠ "java/lang/invoke/MethodHandle" ∧ yX3_takeable.cls ≠ "java/lang/invoke/VarHandle" ∧ (parseMethodDescriptor yX3_takeable.desc).map (fun d => d.parameters.length) = some 2 := by decide +kernel
theorem hd_X3_tellContact : yX3_tellContact.cls = RX3 ∧ yX3_tellContact.cls ≠ "java/lang/invoke/MethodHandle" ∧ yX3_tellContact.cls ≠ "java/lang/invoke/VarHandle" ∧ (parseMethodDescriptor yX3_tellContact.desc).map (fun d => d.parameters.length) = some 3 := by decide +kernel
theorem hd_X3_tellHindered : yX3_tellHindered.cls = RX3 ∧ yX3_tellHindered.cls ≠ "java/lang/invoke/MethodHandle" ∧ yX3_tellHindered.cls ≠ "java/lang/invoke/VarHandle" ∧ (parseMethodDescriptor yX3_tellHindered.desc).map (fun d => d.parameters.length) = some 4 := by decide +kernel
theorem hd_X4_needDifferent : yX4_needDifferent.cls = RX4 ∧ yX4_needDifferent.cls ≠ "java/lang/invoke/MethodHandle" ∧ yX4_needDifferent.cls ≠ "java/lang/invoke/VarHandle" ∧ (parseMethodDescriptor yX4_needDifferent.desc).map (fun d => d.parameters.length) = some 2 := by decide +kernel
theorem hd_X4_needDirection : yX4_needDirection.cls = RX4 ∧ yX4_needDirection.cls ≠ "java/lang/invoke/MethodHandle" ∧ yX4_needDirection.cls ≠ "java/lang/invoke/VarHandle" ∧ (parseMethodDescriptor yX4_needDirection.desc).map (fun d => d.parameters.length) = some 1 := by decide +kernel
theorem hd_X4_needPart : yX4_needPart.cls = RX4 ∧ yX4_needPart.cls ≠ "java/lang/invoke/MethodHandle" ∧ yX4_needPart.cls ≠ "java/lang/invoke/VarHandle" ∧ (parseMethodDescriptor yX4_needPart.desc).map (fun d => d.parameters.length) = some 1 := by decide +kernel
theorem hd_X4_needParts : yX4_needParts.cls = RX4 ∧ yX4_needParts.cls ≠ "java/lang/invoke/MethodHandle" ∧ yX4_needParts.cls ≠ "java/lang/invoke/VarHandle" ∧ (parseMethodDescriptor yX4_needParts.desc).map (fun d => d.parameters.length) = some 0 := by decide +kernel
theorem hd_X4_needSetWith : yX4_needSetWith.cls = RX4 ∧ yX4_needSetWith.cls ≠ "java/lang/invoke/MethodHandle" ∧ yX4_needSetWith.cls ≠ "java/lang/invoke/VarHandle" ∧ (parseMethodDescriptor yX4_needSetWith.desc).map (fun d => d.parameters.length) = some 2 := by decide +kernel
theorem hd_X4_needTool : yX4_needTool.cls = RX4 ∧ yX4_needTool.cls ≠ "java/lang/invoke/MethodHandle" ∧ yX4_needTool.cls ≠ "java/lang/invoke/VarHandle" ∧ (parseMethodDescriptor yX4_needTool.desc).map (fun d => d.parameters.length) = some 1 := by decide +kernel
theorem hd_X4_productIsTold : yX4_productIsTold.cls = RX4 ∧ yX4_productIsTold.cls ≠ "java/lang/invoke/MethodHandle" ∧ yX4_productIsTold.cls ≠ "java/lang/invoke/VarHandle" ∧ (parseMethodDescriptor yX4_productIsTold.desc).map (fun d => d.parameters.length) = some 0 := by decide +kernel
set_option maxHeartbeats 4000000 in
set_option maxRecDepth 100000 in
theorem c_X4_productIsTold {l : Launch} {D : va_G} {ky : kT} {A : Nat → Prop} {Hs : Heap} {ws : va_W} (hP : va_P D CL ws Hs) (hD : va_D A ws) {h hp ht a4 a5 a6 a7 ho b1 b2 b3 b4 b5 hc j1 j2 : Nat} {Cn : Nat → Bool} {fs fw fd : Nat → Int32} {kp : Bool} {Sn : Nat → Bool} {fx fo fg fb : Nat → Int32} {fe : Int32} {kn : Bool} {J : Nat → Nat} {bg : Bool} {pi bu : Nat} {tm tl : Int32} {K : Nat → Nat} (g0 : ws[0]? = some (h, .inr (4, [.ref hp, .ref ht, .ref ho, .ref hc]))) (hpt : isPtg ky ws ht hp a4 a5 a6 a7 Cn fs fw fd kp) (hod : isOrd ky ws ho hp b1 b2 b3 b4 b5 Sn fx fo fg fb fe kn) (hcl : isCell ky ws hc hp j1 j2 J K bg pi bu tm tl) : MV l yX4_productIsTold wsX4_productIsTold 1 21 0 0 D ky A Hs [.ref h] (fun w => isPtg ky w ht hp a4 a5 a6 a7 Cn fs fw fd false ∧ isOrd ky w ho hp b1 b2 b3 b4 b5 Sn fx fo fg fb fe false ∧ isCell ky w hc hp j1 j2 J (zro K 8) false 0 0 (nI 0) (-1) ∧ fr ws w 5 18) := by
  refine MV.of (cc := cX4_productIsTold) (maxL := 1) (by decide) rfl (Nat.le_of_ble_eq_true rfl) ?_
  intro pg en Rm sg mi av below meth co Qo hRf hRl hRc hRs hx hb hml hown hin hts hK hret ls hl
  have hl : lv_has ls 1 [(0, .ref h)] := hl
  have hS : va_S A Hs Hs [] := va_S.rf
  generalize ([] : List Loc) = locs at hS ⊢
  obtain ⟨p5, -⟩ := id hpt
  obtain ⟨o10, -⟩ := id hod
  obtain ⟨cl16, -⟩ := id hcl
  have k21 := hts (.fieldLink RX4 21 "AssemblyPlanner" "parting" "LAssemblyPlanner$Parting;") (by decide +kernel)
  have hinX4 : ∀ w ∈ wsX40, w ∈ wsX4_productIsTold := by decide +kernel
  have k28 := hts (.fieldLink RX4 28 "AssemblyPlanner" "ordering" "LAssemblyPlanner$Ordering;") (by decide +kernel)
  have k35 := hts (.fieldLink RX4 35 "AssemblyPlanner" "cell" "LAssemblyPlanner$Cell;") (by decide +kernel)
  refine lv_aload_n hx hb dX4_productIsTold_0 rfl (lv_at hl 0 rfl) ?_
  refine va_get (ci := 4) (C := RX4) (T := TX4) (N := 4) hx hb hts hinX4 hown hK hP 0 g0 rfl 1 (by decide) k21 (fun _ h9 => h9) rfl dX4_productIsTold_1 ?_
  refine mvV (c_X2_forget hP hD hpt) ⟨hx, hb, hml, hown, hts⟩ hK gX4_productIsTold_X2_forget rfl hd_X2_forget ⟨by omega, by omega⟩ (va_recv hK hP (ci := 2) (q0 := 5) rfl p5) rfl hl.1 rfl (Nat.le_of_ble_eq_true rfl) dX4_productIsTold_4 ⟨Nat.zero_le _, Nat.zero_le _⟩ hS (fun ws1 H locs hq3 hP hD hS => ?_)
  obtain ⟨hpt, fr2⟩ := hq3
  replace g0 := (fr2 0 (by decide)).trans g0
  replace o10 := (fr2 10 (by decide)).trans o10
  replace cl16 := (fr2 16 (by decide)).trans cl16
  replace hod := hod.fr fr2
  replace hcl := hcl.fr fr2
  obtain ⟨p5, -⟩ := id hpt
  refine lv_aload_n hx hb dX4_productIsTold_7 rfl (lv_at hl 0 rfl) ?_
  refine va_get (ci := 4) (C := RX4) (T := TX4) (N := 4) hx hb hts hinX4 hown hK hP 0 g0 rfl 2 (by decide) k28 (fun _ h9 => h9) rfl dX4_productIsTold_8 ?_
  refine mvV (c_X1_forget hP hD hod) ⟨hx, hb, hml, hown, hts⟩ hK gX4_productIsTold_X1_forget rfl hd_X1_forget ⟨by omega, by omega⟩ (va_recv hK hP (ci := 1) (q0 := 10) rfl o10) rfl hl.1 rfl (Nat.le_of_ble_eq_true rfl) dX4_productIsTold_11 ⟨Nat.zero_le _, Nat.zero_le _⟩ hS (fun ws4 H locs hq6 hP hD hS => ?_)
  obtain ⟨hod, fr5⟩ := hq6
  replace g0 := (fr5 0 (by decide)).trans g0
  replace p5 := (fr5 5 (by decide)).trans p5
  replace cl16 := (fr5 16 (by decide)).trans cl16
  replace hpt := hpt.fr fr5
  replace hcl := hcl.fr fr5
  obtain ⟨o10, -⟩ := id hod
  refine lv_aload_n hx hb dX4_productIsTold_14 rfl (lv_at hl 0 rfl) ?_
  refine va_get (ci := 4) (C := RX4) (T := TX4) (N := 4) hx hb hts hinX4 hown hK hP 0 g0 rfl 3 (by decide) k35 (fun _ h9 => h9) rfl dX4_productIsTold_15 ?_
  refine mvV (c_X0_halt hP hD hcl) ⟨hx, hb, hml, hown, hts⟩ hK gX4_productIsTold_X0_halt rfl hd_X0_halt ⟨by omega, by omega⟩ (va_recv hK hP (ci := 0) (q0 := 16) rfl cl16) rfl hl.1 rfl (Nat.le_of_ble_eq_true rfl) dX4_productIsTold_18 ⟨Nat.zero_le _, Nat.zero_le _⟩ hS (fun ws7 H locs hq9 hP hD hS => ?_)
  obtain ⟨hcl, fr8⟩ := hq9
  replace g0 := (fr8 0 (by decide)).trans g0
  replace p5 := (fr8 5 (by decide)).trans p5
  replace o10 := (fr8 10 (by decide)).trans o10
  replace hpt := hpt.fr fr8
  replace hod := hod.fr fr8
  obtain ⟨cl16, -⟩ := id hcl
  exact hret 21 ls _ _ locs dX4_productIsTold_21 hP hD hS (⟨hpt, hod, hcl, (((fr.wd fr2 : fr _ _ 5 18).tr fr5).tr fr8)⟩)
set_option maxHeartbeats 4000000 in
set_option maxRecDepth 100000 in
theorem c_X4_parts_0 {l : Launch} {D : va_G} {ky : kT} {A : Nat → Prop} {Hs : Heap} {ws : va_W} (hP : va_P D CL ws Hs) (hD : va_D A ws) {h n : Nat} {T C Hd : Nat → Nat} {b : Nat} {q : Bool} {J : Nat → Nat} {bg : Bool} {pi bu : Nat} {tm tl : Int32} {K : Nat → Nat} (hap : AP ky ws h n T C Hd b q J bg pi bu tm tl K) (hI : PI0 n C Hd b) : MU l yX4_parts wsX4_parts 1 20 0 0 D ky A Hs [.ref h] (fun r w => r = nI n ∧ AP ky w h n T C Hd b q J bg pi bu tm tl K ∧ fr ws w 0 18) := by
  refine MU.of (cc := cX4_parts) (maxL := 1) (ty := .int) (by decide) rfl (Nat.le_of_ble_eq_true rfl) ?_
  intro pg en Rm sg mi av below meth co Qo hRf hRl hRc hRs hx hb hml hown hts hK hret ls hl
  have hl : lv_has ls 1 [(0, .ref h)] := hl
  have hS : va_S A Hs Hs [] := va_S.rf
  generalize ([] : List Loc) = locs at hS ⊢
  obtain ⟨hp, ht, a4, a5, a6, a7, ho, b1, b2, b3, b4, b5, hc, j1, j2, g0, hpr, ⟨Cn, fs, fw, fd, kp, hpt, hkp⟩, ⟨Sn, fx, fo, fg, fb, fe, kn, hod, hkn⟩, hcl⟩ := hap
  obtain ⟨a1, a2, a3, f1, -⟩ := id hpr
  obtain ⟨p5, -⟩ := id hpt
  obtain ⟨o10, -⟩ := id hod
  obtain ⟨cl16, -⟩ := id hcl
  have hn8 := hI.1
  have hp2 := p2_le hn8
  have k12 := hts (.fieldLink RX4 12 "AssemblyPlanner" "product" "LAssemblyPlanner$Product;") (by decide +kernel)
  have hinX4 : ∀ w ∈ wsX40, w ∈ wsX4_parts := by decide +kernel
  refine lv_aload_n hx hb dX4_parts_0 rfl (lv_at hl 0 rfl) ?_
  refine va_get (ci := 4) (C := RX4) (T := TX4) (N := 4) hx hb hts hinX4 hown hK hP 0 g0 rfl 0 (by decide) k12 (fun _ h9 => h9) rfl dX4_parts_1 ?_
  refine pcV (c_X3_count hP hpr hI) ⟨hx, hb, hml, hown, hts⟩ hK gX4_parts_X3_count rfl hd_X3_count ⟨by omega, by omega⟩ (va_recv hK hP (ci := 3) (q0 := 1) rfl f1) rfl hl.1 rfl (Nat.le_of_ble_eq_true rfl) dX4_parts_4 ⟨Nat.zero_le _, Nat.zero_le _⟩ hS (fun locs hS => ?_)
  exact hret 7 ls _ _ locs _ dX4_parts_7 hP hD hS rfl (⟨rfl, ⟨hp, ht, a4, a5, a6, a7, ho, b1, b2, b3, b4, b5, hc, j1, j2, g0, hpr, ⟨Cn, fs, fw, fd, kp, hpt, hkp⟩, ⟨Sn, fx, fo, fg, fb, fe, kn, hod, hkn⟩, hcl⟩, fr.rf⟩)
set_option maxHeartbeats 4000000 in
set_option maxRecDepth 100000 in
theorem c_X4_addPart_0 {l : Launch} {D : va_G} {ky : kT} {A : Nat → Prop} {Hs : Heap} {ws : va_W} (hP : va_P D CL ws Hs) (hD : va_D A ws) {h n : Nat} {T C Hd : Nat → Nat} {b : Nat} {q : Bool} {J : Nat → Nat} {bg : Bool} {pi bu : Nat} {tm tl : Int32} {K : Nat → Nat} (hap : AP ky ws h n T C Hd b q J bg pi bu tm tl K) (hI : PI0 n C Hd b) {t : Nat} (ht : t < 4) (hn : n < 8) : MU l yX4_addPart wsX4_addPart 2 41 0 0 D ky A Hs [.ref h, .int (nI t)] (fun r w => r = nI n ∧ AP ky w h (n + 1) (upX T n t) C Hd b q J false 0 0 ((nI 0)) ((-1)) ((zro K 8)) ∧ fr ws w 0 18) := by
  refine MU.of (cc := cX4_addPart) (maxL := 2) (ty := .int) (by decide) rfl (Nat.le_of_ble_eq_true rfl) ?_
  intro pg en Rm sg mi av below meth co Qo hRf hRl hRc hRs hx hb hml hown hts hK hret ls hl
  have hl : lv_has ls 2 [(0, .ref h), (1, .int (nI t))] := hl
  have hS : va_S A Hs Hs [] := va_S.rf
  generalize ([] : List Loc) = locs at hS ⊢
  obtain ⟨hp, ht, a4, a5, a6, a7, ho, b1, b2, b3, b4, b5, hc, j1, j2, g0, hpr, ⟨Cn, fs, fw, fd, kp, hpt, hkp⟩, ⟨Sn, fx, fo, fg, fb, fe, kn, hod, hkn⟩, hcl⟩ := hap
  obtain ⟨a1, a2, a3, f1, -⟩ := id hpr
  obtain ⟨p5, -⟩ := id hpt
  obtain ⟨o10, -⟩ := id hod
  obtain ⟨cl16, -⟩ := id hcl
  have hn8 := hI.1
  have hp2 := p2_le hn8
  have k12 := hts (.fieldLink RX4 12 "AssemblyPlanner" "product" "LAssemblyPlanner$Product;") (by decide +kernel)
  have hinX4 : ∀ w ∈ wsX40, w ∈ wsX4_addPart := by decide +kernel
  refine lv_aload_n hx hb dX4_addPart_0 rfl (lv_at hl 0 rfl) ?_
  refine lv_iload_n hx hb dX4_addPart_1 rfl (lv_at hl 1 rfl) ?_
  refine pvV (c_X4_needTool hP g0 hpr hI (by omega)) ⟨hx, hb, hml, hown, hts⟩ hK gX4_addPart_X4_needTool rfl hd_X4_needTool ⟨by omega, by omega⟩ (va_recv hK hP (ci := 4) (q0 := 0) rfl g0) rfl hl.1 rfl (Nat.le_of_ble_eq_true rfl) dX4_addPart_2 ⟨Nat.zero_le _, Nat.zero_le _⟩ hS (fun locs hS => ?_)
  refine lv_aload_n hx hb dX4_addPart_5 rfl (lv_at hl 0 rfl) ?_
  refine va_get (ci := 4) (C := RX4) (T := TX4) (N := 4) hx hb hts hinX4 hown hK hP 0 g0 rfl 0 (by decide) k12 (fun _ h9 => h9) rfl dX4_addPart_6 ?_
  refine pcV (c_X3_count hP hpr hI) ⟨hx, hb, hml, hown, hts⟩ hK gX4_addPart_X3_count rfl hd_X3_count ⟨by omega, by omega⟩ (va_recv hK hP (ci := 3) (q0 := 1) rfl f1) rfl hl.1 rfl (Nat.le_of_ble_eq_true rfl) dX4_addPart_9 ⟨Nat.zero_le _, Nat.zero_le _⟩ hS (fun locs hS => ?_)
  refine lv_bipush (v := nI 8) hx hb dX4_addPart_12 bi_8 ?_
  refine sn_icmp_lt (tgt := 27) hx hb dX4_addPart_14 (by decide) (by omega) (by omega) (fun c1 => ?_) (fun c1 => absurd c1 (by omega))
  refine lv_aload_n hx hb dX4_addPart_27 rfl (lv_at hl 0 rfl) ?_
  refine mvV (c_X4_productIsTold hP hD g0 hpt hod hcl) ⟨hx, hb, hml, hown, hts⟩ hK gX4_addPart_X4_productIsTold rfl hd_X4_productIsTold ⟨by omega, by omega⟩ (va_recv hK hP (ci := 4) (q0 := 0) rfl g0) rfl hl.1 rfl (Nat.le_of_ble_eq_true rfl) dX4_addPart_28 ⟨Nat.zero_le _, Nat.zero_le _⟩ hS (fun ws2 H locs hq4 hP hD hS => ?_)
  obtain ⟨hpt, hod, hcl, fr3⟩ := hq4
  replace g0 := (fr3 0 (by decide)).trans g0
  replace f1 := (fr3 1 (by decide)).trans f1
  replace hpr := hpr.fr fr3
  obtain ⟨p5, -⟩ := id hpt
  obtain ⟨o10, -⟩ := id hod
  obtain ⟨cl16, -⟩ := id hcl
  refine lv_aload_n hx hb dX4_addPart_31 rfl (lv_at hl 0 rfl) ?_
  refine va_get (ci := 4) (C := RX4) (T := TX4) (N := 4) hx hb hts hinX4 hown hK hP 0 g0 rfl 0 (by decide) k12 (fun _ h9 => h9) rfl dX4_addPart_32 ?_
  refine lv_iload_n hx hb dX4_addPart_35 rfl (lv_at hl 1 rfl) ?_
  refine mcV (c_X3_add hP hD hpr hn) ⟨hx, hb, hml, hown, hts⟩ hK gX4_addPart_X3_add rfl hd_X3_add ⟨by omega, by omega⟩ (va_recv hK hP (ci := 3) (q0 := 1) rfl f1) rfl hl.1 rfl (Nat.le_of_ble_eq_true rfl) dX4_addPart_36 ⟨Nat.zero_le _, Nat.zero_le _⟩ hS (fun r ws5 H locs hq7 hP hD hS => ?_)
  obtain ⟨rfl, hpr, fr6⟩ := hq7
  replace g0 := (fr6 0 (by decide)).trans g0
  replace p5 := (fr6 5 (by decide)).trans p5
  replace o10 := (fr6 10 (by decide)).trans o10
  replace cl16 := (fr6 16 (by decide)).trans cl16
  replace hpt := hpt.fr fr6
  replace hod := hod.fr fr6
  replace hcl := hcl.fr fr6
  obtain ⟨a1, a2, a3, f1, -⟩ := id hpr
  exact hret 39 ls _ _ locs _ dX4_addPart_39 hP hD hS rfl (⟨rfl, ⟨hp, ht, a4, a5, a6, a7, ho, b1, b2, b3, b4, b5, hc, j1, j2, g0, hpr, ⟨_, _, _, _, false, hpt, fun z => Bool.noConfusion z⟩, ⟨_, _, _, _, _, _, false, hod, fun z => Bool.noConfusion z⟩, hcl⟩, ((fr.wd fr3 : fr _ _ 0 18).tr fr6)⟩)
set_option maxHeartbeats 4000000 in
set_option maxRecDepth 100000 in
theorem c_X4_setTool_0 {l : Launch} {D : va_G} {ky : kT} {A : Nat → Prop} {Hs : Heap} {ws : va_W} (hP : va_P D CL ws Hs) (hD : va_D A ws) {h n : Nat} {T C Hd : Nat → Nat} {b : Nat} {q : Bool} {J : Nat → Nat} {bg : Bool} {pi bu : Nat} {tm tl : Int32} {K : Nat → Nat} (hap : AP ky ws h n T C Hd b q J bg pi bu tm tl K) (hI : PI0 n C Hd b) {pt t : Nat} (hp9 : pt < n) (ht : t < 4) : MU l yX4_setTool wsX4_setTool 2 41 0 0 D ky A Hs [.ref h, .int (nI pt), .int (nI t)] (fun r w => r = nI (T pt) ∧ AP ky w h n (upX T pt t) C Hd b q J false 0 0 ((nI 0)) ((-1)) ((zro K 8)) ∧ fr ws w 0 18) := by
  refine MU.of (cc := cX4_setTool) (maxL := 3) (ty := .int) (by decide) rfl (Nat.le_of_ble_eq_true rfl) ?_
  intro pg en Rm sg mi av below meth co Qo hRf hRl hRc hRs hx hb hml hown hts hK hret ls hl
  have hl : lv_has ls 3 [(0, .ref h), (1, .int (nI pt)), (2, .int (nI t))] := hl
  have hS : va_S A Hs Hs [] := va_S.rf
  generalize ([] : List Loc) = locs at hS ⊢
  obtain ⟨hp, ht, a4, a5, a6, a7, ho, b1, b2, b3, b4, b5, hc, j1, j2, g0, hpr, ⟨Cn, fs, fw, fd, kp, hpt, hkp⟩, ⟨Sn, fx, fo, fg, fb, fe, kn, hod, hkn⟩, hcl⟩ := hap
  obtain ⟨a1, a2, a3, f1, -⟩ := id hpr
  obtain ⟨p5, -⟩ := id hpt
  obtain ⟨o10, -⟩ := id hod
  obtain ⟨cl16, -⟩ := id hcl
  have hn8 := hI.1
  have hp2 := p2_le hn8
  have k12 := hts (.fieldLink RX4 12 "AssemblyPlanner" "product" "LAssemblyPlanner$Product;") (by decide +kernel)
  have hinX4 : ∀ w ∈ wsX40, w ∈ wsX4_setTool := by decide +kernel
  refine lv_aload_n hx hb dX4_setTool_0 rfl (lv_at hl 0 rfl) ?_
  refine lv_iload_n hx hb dX4_setTool_1 rfl (lv_at hl 1 rfl) ?_
  refine pvV (c_X4_needPart hP g0 hpr hI (by omega)) ⟨hx, hb, hml, hown, hts⟩ hK gX4_setTool_X4_needPart rfl hd_X4_needPart ⟨by omega, by omega⟩ (va_recv hK hP (ci := 4) (q0 := 0) rfl g0) rfl hl.1 rfl (Nat.le_of_ble_eq_true rfl) dX4_setTool_2 ⟨Nat.zero_le _, Nat.zero_le _⟩ hS (fun locs hS => ?_)
  refine lv_aload_n hx hb dX4_setTool_5 rfl (lv_at hl 0 rfl) ?_
  refine lv_iload_n hx hb dX4_setTool_6 rfl (lv_at hl 2 rfl) ?_
  refine pvV (c_X4_needTool hP g0 hpr hI (by omega)) ⟨hx, hb, hml, hown, hts⟩ hK gX4_setTool_X4_needTool rfl hd_X4_needTool ⟨by omega, by omega⟩ (va_recv hK hP (ci := 4) (q0 := 0) rfl g0) rfl hl.1 rfl (Nat.le_of_ble_eq_true rfl) dX4_setTool_7 ⟨Nat.zero_le _, Nat.zero_le _⟩ hS (fun locs hS => ?_)
  refine lv_aload_n hx hb dX4_setTool_10 rfl (lv_at hl 0 rfl) ?_
  refine mvV (c_X4_productIsTold hP hD g0 hpt hod hcl) ⟨hx, hb, hml, hown, hts⟩ hK gX4_setTool_X4_productIsTold rfl hd_X4_productIsTold ⟨by omega, by omega⟩ (va_recv hK hP (ci := 4) (q0 := 0) rfl g0) rfl hl.1 rfl (Nat.le_of_ble_eq_true rfl) dX4_setTool_11 ⟨Nat.zero_le _, Nat.zero_le _⟩ hS (fun ws1 H locs hq3 hP hD hS => ?_)
  obtain ⟨hpt, hod, hcl, fr2⟩ := hq3
  replace g0 := (fr2 0 (by decide)).trans g0
  replace f1 := (fr2 1 (by decide)).trans f1
  replace hpr := hpr.fr fr2
  obtain ⟨p5, -⟩ := id hpt
  obtain ⟨o10, -⟩ := id hod
  obtain ⟨cl16, -⟩ := id hcl
  refine lv_aload_n hx hb dX4_setTool_14 rfl (lv_at hl 0 rfl) ?_
  refine va_get (ci := 4) (C := RX4) (T := TX4) (N := 4) hx hb hts hinX4 hown hK hP 0 g0 rfl 0 (by decide) k12 (fun _ h9 => h9) rfl dX4_setTool_15 ?_
  refine lv_iload_n hx hb dX4_setTool_18 rfl (lv_at hl 1 rfl) ?_
  refine lv_iload_n hx hb dX4_setTool_19 rfl (lv_at hl 2 rfl) ?_
  refine mcV (c_X3_changeTool hP hD hpr (by omega)) ⟨hx, hb, hml, hown, hts⟩ hK gX4_setTool_X3_changeTool rfl hd_X3_changeTool ⟨by omega, by omega⟩ (va_recv hK hP (ci := 3) (q0 := 1) rfl f1) rfl hl.1 rfl (Nat.le_of_ble_eq_true rfl) dX4_setTool_20 ⟨Nat.zero_le _, Nat.zero_le _⟩ hS (fun r ws4 H locs hq6 hP hD hS => ?_)
  obtain ⟨rfl, hpr, fr5⟩ := hq6
  replace g0 := (fr5 0 (by decide)).trans g0
  replace p5 := (fr5 5 (by decide)).trans p5
  replace o10 := (fr5 10 (by decide)).trans o10
  replace cl16 := (fr5 16 (by decide)).trans cl16
  replace hpt := hpt.fr fr5
  replace hod := hod.fr fr5
  replace hcl := hcl.fr fr5
  obtain ⟨a1, a2, a3, f1, -⟩ := id hpr
  exact hret 23 ls _ _ locs _ dX4_setTool_23 hP hD hS rfl (⟨rfl, ⟨hp, ht, a4, a5, a6, a7, ho, b1, b2, b3, b4, b5, hc, j1, j2, g0, hpr, ⟨_, _, _, _, false, hpt, fun z => Bool.noConfusion z⟩, ⟨_, _, _, _, _, _, false, hod, fun z => Bool.noConfusion z⟩, hcl⟩, ((fr.wd fr2 : fr _ _ 0 18).tr fr5)⟩)
set_option maxHeartbeats 4000000 in
set_option maxRecDepth 100000 in
theorem c_X4_contact_0 {l : Launch} {D : va_G} {ky : kT} {A : Nat → Prop} {Hs : Heap} {ws : va_W} (hP : va_P D CL ws Hs) (hD : va_D A ws) {h n : Nat} {T C Hd : Nat → Nat} {b : Nat} {q : Bool} {J : Nat → Nat} {bg : Bool} {pi bu : Nat} {tm tl : Int32} {K : Nat → Nat} (hap : AP ky ws h n T C Hd b q J bg pi bu tm tl K) (hI : PI0 n C Hd b) {pt ot : Nat} {are : Bool} (hp9 : pt < n) (ho9 : ot < n) (hne : ¬ pt = ot) : MU l yX4_contact wsX4_contact 2 45 0 0 D ky A Hs [.ref h, .int (nI pt), .int (nI ot), .int (bI are)] (fun r w => r = nI (cnt (ctc C pt ot are pt)) ∧ AP ky w h n T (ctc C pt ot are) Hd b q J false 0 0 ((nI 0)) ((-1)) ((zro K 8)) ∧ fr ws w 0 18) := by
  refine MU.of (cc := cX4_contact) (maxL := 4) (ty := .int) (by decide) rfl (Nat.le_of_ble_eq_true rfl) ?_
  intro pg en Rm sg mi av below meth co Qo hRf hRl hRc hRs hx hb hml hown hts hK hret ls hl
  have hl : lv_has ls 4 [(0, .ref h), (1, .int (nI pt)), (2, .int (nI ot)), (3, .int (bI are))] := hl
  have hS : va_S A Hs Hs [] := va_S.rf
  generalize ([] : List Loc) = locs at hS ⊢
  obtain ⟨hp, ht, a4, a5, a6, a7, ho, b1, b2, b3, b4, b5, hc, j1, j2, g0, hpr, ⟨Cn, fs, fw, fd, kp, hpt, hkp⟩, ⟨Sn, fx, fo, fg, fb, fe, kn, hod, hkn⟩, hcl⟩ := hap
  obtain ⟨a1, a2, a3, f1, -⟩ := id hpr
  obtain ⟨p5, -⟩ := id hpt
  obtain ⟨o10, -⟩ := id hod
  obtain ⟨cl16, -⟩ := id hcl
  have hn8 := hI.1
  have hp2 := p2_le hn8
  have k12 := hts (.fieldLink RX4 12 "AssemblyPlanner" "product" "LAssemblyPlanner$Product;") (by decide +kernel)
  have hinX4 : ∀ w ∈ wsX40, w ∈ wsX4_contact := by decide +kernel
  refine lv_aload_n hx hb dX4_contact_0 rfl (lv_at hl 0 rfl) ?_
  refine lv_iload_n hx hb dX4_contact_1 rfl (lv_at hl 1 rfl) ?_
  refine pvV (c_X4_needPart hP g0 hpr hI (by omega)) ⟨hx, hb, hml, hown, hts⟩ hK gX4_contact_X4_needPart rfl hd_X4_needPart ⟨by omega, by omega⟩ (va_recv hK hP (ci := 4) (q0 := 0) rfl g0) rfl hl.1 rfl (Nat.le_of_ble_eq_true rfl) dX4_contact_2 ⟨Nat.zero_le _, Nat.zero_le _⟩ hS (fun locs hS => ?_)
  refine lv_aload_n hx hb dX4_contact_5 rfl (lv_at hl 0 rfl) ?_
  refine lv_iload_n hx hb dX4_contact_6 rfl (lv_at hl 2 rfl) ?_
  refine pvV (c_X4_needPart hP g0 hpr hI (by omega)) ⟨hx, hb, hml, hown, hts⟩ hK gX4_contact_X4_needPart rfl hd_X4_needPart ⟨by omega, by omega⟩ (va_recv hK hP (ci := 4) (q0 := 0) rfl g0) rfl hl.1 rfl (Nat.le_of_ble_eq_true rfl) dX4_contact_7 ⟨Nat.zero_le _, Nat.zero_le _⟩ hS (fun locs hS => ?_)
  refine lv_aload_n hx hb dX4_contact_10 rfl (lv_at hl 0 rfl) ?_
  refine lv_iload_n hx hb dX4_contact_11 rfl (lv_at hl 1 rfl) ?_
  refine lv_iload_n hx hb dX4_contact_12 rfl (lv_at hl 2 rfl) ?_
  refine pvV (c_X4_needDifferent hP g0 hpr hI hp9 ho9 hne) ⟨hx, hb, hml, hown, hts⟩ hK gX4_contact_X4_needDifferent rfl hd_X4_needDifferent ⟨by omega, by omega⟩ (va_recv hK hP (ci := 4) (q0 := 0) rfl g0) rfl hl.1 rfl (Nat.le_of_ble_eq_true rfl) dX4_contact_13 ⟨Nat.zero_le _, Nat.zero_le _⟩ hS (fun locs hS => ?_)
  refine lv_aload_n hx hb dX4_contact_16 rfl (lv_at hl 0 rfl) ?_
  refine mvV (c_X4_productIsTold hP hD g0 hpt hod hcl) ⟨hx, hb, hml, hown, hts⟩ hK gX4_contact_X4_productIsTold rfl hd_X4_productIsTold ⟨by omega, by omega⟩ (va_recv hK hP (ci := 4) (q0 := 0) rfl g0) rfl hl.1 rfl (Nat.le_of_ble_eq_true rfl) dX4_contact_17 ⟨Nat.zero_le _, Nat.zero_le _⟩ hS (fun ws1 H locs hq3 hP hD hS => ?_)
  obtain ⟨hpt, hod, hcl, fr2⟩ := hq3
  replace g0 := (fr2 0 (by decide)).trans g0
  replace f1 := (fr2 1 (by decide)).trans f1
  replace hpr := hpr.fr fr2
  obtain ⟨p5, -⟩ := id hpt
  obtain ⟨o10, -⟩ := id hod
  obtain ⟨cl16, -⟩ := id hcl
  refine lv_aload_n hx hb dX4_contact_20 rfl (lv_at hl 0 rfl) ?_
  refine va_get (ci := 4) (C := RX4) (T := TX4) (N := 4) hx hb hts hinX4 hown hK hP 0 g0 rfl 0 (by decide) k12 (fun _ h9 => h9) rfl dX4_contact_21 ?_
  refine lv_iload_n hx hb dX4_contact_24 rfl (lv_at hl 1 rfl) ?_
  refine lv_iload_n hx hb dX4_contact_25 rfl (lv_at hl 2 rfl) ?_
  refine lv_iload_n hx hb dX4_contact_26 rfl (lv_at hl 3 rfl) ?_
  refine mcV (c_X3_tellContact hP hD hpr hI hp9 ho9) ⟨hx, hb, hml, hown, hts⟩ hK gX4_contact_X3_tellContact rfl hd_X3_tellContact ⟨by omega, by omega⟩ (va_recv hK hP (ci := 3) (q0 := 1) rfl f1) rfl hl.1 rfl (Nat.le_of_ble_eq_true rfl) dX4_contact_27 ⟨Nat.zero_le _, Nat.zero_le _⟩ hS (fun r ws4 H locs hq6 hP hD hS => ?_)
  obtain ⟨rfl, hpr, fr5⟩ := hq6
  replace g0 := (fr5 0 (by decide)).trans g0
  replace p5 := (fr5 5 (by decide)).trans p5
  replace o10 := (fr5 10 (by decide)).trans o10
  replace cl16 := (fr5 16 (by decide)).trans cl16
  replace hpt := hpt.fr fr5
  replace hod := hod.fr fr5
  replace hcl := hcl.fr fr5
  obtain ⟨a1, a2, a3, f1, -⟩ := id hpr
  exact hret 30 ls _ _ locs _ dX4_contact_30 hP hD hS rfl (⟨rfl, ⟨hp, ht, a4, a5, a6, a7, ho, b1, b2, b3, b4, b5, hc, j1, j2, g0, hpr, ⟨_, _, _, _, false, hpt, fun z => Bool.noConfusion z⟩, ⟨_, _, _, _, _, _, false, hod, fun z => Bool.noConfusion z⟩, hcl⟩, ((fr.wd fr2 : fr _ _ 0 18).tr fr5)⟩)
set_option maxHeartbeats 4000000 in
set_option maxRecDepth 100000 in
theorem c_X4_hinder_0 {l : Launch} {D : va_G} {ky : kT} {A : Nat → Prop} {Hs : Heap} {ws : va_W} (hP : va_P D CL ws Hs) (hD : va_D A ws) {h n : Nat} {T C Hd : Nat → Nat} {b : Nat} {q : Bool} {J : Nat → Nat} {bg : Bool} {pi bu : Nat} {tm tl : Int32} {K : Nat → Nat} (hap : AP ky ws h n T C Hd b q J bg pi bu tm tl K) (hI : PI0 n C Hd b) {pt d ot : Nat} {is : Bool} (hp9 : pt < n) (hd9 : d < 6) (ho9 : ot < n) (hne : ¬ pt = ot) : MU l yX4_hinder wsX4_hinder 2 48 0 0 D ky A Hs [.ref h, .int (nI pt), .int (nI d), .int (nI ot), .int (bI is)] (fun r w => r = nI (cnt (htc Hd pt d ot is (8 * d + pt))) ∧ AP ky w h n T C (htc Hd pt d ot is) b q J false 0 0 ((nI 0)) ((-1)) ((zro K 8)) ∧ fr ws w 0 18) := by
  refine MU.of (cc := cX4_hinder) (maxL := 5) (ty := .int) (by decide) rfl (Nat.le_of_ble_eq_true rfl) ?_
  intro pg en Rm sg mi av below meth co Qo hRf hRl hRc hRs hx hb hml hown hts hK hret ls hl
  have hl : lv_has ls 5 [(0, .ref h), (1, .int (nI pt)), (2, .int (nI d)), (3, .int (nI ot)), (4, .int (bI is))] := hl
  have hS : va_S A Hs Hs [] := va_S.rf
  generalize ([] : List Loc) = locs at hS ⊢
  obtain ⟨hp, ht, a4, a5, a6, a7, ho, b1, b2, b3, b4, b5, hc, j1, j2, g0, hpr, ⟨Cn, fs, fw, fd, kp, hpt, hkp⟩, ⟨Sn, fx, fo, fg, fb, fe, kn, hod, hkn⟩, hcl⟩ := hap
  obtain ⟨a1, a2, a3, f1, -⟩ := id hpr
  obtain ⟨p5, -⟩ := id hpt
  obtain ⟨o10, -⟩ := id hod
  obtain ⟨cl16, -⟩ := id hcl
  have hn8 := hI.1
  have hp2 := p2_le hn8
  have k12 := hts (.fieldLink RX4 12 "AssemblyPlanner" "product" "LAssemblyPlanner$Product;") (by decide +kernel)
  have hinX4 : ∀ w ∈ wsX40, w ∈ wsX4_hinder := by decide +kernel
  refine lv_aload_n hx hb dX4_hinder_0 rfl (lv_at hl 0 rfl) ?_
  refine lv_iload_n hx hb dX4_hinder_1 rfl (lv_at hl 1 rfl) ?_
  refine pvV (c_X4_needPart hP g0 hpr hI (by omega)) ⟨hx, hb, hml, hown, hts⟩ hK gX4_hinder_X4_needPart rfl hd_X4_needPart ⟨by omega, by omega⟩ (va_recv hK hP (ci := 4) (q0 := 0) rfl g0) rfl hl.1 rfl (Nat.le_of_ble_eq_true rfl) dX4_hinder_2 ⟨Nat.zero_le _, Nat.zero_le _⟩ hS (fun locs hS => ?_)
  refine lv_aload_n hx hb dX4_hinder_5 rfl (lv_at hl 0 rfl) ?_
  refine lv_iload_n hx hb dX4_hinder_6 rfl (lv_at hl 2 rfl) ?_
  refine pvV (c_X4_needDirection hP g0 hpr hI (by omega)) ⟨hx, hb, hml, hown, hts⟩ hK gX4_hinder_X4_needDirection rfl hd_X4_needDirection ⟨by omega, by omega⟩ (va_recv hK hP (ci := 4) (q0 := 0) rfl g0) rfl hl.1 rfl (Nat.le_of_ble_eq_true rfl) dX4_hinder_7 ⟨Nat.zero_le _, Nat.zero_le _⟩ hS (fun locs hS => ?_)
  refine lv_aload_n hx hb dX4_hinder_10 rfl (lv_at hl 0 rfl) ?_
  refine lv_iload_n hx hb dX4_hinder_11 rfl (lv_at hl 3 rfl) ?_
  refine pvV (c_X4_needPart hP g0 hpr hI (by omega)) ⟨hx, hb, hml, hown, hts⟩ hK gX4_hinder_X4_needPart rfl hd_X4_needPart ⟨by omega, by omega⟩ (va_recv hK hP (ci := 4) (q0 := 0) rfl g0) rfl hl.1 rfl (Nat.le_of_ble_eq_true rfl) dX4_hinder_12 ⟨Nat.zero_le _, Nat.zero_le _⟩ hS (fun locs hS => ?_)
  refine lv_aload_n hx hb dX4_hinder_15 rfl (lv_at hl 0 rfl) ?_
  refine lv_iload_n hx hb dX4_hinder_16 rfl (lv_at hl 1 rfl) ?_
  refine lv_iload_n hx hb dX4_hinder_17 rfl (lv_at hl 3 rfl) ?_
  refine pvV (c_X4_needDifferent hP g0 hpr hI hp9 ho9 hne) ⟨hx, hb, hml, hown, hts⟩ hK gX4_hinder_X4_needDifferent rfl hd_X4_needDifferent ⟨by omega, by omega⟩ (va_recv hK hP (ci := 4) (q0 := 0) rfl g0) rfl hl.1 rfl (Nat.le_of_ble_eq_true rfl) dX4_hinder_18 ⟨Nat.zero_le _, Nat.zero_le _⟩ hS (fun locs hS => ?_)
  refine lv_aload_n hx hb dX4_hinder_21 rfl (lv_at hl 0 rfl) ?_
  refine mvV (c_X4_productIsTold hP hD g0 hpt hod hcl) ⟨hx, hb, hml, hown, hts⟩ hK gX4_hinder_X4_productIsTold rfl hd_X4_productIsTold ⟨by omega, by omega⟩ (va_recv hK hP (ci := 4) (q0 := 0) rfl g0) rfl hl.1 rfl (Nat.le_of_ble_eq_true rfl) dX4_hinder_22 ⟨Nat.zero_le _, Nat.zero_le _⟩ hS (fun ws1 H locs hq3 hP hD hS => ?_)
  obtain ⟨hpt, hod, hcl, fr2⟩ := hq3
  replace g0 := (fr2 0 (by decide)).trans g0
  replace f1 := (fr2 1 (by decide)).trans f1
  replace hpr := hpr.fr fr2
  obtain ⟨p5, -⟩ := id hpt
  obtain ⟨o10, -⟩ := id hod
  obtain ⟨cl16, -⟩ := id hcl
  refine lv_aload_n hx hb dX4_hinder_25 rfl (lv_at hl 0 rfl) ?_
  refine va_get (ci := 4) (C := RX4) (T := TX4) (N := 4) hx hb hts hinX4 hown hK hP 0 g0 rfl 0 (by decide) k12 (fun _ h9 => h9) rfl dX4_hinder_26 ?_
  refine lv_iload_n hx hb dX4_hinder_29 rfl (lv_at hl 1 rfl) ?_
  refine lv_iload_n hx hb dX4_hinder_30 rfl (lv_at hl 2 rfl) ?_
  refine lv_iload_n hx hb dX4_hinder_31 rfl (lv_at hl 3 rfl) ?_
  refine lv_iload hx hb dX4_hinder_32 (lv_at hl 4 rfl) ?_
  refine mcV (c_X3_tellHindered hP hD hpr hI hp9 hd9 ho9) ⟨hx, hb, hml, hown, hts⟩ hK gX4_hinder_X3_tellHindered rfl hd_X3_tellHindered ⟨by omega, by omega⟩ (va_recv hK hP (ci := 3) (q0 := 1) rfl f1) rfl hl.1 rfl (Nat.le_of_ble_eq_true rfl) dX4_hinder_34 ⟨Nat.zero_le _, Nat.zero_le _⟩ hS (fun r ws4 H locs hq6 hP hD hS => ?_)
  obtain ⟨rfl, hpr, fr5⟩ := hq6
  replace g0 := (fr5 0 (by decide)).trans g0
  replace p5 := (fr5 5 (by decide)).trans p5
  replace o10 := (fr5 10 (by decide)).trans o10
  replace cl16 := (fr5 16 (by decide)).trans cl16
  replace hpt := hpt.fr fr5
  replace hod := hod.fr fr5
  replace hcl := hcl.fr fr5
  obtain ⟨a1, a2, a3, f1, -⟩ := id hpr
  exact hret 37 ls _ _ locs _ dX4_hinder_37 hP hD hS rfl (⟨rfl, ⟨hp, ht, a4, a5, a6, a7, ho, b1, b2, b3, b4, b5, hc, j1, j2, g0, hpr, ⟨_, _, _, _, false, hpt, fun z => Bool.noConfusion z⟩, ⟨_, _, _, _, _, _, false, hod, fun z => Bool.noConfusion z⟩, hcl⟩, ((fr.wd fr2 : fr _ _ 0 18).tr fr5)⟩)
set_option maxHeartbeats 4000000 in
set_option maxRecDepth 100000 in
theorem c_X4_setBase_0 {l : Launch} {D : va_G} {ky : kT} {A : Nat → Prop} {Hs : Heap} {ws : va_W} (hP : va_P D CL ws Hs) (hD : va_D A ws) {h n : Nat} {T C Hd : Nat → Nat} {b : Nat} {q : Bool} {J : Nat → Nat} {bg : Bool} {pi bu : Nat} {tm tl : Int32} {K : Nat → Nat} (hap : AP ky ws h n T C Hd b q J bg pi bu tm tl K) (hI : PI0 n C Hd b) {pt : Nat} (hp9 : pt < n) : MU l yX4_setBase wsX4_setBase 2 41 0 0 D ky A Hs [.ref h, .int (nI pt)] (fun r w => r = nI b ∧ AP ky w h n T C Hd pt q J false 0 0 ((nI 0)) ((-1)) ((zro K 8)) ∧ fr ws w 0 18) := by
  refine MU.of (cc := cX4_setBase) (maxL := 2) (ty := .int) (by decide) rfl (Nat.le_of_ble_eq_true rfl) ?_
  intro pg en Rm sg mi av below meth co Qo hRf hRl hRc hRs hx hb hml hown hts hK hret ls hl
  have hl : lv_has ls 2 [(0, .ref h), (1, .int (nI pt))] := hl
  have hS : va_S A Hs Hs [] := va_S.rf
  generalize ([] : List Loc) = locs at hS ⊢
  obtain ⟨hp, ht, a4, a5, a6, a7, ho, b1, b2, b3, b4, b5, hc, j1, j2, g0, hpr, ⟨Cn, fs, fw, fd, kp, hpt, hkp⟩, ⟨Sn, fx, fo, fg, fb, fe, kn, hod, hkn⟩, hcl⟩ := hap
  obtain ⟨a1, a2, a3, f1, -⟩ := id hpr
  obtain ⟨p5, -⟩ := id hpt
  obtain ⟨o10, -⟩ := id hod
  obtain ⟨cl16, -⟩ := id hcl
  have hn8 := hI.1
  have hp2 := p2_le hn8
  have k12 := hts (.fieldLink RX4 12 "AssemblyPlanner" "product" "LAssemblyPlanner$Product;") (by decide +kernel)
  have hinX4 : ∀ w ∈ wsX40, w ∈ wsX4_setBase := by decide +kernel
  refine lv_aload_n hx hb dX4_setBase_0 rfl (lv_at hl 0 rfl) ?_
  refine lv_iload_n hx hb dX4_setBase_1 rfl (lv_at hl 1 rfl) ?_
  refine pvV (c_X4_needPart hP g0 hpr hI (by omega)) ⟨hx, hb, hml, hown, hts⟩ hK gX4_setBase_X4_needPart rfl hd_X4_needPart ⟨by omega, by omega⟩ (va_recv hK hP (ci := 4) (q0 := 0) rfl g0) rfl hl.1 rfl (Nat.le_of_ble_eq_true rfl) dX4_setBase_2 ⟨Nat.zero_le _, Nat.zero_le _⟩ hS (fun locs hS => ?_)
  refine lv_aload_n hx hb dX4_setBase_5 rfl (lv_at hl 0 rfl) ?_
  refine mvV (c_X4_productIsTold hP hD g0 hpt hod hcl) ⟨hx, hb, hml, hown, hts⟩ hK gX4_setBase_X4_productIsTold rfl hd_X4_productIsTold ⟨by omega, by omega⟩ (va_recv hK hP (ci := 4) (q0 := 0) rfl g0) rfl hl.1 rfl (Nat.le_of_ble_eq_true rfl) dX4_setBase_6 ⟨Nat.zero_le _, Nat.zero_le _⟩ hS (fun ws1 H locs hq3 hP hD hS => ?_)
  obtain ⟨hpt, hod, hcl, fr2⟩ := hq3
  replace g0 := (fr2 0 (by decide)).trans g0
  replace f1 := (fr2 1 (by decide)).trans f1
  replace hpr := hpr.fr fr2
  obtain ⟨p5, -⟩ := id hpt
  obtain ⟨o10, -⟩ := id hod
  obtain ⟨cl16, -⟩ := id hcl
  refine lv_aload_n hx hb dX4_setBase_9 rfl (lv_at hl 0 rfl) ?_
  refine va_get (ci := 4) (C := RX4) (T := TX4) (N := 4) hx hb hts hinX4 hown hK hP 0 g0 rfl 0 (by decide) k12 (fun _ h9 => h9) rfl dX4_setBase_10 ?_
  refine lv_iload_n hx hb dX4_setBase_13 rfl (lv_at hl 1 rfl) ?_
  refine mcV (c_X3_changeBase hP hD hpr) ⟨hx, hb, hml, hown, hts⟩ hK gX4_setBase_X3_changeBase rfl hd_X3_changeBase ⟨by omega, by omega⟩ (va_recv hK hP (ci := 3) (q0 := 1) rfl f1) rfl hl.1 rfl (Nat.le_of_ble_eq_true rfl) dX4_setBase_14 ⟨Nat.zero_le _, Nat.zero_le _⟩ hS (fun r ws4 H locs hq6 hP hD hS => ?_)
  obtain ⟨rfl, hpr, fr5⟩ := hq6
  replace g0 := (fr5 0 (by decide)).trans g0
  replace p5 := (fr5 5 (by decide)).trans p5
  replace o10 := (fr5 10 (by decide)).trans o10
  replace cl16 := (fr5 16 (by decide)).trans cl16
  replace hpt := hpt.fr fr5
  replace hod := hod.fr fr5
  replace hcl := hcl.fr fr5
  obtain ⟨a1, a2, a3, f1, -⟩ := id hpr
  exact hret 17 ls _ _ locs _ dX4_setBase_17 hP hD hS rfl (⟨rfl, ⟨hp, ht, a4, a5, a6, a7, ho, b1, b2, b3, b4, b5, hc, j1, j2, g0, hpr, ⟨_, _, _, _, false, hpt, fun z => Bool.noConfusion z⟩, ⟨_, _, _, _, _, _, false, hod, fun z => Bool.noConfusion z⟩, hcl⟩, ((fr.wd fr2 : fr _ _ 0 18).tr fr5)⟩)
set_option maxHeartbeats 4000000 in
set_option maxRecDepth 100000 in
theorem c_X4_askSteady_0 {l : Launch} {D : va_G} {ky : kT} {A : Nat → Prop} {Hs : Heap} {ws : va_W} (hP : va_P D CL ws Hs) (hD : va_D A ws) {h n : Nat} {T C Hd : Nat → Nat} {b : Nat} {q : Bool} {J : Nat → Nat} {bg : Bool} {pi bu : Nat} {tm tl : Int32} {K : Nat → Nat} (hap : AP ky ws h n T C Hd b q J bg pi bu tm tl K) (hI : PI0 n C Hd b) {u : Bool} : MU l yX4_askSteady wsX4_askSteady 2 41 0 0 D ky A Hs [.ref h, .int (bI u)] (fun r w => r = bI q ∧ AP ky w h n T C Hd b u J false 0 0 ((nI 0)) ((-1)) ((zro K 8)) ∧ fr ws w 0 18) := by
  refine MU.of (cc := cX4_askSteady) (maxL := 2) (ty := .boolean) (by decide) rfl (Nat.le_of_ble_eq_true rfl) ?_
  intro pg en Rm sg mi av below meth co Qo hRf hRl hRc hRs hx hb hml hown hts hK hret ls hl
  have hl : lv_has ls 2 [(0, .ref h), (1, .int (bI u))] := hl
  have hS : va_S A Hs Hs [] := va_S.rf
  generalize ([] : List Loc) = locs at hS ⊢
  obtain ⟨hp, ht, a4, a5, a6, a7, ho, b1, b2, b3, b4, b5, hc, j1, j2, g0, hpr, ⟨Cn, fs, fw, fd, kp, hpt, hkp⟩, ⟨Sn, fx, fo, fg, fb, fe, kn, hod, hkn⟩, hcl⟩ := hap
  obtain ⟨a1, a2, a3, f1, -⟩ := id hpr
  obtain ⟨p5, -⟩ := id hpt
  obtain ⟨o10, -⟩ := id hod
  obtain ⟨cl16, -⟩ := id hcl
  have hn8 := hI.1
  have hp2 := p2_le hn8
  have k12 := hts (.fieldLink RX4 12 "AssemblyPlanner" "product" "LAssemblyPlanner$Product;") (by decide +kernel)
  have hinX4 : ∀ w ∈ wsX40, w ∈ wsX4_askSteady := by decide +kernel
  refine lv_aload_n hx hb dX4_askSteady_0 rfl (lv_at hl 0 rfl) ?_
  refine mvV (c_X4_productIsTold hP hD g0 hpt hod hcl) ⟨hx, hb, hml, hown, hts⟩ hK gX4_askSteady_X4_productIsTold rfl hd_X4_productIsTold ⟨by omega, by omega⟩ (va_recv hK hP (ci := 4) (q0 := 0) rfl g0) rfl hl.1 rfl (Nat.le_of_ble_eq_true rfl) dX4_askSteady_1 ⟨Nat.zero_le _, Nat.zero_le _⟩ hS (fun ws1 H locs hq3 hP hD hS => ?_)
  obtain ⟨hpt, hod, hcl, fr2⟩ := hq3
  replace g0 := (fr2 0 (by decide)).trans g0
  replace f1 := (fr2 1 (by decide)).trans f1
  replace hpr := hpr.fr fr2
  obtain ⟨p5, -⟩ := id hpt
  obtain ⟨o10, -⟩ := id hod
  obtain ⟨cl16, -⟩ := id hcl
  refine lv_aload_n hx hb dX4_askSteady_4 rfl (lv_at hl 0 rfl) ?_
  refine va_get (ci := 4) (C := RX4) (T := TX4) (N := 4) hx hb hts hinX4 hown hK hP 0 g0 rfl 0 (by decide) k12 (fun _ h9 => h9) rfl dX4_askSteady_5 ?_
  refine lv_iload_n hx hb dX4_askSteady_8 rfl (lv_at hl 1 rfl) ?_
  refine mcV (c_X3_changeSteadyAsked hP hD hpr) ⟨hx, hb, hml, hown, hts⟩ hK gX4_askSteady_X3_changeSteadyAsked rfl hd_X3_changeSteadyAsked ⟨by omega, by omega⟩ (va_recv hK hP (ci := 3) (q0 := 1) rfl f1) rfl hl.1 rfl (Nat.le_of_ble_eq_true rfl) dX4_askSteady_9 ⟨Nat.zero_le _, Nat.zero_le _⟩ hS (fun r ws4 H locs hq6 hP hD hS => ?_)
  obtain ⟨rfl, hpr, fr5⟩ := hq6
  replace g0 := (fr5 0 (by decide)).trans g0
  replace p5 := (fr5 5 (by decide)).trans p5
  replace o10 := (fr5 10 (by decide)).trans o10
  replace cl16 := (fr5 16 (by decide)).trans cl16
  replace hpt := hpt.fr fr5
  replace hod := hod.fr fr5
  replace hcl := hcl.fr fr5
  obtain ⟨a1, a2, a3, f1, -⟩ := id hpr
  exact hret 12 ls _ _ locs _ dX4_askSteady_12 hP hD hS (bI_nar _) (⟨rfl, ⟨hp, ht, a4, a5, a6, a7, ho, b1, b2, b3, b4, b5, hc, j1, j2, g0, hpr, ⟨_, _, _, _, false, hpt, fun z => Bool.noConfusion z⟩, ⟨_, _, _, _, _, _, false, hod, fun z => Bool.noConfusion z⟩, hcl⟩, ((fr.wd fr2 : fr _ _ 0 18).tr fr5)⟩)
set_option maxHeartbeats 4000000 in
set_option maxRecDepth 100000 in
theorem c_X4_isConnected_0 {l : Launch} {D : va_G} {ky : kT} {A : Nat → Prop} {Hs : Heap} {ws : va_W} (hP : va_P D CL ws Hs) (hD : va_D A ws) {h n : Nat} {T C Hd : Nat → Nat} {b : Nat} {q : Bool} {J : Nat → Nat} {bg : Bool} {pi bu : Nat} {tm tl : Int32} {K : Nat → Nat} (hap : AP ky ws h n T C Hd b q J bg pi bu tm tl K) (hI : PI0 n C Hd b) {S : Nat} (hS1 : 0 < S) (hS2 : S < 2 ^ n) : MU l yX4_isConnected wsX4_isConnected 2 48 0 0 D ky A Hs [.ref h, .int (nI S)] (fun r w => r = bI (conn C S) ∧ AP ky w h n T C Hd b q J bg pi bu tm tl K ∧ fr ws w 0 18) := by
  refine MU.of (cc := cX4_isConnected) (maxL := 2) (ty := .boolean) (by decide) rfl (Nat.le_of_ble_eq_true rfl) ?_
  intro pg en Rm sg mi av below meth co Qo hRf hRl hRc hRs hx hb hml hown hts hK hret ls hl
  have hl : lv_has ls 2 [(0, .ref h), (1, .int (nI S))] := hl
  have hS : va_S A Hs Hs [] := va_S.rf
  generalize ([] : List Loc) = locs at hS ⊢
  obtain ⟨hp, ht, a4, a5, a6, a7, ho, b1, b2, b3, b4, b5, hc, j1, j2, g0, hpr, ⟨Cn, fs, fw, fd, kp, hpt, hkp⟩, ⟨Sn, fx, fo, fg, fb, fe, kn, hod, hkn⟩, hcl⟩ := hap
  obtain ⟨a1, a2, a3, f1, -⟩ := id hpr
  obtain ⟨p5, -⟩ := id hpt
  obtain ⟨o10, -⟩ := id hod
  obtain ⟨cl16, -⟩ := id hcl
  have hn8 := hI.1
  have hp2 := p2_le hn8
  have k12 := hts (.fieldLink RX4 12 "AssemblyPlanner" "product" "LAssemblyPlanner$Product;") (by decide +kernel)
  have hinX4 : ∀ w ∈ wsX40, w ∈ wsX4_isConnected := by decide +kernel
  refine lv_aload_n hx hb dX4_isConnected_0 rfl (lv_at hl 0 rfl) ?_
  refine lv_iload_n hx hb dX4_isConnected_1 rfl (lv_at hl 1 rfl) ?_
  refine pvV (c_X4_needSet hP g0 hpr hI hS1 hS2) ⟨hx, hb, hml, hown, hts⟩ hK gX4_isConnected_X4_needSet rfl hd_X4_needSet ⟨by omega, by omega⟩ (va_recv hK hP (ci := 4) (q0 := 0) rfl g0) rfl hl.1 rfl (Nat.le_of_ble_eq_true rfl) dX4_isConnected_2 ⟨Nat.zero_le _, Nat.zero_le _⟩ hS (fun locs hS => ?_)
  refine lv_aload_n hx hb dX4_isConnected_5 rfl (lv_at hl 0 rfl) ?_
  refine va_get (ci := 4) (C := RX4) (T := TX4) (N := 4) hx hb hts hinX4 hown hK hP 0 g0 rfl 0 (by decide) k12 (fun _ h9 => h9) rfl dX4_isConnected_6 ?_
  refine lv_iload_n hx hb dX4_isConnected_9 rfl (lv_at hl 1 rfl) ?_
  refine pcV (c_X3_connected hP hpr hI (by omega)) ⟨hx, hb, hml, hown, hts⟩ hK gX4_isConnected_X3_connected rfl hd_X3_connected ⟨by omega, by omega⟩ (va_recv hK hP (ci := 3) (q0 := 1) rfl f1) rfl hl.1 rfl (Nat.le_of_ble_eq_true rfl) dX4_isConnected_10 ⟨Nat.zero_le _, Nat.zero_le _⟩ hS (fun locs hS => ?_)
  exact hret 13 ls _ _ locs _ dX4_isConnected_13 hP hD hS (bI_nar _) (⟨rfl, ⟨hp, ht, a4, a5, a6, a7, ho, b1, b2, b3, b4, b5, hc, j1, j2, g0, hpr, ⟨Cn, fs, fw, fd, kp, hpt, hkp⟩, ⟨Sn, fx, fo, fg, fb, fe, kn, hod, hkn⟩, hcl⟩, fr.rf⟩)
set_option maxHeartbeats 4000000 in
set_option maxRecDepth 100000 in
theorem c_X4_isSteady_0 {l : Launch} {D : va_G} {ky : kT} {A : Nat → Prop} {Hs : Heap} {ws : va_W} (hP : va_P D CL ws Hs) (hD : va_D A ws) {h n : Nat} {T C Hd : Nat → Nat} {b : Nat} {q : Bool} {J : Nat → Nat} {bg : Bool} {pi bu : Nat} {tm tl : Int32} {K : Nat → Nat} (hap : AP ky ws h n T C Hd b q J bg pi bu tm tl K) (hI : PI0 n C Hd b) {S : Nat} (hS1 : 0 < S) (hS2 : S < 2 ^ n) : MU l yX4_isSteady wsX4_isSteady 2 47 0 0 D ky A Hs [.ref h, .int (nI S)] (fun r w => r = bI (stdy Hd b S) ∧ AP ky w h n T C Hd b q J bg pi bu tm tl K ∧ fr ws w 0 18) := by
  refine MU.of (cc := cX4_isSteady) (maxL := 2) (ty := .boolean) (by decide) rfl (Nat.le_of_ble_eq_true rfl) ?_
  intro pg en Rm sg mi av below meth co Qo hRf hRl hRc hRs hx hb hml hown hts hK hret ls hl
  have hl : lv_has ls 2 [(0, .ref h), (1, .int (nI S))] := hl
  have hS : va_S A Hs Hs [] := va_S.rf
  generalize ([] : List Loc) = locs at hS ⊢
  obtain ⟨hp, ht, a4, a5, a6, a7, ho, b1, b2, b3, b4, b5, hc, j1, j2, g0, hpr, ⟨Cn, fs, fw, fd, kp, hpt, hkp⟩, ⟨Sn, fx, fo, fg, fb, fe, kn, hod, hkn⟩, hcl⟩ := hap
  obtain ⟨a1, a2, a3, f1, -⟩ := id hpr
  obtain ⟨p5, -⟩ := id hpt
  obtain ⟨o10, -⟩ := id hod
  obtain ⟨cl16, -⟩ := id hcl
  have hn8 := hI.1
  have hp2 := p2_le hn8
  have k12 := hts (.fieldLink RX4 12 "AssemblyPlanner" "product" "LAssemblyPlanner$Product;") (by decide +kernel)
  have hinX4 : ∀ w ∈ wsX40, w ∈ wsX4_isSteady := by decide +kernel
  refine lv_aload_n hx hb dX4_isSteady_0 rfl (lv_at hl 0 rfl) ?_
  refine lv_iload_n hx hb dX4_isSteady_1 rfl (lv_at hl 1 rfl) ?_
  refine pvV (c_X4_needSet hP g0 hpr hI hS1 hS2) ⟨hx, hb, hml, hown, hts⟩ hK gX4_isSteady_X4_needSet rfl hd_X4_needSet ⟨by omega, by omega⟩ (va_recv hK hP (ci := 4) (q0 := 0) rfl g0) rfl hl.1 rfl (Nat.le_of_ble_eq_true rfl) dX4_isSteady_2 ⟨Nat.zero_le _, Nat.zero_le _⟩ hS (fun locs hS => ?_)
  refine lv_aload_n hx hb dX4_isSteady_5 rfl (lv_at hl 0 rfl) ?_
  refine va_get (ci := 4) (C := RX4) (T := TX4) (N := 4) hx hb hts hinX4 hown hK hP 0 g0 rfl 0 (by decide) k12 (fun _ h9 => h9) rfl dX4_isSteady_6 ?_
  refine lv_iload_n hx hb dX4_isSteady_9 rfl (lv_at hl 1 rfl) ?_
  refine pcV (c_X3_steady hP hpr hI (by omega)) ⟨hx, hb, hml, hown, hts⟩ hK gX4_isSteady_X3_steady rfl hd_X3_steady ⟨by omega, by omega⟩ (va_recv hK hP (ci := 3) (q0 := 1) rfl f1) rfl hl.1 rfl (Nat.le_of_ble_eq_true rfl) dX4_isSteady_10 ⟨Nat.zero_le _, Nat.zero_le _⟩ hS (fun locs hS => ?_)
  exact hret 13 ls _ _ locs _ dX4_isSteady_13 hP hD hS (bI_nar _) (⟨rfl, ⟨hp, ht, a4, a5, a6, a7, ho, b1, b2, b3, b4, b5, hc, j1, j2, g0, hpr, ⟨Cn, fs, fw, fd, kp, hpt, hkp⟩, ⟨Sn, fx, fo, fg, fb, fe, kn, hod, hkn⟩, hcl⟩, fr.rf⟩)
set_option maxHeartbeats 4000000 in
set_option maxRecDepth 100000 in
theorem c_X4_free_0 {l : Launch} {D : va_G} {ky : kT} {A : Nat → Prop} {Hs : Heap} {ws : va_W} (hP : va_P D CL ws Hs) (hD : va_D A ws) {h n : Nat} {T C Hd : Nat → Nat} {b : Nat} {q : Bool} {J : Nat → Nat} {bg : Bool} {pi bu : Nat} {tm tl : Int32} {K : Nat → Nat} (hap : AP ky ws h n T C Hd b q J bg pi bu tm tl K) (hI : PI0 n C Hd b) {S : Nat} (hS1 : 0 < S) (hS2 : S < 2 ^ n) {pt : Nat} (hp9 : pt < n) (hb9 : S.testBit pt = true) : MU l yX4_free wsX4_free 3 63 0 0 D ky A Hs [.ref h, .int (nI S), .int (nI pt)] (fun r w => r = nI (frd Hd S pt) ∧ AP ky w h n T C Hd b q J bg pi bu tm tl K ∧ fr ws w 0 18) := by
  refine MU.of (cc := cX4_free) (maxL := 3) (ty := .int) (by decide) rfl (Nat.le_of_ble_eq_true rfl) ?_
  intro pg en Rm sg mi av below meth co Qo hRf hRl hRc hRs hx hb hml hown hts hK hret ls hl
  have hl : lv_has ls 3 [(0, .ref h), (1, .int (nI S)), (2, .int (nI pt))] := hl
  have hS : va_S A Hs Hs [] := va_S.rf
  generalize ([] : List Loc) = locs at hS ⊢
  obtain ⟨hp, ht, a4, a5, a6, a7, ho, b1, b2, b3, b4, b5, hc, j1, j2, g0, hpr, ⟨Cn, fs, fw, fd, kp, hpt, hkp⟩, ⟨Sn, fx, fo, fg, fb, fe, kn, hod, hkn⟩, hcl⟩ := hap
  obtain ⟨a1, a2, a3, f1, -⟩ := id hpr
  obtain ⟨p5, -⟩ := id hpt
  obtain ⟨o10, -⟩ := id hod
  obtain ⟨cl16, -⟩ := id hcl
  have hn8 := hI.1
  have hp2 := p2_le hn8
  have k12 := hts (.fieldLink RX4 12 "AssemblyPlanner" "product" "LAssemblyPlanner$Product;") (by decide +kernel)
  have hinX4 : ∀ w ∈ wsX40, w ∈ wsX4_free := by decide +kernel
  refine lv_aload_n hx hb dX4_free_0 rfl (lv_at hl 0 rfl) ?_
  refine lv_iload_n hx hb dX4_free_1 rfl (lv_at hl 2 rfl) ?_
  refine pvV (c_X4_needPart hP g0 hpr hI (by omega)) ⟨hx, hb, hml, hown, hts⟩ hK gX4_free_X4_needPart rfl hd_X4_needPart ⟨by omega, by omega⟩ (va_recv hK hP (ci := 4) (q0 := 0) rfl g0) rfl hl.1 rfl (Nat.le_of_ble_eq_true rfl) dX4_free_2 ⟨Nat.zero_le _, Nat.zero_le _⟩ hS (fun locs hS => ?_)
  refine lv_aload_n hx hb dX4_free_5 rfl (lv_at hl 0 rfl) ?_
  refine lv_iload_n hx hb dX4_free_6 rfl (lv_at hl 1 rfl) ?_
  refine lv_iload_n hx hb dX4_free_7 rfl (lv_at hl 2 rfl) ?_
  refine pvV (c_X4_needSetWith hP g0 hpr hI hS1 hS2 hp9 hb9) ⟨hx, hb, hml, hown, hts⟩ hK gX4_free_X4_needSetWith rfl hd_X4_needSetWith ⟨by omega, by omega⟩ (va_recv hK hP (ci := 4) (q0 := 0) rfl g0) rfl hl.1 rfl (Nat.le_of_ble_eq_true rfl) dX4_free_8 ⟨Nat.zero_le _, Nat.zero_le _⟩ hS (fun locs hS => ?_)
  refine lv_aload_n hx hb dX4_free_11 rfl (lv_at hl 0 rfl) ?_
  refine va_get (ci := 4) (C := RX4) (T := TX4) (N := 4) hx hb hts hinX4 hown hK hP 0 g0 rfl 0 (by decide) k12 (fun _ h9 => h9) rfl dX4_free_12 ?_
  refine lv_iload_n hx hb dX4_free_15 rfl (lv_at hl 1 rfl) ?_
  refine lv_iload_n hx hb dX4_free_16 rfl (lv_at hl 2 rfl) ?_
  refine pcV (c_X3_freeDirections hP hpr hI (by omega)) ⟨hx, hb, hml, hown, hts⟩ hK gX4_free_X3_freeDirections rfl hd_X3_freeDirections ⟨by omega, by omega⟩ (va_recv hK hP (ci := 3) (q0 := 1) rfl f1) rfl hl.1 rfl (Nat.le_of_ble_eq_true rfl) dX4_free_17 ⟨Nat.zero_le _, Nat.zero_le _⟩ hS (fun locs hS => ?_)
  exact hret 20 ls _ _ locs _ dX4_free_20 hP hD hS rfl (⟨rfl, ⟨hp, ht, a4, a5, a6, a7, ho, b1, b2, b3, b4, b5, hc, j1, j2, g0, hpr, ⟨Cn, fs, fw, fd, kp, hpt, hkp⟩, ⟨Sn, fx, fo, fg, fb, fe, kn, hod, hkn⟩, hcl⟩, fr.rf⟩)
set_option maxHeartbeats 4000000 in
set_option maxRecDepth 100000 in
theorem c_X4_canTake_0 {l : Launch} {D : va_G} {ky : kT} {A : Nat → Prop} {Hs : Heap} {ws : va_W} (hP : va_P D CL ws Hs) (hD : va_D A ws) {h n : Nat} {T C Hd : Nat → Nat} {b : Nat} {q : Bool} {J : Nat → Nat} {bg : Bool} {pi bu : Nat} {tm tl : Int32} {K : Nat → Nat} (hap : AP ky ws h n T C Hd b q J bg pi bu tm tl K) (hI : PI0 n C Hd b) {S : Nat} (hS1 : 0 < S) (hS2 : S < 2 ^ n) {pt : Nat} (hp9 : pt < n) (hb9 : S.testBit pt = true) : MU l yX4_canTake wsX4_canTake 4 91 0 0 D ky A Hs [.ref h, .int (nI S), .int (nI pt)] (fun r w => r = bI (tke C Hd b q S pt) ∧ AP ky w h n T C Hd b q J bg pi bu tm tl K ∧ fr ws w 0 18) := by
  refine MU.of (cc := cX4_canTake) (maxL := 3) (ty := .boolean) (by decide) rfl (Nat.le_of_ble_eq_true rfl) ?_
  intro pg en Rm sg mi av below meth co Qo hRf hRl hRc hRs hx hb hml hown hts hK hret ls hl
  have hl : lv_has ls 3 [(0, .ref h), (1, .int (nI S)), (2, .int (nI pt))] := hl
  have hS : va_S A Hs Hs [] := va_S.rf
  generalize ([] : List Loc) = locs at hS ⊢
  obtain ⟨hp, ht, a4, a5, a6, a7, ho, b1, b2, b3, b4, b5, hc, j1, j2, g0, hpr, ⟨Cn, fs, fw, fd, kp, hpt, hkp⟩, ⟨Sn, fx, fo, fg, fb, fe, kn, hod, hkn⟩, hcl⟩ := hap
  obtain ⟨a1, a2, a3, f1, -⟩ := id hpr
  obtain ⟨p5, -⟩ := id hpt
  obtain ⟨o10, -⟩ := id hod
  obtain ⟨cl16, -⟩ := id hcl
  have hn8 := hI.1
  have hp2 := p2_le hn8
  have k12 := hts (.fieldLink RX4 12 "AssemblyPlanner" "product" "LAssemblyPlanner$Product;") (by decide +kernel)
  have hinX4 : ∀ w ∈ wsX40, w ∈ wsX4_canTake := by decide +kernel
  refine lv_aload_n hx hb dX4_canTake_0 rfl (lv_at hl 0 rfl) ?_
  refine lv_iload_n hx hb dX4_canTake_1 rfl (lv_at hl 2 rfl) ?_
  refine pvV (c_X4_needPart hP g0 hpr hI (by omega)) ⟨hx, hb, hml, hown, hts⟩ hK gX4_canTake_X4_needPart rfl hd_X4_needPart ⟨by omega, by omega⟩ (va_recv hK hP (ci := 4) (q0 := 0) rfl g0) rfl hl.1 rfl (Nat.le_of_ble_eq_true rfl) dX4_canTake_2 ⟨Nat.zero_le _, Nat.zero_le _⟩ hS (fun locs hS => ?_)
  refine lv_aload_n hx hb dX4_canTake_5 rfl (lv_at hl 0 rfl) ?_
  refine lv_iload_n hx hb dX4_canTake_6 rfl (lv_at hl 1 rfl) ?_
  refine lv_iload_n hx hb dX4_canTake_7 rfl (lv_at hl 2 rfl) ?_
  refine pvV (c_X4_needSetWith hP g0 hpr hI hS1 hS2 hp9 hb9) ⟨hx, hb, hml, hown, hts⟩ hK gX4_canTake_X4_needSetWith rfl hd_X4_needSetWith ⟨by omega, by omega⟩ (va_recv hK hP (ci := 4) (q0 := 0) rfl g0) rfl hl.1 rfl (Nat.le_of_ble_eq_true rfl) dX4_canTake_8 ⟨Nat.zero_le _, Nat.zero_le _⟩ hS (fun locs hS => ?_)
  refine lv_aload_n hx hb dX4_canTake_11 rfl (lv_at hl 0 rfl) ?_
  refine va_get (ci := 4) (C := RX4) (T := TX4) (N := 4) hx hb hts hinX4 hown hK hP 0 g0 rfl 0 (by decide) k12 (fun _ h9 => h9) rfl dX4_canTake_12 ?_
  refine lv_iload_n hx hb dX4_canTake_15 rfl (lv_at hl 1 rfl) ?_
  refine lv_iload_n hx hb dX4_canTake_16 rfl (lv_at hl 2 rfl) ?_
  refine pcV (c_X3_takeable hP hpr hI (by omega) (by omega)) ⟨hx, hb, hml, hown, hts⟩ hK gX4_canTake_X3_takeable rfl hd_X3_takeable ⟨by omega, by omega⟩ (va_recv hK hP (ci := 3) (q0 := 1) rfl f1) rfl hl.1 rfl (Nat.le_of_ble_eq_true rfl) dX4_canTake_17 ⟨Nat.zero_le _, Nat.zero_le _⟩ hS (fun locs hS => ?_)
  exact hret 20 ls _ _ locs _ dX4_canTake_20 hP hD hS (bI_nar _) (⟨rfl, ⟨hp, ht, a4, a5, a6, a7, ho, b1, b2, b3, b4, b5, hc, j1, j2, g0, hpr, ⟨Cn, fs, fw, fd, kp, hpt, hkp⟩, ⟨Sn, fx, fo, fg, fb, fe, kn, hod, hkn⟩, hcl⟩, fr.rf⟩)
set_option maxHeartbeats 4000000 in
set_option maxRecDepth 100000 in
theorem c_X4_movesWith_0 {l : Launch} {D : va_G} {ky : kT} {A : Nat → Prop} {Hs : Heap} {ws : va_W} (hP : va_P D CL ws Hs) (hD : va_D A ws) {h n : Nat} {T C Hd : Nat → Nat} {b : Nat} {q : Bool} {J : Nat → Nat} {bg : Bool} {pi bu : Nat} {tm tl : Int32} {K : Nat → Nat} (hap : AP ky ws h n T C Hd b q J bg pi bu tm tl K) (hI : PI0 n C Hd b) {pt d : Nat} (hp9 : pt < n) (hd9 : d < 6) : MU l yX4_movesWith wsX4_movesWith 2 48 0 0 D ky A Hs [.ref h, .int (nI pt), .int (nI d)] (fun r w => r = nI (mov Hd n pt d) ∧ AP ky w h n T C Hd b q J bg pi bu tm tl K ∧ fr ws w 0 18) := by
  refine MU.of (cc := cX4_movesWith) (maxL := 3) (ty := .int) (by decide) rfl (Nat.le_of_ble_eq_true rfl) ?_
  intro pg en Rm sg mi av below meth co Qo hRf hRl hRc hRs hx hb hml hown hts hK hret ls hl
  have hl : lv_has ls 3 [(0, .ref h), (1, .int (nI pt)), (2, .int (nI d))] := hl
  have hS : va_S A Hs Hs [] := va_S.rf
  generalize ([] : List Loc) = locs at hS ⊢
  obtain ⟨hp, ht, a4, a5, a6, a7, ho, b1, b2, b3, b4, b5, hc, j1, j2, g0, hpr, ⟨Cn, fs, fw, fd, kp, hpt, hkp⟩, ⟨Sn, fx, fo, fg, fb, fe, kn, hod, hkn⟩, hcl⟩ := hap
  obtain ⟨a1, a2, a3, f1, -⟩ := id hpr
  obtain ⟨p5, -⟩ := id hpt
  obtain ⟨o10, -⟩ := id hod
  obtain ⟨cl16, -⟩ := id hcl
  have hn8 := hI.1
  have hp2 := p2_le hn8
  have k12 := hts (.fieldLink RX4 12 "AssemblyPlanner" "product" "LAssemblyPlanner$Product;") (by decide +kernel)
  have hinX4 : ∀ w ∈ wsX40, w ∈ wsX4_movesWith := by decide +kernel
  refine lv_aload_n hx hb dX4_movesWith_0 rfl (lv_at hl 0 rfl) ?_
  refine lv_iload_n hx hb dX4_movesWith_1 rfl (lv_at hl 1 rfl) ?_
  refine pvV (c_X4_needPart hP g0 hpr hI (by omega)) ⟨hx, hb, hml, hown, hts⟩ hK gX4_movesWith_X4_needPart rfl hd_X4_needPart ⟨by omega, by omega⟩ (va_recv hK hP (ci := 4) (q0 := 0) rfl g0) rfl hl.1 rfl (Nat.le_of_ble_eq_true rfl) dX4_movesWith_2 ⟨Nat.zero_le _, Nat.zero_le _⟩ hS (fun locs hS => ?_)
  refine lv_aload_n hx hb dX4_movesWith_5 rfl (lv_at hl 0 rfl) ?_
  refine lv_iload_n hx hb dX4_movesWith_6 rfl (lv_at hl 2 rfl) ?_
  refine pvV (c_X4_needDirection hP g0 hpr hI (by omega)) ⟨hx, hb, hml, hown, hts⟩ hK gX4_movesWith_X4_needDirection rfl hd_X4_needDirection ⟨by omega, by omega⟩ (va_recv hK hP (ci := 4) (q0 := 0) rfl g0) rfl hl.1 rfl (Nat.le_of_ble_eq_true rfl) dX4_movesWith_7 ⟨Nat.zero_le _, Nat.zero_le _⟩ hS (fun locs hS => ?_)
  refine lv_aload_n hx hb dX4_movesWith_10 rfl (lv_at hl 0 rfl) ?_
  refine va_get (ci := 4) (C := RX4) (T := TX4) (N := 4) hx hb hts hinX4 hown hK hP 0 g0 rfl 0 (by decide) k12 (fun _ h9 => h9) rfl dX4_movesWith_11 ?_
  refine lv_iload_n hx hb dX4_movesWith_14 rfl (lv_at hl 1 rfl) ?_
  refine lv_iload_n hx hb dX4_movesWith_15 rfl (lv_at hl 2 rfl) ?_
  refine pcV (c_X3_movingWith hP hpr hI (by omega) (by omega)) ⟨hx, hb, hml, hown, hts⟩ hK gX4_movesWith_X3_movingWith rfl hd_X3_movingWith ⟨by omega, by omega⟩ (va_recv hK hP (ci := 3) (q0 := 1) rfl f1) rfl hl.1 rfl (Nat.le_of_ble_eq_true rfl) dX4_movesWith_16 ⟨Nat.zero_le _, Nat.zero_le _⟩ hS (fun locs hS => ?_)
  exact hret 19 ls _ _ locs _ dX4_movesWith_19 hP hD hS rfl (⟨rfl, ⟨hp, ht, a4, a5, a6, a7, ho, b1, b2, b3, b4, b5, hc, j1, j2, g0, hpr, ⟨Cn, fs, fw, fd, kp, hpt, hkp⟩, ⟨Sn, fx, fo, fg, fb, fe, kn, hod, hkn⟩, hcl⟩, fr.rf⟩)
set_option maxHeartbeats 4000000 in
set_option maxRecDepth 100000 in
theorem c_X4_boundTo_0 {l : Launch} {D : va_G} {ky : kT} {A : Nat → Prop} {Hs : Heap} {ws : va_W} (hP : va_P D CL ws Hs) (hD : va_D A ws) {h n : Nat} {T C Hd : Nat → Nat} {b : Nat} {q : Bool} {J : Nat → Nat} {bg : Bool} {pi bu : Nat} {tm tl : Int32} {K : Nat → Nat} (hap : AP ky ws h n T C Hd b q J bg pi bu tm tl K) (hI : PI0 n C Hd b) {pt d : Nat} (hp9 : pt < n) (hd9 : d < 6) : MU l yX4_boundTo wsX4_boundTo 3 70 0 0 D ky A Hs [.ref h, .int (nI pt), .int (nI d)] (fun r w => r = nI (bnd Hd n pt d) ∧ AP ky w h n T C Hd b q J bg pi bu tm tl K ∧ fr ws w 0 18) := by
  refine MU.of (cc := cX4_boundTo) (maxL := 3) (ty := .int) (by decide) rfl (Nat.le_of_ble_eq_true rfl) ?_
  intro pg en Rm sg mi av below meth co Qo hRf hRl hRc hRs hx hb hml hown hts hK hret ls hl
  have hl : lv_has ls 3 [(0, .ref h), (1, .int (nI pt)), (2, .int (nI d))] := hl
  have hS : va_S A Hs Hs [] := va_S.rf
  generalize ([] : List Loc) = locs at hS ⊢
  obtain ⟨hp, ht, a4, a5, a6, a7, ho, b1, b2, b3, b4, b5, hc, j1, j2, g0, hpr, ⟨Cn, fs, fw, fd, kp, hpt, hkp⟩, ⟨Sn, fx, fo, fg, fb, fe, kn, hod, hkn⟩, hcl⟩ := hap
  obtain ⟨a1, a2, a3, f1, -⟩ := id hpr
  obtain ⟨p5, -⟩ := id hpt
  obtain ⟨o10, -⟩ := id hod
  obtain ⟨cl16, -⟩ := id hcl
  have hn8 := hI.1
  have hp2 := p2_le hn8
  have k12 := hts (.fieldLink RX4 12 "AssemblyPlanner" "product" "LAssemblyPlanner$Product;") (by decide +kernel)
  have hinX4 : ∀ w ∈ wsX40, w ∈ wsX4_boundTo := by decide +kernel
  refine lv_aload_n hx hb dX4_boundTo_0 rfl (lv_at hl 0 rfl) ?_
  refine lv_iload_n hx hb dX4_boundTo_1 rfl (lv_at hl 1 rfl) ?_
  refine pvV (c_X4_needPart hP g0 hpr hI (by omega)) ⟨hx, hb, hml, hown, hts⟩ hK gX4_boundTo_X4_needPart rfl hd_X4_needPart ⟨by omega, by omega⟩ (va_recv hK hP (ci := 4) (q0 := 0) rfl g0) rfl hl.1 rfl (Nat.le_of_ble_eq_true rfl) dX4_boundTo_2 ⟨Nat.zero_le _, Nat.zero_le _⟩ hS (fun locs hS => ?_)
  refine lv_aload_n hx hb dX4_boundTo_5 rfl (lv_at hl 0 rfl) ?_
  refine lv_iload_n hx hb dX4_boundTo_6 rfl (lv_at hl 2 rfl) ?_
  refine pvV (c_X4_needDirection hP g0 hpr hI (by omega)) ⟨hx, hb, hml, hown, hts⟩ hK gX4_boundTo_X4_needDirection rfl hd_X4_needDirection ⟨by omega, by omega⟩ (va_recv hK hP (ci := 4) (q0 := 0) rfl g0) rfl hl.1 rfl (Nat.le_of_ble_eq_true rfl) dX4_boundTo_7 ⟨Nat.zero_le _, Nat.zero_le _⟩ hS (fun locs hS => ?_)
  refine lv_aload_n hx hb dX4_boundTo_10 rfl (lv_at hl 0 rfl) ?_
  refine va_get (ci := 4) (C := RX4) (T := TX4) (N := 4) hx hb hts hinX4 hown hK hP 0 g0 rfl 0 (by decide) k12 (fun _ h9 => h9) rfl dX4_boundTo_11 ?_
  refine lv_iload_n hx hb dX4_boundTo_14 rfl (lv_at hl 1 rfl) ?_
  refine lv_iload_n hx hb dX4_boundTo_15 rfl (lv_at hl 2 rfl) ?_
  refine pcV (c_X3_boundWith hP hpr hI (by omega) (by omega)) ⟨hx, hb, hml, hown, hts⟩ hK gX4_boundTo_X3_boundWith rfl hd_X3_boundWith ⟨by omega, by omega⟩ (va_recv hK hP (ci := 3) (q0 := 1) rfl f1) rfl hl.1 rfl (Nat.le_of_ble_eq_true rfl) dX4_boundTo_16 ⟨Nat.zero_le _, Nat.zero_le _⟩ hS (fun locs hS => ?_)
  exact hret 19 ls _ _ locs _ dX4_boundTo_19 hP hD hS rfl (⟨rfl, ⟨hp, ht, a4, a5, a6, a7, ho, b1, b2, b3, b4, b5, hc, j1, j2, g0, hpr, ⟨Cn, fs, fw, fd, kp, hpt, hkp⟩, ⟨Sn, fx, fo, fg, fb, fe, kn, hod, hkn⟩, hcl⟩, fr.rf⟩)
set_option maxHeartbeats 4000000 in
set_option maxRecDepth 100000 in
theorem c_X4_groups_0 {l : Launch} {D : va_G} {ky : kT} {A : Nat → Prop} {Hs : Heap} {ws : va_W} (hP : va_P D CL ws Hs) (hD : va_D A ws) {h n : Nat} {T C Hd : Nat → Nat} {b : Nat} {q : Bool} {J : Nat → Nat} {bg : Bool} {pi bu : Nat} {tm tl : Int32} {K : Nat → Nat} (hap : AP ky ws h n T C Hd b q J bg pi bu tm tl K) (hI : PI0 n C Hd b) {d : Nat} (hd9 : d < 6) : MU l yX4_groups wsX4_groups 4 94 0 0 D ky A Hs [.ref h, .int (nI d)] (fun r w => r = nI (grp Hd n d) ∧ AP ky w h n T C Hd b q J bg pi bu tm tl K ∧ fr ws w 0 18) := by
  refine MU.of (cc := cX4_groups) (maxL := 2) (ty := .int) (by decide) rfl (Nat.le_of_ble_eq_true rfl) ?_
  intro pg en Rm sg mi av below meth co Qo hRf hRl hRc hRs hx hb hml hown hts hK hret ls hl
  have hl : lv_has ls 2 [(0, .ref h), (1, .int (nI d))] := hl
  have hS : va_S A Hs Hs [] := va_S.rf
  generalize ([] : List Loc) = locs at hS ⊢
  obtain ⟨hp, ht, a4, a5, a6, a7, ho, b1, b2, b3, b4, b5, hc, j1, j2, g0, hpr, ⟨Cn, fs, fw, fd, kp, hpt, hkp⟩, ⟨Sn, fx, fo, fg, fb, fe, kn, hod, hkn⟩, hcl⟩ := hap
  obtain ⟨a1, a2, a3, f1, -⟩ := id hpr
  obtain ⟨p5, -⟩ := id hpt
  obtain ⟨o10, -⟩ := id hod
  obtain ⟨cl16, -⟩ := id hcl
  have hn8 := hI.1
  have hp2 := p2_le hn8
  have k12 := hts (.fieldLink RX4 12 "AssemblyPlanner" "product" "LAssemblyPlanner$Product;") (by decide +kernel)
  have hinX4 : ∀ w ∈ wsX40, w ∈ wsX4_groups := by decide +kernel
  refine lv_aload_n hx hb dX4_groups_0 rfl (lv_at hl 0 rfl) ?_
  refine lv_iload_n hx hb dX4_groups_1 rfl (lv_at hl 1 rfl) ?_
  refine pvV (c_X4_needDirection hP g0 hpr hI (by omega)) ⟨hx, hb, hml, hown, hts⟩ hK gX4_groups_X4_needDirection rfl hd_X4_needDirection ⟨by omega, by omega⟩ (va_recv hK hP (ci := 4) (q0 := 0) rfl g0) rfl hl.1 rfl (Nat.le_of_ble_eq_true rfl) dX4_groups_2 ⟨Nat.zero_le _, Nat.zero_le _⟩ hS (fun locs hS => ?_)
  refine lv_aload_n hx hb dX4_groups_5 rfl (lv_at hl 0 rfl) ?_
  refine va_get (ci := 4) (C := RX4) (T := TX4) (N := 4) hx hb hts hinX4 hown hK hP 0 g0 rfl 0 (by decide) k12 (fun _ h9 => h9) rfl dX4_groups_6 ?_
  refine lv_iload_n hx hb dX4_groups_9 rfl (lv_at hl 1 rfl) ?_
  refine pcV (c_X3_boundGroups hP hpr hI (by omega)) ⟨hx, hb, hml, hown, hts⟩ hK gX4_groups_X3_boundGroups rfl hd_X3_boundGroups ⟨by omega, by omega⟩ (va_recv hK hP (ci := 3) (q0 := 1) rfl f1) rfl hl.1 rfl (Nat.le_of_ble_eq_true rfl) dX4_groups_10 ⟨Nat.zero_le _, Nat.zero_le _⟩ hS (fun locs hS => ?_)
  exact hret 13 ls _ _ locs _ dX4_groups_13 hP hD hS rfl (⟨rfl, ⟨hp, ht, a4, a5, a6, a7, ho, b1, b2, b3, b4, b5, hc, j1, j2, g0, hpr, ⟨Cn, fs, fw, fd, kp, hpt, hkp⟩, ⟨Sn, fx, fo, fg, fb, fe, kn, hod, hkn⟩, hcl⟩, fr.rf⟩)
set_option maxHeartbeats 4000000 in
set_option maxRecDepth 100000 in
theorem c_X4_splits_0 {l : Launch} {D : va_G} {ky : kT} {A : Nat → Prop} {Hs : Heap} {ws : va_W} (hP : va_P D CL ws Hs) (hD : va_D A ws) {h n : Nat} {T C Hd : Nat → Nat} {b : Nat} {q : Bool} {J : Nat → Nat} {bg : Bool} {pi bu : Nat} {tm tl : Int32} {K : Nat → Nat} (hap : AP ky ws h n T C Hd b q J bg pi bu tm tl K) (hI : PI0 n C Hd b) {S : Nat} (hS1 : 0 < S) (hS2 : S < 2 ^ n) : MU l yX4_splits wsX4_splits 6 134 0 0 D ky A Hs [.ref h, .int (nI S)] (fun r w => r = nI (spc C Hd n S) ∧ AP ky w h n T C Hd b q J bg pi bu tm tl K ∧ fr ws w 0 18) := by
  refine MU.of (cc := cX4_splits) (maxL := 2) (ty := .int) (by decide) rfl (Nat.le_of_ble_eq_true rfl) ?_
  intro pg en Rm sg mi av below meth co Qo hRf hRl hRc hRs hx hb hml hown hts hK hret ls hl
  have hl : lv_has ls 2 [(0, .ref h), (1, .int (nI S))] := hl
  have hS : va_S A Hs Hs [] := va_S.rf
  generalize ([] : List Loc) = locs at hS ⊢
  obtain ⟨hp, ht, a4, a5, a6, a7, ho, b1, b2, b3, b4, b5, hc, j1, j2, g0, hpr, ⟨Cn, fs, fw, fd, kp, hpt, hkp⟩, ⟨Sn, fx, fo, fg, fb, fe, kn, hod, hkn⟩, hcl⟩ := hap
  obtain ⟨a1, a2, a3, f1, -⟩ := id hpr
  obtain ⟨p5, -⟩ := id hpt
  obtain ⟨o10, -⟩ := id hod
  obtain ⟨cl16, -⟩ := id hcl
  have hn8 := hI.1
  have hp2 := p2_le hn8
  have k21 := hts (.fieldLink RX4 21 "AssemblyPlanner" "parting" "LAssemblyPlanner$Parting;") (by decide +kernel)
  have hinX4 : ∀ w ∈ wsX40, w ∈ wsX4_splits := by decide +kernel
  refine lv_aload_n hx hb dX4_splits_0 rfl (lv_at hl 0 rfl) ?_
  refine lv_iload_n hx hb dX4_splits_1 rfl (lv_at hl 1 rfl) ?_
  refine pvV (c_X4_needSet hP g0 hpr hI hS1 hS2) ⟨hx, hb, hml, hown, hts⟩ hK gX4_splits_X4_needSet rfl hd_X4_needSet ⟨by omega, by omega⟩ (va_recv hK hP (ci := 4) (q0 := 0) rfl g0) rfl hl.1 rfl (Nat.le_of_ble_eq_true rfl) dX4_splits_2 ⟨Nat.zero_le _, Nat.zero_le _⟩ hS (fun locs hS => ?_)
  refine lv_aload_n hx hb dX4_splits_5 rfl (lv_at hl 0 rfl) ?_
  refine va_get (ci := 4) (C := RX4) (T := TX4) (N := 4) hx hb hts hinX4 hown hK hP 0 g0 rfl 1 (by decide) k21 (fun _ h9 => h9) rfl dX4_splits_6 ?_
  refine lv_iload_n hx hb dX4_splits_9 rfl (lv_at hl 1 rfl) ?_
  refine mcV (c_X2_splitsOf hP hD hpt hpr hI hkp hS1 hS2) ⟨hx, hb, hml, hown, hts⟩ hK gX4_splits_X2_splitsOf rfl hd_X2_splitsOf ⟨by omega, by omega⟩ (va_recv hK hP (ci := 2) (q0 := 5) rfl p5) rfl hl.1 rfl (Nat.le_of_ble_eq_true rfl) dX4_splits_10 ⟨Nat.zero_le _, Nat.zero_le _⟩ hS (fun r ws1 H locs hq3 hP hD hS => ?_)
  obtain ⟨rfl, hpt, fr2⟩ := hq3
  replace g0 := (fr2 0 (by decide)).trans g0
  replace f1 := (fr2 1 (by decide)).trans f1
  replace o10 := (fr2 10 (by decide)).trans o10
  replace cl16 := (fr2 16 (by decide)).trans cl16
  replace hpr := hpr.fr fr2
  replace hod := hod.fr fr2
  replace hcl := hcl.fr fr2
  obtain ⟨Cn1, fs1, fw1, fd1, kp1, hpt, hkp1⟩ := hpt
  obtain ⟨p5, -⟩ := id hpt
  exact hret 13 ls _ _ locs _ dX4_splits_13 hP hD hS rfl (⟨rfl, ⟨hp, ht, a4, a5, a6, a7, ho, b1, b2, b3, b4, b5, hc, j1, j2, g0, hpr, ⟨Cn1, fs1, fw1, fd1, kp1, hpt, hkp1⟩, ⟨Sn, fx, fo, fg, fb, fe, kn, hod, hkn⟩, hcl⟩, (fr.wd fr2 : fr _ _ 0 18)⟩)
set_option maxHeartbeats 4000000 in
set_option maxRecDepth 100000 in
theorem c_X4_ways_0 {l : Launch} {D : va_G} {ky : kT} {A : Nat → Prop} {Hs : Heap} {ws : va_W} (hP : va_P D CL ws Hs) (hD : va_D A ws) {h n : Nat} {T C Hd : Nat → Nat} {b : Nat} {q : Bool} {J : Nat → Nat} {bg : Bool} {pi bu : Nat} {tm tl : Int32} {K : Nat → Nat} (hap : AP ky ws h n T C Hd b q J bg pi bu tm tl K) (hI : PI0 n C Hd b) (hn1 : 0 < n) : MU l yX4_ways wsX4_ways 6 134 0 0 D ky A Hs [.ref h] (fun r w => r = nI (wys C Hd n (2 ^ n - 1)) ∧ AP ky w h n T C Hd b q J bg pi bu tm tl K ∧ fr ws w 0 18) := by
  refine MU.of (cc := cX4_ways) (maxL := 1) (ty := .int) (by decide) rfl (Nat.le_of_ble_eq_true rfl) ?_
  intro pg en Rm sg mi av below meth co Qo hRf hRl hRc hRs hx hb hml hown hts hK hret ls hl
  have hl : lv_has ls 1 [(0, .ref h)] := hl
  have hS : va_S A Hs Hs [] := va_S.rf
  generalize ([] : List Loc) = locs at hS ⊢
  obtain ⟨hp, ht, a4, a5, a6, a7, ho, b1, b2, b3, b4, b5, hc, j1, j2, g0, hpr, ⟨Cn, fs, fw, fd, kp, hpt, hkp⟩, ⟨Sn, fx, fo, fg, fb, fe, kn, hod, hkn⟩, hcl⟩ := hap
  obtain ⟨a1, a2, a3, f1, -⟩ := id hpr
  obtain ⟨p5, -⟩ := id hpt
  obtain ⟨o10, -⟩ := id hod
  obtain ⟨cl16, -⟩ := id hcl
  have hn8 := hI.1
  have hp2 := p2_le hn8
  have k21 := hts (.fieldLink RX4 21 "AssemblyPlanner" "parting" "LAssemblyPlanner$Parting;") (by decide +kernel)
  have hinX4 : ∀ w ∈ wsX40, w ∈ wsX4_ways := by decide +kernel
  have k12 := hts (.fieldLink RX4 12 "AssemblyPlanner" "product" "LAssemblyPlanner$Product;") (by decide +kernel)
  refine lv_aload_n hx hb dX4_ways_0 rfl (lv_at hl 0 rfl) ?_
  refine pvV (c_X4_needParts hP g0 hpr hI hn1) ⟨hx, hb, hml, hown, hts⟩ hK gX4_ways_X4_needParts rfl hd_X4_needParts ⟨by omega, by omega⟩ (va_recv hK hP (ci := 4) (q0 := 0) rfl g0) rfl hl.1 rfl (Nat.le_of_ble_eq_true rfl) dX4_ways_1 ⟨Nat.zero_le _, Nat.zero_le _⟩ hS (fun locs hS => ?_)
  refine lv_aload_n hx hb dX4_ways_4 rfl (lv_at hl 0 rfl) ?_
  refine va_get (ci := 4) (C := RX4) (T := TX4) (N := 4) hx hb hts hinX4 hown hK hP 0 g0 rfl 1 (by decide) k21 (fun _ h9 => h9) rfl dX4_ways_5 ?_
  refine lv_aload_n hx hb dX4_ways_8 rfl (lv_at hl 0 rfl) ?_
  refine va_get (ci := 4) (C := RX4) (T := TX4) (N := 4) hx hb hts hinX4 hown hK hP 0 g0 rfl 0 (by decide) k12 (fun _ h9 => h9) rfl dX4_ways_9 ?_
  refine pcV (c_X3_all hP hpr hI) ⟨hx, hb, hml, hown, hts⟩ hK gX4_ways_X3_all rfl hd_X3_all ⟨by omega, by omega⟩ (va_recv hK hP (ci := 3) (q0 := 1) rfl f1) rfl hl.1 rfl (Nat.le_of_ble_eq_true rfl) dX4_ways_12 ⟨Nat.zero_le _, Nat.zero_le _⟩ hS (fun locs hS => ?_)
  refine mcV (c_X2_waysOf hP hD hpt hpr hI hkp (show 0 < 2 ^ n - 1 by have := Nat.pow_le_pow_right (show 0 < 2 by decide) (show 1 ≤ n from hn1); omega) (Nat.sub_lt (Nat.two_pow_pos n) (by decide))) ⟨hx, hb, hml, hown, hts⟩ hK gX4_ways_X2_waysOf rfl hd_X2_waysOf ⟨by omega, by omega⟩ (va_recv hK hP (ci := 2) (q0 := 5) rfl p5) rfl hl.1 rfl (Nat.le_of_ble_eq_true rfl) dX4_ways_15 ⟨Nat.zero_le _, Nat.zero_le _⟩ hS (fun r ws1 H locs hq3 hP hD hS => ?_)
  obtain ⟨rfl, hpt, fr2⟩ := hq3
  replace g0 := (fr2 0 (by decide)).trans g0
  replace f1 := (fr2 1 (by decide)).trans f1
  replace o10 := (fr2 10 (by decide)).trans o10
  replace cl16 := (fr2 16 (by decide)).trans cl16
  replace hpr := hpr.fr fr2
  replace hod := hod.fr fr2
  replace hcl := hcl.fr fr2
  obtain ⟨Cn1, fs1, fw1, fd1, kp1, hpt, hkp1⟩ := hpt
  obtain ⟨p5, -⟩ := id hpt
  exact hret 18 ls _ _ locs _ dX4_ways_18 hP hD hS rfl (⟨rfl, ⟨hp, ht, a4, a5, a6, a7, ho, b1, b2, b3, b4, b5, hc, j1, j2, g0, hpr, ⟨Cn1, fs1, fw1, fd1, kp1, hpt, hkp1⟩, ⟨Sn, fx, fo, fg, fb, fe, kn, hod, hkn⟩, hcl⟩, (fr.wd fr2 : fr _ _ 0 18)⟩)
set_option maxHeartbeats 4000000 in
set_option maxRecDepth 100000 in
theorem c_X4_leastDepth_0 {l : Launch} {D : va_G} {ky : kT} {A : Nat → Prop} {Hs : Heap} {ws : va_W} (hP : va_P D CL ws Hs) (hD : va_D A ws) {h n : Nat} {T C Hd : Nat → Nat} {b : Nat} {q : Bool} {J : Nat → Nat} {bg : Bool} {pi bu : Nat} {tm tl : Int32} {K : Nat → Nat} (hap : AP ky ws h n T C Hd b q J bg pi bu tm tl K) (hI : PI0 n C Hd b) (hn1 : 0 < n) : MU l yX4_leastDepth wsX4_leastDepth 6 134 0 0 D ky A Hs [.ref h] (fun r w => r = dI (dps C Hd n (2 ^ n - 1)) ∧ AP ky w h n T C Hd b q J bg pi bu tm tl K ∧ fr ws w 0 18) := by
  refine MU.of (cc := cX4_leastDepth) (maxL := 1) (ty := .int) (by decide) rfl (Nat.le_of_ble_eq_true rfl) ?_
  intro pg en Rm sg mi av below meth co Qo hRf hRl hRc hRs hx hb hml hown hts hK hret ls hl
  have hl : lv_has ls 1 [(0, .ref h)] := hl
  have hS : va_S A Hs Hs [] := va_S.rf
  generalize ([] : List Loc) = locs at hS ⊢
  obtain ⟨hp, ht, a4, a5, a6, a7, ho, b1, b2, b3, b4, b5, hc, j1, j2, g0, hpr, ⟨Cn, fs, fw, fd, kp, hpt, hkp⟩, ⟨Sn, fx, fo, fg, fb, fe, kn, hod, hkn⟩, hcl⟩ := hap
  obtain ⟨a1, a2, a3, f1, -⟩ := id hpr
  obtain ⟨p5, -⟩ := id hpt
  obtain ⟨o10, -⟩ := id hod
  obtain ⟨cl16, -⟩ := id hcl
  have hn8 := hI.1
  have hp2 := p2_le hn8
  have k21 := hts (.fieldLink RX4 21 "AssemblyPlanner" "parting" "LAssemblyPlanner$Parting;") (by decide +kernel)
  have hinX4 : ∀ w ∈ wsX40, w ∈ wsX4_leastDepth := by decide +kernel
  have k12 := hts (.fieldLink RX4 12 "AssemblyPlanner" "product" "LAssemblyPlanner$Product;") (by decide +kernel)
  refine lv_aload_n hx hb dX4_leastDepth_0 rfl (lv_at hl 0 rfl) ?_
  refine pvV (c_X4_needParts hP g0 hpr hI hn1) ⟨hx, hb, hml, hown, hts⟩ hK gX4_leastDepth_X4_needParts rfl hd_X4_needParts ⟨by omega, by omega⟩ (va_recv hK hP (ci := 4) (q0 := 0) rfl g0) rfl hl.1 rfl (Nat.le_of_ble_eq_true rfl) dX4_leastDepth_1 ⟨Nat.zero_le _, Nat.zero_le _⟩ hS (fun locs hS => ?_)
  refine lv_aload_n hx hb dX4_leastDepth_4 rfl (lv_at hl 0 rfl) ?_
  refine va_get (ci := 4) (C := RX4) (T := TX4) (N := 4) hx hb hts hinX4 hown hK hP 0 g0 rfl 1 (by decide) k21 (fun _ h9 => h9) rfl dX4_leastDepth_5 ?_
  refine lv_aload_n hx hb dX4_leastDepth_8 rfl (lv_at hl 0 rfl) ?_
  refine va_get (ci := 4) (C := RX4) (T := TX4) (N := 4) hx hb hts hinX4 hown hK hP 0 g0 rfl 0 (by decide) k12 (fun _ h9 => h9) rfl dX4_leastDepth_9 ?_
  refine pcV (c_X3_all hP hpr hI) ⟨hx, hb, hml, hown, hts⟩ hK gX4_leastDepth_X3_all rfl hd_X3_all ⟨by omega, by omega⟩ (va_recv hK hP (ci := 3) (q0 := 1) rfl f1) rfl hl.1 rfl (Nat.le_of_ble_eq_true rfl) dX4_leastDepth_12 ⟨Nat.zero_le _, Nat.zero_le _⟩ hS (fun locs hS => ?_)
  refine mcV (c_X2_leastDepthOf hP hD hpt hpr hI hkp (show 0 < 2 ^ n - 1 by have := Nat.pow_le_pow_right (show 0 < 2 by decide) (show 1 ≤ n from hn1); omega) (Nat.sub_lt (Nat.two_pow_pos n) (by decide))) ⟨hx, hb, hml, hown, hts⟩ hK gX4_leastDepth_X2_leastDepthOf rfl hd_X2_leastDepthOf ⟨by omega, by omega⟩ (va_recv hK hP (ci := 2) (q0 := 5) rfl p5) rfl hl.1 rfl (Nat.le_of_ble_eq_true rfl) dX4_leastDepth_15 ⟨Nat.zero_le _, Nat.zero_le _⟩ hS (fun r ws1 H locs hq3 hP hD hS => ?_)
  obtain ⟨rfl, hpt, fr2⟩ := hq3
  replace g0 := (fr2 0 (by decide)).trans g0
  replace f1 := (fr2 1 (by decide)).trans f1
  replace o10 := (fr2 10 (by decide)).trans o10
  replace cl16 := (fr2 16 (by decide)).trans cl16
  replace hpr := hpr.fr fr2
  replace hod := hod.fr fr2
  replace hcl := hcl.fr fr2
  obtain ⟨Cn1, fs1, fw1, fd1, kp1, hpt, hkp1⟩ := hpt
  obtain ⟨p5, -⟩ := id hpt
  exact hret 18 ls _ _ locs _ dX4_leastDepth_18 hP hD hS rfl (⟨rfl, ⟨hp, ht, a4, a5, a6, a7, ho, b1, b2, b3, b4, b5, hc, j1, j2, g0, hpr, ⟨Cn1, fs1, fw1, fd1, kp1, hpt, hkp1⟩, ⟨Sn, fx, fo, fg, fb, fe, kn, hod, hkn⟩, hcl⟩, (fr.wd fr2 : fr _ _ 0 18)⟩)
set_option maxHeartbeats 4000000 in
set_option maxRecDepth 100000 in
theorem c_X4_orders_0 {l : Launch} {D : va_G} {ky : kT} {A : Nat → Prop} {Hs : Heap} {ws : va_W} (hP : va_P D CL ws Hs) (hD : va_D A ws) {h n : Nat} {T C Hd : Nat → Nat} {b : Nat} {q : Bool} {J : Nat → Nat} {bg : Bool} {pi bu : Nat} {tm tl : Int32} {K : Nat → Nat} (hap : AP ky ws h n T C Hd b q J bg pi bu tm tl K) (hI : PI0 n C Hd b) (hT : ∀ p, T p < 4) (hn1 : 0 < n) : MU l yX4_orders wsX4_orders 6 136 0 0 D ky A Hs [.ref h] (fun r w => r = nI (ord C Hd b q n 0) ∧ AP ky w h n T C Hd b q J bg pi bu tm tl K ∧ fr ws w 0 18) := by
  refine MU.of (cc := cX4_orders) (maxL := 1) (ty := .int) (by decide) rfl (Nat.le_of_ble_eq_true rfl) ?_
  intro pg en Rm sg mi av below meth co Qo hRf hRl hRc hRs hx hb hml hown hts hK hret ls hl
  have hl : lv_has ls 1 [(0, .ref h)] := hl
  have hS : va_S A Hs Hs [] := va_S.rf
  generalize ([] : List Loc) = locs at hS ⊢
  obtain ⟨hp, ht, a4, a5, a6, a7, ho, b1, b2, b3, b4, b5, hc, j1, j2, g0, hpr, ⟨Cn, fs, fw, fd, kp, hpt, hkp⟩, ⟨Sn, fx, fo, fg, fb, fe, kn, hod, hkn⟩, hcl⟩ := hap
  obtain ⟨a1, a2, a3, f1, -⟩ := id hpr
  obtain ⟨p5, -⟩ := id hpt
  obtain ⟨o10, -⟩ := id hod
  obtain ⟨cl16, -⟩ := id hcl
  have hn8 := hI.1
  have hp2 := p2_le hn8
  have k28 := hts (.fieldLink RX4 28 "AssemblyPlanner" "ordering" "LAssemblyPlanner$Ordering;") (by decide +kernel)
  have hinX4 : ∀ w ∈ wsX40, w ∈ wsX4_orders := by decide +kernel
  refine lv_aload_n hx hb dX4_orders_0 rfl (lv_at hl 0 rfl) ?_
  refine pvV (c_X4_needParts hP g0 hpr hI hn1) ⟨hx, hb, hml, hown, hts⟩ hK gX4_orders_X4_needParts rfl hd_X4_needParts ⟨by omega, by omega⟩ (va_recv hK hP (ci := 4) (q0 := 0) rfl g0) rfl hl.1 rfl (Nat.le_of_ble_eq_true rfl) dX4_orders_1 ⟨Nat.zero_le _, Nat.zero_le _⟩ hS (fun locs hS => ?_)
  refine lv_aload_n hx hb dX4_orders_4 rfl (lv_at hl 0 rfl) ?_
  refine va_get (ci := 4) (C := RX4) (T := TX4) (N := 4) hx hb hts hinX4 hown hK hP 0 g0 rfl 2 (by decide) k28 (fun _ h9 => h9) rfl dX4_orders_5 ?_
  refine mcV (c_X1_possible hP hD hod hpr hI hT hkn) ⟨hx, hb, hml, hown, hts⟩ hK gX4_orders_X1_possible rfl hd_X1_possible ⟨by omega, by omega⟩ (va_recv hK hP (ci := 1) (q0 := 10) rfl o10) rfl hl.1 rfl (Nat.le_of_ble_eq_true rfl) dX4_orders_8 ⟨Nat.zero_le _, Nat.zero_le _⟩ hS (fun r ws1 H locs hq3 hP hD hS => ?_)
  obtain ⟨rfl, hod, fr2⟩ := hq3
  replace g0 := (fr2 0 (by decide)).trans g0
  replace f1 := (fr2 1 (by decide)).trans f1
  replace p5 := (fr2 5 (by decide)).trans p5
  replace cl16 := (fr2 16 (by decide)).trans cl16
  replace hpr := hpr.fr fr2
  replace hpt := hpt.fr fr2
  replace hcl := hcl.fr fr2
  obtain ⟨Sn1, fx1, fo1, fg1, fb1, fe1, kn1, hod, hkn1⟩ := hod
  obtain ⟨o10, -⟩ := id hod
  exact hret 11 ls _ _ locs _ dX4_orders_11 hP hD hS rfl (⟨rfl, ⟨hp, ht, a4, a5, a6, a7, ho, b1, b2, b3, b4, b5, hc, j1, j2, g0, hpr, ⟨Cn, fs, fw, fd, kp, hpt, hkp⟩, ⟨Sn1, fx1, fo1, fg1, fb1, fe1, kn1, hod, hkn1⟩, hcl⟩, (fr.wd fr2 : fr _ _ 0 18)⟩)
set_option maxHeartbeats 4000000 in
set_option maxRecDepth 100000 in
theorem c_X4_fewestChanges_0 {l : Launch} {D : va_G} {ky : kT} {A : Nat → Prop} {Hs : Heap} {ws : va_W} (hP : va_P D CL ws Hs) (hD : va_D A ws) {h n : Nat} {T C Hd : Nat → Nat} {b : Nat} {q : Bool} {J : Nat → Nat} {bg : Bool} {pi bu : Nat} {tm tl : Int32} {K : Nat → Nat} (hap : AP ky ws h n T C Hd b q J bg pi bu tm tl K) (hI : PI0 n C Hd b) (hT : ∀ p, T p < 4) (hn1 : 0 < n) : MU l yX4_fewestChanges wsX4_fewestChanges 6 136 0 0 D ky A Hs [.ref h] (fun r w => r = orN (few C Hd b q T n) ∧ AP ky w h n T C Hd b q J bg pi bu tm tl K ∧ fr ws w 0 18) := by
  refine MU.of (cc := cX4_fewestChanges) (maxL := 1) (ty := .int) (by decide) rfl (Nat.le_of_ble_eq_true rfl) ?_
  intro pg en Rm sg mi av below meth co Qo hRf hRl hRc hRs hx hb hml hown hts hK hret ls hl
  have hl : lv_has ls 1 [(0, .ref h)] := hl
  have hS : va_S A Hs Hs [] := va_S.rf
  generalize ([] : List Loc) = locs at hS ⊢
  obtain ⟨hp, ht, a4, a5, a6, a7, ho, b1, b2, b3, b4, b5, hc, j1, j2, g0, hpr, ⟨Cn, fs, fw, fd, kp, hpt, hkp⟩, ⟨Sn, fx, fo, fg, fb, fe, kn, hod, hkn⟩, hcl⟩ := hap
  obtain ⟨a1, a2, a3, f1, -⟩ := id hpr
  obtain ⟨p5, -⟩ := id hpt
  obtain ⟨o10, -⟩ := id hod
  obtain ⟨cl16, -⟩ := id hcl
  have hn8 := hI.1
  have hp2 := p2_le hn8
  have k28 := hts (.fieldLink RX4 28 "AssemblyPlanner" "ordering" "LAssemblyPlanner$Ordering;") (by decide +kernel)
  have hinX4 : ∀ w ∈ wsX40, w ∈ wsX4_fewestChanges := by decide +kernel
  refine lv_aload_n hx hb dX4_fewestChanges_0 rfl (lv_at hl 0 rfl) ?_
  refine pvV (c_X4_needParts hP g0 hpr hI hn1) ⟨hx, hb, hml, hown, hts⟩ hK gX4_fewestChanges_X4_needParts rfl hd_X4_needParts ⟨by omega, by omega⟩ (va_recv hK hP (ci := 4) (q0 := 0) rfl g0) rfl hl.1 rfl (Nat.le_of_ble_eq_true rfl) dX4_fewestChanges_1 ⟨Nat.zero_le _, Nat.zero_le _⟩ hS (fun locs hS => ?_)
  refine lv_aload_n hx hb dX4_fewestChanges_4 rfl (lv_at hl 0 rfl) ?_
  refine va_get (ci := 4) (C := RX4) (T := TX4) (N := 4) hx hb hts hinX4 hown hK hP 0 g0 rfl 2 (by decide) k28 (fun _ h9 => h9) rfl dX4_fewestChanges_5 ?_
  refine mcV (c_X1_fewestBySets hP hD hod hpr hI hT hkn) ⟨hx, hb, hml, hown, hts⟩ hK gX4_fewestChanges_X1_fewestBySets rfl hd_X1_fewestBySets ⟨by omega, by omega⟩ (va_recv hK hP (ci := 1) (q0 := 10) rfl o10) rfl hl.1 rfl (Nat.le_of_ble_eq_true rfl) dX4_fewestChanges_8 ⟨Nat.zero_le _, Nat.zero_le _⟩ hS (fun r ws1 H locs hq3 hP hD hS => ?_)
  obtain ⟨rfl, hod, fr2⟩ := hq3
  replace g0 := (fr2 0 (by decide)).trans g0
  replace f1 := (fr2 1 (by decide)).trans f1
  replace p5 := (fr2 5 (by decide)).trans p5
  replace cl16 := (fr2 16 (by decide)).trans cl16
  replace hpr := hpr.fr fr2
  replace hpt := hpt.fr fr2
  replace hcl := hcl.fr fr2
  obtain ⟨Sn1, fx1, fo1, fg1, fb1, fe1, kn1, hod, hkn1⟩ := hod
  obtain ⟨o10, -⟩ := id hod
  exact hret 11 ls _ _ locs _ dX4_fewestChanges_11 hP hD hS rfl (⟨rfl, ⟨hp, ht, a4, a5, a6, a7, ho, b1, b2, b3, b4, b5, hc, j1, j2, g0, hpr, ⟨Cn, fs, fw, fd, kp, hpt, hkp⟩, ⟨Sn1, fx1, fo1, fg1, fb1, fe1, kn1, hod, hkn1⟩, hcl⟩, (fr.wd fr2 : fr _ _ 0 18)⟩)
set_option maxHeartbeats 4000000 in
set_option maxRecDepth 100000 in
theorem c_X4_fewestByListing_0 {l : Launch} {D : va_G} {ky : kT} {A : Nat → Prop} {Hs : Heap} {ws : va_W} (hP : va_P D CL ws Hs) (hD : va_D A ws) {h n : Nat} {T C Hd : Nat → Nat} {b : Nat} {q : Bool} {J : Nat → Nat} {bg : Bool} {pi bu : Nat} {tm tl : Int32} {K : Nat → Nat} (hap : AP ky ws h n T C Hd b q J bg pi bu tm tl K) (hI : PI0 n C Hd b) (hT : ∀ p, T p < 4) (hn1 : 0 < n) (hn7 : n ≤ 7) : MU l yX4_fewestByListing wsX4_fewestByListing 10 257 0 0 D ky A Hs [.ref h] (fun r w => r = orN (few C Hd b q T n) ∧ AP ky w h n T C Hd b q J bg pi bu tm tl K ∧ fr ws w 0 18) := by
  refine MU.of (cc := cX4_fewestByListing) (maxL := 1) (ty := .int) (by decide) rfl (Nat.le_of_ble_eq_true rfl) ?_
  intro pg en Rm sg mi av below meth co Qo hRf hRl hRc hRs hx hb hml hown hts hK hret ls hl
  have hl : lv_has ls 1 [(0, .ref h)] := hl
  have hS : va_S A Hs Hs [] := va_S.rf
  generalize ([] : List Loc) = locs at hS ⊢
  obtain ⟨hp, ht, a4, a5, a6, a7, ho, b1, b2, b3, b4, b5, hc, j1, j2, g0, hpr, ⟨Cn, fs, fw, fd, kp, hpt, hkp⟩, ⟨Sn, fx, fo, fg, fb, fe, kn, hod, hkn⟩, hcl⟩ := hap
  obtain ⟨a1, a2, a3, f1, -⟩ := id hpr
  obtain ⟨p5, -⟩ := id hpt
  obtain ⟨o10, -⟩ := id hod
  obtain ⟨cl16, -⟩ := id hcl
  have hn8 := hI.1
  have hp2 := p2_le hn8
  have k12 := hts (.fieldLink RX4 12 "AssemblyPlanner" "product" "LAssemblyPlanner$Product;") (by decide +kernel)
  have hinX4 : ∀ w ∈ wsX40, w ∈ wsX4_fewestByListing := by decide +kernel
  have k28 := hts (.fieldLink RX4 28 "AssemblyPlanner" "ordering" "LAssemblyPlanner$Ordering;") (by decide +kernel)
  refine lv_aload_n hx hb dX4_fewestByListing_0 rfl (lv_at hl 0 rfl) ?_
  refine pvV (c_X4_needParts hP g0 hpr hI hn1) ⟨hx, hb, hml, hown, hts⟩ hK gX4_fewestByListing_X4_needParts rfl hd_X4_needParts ⟨by omega, by omega⟩ (va_recv hK hP (ci := 4) (q0 := 0) rfl g0) rfl hl.1 rfl (Nat.le_of_ble_eq_true rfl) dX4_fewestByListing_1 ⟨Nat.zero_le _, Nat.zero_le _⟩ hS (fun locs hS => ?_)
  refine lv_aload_n hx hb dX4_fewestByListing_4 rfl (lv_at hl 0 rfl) ?_
  refine va_get (ci := 4) (C := RX4) (T := TX4) (N := 4) hx hb hts hinX4 hown hK hP 0 g0 rfl 0 (by decide) k12 (fun _ h9 => h9) rfl dX4_fewestByListing_5 ?_
  refine pcV (c_X3_count hP hpr hI) ⟨hx, hb, hml, hown, hts⟩ hK gX4_fewestByListing_X3_count rfl hd_X3_count ⟨by omega, by omega⟩ (va_recv hK hP (ci := 3) (q0 := 1) rfl f1) rfl hl.1 rfl (Nat.le_of_ble_eq_true rfl) dX4_fewestByListing_8 ⟨Nat.zero_le _, Nat.zero_le _⟩ hS (fun locs hS => ?_)
  refine lv_bipush (v := nI 7) hx hb dX4_fewestByListing_11 bi_7 ?_
  refine sn_icmp_le (tgt := 26) hx hb dX4_fewestByListing_13 (by decide) (by omega) (by omega) (fun c1 => ?_) (fun c1 => absurd c1 (by omega))
  refine lv_aload_n hx hb dX4_fewestByListing_26 rfl (lv_at hl 0 rfl) ?_
  refine va_get (ci := 4) (C := RX4) (T := TX4) (N := 4) hx hb hts hinX4 hown hK hP 0 g0 rfl 2 (by decide) k28 (fun _ h9 => h9) rfl dX4_fewestByListing_27 ?_
  refine mcV (c_X1_fewestListed hP hD hod hpr hI hT hkn hn7) ⟨hx, hb, hml, hown, hts⟩ hK gX4_fewestByListing_X1_fewestListed rfl hd_X1_fewestListed ⟨by omega, by omega⟩ (va_recv hK hP (ci := 1) (q0 := 10) rfl o10) rfl hl.1 rfl (Nat.le_of_ble_eq_true rfl) dX4_fewestByListing_30 ⟨Nat.zero_le _, Nat.zero_le _⟩ hS (fun r ws2 H locs hq4 hP hD hS => ?_)
  obtain ⟨rfl, hod, fr3⟩ := hq4
  replace g0 := (fr3 0 (by decide)).trans g0
  replace f1 := (fr3 1 (by decide)).trans f1
  replace p5 := (fr3 5 (by decide)).trans p5
  replace cl16 := (fr3 16 (by decide)).trans cl16
  replace hpr := hpr.fr fr3
  replace hpt := hpt.fr fr3
  replace hcl := hcl.fr fr3
  obtain ⟨Sn1, fx1, fo1, fg1, fb1, fe1, kn1, hod, hkn1⟩ := hod
  obtain ⟨o10, -⟩ := id hod
  exact hret 33 ls _ _ locs _ dX4_fewestByListing_33 hP hD hS rfl (⟨rfl, ⟨hp, ht, a4, a5, a6, a7, ho, b1, b2, b3, b4, b5, hc, j1, j2, g0, hpr, ⟨Cn, fs, fw, fd, kp, hpt, hkp⟩, ⟨Sn1, fx1, fo1, fg1, fb1, fe1, kn1, hod, hkn1⟩, hcl⟩, (fr.wd fr3 : fr _ _ 0 18)⟩)
set_option maxHeartbeats 4000000 in
set_option maxRecDepth 100000 in
theorem c_X4_orderAt_0 {l : Launch} {D : va_G} {ky : kT} {A : Nat → Prop} {Hs : Heap} {ws : va_W} (hP : va_P D CL ws Hs) (hD : va_D A ws) {h n : Nat} {T C Hd : Nat → Nat} {b : Nat} {q : Bool} {J : Nat → Nat} {bg : Bool} {pi bu : Nat} {tm tl : Int32} {K : Nat → Nat} (hap : AP ky ws h n T C Hd b q J bg pi bu tm tl K) (hI : PI0 n C Hd b) (hT : ∀ p, T p < 4) {pt : Nat} (hp9 : pt < n) (hf : few C Hd b q T n < 1000) : MU l yX4_orderAt wsX4_orderAt 6 137 0 0 D ky A Hs [.ref h, .int (nI pt)] (fun r w => r = nI (bp C Hd b q T n pt) ∧ AP ky w h n T C Hd b q J bg pi bu tm tl K ∧ fr ws w 0 18) := by
  refine MU.of (cc := cX4_orderAt) (maxL := 3) (ty := .int) (by decide) rfl (Nat.le_of_ble_eq_true rfl) ?_
  intro pg en Rm sg mi av below meth co Qo hRf hRl hRc hRs hx hb hml hown hts hK hret ls hl
  have hl : lv_has ls 3 [(0, .ref h), (1, .int (nI pt))] := hl
  have hS : va_S A Hs Hs [] := va_S.rf
  generalize ([] : List Loc) = locs at hS ⊢
  obtain ⟨hp, ht, a4, a5, a6, a7, ho, b1, b2, b3, b4, b5, hc, j1, j2, g0, hpr, ⟨Cn, fs, fw, fd, kp, hpt, hkp⟩, ⟨Sn, fx, fo, fg, fb, fe, kn, hod, hkn⟩, hcl⟩ := hap
  obtain ⟨a1, a2, a3, f1, -⟩ := id hpr
  obtain ⟨p5, -⟩ := id hpt
  obtain ⟨o10, -⟩ := id hod
  obtain ⟨cl16, -⟩ := id hcl
  have hn8 := hI.1
  have hp2 := p2_le hn8
  have hb9 := bp_ok hn8 hT hf hp9
  have k28 := hts (.fieldLink RX4 28 "AssemblyPlanner" "ordering" "LAssemblyPlanner$Ordering;") (by decide +kernel)
  have hinX4 : ∀ w ∈ wsX40, w ∈ wsX4_orderAt := by decide +kernel
  refine lv_aload_n hx hb dX4_orderAt_0 rfl (lv_at hl 0 rfl) ?_
  refine va_get (ci := 4) (C := RX4) (T := TX4) (N := 4) hx hb hts hinX4 hown hK hP 0 g0 rfl 2 (by decide) k28 (fun _ h9 => h9) rfl dX4_orderAt_1 ?_
  refine lv_iload_n hx hb dX4_orderAt_4 rfl (lv_at hl 1 rfl) ?_
  refine mcV (c_X1_bestAt hP hD hod hpr hI hT hkn) ⟨hx, hb, hml, hown, hts⟩ hK gX4_orderAt_X1_bestAt rfl hd_X1_bestAt ⟨by omega, by omega⟩ (va_recv hK hP (ci := 1) (q0 := 10) rfl o10) rfl hl.1 rfl (Nat.le_of_ble_eq_true rfl) dX4_orderAt_5 ⟨Nat.zero_le _, Nat.zero_le _⟩ hS (fun r ws1 H locs hq3 hP hD hS => ?_)
  obtain ⟨rfl, hod, fr2⟩ := hq3
  replace g0 := (fr2 0 (by decide)).trans g0
  replace f1 := (fr2 1 (by decide)).trans f1
  replace p5 := (fr2 5 (by decide)).trans p5
  replace cl16 := (fr2 16 (by decide)).trans cl16
  replace hpr := hpr.fr fr2
  replace hpt := hpt.fr fr2
  replace hcl := hcl.fr fr2
  obtain ⟨Sn1, fx1, fo1, fg1, fb1, fe1, kn1, hod, hkn1⟩ := hod
  obtain ⟨o10, -⟩ := id hod
  refine sv_top (y := nI (bp C Hd b q T n pt)) (by rw [baV_in hp9 hn8, if_neg (by omega)]) ?_
  refine lv_istore_n (lv' := [(2, .int (nI (bp C Hd b q T n pt))), (0, .ref h), (1, .int (nI pt))]) hx hb dX4_orderAt_8 rfl hl (by decide) rfl (fun ls hl => ?_)
  refine lv_iload_n hx hb dX4_orderAt_9 rfl (lv_at hl 0 rfl) ?_
  refine lv_iconst (v := -1) hx hb dX4_orderAt_10 ci_m1 ?_
  refine lv_icmp_ne (tgt := 24) hx hb dX4_orderAt_11 (by decide) (fun c4 => ?_) (fun c4 => absurd c4.symm (m1_ne (by omega)))
  refine lv_iload_n hx hb dX4_orderAt_24 rfl (lv_at hl 0 rfl) ?_
  exact hret 25 ls _ _ locs _ dX4_orderAt_25 hP hD hS rfl (⟨rfl, ⟨hp, ht, a4, a5, a6, a7, ho, b1, b2, b3, b4, b5, hc, j1, j2, g0, hpr, ⟨Cn, fs, fw, fd, kp, hpt, hkp⟩, ⟨Sn1, fx1, fo1, fg1, fb1, fe1, kn1, hod, hkn1⟩, hcl⟩, (fr.wd fr2 : fr _ _ 0 18)⟩)
set_option maxHeartbeats 4000000 in
set_option maxRecDepth 100000 in
theorem c_X4_setJams_0 {l : Launch} {D : va_G} {ky : kT} {A : Nat → Prop} {Hs : Heap} {ws : va_W} (hP : va_P D CL ws Hs) (hD : va_D A ws) {h n : Nat} {T C Hd : Nat → Nat} {b : Nat} {q : Bool} {J : Nat → Nat} {bg : Bool} {pi bu : Nat} {tm tl : Int32} {K : Nat → Nat} (hap : AP ky ws h n T C Hd b q J bg pi bu tm tl K) (hI : PI0 n C Hd b) {pt j : Nat} (hp9 : pt < n) (hj : j ≤ 5) : MU l yX4_setJams wsX4_setJams 2 41 0 0 D ky A Hs [.ref h, .int (nI pt), .int (nI j)] (fun r w => r = nI (J pt) ∧ AP ky w h n T C Hd b q (upX J pt j) bg pi bu tm tl K ∧ fr ws w 0 18) := by
  refine MU.of (cc := cX4_setJams) (maxL := 3) (ty := .int) (by decide) rfl (Nat.le_of_ble_eq_true rfl) ?_
  intro pg en Rm sg mi av below meth co Qo hRf hRl hRc hRs hx hb hml hown hts hK hret ls hl
  have hl : lv_has ls 3 [(0, .ref h), (1, .int (nI pt)), (2, .int (nI j))] := hl
  have hS : va_S A Hs Hs [] := va_S.rf
  generalize ([] : List Loc) = locs at hS ⊢
  obtain ⟨hp, ht, a4, a5, a6, a7, ho, b1, b2, b3, b4, b5, hc, j1, j2, g0, hpr, ⟨Cn, fs, fw, fd, kp, hpt, hkp⟩, ⟨Sn, fx, fo, fg, fb, fe, kn, hod, hkn⟩, hcl⟩ := hap
  obtain ⟨a1, a2, a3, f1, -⟩ := id hpr
  obtain ⟨p5, -⟩ := id hpt
  obtain ⟨o10, -⟩ := id hod
  obtain ⟨cl16, -⟩ := id hcl
  have hn8 := hI.1
  have hp2 := p2_le hn8
  have k35 := hts (.fieldLink RX4 35 "AssemblyPlanner" "cell" "LAssemblyPlanner$Cell;") (by decide +kernel)
  have hinX4 : ∀ w ∈ wsX40, w ∈ wsX4_setJams := by decide +kernel
  refine lv_aload_n hx hb dX4_setJams_0 rfl (lv_at hl 0 rfl) ?_
  refine lv_iload_n hx hb dX4_setJams_1 rfl (lv_at hl 1 rfl) ?_
  refine pvV (c_X4_needPart hP g0 hpr hI (by omega)) ⟨hx, hb, hml, hown, hts⟩ hK gX4_setJams_X4_needPart rfl hd_X4_needPart ⟨by omega, by omega⟩ (va_recv hK hP (ci := 4) (q0 := 0) rfl g0) rfl hl.1 rfl (Nat.le_of_ble_eq_true rfl) dX4_setJams_2 ⟨Nat.zero_le _, Nat.zero_le _⟩ hS (fun locs hS => ?_)
  refine lv_iload_n hx hb dX4_setJams_5 rfl (lv_at hl 2 rfl) ?_
  refine lv_if_lt (tgt := 14) hx hb dX4_setJams_6 (by decide) (fun q => absurd q (nI_pos (by omega))) (fun _ => ?_)
  refine lv_iload_n hx hb dX4_setJams_9 rfl (lv_at hl 2 rfl) ?_
  refine lv_iconst (v := nI 5) hx hb dX4_setJams_10 ci_5 ?_
  refine sn_icmp_le (tgt := 24) hx hb dX4_setJams_11 (by decide) (by omega) (by omega) (fun c2 => ?_) (fun c2 => absurd c2 (by omega))
  refine lv_aload_n hx hb dX4_setJams_24 rfl (lv_at hl 0 rfl) ?_
  refine va_get (ci := 4) (C := RX4) (T := TX4) (N := 4) hx hb hts hinX4 hown hK hP 0 g0 rfl 3 (by decide) k35 (fun _ h9 => h9) rfl dX4_setJams_25 ?_
  refine lv_iload_n hx hb dX4_setJams_28 rfl (lv_at hl 1 rfl) ?_
  refine lv_iload_n hx hb dX4_setJams_29 rfl (lv_at hl 2 rfl) ?_
  refine mcV (c_X0_changeJams hP hD hcl (by omega)) ⟨hx, hb, hml, hown, hts⟩ hK gX4_setJams_X0_changeJams rfl hd_X0_changeJams ⟨by omega, by omega⟩ (va_recv hK hP (ci := 0) (q0 := 16) rfl cl16) rfl hl.1 rfl (Nat.le_of_ble_eq_true rfl) dX4_setJams_30 ⟨Nat.zero_le _, Nat.zero_le _⟩ hS (fun r ws3 H locs hq5 hP hD hS => ?_)
  obtain ⟨rfl, hcl, fr4⟩ := hq5
  replace g0 := (fr4 0 (by decide)).trans g0
  replace f1 := (fr4 1 (by decide)).trans f1
  replace p5 := (fr4 5 (by decide)).trans p5
  replace o10 := (fr4 10 (by decide)).trans o10
  replace hpr := hpr.fr fr4
  replace hpt := hpt.fr fr4
  replace hod := hod.fr fr4
  obtain ⟨cl16, -⟩ := id hcl
  exact hret 33 ls _ _ locs _ dX4_setJams_33 hP hD hS rfl (⟨rfl, ⟨hp, ht, a4, a5, a6, a7, ho, b1, b2, b3, b4, b5, hc, j1, j2, g0, hpr, ⟨Cn, fs, fw, fd, kp, hpt, hkp⟩, ⟨Sn, fx, fo, fg, fb, fe, kn, hod, hkn⟩, hcl⟩, (fr.wd fr4 : fr _ _ 0 18)⟩)
set_option maxHeartbeats 4000000 in
set_option maxRecDepth 100000 in
theorem c_X4_begin_0 {l : Launch} {D : va_G} {ky : kT} {A : Nat → Prop} {Hs : Heap} {ws : va_W} (hP : va_P D CL ws Hs) (hD : va_D A ws) {h n : Nat} {T C Hd : Nat → Nat} {b : Nat} {q : Bool} {J : Nat → Nat} {bg : Bool} {pi bu : Nat} {tm tl : Int32} {K : Nat → Nat} (hap : AP ky ws h n T C Hd b q J bg pi bu tm tl K) (hI : PI0 n C Hd b) (hT : ∀ p, T p < 4) (hn1 : 0 < n) (hf : few C Hd b q T n < 1000) : MU l yX4_begin wsX4_begin 6 136 0 0 D ky A Hs [.ref h] (fun r w => r = nI n ∧ AP ky w h n T C Hd b q J true 0 0 ((nI 0)) ((-1)) ((zro K 8)) ∧ fr ws w 0 18) := by
  refine MU.of (cc := cX4_begin) (maxL := 1) (ty := .int) (by decide) rfl (Nat.le_of_ble_eq_true rfl) ?_
  intro pg en Rm sg mi av below meth co Qo hRf hRl hRc hRs hx hb hml hown hts hK hret ls hl
  have hl : lv_has ls 1 [(0, .ref h)] := hl
  have hS : va_S A Hs Hs [] := va_S.rf
  generalize ([] : List Loc) = locs at hS ⊢
  obtain ⟨hp, ht, a4, a5, a6, a7, ho, b1, b2, b3, b4, b5, hc, j1, j2, g0, hpr, ⟨Cn, fs, fw, fd, kp, hpt, hkp⟩, ⟨Sn, fx, fo, fg, fb, fe, kn, hod, hkn⟩, hcl⟩ := hap
  obtain ⟨a1, a2, a3, f1, -⟩ := id hpr
  obtain ⟨p5, -⟩ := id hpt
  obtain ⟨o10, -⟩ := id hod
  obtain ⟨cl16, -⟩ := id hcl
  have hn8 := hI.1
  have hp2 := p2_le hn8
  have k28 := hts (.fieldLink RX4 28 "AssemblyPlanner" "ordering" "LAssemblyPlanner$Ordering;") (by decide +kernel)
  have hinX4 : ∀ w ∈ wsX40, w ∈ wsX4_begin := by decide +kernel
  have k35 := hts (.fieldLink RX4 35 "AssemblyPlanner" "cell" "LAssemblyPlanner$Cell;") (by decide +kernel)
  have k12 := hts (.fieldLink RX4 12 "AssemblyPlanner" "product" "LAssemblyPlanner$Product;") (by decide +kernel)
  refine lv_aload_n hx hb dX4_begin_0 rfl (lv_at hl 0 rfl) ?_
  refine pvV (c_X4_needParts hP g0 hpr hI hn1) ⟨hx, hb, hml, hown, hts⟩ hK gX4_begin_X4_needParts rfl hd_X4_needParts ⟨by omega, by omega⟩ (va_recv hK hP (ci := 4) (q0 := 0) rfl g0) rfl hl.1 rfl (Nat.le_of_ble_eq_true rfl) dX4_begin_1 ⟨Nat.zero_le _, Nat.zero_le _⟩ hS (fun locs hS => ?_)
  refine lv_aload_n hx hb dX4_begin_4 rfl (lv_at hl 0 rfl) ?_
  refine va_get (ci := 4) (C := RX4) (T := TX4) (N := 4) hx hb hts hinX4 hown hK hP 0 g0 rfl 2 (by decide) k28 (fun _ h9 => h9) rfl dX4_begin_5 ?_
  refine mcV (c_X1_fewestBySets hP hD hod hpr hI hT hkn) ⟨hx, hb, hml, hown, hts⟩ hK gX4_begin_X1_fewestBySets rfl hd_X1_fewestBySets ⟨by omega, by omega⟩ (va_recv hK hP (ci := 1) (q0 := 10) rfl o10) rfl hl.1 rfl (Nat.le_of_ble_eq_true rfl) dX4_begin_8 ⟨Nat.zero_le _, Nat.zero_le _⟩ hS (fun r ws1 H locs hq3 hP hD hS => ?_)
  obtain ⟨rfl, hod, fr2⟩ := hq3
  replace g0 := (fr2 0 (by decide)).trans g0
  replace f1 := (fr2 1 (by decide)).trans f1
  replace p5 := (fr2 5 (by decide)).trans p5
  replace cl16 := (fr2 16 (by decide)).trans cl16
  replace hpr := hpr.fr fr2
  replace hpt := hpt.fr fr2
  replace hcl := hcl.fr fr2
  obtain ⟨Sn1, fx1, fo1, fg1, fb1, fe1, kn1, hod, hkn1⟩ := hod
  obtain ⟨o10, -⟩ := id hod
  refine sv_top (y := nI (few C Hd b q T n)) (by unfold orN; rw [if_neg (by omega)]) ?_
  refine lv_iconst (v := -1) hx hb dX4_begin_11 ci_m1 ?_
  refine lv_icmp_ne (tgt := 25) hx hb dX4_begin_12 (by decide) (fun c4 => ?_) (fun c4 => absurd c4.symm (m1_ne (by omega)))
  refine lv_aload_n hx hb dX4_begin_25 rfl (lv_at hl 0 rfl) ?_
  refine va_get (ci := 4) (C := RX4) (T := TX4) (N := 4) hx hb hts hinX4 hown hK hP 0 g0 rfl 3 (by decide) k35 (fun _ h9 => h9) rfl dX4_begin_26 ?_
  refine mvV (c_X0_start hP hD hcl) ⟨hx, hb, hml, hown, hts⟩ hK gX4_begin_X0_start rfl hd_X0_start ⟨by omega, by omega⟩ (va_recv hK hP (ci := 0) (q0 := 16) rfl cl16) rfl hl.1 rfl (Nat.le_of_ble_eq_true rfl) dX4_begin_29 ⟨Nat.zero_le _, Nat.zero_le _⟩ hS (fun ws5 H locs hq7 hP hD hS => ?_)
  obtain ⟨hcl, fr6⟩ := hq7
  replace g0 := (fr6 0 (by decide)).trans g0
  replace f1 := (fr6 1 (by decide)).trans f1
  replace p5 := (fr6 5 (by decide)).trans p5
  replace o10 := (fr6 10 (by decide)).trans o10
  replace hpr := hpr.fr fr6
  replace hpt := hpt.fr fr6
  replace hod := hod.fr fr6
  obtain ⟨cl16, -⟩ := id hcl
  refine lv_aload_n hx hb dX4_begin_32 rfl (lv_at hl 0 rfl) ?_
  refine va_get (ci := 4) (C := RX4) (T := TX4) (N := 4) hx hb hts hinX4 hown hK hP 0 g0 rfl 0 (by decide) k12 (fun _ h9 => h9) rfl dX4_begin_33 ?_
  refine pcV (c_X3_count hP hpr hI) ⟨hx, hb, hml, hown, hts⟩ hK gX4_begin_X3_count rfl hd_X3_count ⟨by omega, by omega⟩ (va_recv hK hP (ci := 3) (q0 := 1) rfl f1) rfl hl.1 rfl (Nat.le_of_ble_eq_true rfl) dX4_begin_36 ⟨Nat.zero_le _, Nat.zero_le _⟩ hS (fun locs hS => ?_)
  exact hret 39 ls _ _ locs _ dX4_begin_39 hP hD hS rfl (⟨rfl, ⟨hp, ht, a4, a5, a6, a7, ho, b1, b2, b3, b4, b5, hc, j1, j2, g0, hpr, ⟨Cn, fs, fw, fd, kp, hpt, hkp⟩, ⟨Sn1, fx1, fo1, fg1, fb1, fe1, kn1, hod, hkn1⟩, hcl⟩, ((fr.wd fr2 : fr _ _ 0 18).tr fr6)⟩)
set_option maxHeartbeats 4000000 in
set_option maxRecDepth 100000 in
theorem c_X4_step_0j {l : Launch} {D : va_G} {ky : kT} {A : Nat → Prop} {Hs : Heap} {ws : va_W} (hP : va_P D CL ws Hs) (hD : va_D A ws) {h n : Nat} {T C Hd : Nat → Nat} {b : Nat} {q : Bool} {J : Nat → Nat} {bg : Bool} {pi bu : Nat} {tm tl : Int32} {K : Nat → Nat} (hap : AP ky ws h n T C Hd b q J bg pi bu tm tl K) (hI : PI0 n C Hd b) (hT : ∀ p, T p < 4) (hbg : bg = true) (hpi9 : pi < n) (hf : few C Hd b q T n < 1000) (hJ2 : ∀ i, J i < 2 ^ 31) (hK2 : ∀ i, K i < 2 ^ 31) (hj : jm J K (bp C Hd b q T n pi) = true) : MU l yX4_step wsX4_step 6 137 0 0 D ky A Hs [.ref h] (fun r w => r = -1 ∧ AP ky w h n T C Hd b q ((upX J (bp C Hd b q T n pi) (J (bp C Hd b q T n pi) - 1))) bg pi bu ((tmM tm tl (T (bp C Hd b q T n pi)) + nI 3)) ((nI (T (bp C Hd b q T n pi)))) ((upX K (bp C Hd b q T n pi) (K (bp C Hd b q T n pi) + 1))) ∧ fr ws w 0 18) := by
  refine MU.of (cc := cX4_step) (maxL := 2) (ty := .int) (by decide) rfl (Nat.le_of_ble_eq_true rfl) ?_
  intro pg en Rm sg mi av below meth co Qo hRf hRl hRc hRs hx hb hml hown hts hK hret ls hl
  have hl : lv_has ls 2 [(0, .ref h)] := hl
  have hS : va_S A Hs Hs [] := va_S.rf
  generalize ([] : List Loc) = locs at hS ⊢
  obtain ⟨hp, ht, a4, a5, a6, a7, ho, b1, b2, b3, b4, b5, hc, j1, j2, g0, hpr, ⟨Cn, fs, fw, fd, kp, hpt, hkp⟩, ⟨Sn, fx, fo, fg, fb, fe, kn, hod, hkn⟩, hcl⟩ := hap
  obtain ⟨a1, a2, a3, f1, -⟩ := id hpr
  obtain ⟨p5, -⟩ := id hpt
  obtain ⟨o10, -⟩ := id hod
  obtain ⟨cl16, -⟩ := id hcl
  have hn8 := hI.1
  have hp2 := p2_le hn8
  have hb9 := bp_ok hn8 hT hf hpi9
  have k28 := hts (.fieldLink RX4 28 "AssemblyPlanner" "ordering" "LAssemblyPlanner$Ordering;") (by decide +kernel)
  have hinX4 : ∀ w ∈ wsX40, w ∈ wsX4_step := by decide +kernel
  have k35 := hts (.fieldLink RX4 35 "AssemblyPlanner" "cell" "LAssemblyPlanner$Cell;") (by decide +kernel)
  refine lv_aload_n hx hb dX4_step_0 rfl (lv_at hl 0 rfl) ?_
  refine va_get (ci := 4) (C := RX4) (T := TX4) (N := 4) hx hb hts hinX4 hown hK hP 0 g0 rfl 2 (by decide) k28 (fun _ h9 => h9) rfl dX4_step_1 ?_
  refine lv_aload_n hx hb dX4_step_4 rfl (lv_at hl 0 rfl) ?_
  refine va_get (ci := 4) (C := RX4) (T := TX4) (N := 4) hx hb hts hinX4 hown hK hP 0 g0 rfl 3 (by decide) k35 (fun _ h9 => h9) rfl dX4_step_5 ?_
  refine pcV (c_X0_nextPlace hP hcl) ⟨hx, hb, hml, hown, hts⟩ hK gX4_step_X0_nextPlace rfl hd_X0_nextPlace ⟨by omega, by omega⟩ (va_recv hK hP (ci := 0) (q0 := 16) rfl cl16) rfl hl.1 rfl (Nat.le_of_ble_eq_true rfl) dX4_step_8 ⟨Nat.zero_le _, Nat.zero_le _⟩ hS (fun locs hS => ?_)
  refine sv_top (y := nI pi) (if_pos hbg) ?_
  refine mcV (c_X1_bestAt hP hD hod hpr hI hT hkn) ⟨hx, hb, hml, hown, hts⟩ hK gX4_step_X1_bestAt rfl hd_X1_bestAt ⟨by omega, by omega⟩ (va_recv hK hP (ci := 1) (q0 := 10) rfl o10) rfl hl.1 rfl (Nat.le_of_ble_eq_true rfl) dX4_step_11 ⟨Nat.zero_le _, Nat.zero_le _⟩ hS (fun r ws1 H locs hq3 hP hD hS => ?_)
  obtain ⟨rfl, hod, fr2⟩ := hq3
  replace g0 := (fr2 0 (by decide)).trans g0
  replace f1 := (fr2 1 (by decide)).trans f1
  replace p5 := (fr2 5 (by decide)).trans p5
  replace cl16 := (fr2 16 (by decide)).trans cl16
  replace hpr := hpr.fr fr2
  replace hpt := hpt.fr fr2
  replace hcl := hcl.fr fr2
  obtain ⟨Sn1, fx1, fo1, fg1, fb1, fe1, kn1, hod, hkn1⟩ := hod
  obtain ⟨o10, -⟩ := id hod
  refine sv_top (y := nI (bp C Hd b q T n pi)) (by rw [baV_in hpi9 hn8, if_neg (by omega)]) ?_
  refine lv_istore_n (lv' := [(1, .int (nI (bp C Hd b q T n pi))), (0, .ref h)]) hx hb dX4_step_14 rfl hl (by decide) rfl (fun ls hl => ?_)
  refine lv_iload_n hx hb dX4_step_15 rfl (lv_at hl 0 rfl) ?_
  refine lv_iconst (v := -1) hx hb dX4_step_16 ci_m1 ?_
  refine lv_icmp_ne (tgt := 30) hx hb dX4_step_17 (by decide) (fun c4 => ?_) (fun c4 => absurd c4.symm (m1_ne (by omega)))
  refine lv_aload_n hx hb dX4_step_30 rfl (lv_at hl 1 rfl) ?_
  refine va_get (ci := 4) (C := RX4) (T := TX4) (N := 4) hx hb hts hinX4 hown hK hP 0 g0 rfl 3 (by decide) k35 (fun _ h9 => h9) rfl dX4_step_31 ?_
  refine lv_iload_n hx hb dX4_step_34 rfl (lv_at hl 0 rfl) ?_
  refine mcV (c_X0_tryToPutIn hP hD hcl hpr hI (by omega) (hJ2 _) (hK2 _)) ⟨hx, hb, hml, hown, hts⟩ hK gX4_step_X0_tryToPutIn rfl hd_X0_tryToPutIn ⟨by omega, by omega⟩ (va_recv hK hP (ci := 0) (q0 := 16) rfl cl16) rfl hl.1 rfl (Nat.le_of_ble_eq_true rfl) dX4_step_35 ⟨Nat.zero_le _, Nat.zero_le _⟩ hS (fun r ws5 H locs hq7 hP hD hS => ?_)
  obtain ⟨hz, fr6⟩ := hq7
  replace g0 := (fr6 0 (by decide)).trans g0
  replace f1 := (fr6 1 (by decide)).trans f1
  replace p5 := (fr6 5 (by decide)).trans p5
  replace o10 := (fr6 10 (by decide)).trans o10
  replace hpr := hpr.fr fr6
  replace hpt := hpt.fr fr6
  replace hod := hod.fr fr6
  obtain ⟨-, rfl, hcl⟩ := hz.resolve_right (fun z => by rw [hj] at z; cases z.1)
  obtain ⟨cl16, -⟩ := id hcl
  refine sn_if_eq (tgt := 45) hx hb dX4_step_38 (by decide) (by decide) (fun _ => ?_) (fun q => absurd q (by decide))
  refine lv_iconst (v := -1) hx hb dX4_step_45 ci_m1 ?_
  exact hret 46 ls _ _ locs _ dX4_step_46 hP hD hS rfl (⟨rfl, ⟨hp, ht, a4, a5, a6, a7, ho, b1, b2, b3, b4, b5, hc, j1, j2, g0, hpr, ⟨Cn, fs, fw, fd, kp, hpt, hkp⟩, ⟨Sn1, fx1, fo1, fg1, fb1, fe1, kn1, hod, hkn1⟩, hcl⟩, ((fr.wd fr2 : fr _ _ 0 18).tr fr6)⟩)
set_option maxHeartbeats 4000000 in
set_option maxRecDepth 100000 in
theorem c_X4_step_0n {l : Launch} {D : va_G} {ky : kT} {A : Nat → Prop} {Hs : Heap} {ws : va_W} (hP : va_P D CL ws Hs) (hD : va_D A ws) {h n : Nat} {T C Hd : Nat → Nat} {b : Nat} {q : Bool} {J : Nat → Nat} {bg : Bool} {pi bu : Nat} {tm tl : Int32} {K : Nat → Nat} (hap : AP ky ws h n T C Hd b q J bg pi bu tm tl K) (hI : PI0 n C Hd b) (hT : ∀ p, T p < 4) (hbg : bg = true) (hpi9 : pi < n) (hf : few C Hd b q T n < 1000) (hJ2 : ∀ i, J i < 2 ^ 31) (hK2 : ∀ i, K i < 2 ^ 31) (hj : jm J K (bp C Hd b q T n pi) = false) : MU l yX4_step wsX4_step 6 137 0 0 D ky A Hs [.ref h] (fun r w => r = nI (bp C Hd b q T n pi) ∧ AP ky w h n T C Hd b q J bg (pi + 1) (bu ||| 2 ^ (bp C Hd b q T n pi)) ((tmP (tmM tm tl (T (bp C Hd b q T n pi)) + (if 2 ≤ K (bp C Hd b q T n pi) then nI 4 else nI 1)) Hd (bu ||| 2 ^ (bp C Hd b q T n pi)) (bp C Hd b q T n pi))) ((nI (T (bp C Hd b q T n pi)))) K ∧ fr ws w 0 18) := by
  refine MU.of (cc := cX4_step) (maxL := 2) (ty := .int) (by decide) rfl (Nat.le_of_ble_eq_true rfl) ?_
  intro pg en Rm sg mi av below meth co Qo hRf hRl hRc hRs hx hb hml hown hts hK hret ls hl
  have hl : lv_has ls 2 [(0, .ref h)] := hl
  have hS : va_S A Hs Hs [] := va_S.rf
  generalize ([] : List Loc) = locs at hS ⊢
  obtain ⟨hp, ht, a4, a5, a6, a7, ho, b1, b2, b3, b4, b5, hc, j1, j2, g0, hpr, ⟨Cn, fs, fw, fd, kp, hpt, hkp⟩, ⟨Sn, fx, fo, fg, fb, fe, kn, hod, hkn⟩, hcl⟩ := hap
  obtain ⟨a1, a2, a3, f1, -⟩ := id hpr
  obtain ⟨p5, -⟩ := id hpt
  obtain ⟨o10, -⟩ := id hod
  obtain ⟨cl16, -⟩ := id hcl
  have hn8 := hI.1
  have hp2 := p2_le hn8
  have hb9 := bp_ok hn8 hT hf hpi9
  have k28 := hts (.fieldLink RX4 28 "AssemblyPlanner" "ordering" "LAssemblyPlanner$Ordering;") (by decide +kernel)
  have hinX4 : ∀ w ∈ wsX40, w ∈ wsX4_step := by decide +kernel
  have k35 := hts (.fieldLink RX4 35 "AssemblyPlanner" "cell" "LAssemblyPlanner$Cell;") (by decide +kernel)
  refine lv_aload_n hx hb dX4_step_0 rfl (lv_at hl 0 rfl) ?_
  refine va_get (ci := 4) (C := RX4) (T := TX4) (N := 4) hx hb hts hinX4 hown hK hP 0 g0 rfl 2 (by decide) k28 (fun _ h9 => h9) rfl dX4_step_1 ?_
  refine lv_aload_n hx hb dX4_step_4 rfl (lv_at hl 0 rfl) ?_
  refine va_get (ci := 4) (C := RX4) (T := TX4) (N := 4) hx hb hts hinX4 hown hK hP 0 g0 rfl 3 (by decide) k35 (fun _ h9 => h9) rfl dX4_step_5 ?_
  refine pcV (c_X0_nextPlace hP hcl) ⟨hx, hb, hml, hown, hts⟩ hK gX4_step_X0_nextPlace rfl hd_X0_nextPlace ⟨by omega, by omega⟩ (va_recv hK hP (ci := 0) (q0 := 16) rfl cl16) rfl hl.1 rfl (Nat.le_of_ble_eq_true rfl) dX4_step_8 ⟨Nat.zero_le _, Nat.zero_le _⟩ hS (fun locs hS => ?_)
  refine sv_top (y := nI pi) (if_pos hbg) ?_
  refine mcV (c_X1_bestAt hP hD hod hpr hI hT hkn) ⟨hx, hb, hml, hown, hts⟩ hK gX4_step_X1_bestAt rfl hd_X1_bestAt ⟨by omega, by omega⟩ (va_recv hK hP (ci := 1) (q0 := 10) rfl o10) rfl hl.1 rfl (Nat.le_of_ble_eq_true rfl) dX4_step_11 ⟨Nat.zero_le _, Nat.zero_le _⟩ hS (fun r ws1 H locs hq3 hP hD hS => ?_)
  obtain ⟨rfl, hod, fr2⟩ := hq3
  replace g0 := (fr2 0 (by decide)).trans g0
  replace f1 := (fr2 1 (by decide)).trans f1
  replace p5 := (fr2 5 (by decide)).trans p5
  replace cl16 := (fr2 16 (by decide)).trans cl16
  replace hpr := hpr.fr fr2
  replace hpt := hpt.fr fr2
  replace hcl := hcl.fr fr2
  obtain ⟨Sn1, fx1, fo1, fg1, fb1, fe1, kn1, hod, hkn1⟩ := hod
  obtain ⟨o10, -⟩ := id hod
  refine sv_top (y := nI (bp C Hd b q T n pi)) (by rw [baV_in hpi9 hn8, if_neg (by omega)]) ?_
  refine lv_istore_n (lv' := [(1, .int (nI (bp C Hd b q T n pi))), (0, .ref h)]) hx hb dX4_step_14 rfl hl (by decide) rfl (fun ls hl => ?_)
  refine lv_iload_n hx hb dX4_step_15 rfl (lv_at hl 0 rfl) ?_
  refine lv_iconst (v := -1) hx hb dX4_step_16 ci_m1 ?_
  refine lv_icmp_ne (tgt := 30) hx hb dX4_step_17 (by decide) (fun c4 => ?_) (fun c4 => absurd c4.symm (m1_ne (by omega)))
  refine lv_aload_n hx hb dX4_step_30 rfl (lv_at hl 1 rfl) ?_
  refine va_get (ci := 4) (C := RX4) (T := TX4) (N := 4) hx hb hts hinX4 hown hK hP 0 g0 rfl 3 (by decide) k35 (fun _ h9 => h9) rfl dX4_step_31 ?_
  refine lv_iload_n hx hb dX4_step_34 rfl (lv_at hl 0 rfl) ?_
  refine mcV (c_X0_tryToPutIn hP hD hcl hpr hI (by omega) (hJ2 _) (hK2 _)) ⟨hx, hb, hml, hown, hts⟩ hK gX4_step_X0_tryToPutIn rfl hd_X0_tryToPutIn ⟨by omega, by omega⟩ (va_recv hK hP (ci := 0) (q0 := 16) rfl cl16) rfl hl.1 rfl (Nat.le_of_ble_eq_true rfl) dX4_step_35 ⟨Nat.zero_le _, Nat.zero_le _⟩ hS (fun r ws5 H locs hq7 hP hD hS => ?_)
  obtain ⟨hz, fr6⟩ := hq7
  replace g0 := (fr6 0 (by decide)).trans g0
  replace f1 := (fr6 1 (by decide)).trans f1
  replace p5 := (fr6 5 (by decide)).trans p5
  replace o10 := (fr6 10 (by decide)).trans o10
  replace hpr := hpr.fr fr6
  replace hpt := hpt.fr fr6
  replace hod := hod.fr fr6
  obtain ⟨-, rfl, hcl⟩ := hz.resolve_left (fun z => by rw [hj] at z; cases z.1)
  obtain ⟨cl16, -⟩ := id hcl
  refine sn_if_eq (tgt := 45) hx hb dX4_step_38 (by decide) (by decide) (fun q => absurd q (by decide)) (fun _ => ?_)
  refine lv_iload_n hx hb dX4_step_41 rfl (lv_at hl 0 rfl) ?_
  refine lv_goto (tgt := 46) hx hb dX4_step_42 (by decide) ?_
  exact hret 46 ls _ _ locs _ dX4_step_46 hP hD hS rfl (⟨rfl, ⟨hp, ht, a4, a5, a6, a7, ho, b1, b2, b3, b4, b5, hc, j1, j2, g0, hpr, ⟨Cn, fs, fw, fd, kp, hpt, hkp⟩, ⟨Sn1, fx1, fo1, fg1, fb1, fe1, kn1, hod, hkn1⟩, hcl⟩, ((fr.wd fr2 : fr _ _ 0 18).tr fr6)⟩)
set_option maxHeartbeats 4000000 in
set_option maxRecDepth 100000 in
theorem c_X4_stepBack_0 {l : Launch} {D : va_G} {ky : kT} {A : Nat → Prop} {Hs : Heap} {ws : va_W} (hP : va_P D CL ws Hs) (hD : va_D A ws) {h n : Nat} {T C Hd : Nat → Nat} {b : Nat} {q : Bool} {J : Nat → Nat} {bg : Bool} {pi bu : Nat} {tm tl : Int32} {K : Nat → Nat} (hap : AP ky ws h n T C Hd b q J bg pi bu tm tl K) (hI : PI0 n C Hd b) (hT : ∀ p, T p < 4) (hpu : 0 < pi) (hpn : pi ≤ n) (hf : few C Hd b q T n < 1000) : MU l yX4_stepBack wsX4_stepBack 6 137 0 0 D ky A Hs [.ref h] (fun r w => r = nI (bp C Hd b q T n (pi - 1)) ∧ AP ky w h n T C Hd b q J bg (pi - 1) ((clr bu (2 ^ (bp C Hd b q T n (pi - 1))))) ((tm + nI 2)) tl K ∧ fr ws w 0 18) := by
  refine MU.of (cc := cX4_stepBack) (maxL := 2) (ty := .int) (by decide) rfl (Nat.le_of_ble_eq_true rfl) ?_
  intro pg en Rm sg mi av below meth co Qo hRf hRl hRc hRs hx hb hml hown hts hK hret ls hl
  have hl : lv_has ls 2 [(0, .ref h)] := hl
  have hS : va_S A Hs Hs [] := va_S.rf
  generalize ([] : List Loc) = locs at hS ⊢
  obtain ⟨hp, ht, a4, a5, a6, a7, ho, b1, b2, b3, b4, b5, hc, j1, j2, g0, hpr, ⟨Cn, fs, fw, fd, kp, hpt, hkp⟩, ⟨Sn, fx, fo, fg, fb, fe, kn, hod, hkn⟩, hcl⟩ := hap
  obtain ⟨a1, a2, a3, f1, -⟩ := id hpr
  obtain ⟨p5, -⟩ := id hpt
  obtain ⟨o10, -⟩ := id hod
  obtain ⟨cl16, -⟩ := id hcl
  have hn8 := hI.1
  have hp2 := p2_le hn8
  have hpi2 : pi < 2 ^ 31 := by omega
  have hb9 := bp_ok hn8 hT hf (show pi - 1 < n by omega)
  have k28 := hts (.fieldLink RX4 28 "AssemblyPlanner" "ordering" "LAssemblyPlanner$Ordering;") (by decide +kernel)
  have hinX4 : ∀ w ∈ wsX40, w ∈ wsX4_stepBack := by decide +kernel
  have k35 := hts (.fieldLink RX4 35 "AssemblyPlanner" "cell" "LAssemblyPlanner$Cell;") (by decide +kernel)
  refine lv_aload_n hx hb dX4_stepBack_0 rfl (lv_at hl 0 rfl) ?_
  refine va_get (ci := 4) (C := RX4) (T := TX4) (N := 4) hx hb hts hinX4 hown hK hP 0 g0 rfl 2 (by decide) k28 (fun _ h9 => h9) rfl dX4_stepBack_1 ?_
  refine lv_aload_n hx hb dX4_stepBack_4 rfl (lv_at hl 0 rfl) ?_
  refine va_get (ci := 4) (C := RX4) (T := TX4) (N := 4) hx hb hts hinX4 hown hK hP 0 g0 rfl 3 (by decide) k35 (fun _ h9 => h9) rfl dX4_stepBack_5 ?_
  refine pcV (c_X0_lastPlace hP hcl hpi2) ⟨hx, hb, hml, hown, hts⟩ hK gX4_stepBack_X0_lastPlace rfl hd_X0_lastPlace ⟨by omega, by omega⟩ (va_recv hK hP (ci := 0) (q0 := 16) rfl cl16) rfl hl.1 rfl (Nat.le_of_ble_eq_true rfl) dX4_stepBack_8 ⟨Nat.zero_le _, Nat.zero_le _⟩ hS (fun locs hS => ?_)
  refine sv_top (y := nI (pi - 1)) (if_neg (by omega)) ?_
  refine mcV (c_X1_bestAt hP hD hod hpr hI hT hkn) ⟨hx, hb, hml, hown, hts⟩ hK gX4_stepBack_X1_bestAt rfl hd_X1_bestAt ⟨by omega, by omega⟩ (va_recv hK hP (ci := 1) (q0 := 10) rfl o10) rfl hl.1 rfl (Nat.le_of_ble_eq_true rfl) dX4_stepBack_11 ⟨Nat.zero_le _, Nat.zero_le _⟩ hS (fun r ws1 H locs hq3 hP hD hS => ?_)
  obtain ⟨rfl, hod, fr2⟩ := hq3
  replace g0 := (fr2 0 (by decide)).trans g0
  replace f1 := (fr2 1 (by decide)).trans f1
  replace p5 := (fr2 5 (by decide)).trans p5
  replace cl16 := (fr2 16 (by decide)).trans cl16
  replace hpr := hpr.fr fr2
  replace hpt := hpt.fr fr2
  replace hcl := hcl.fr fr2
  obtain ⟨Sn1, fx1, fo1, fg1, fb1, fe1, kn1, hod, hkn1⟩ := hod
  obtain ⟨o10, -⟩ := id hod
  refine sv_top (y := nI (bp C Hd b q T n (pi - 1))) (by rw [baV_in (by omega) hn8, if_neg (by omega)]) ?_
  refine lv_istore_n (lv' := [(1, .int (nI (bp C Hd b q T n (pi - 1)))), (0, .ref h)]) hx hb dX4_stepBack_14 rfl hl (by decide) rfl (fun ls hl => ?_)
  refine lv_iload_n hx hb dX4_stepBack_15 rfl (lv_at hl 0 rfl) ?_
  refine lv_iconst (v := -1) hx hb dX4_stepBack_16 ci_m1 ?_
  refine lv_icmp_ne (tgt := 30) hx hb dX4_stepBack_17 (by decide) (fun c4 => ?_) (fun c4 => absurd c4.symm (m1_ne (by omega)))
  refine lv_aload_n hx hb dX4_stepBack_30 rfl (lv_at hl 1 rfl) ?_
  refine va_get (ci := 4) (C := RX4) (T := TX4) (N := 4) hx hb hts hinX4 hown hK hP 0 g0 rfl 3 (by decide) k35 (fun _ h9 => h9) rfl dX4_stepBack_31 ?_
  refine lv_iload_n hx hb dX4_stepBack_34 rfl (lv_at hl 0 rfl) ?_
  refine mvV (c_X0_takeOut hP hD hcl (by omega) hpu) ⟨hx, hb, hml, hown, hts⟩ hK gX4_stepBack_X0_takeOut rfl hd_X0_takeOut ⟨by omega, by omega⟩ (va_recv hK hP (ci := 0) (q0 := 16) rfl cl16) rfl hl.1 rfl (Nat.le_of_ble_eq_true rfl) dX4_stepBack_35 ⟨Nat.zero_le _, Nat.zero_le _⟩ hS (fun ws5 H locs hq7 hP hD hS => ?_)
  obtain ⟨hcl, fr6⟩ := hq7
  replace g0 := (fr6 0 (by decide)).trans g0
  replace f1 := (fr6 1 (by decide)).trans f1
  replace p5 := (fr6 5 (by decide)).trans p5
  replace o10 := (fr6 10 (by decide)).trans o10
  replace hpr := hpr.fr fr6
  replace hpt := hpt.fr fr6
  replace hod := hod.fr fr6
  obtain ⟨cl16, -⟩ := id hcl
  refine lv_iload_n hx hb dX4_stepBack_38 rfl (lv_at hl 0 rfl) ?_
  exact hret 39 ls _ _ locs _ dX4_stepBack_39 hP hD hS rfl (⟨rfl, ⟨hp, ht, a4, a5, a6, a7, ho, b1, b2, b3, b4, b5, hc, j1, j2, g0, hpr, ⟨Cn, fs, fw, fd, kp, hpt, hkp⟩, ⟨Sn1, fx1, fo1, fg1, fb1, fe1, kn1, hod, hkn1⟩, hcl⟩, ((fr.wd fr2 : fr _ _ 0 18).tr fr6)⟩)
set_option maxHeartbeats 4000000 in
set_option maxRecDepth 100000 in
theorem c_X4_built_0 {l : Launch} {D : va_G} {ky : kT} {A : Nat → Prop} {Hs : Heap} {ws : va_W} (hP : va_P D CL ws Hs) (hD : va_D A ws) {h n : Nat} {T C Hd : Nat → Nat} {b : Nat} {q : Bool} {J : Nat → Nat} {bg : Bool} {pi bu : Nat} {tm tl : Int32} {K : Nat → Nat} (hap : AP ky ws h n T C Hd b q J bg pi bu tm tl K) (hI : PI0 n C Hd b) : MU l yX4_built wsX4_built 1 20 0 0 D ky A Hs [.ref h] (fun r w => r = nI bu ∧ AP ky w h n T C Hd b q J bg pi bu tm tl K ∧ fr ws w 0 18) := by
  refine MU.of (cc := cX4_built) (maxL := 1) (ty := .int) (by decide) rfl (Nat.le_of_ble_eq_true rfl) ?_
  intro pg en Rm sg mi av below meth co Qo hRf hRl hRc hRs hx hb hml hown hts hK hret ls hl
  have hl : lv_has ls 1 [(0, .ref h)] := hl
  have hS : va_S A Hs Hs [] := va_S.rf
  generalize ([] : List Loc) = locs at hS ⊢
  obtain ⟨hp, ht, a4, a5, a6, a7, ho, b1, b2, b3, b4, b5, hc, j1, j2, g0, hpr, ⟨Cn, fs, fw, fd, kp, hpt, hkp⟩, ⟨Sn, fx, fo, fg, fb, fe, kn, hod, hkn⟩, hcl⟩ := hap
  obtain ⟨a1, a2, a3, f1, -⟩ := id hpr
  obtain ⟨p5, -⟩ := id hpt
  obtain ⟨o10, -⟩ := id hod
  obtain ⟨cl16, -⟩ := id hcl
  have hn8 := hI.1
  have hp2 := p2_le hn8
  have k35 := hts (.fieldLink RX4 35 "AssemblyPlanner" "cell" "LAssemblyPlanner$Cell;") (by decide +kernel)
  have hinX4 : ∀ w ∈ wsX40, w ∈ wsX4_built := by decide +kernel
  refine lv_aload_n hx hb dX4_built_0 rfl (lv_at hl 0 rfl) ?_
  refine va_get (ci := 4) (C := RX4) (T := TX4) (N := 4) hx hb hts hinX4 hown hK hP 0 g0 rfl 3 (by decide) k35 (fun _ h9 => h9) rfl dX4_built_1 ?_
  refine pcV (c_X0_partsIn hP hcl) ⟨hx, hb, hml, hown, hts⟩ hK gX4_built_X0_partsIn rfl hd_X0_partsIn ⟨by omega, by omega⟩ (va_recv hK hP (ci := 0) (q0 := 16) rfl cl16) rfl hl.1 rfl (Nat.le_of_ble_eq_true rfl) dX4_built_4 ⟨Nat.zero_le _, Nat.zero_le _⟩ hS (fun locs hS => ?_)
  exact hret 7 ls _ _ locs _ dX4_built_7 hP hD hS rfl (⟨rfl, ⟨hp, ht, a4, a5, a6, a7, ho, b1, b2, b3, b4, b5, hc, j1, j2, g0, hpr, ⟨Cn, fs, fw, fd, kp, hpt, hkp⟩, ⟨Sn, fx, fo, fg, fb, fe, kn, hod, hkn⟩, hcl⟩, fr.rf⟩)
set_option maxHeartbeats 4000000 in
set_option maxRecDepth 100000 in
theorem c_X4_clock_0 {l : Launch} {D : va_G} {ky : kT} {A : Nat → Prop} {Hs : Heap} {ws : va_W} (hP : va_P D CL ws Hs) (hD : va_D A ws) {h n : Nat} {T C Hd : Nat → Nat} {b : Nat} {q : Bool} {J : Nat → Nat} {bg : Bool} {pi bu : Nat} {tm tl : Int32} {K : Nat → Nat} (hap : AP ky ws h n T C Hd b q J bg pi bu tm tl K) (hI : PI0 n C Hd b) : MU l yX4_clock wsX4_clock 1 20 0 0 D ky A Hs [.ref h] (fun r w => r = tm ∧ AP ky w h n T C Hd b q J bg pi bu tm tl K ∧ fr ws w 0 18) := by
  refine MU.of (cc := cX4_clock) (maxL := 1) (ty := .int) (by decide) rfl (Nat.le_of_ble_eq_true rfl) ?_
  intro pg en Rm sg mi av below meth co Qo hRf hRl hRc hRs hx hb hml hown hts hK hret ls hl
  have hl : lv_has ls 1 [(0, .ref h)] := hl
  have hS : va_S A Hs Hs [] := va_S.rf
  generalize ([] : List Loc) = locs at hS ⊢
  obtain ⟨hp, ht, a4, a5, a6, a7, ho, b1, b2, b3, b4, b5, hc, j1, j2, g0, hpr, ⟨Cn, fs, fw, fd, kp, hpt, hkp⟩, ⟨Sn, fx, fo, fg, fb, fe, kn, hod, hkn⟩, hcl⟩ := hap
  obtain ⟨a1, a2, a3, f1, -⟩ := id hpr
  obtain ⟨p5, -⟩ := id hpt
  obtain ⟨o10, -⟩ := id hod
  obtain ⟨cl16, -⟩ := id hcl
  have hn8 := hI.1
  have hp2 := p2_le hn8
  have k35 := hts (.fieldLink RX4 35 "AssemblyPlanner" "cell" "LAssemblyPlanner$Cell;") (by decide +kernel)
  have hinX4 : ∀ w ∈ wsX40, w ∈ wsX4_clock := by decide +kernel
  refine lv_aload_n hx hb dX4_clock_0 rfl (lv_at hl 0 rfl) ?_
  refine va_get (ci := 4) (C := RX4) (T := TX4) (N := 4) hx hb hts hinX4 hown hK hP 0 g0 rfl 3 (by decide) k35 (fun _ h9 => h9) rfl dX4_clock_1 ?_
  refine pcV (c_X0_timeSinceStart hP hcl) ⟨hx, hb, hml, hown, hts⟩ hK gX4_clock_X0_timeSinceStart rfl hd_X0_timeSinceStart ⟨by omega, by omega⟩ (va_recv hK hP (ci := 0) (q0 := 16) rfl cl16) rfl hl.1 rfl (Nat.le_of_ble_eq_true rfl) dX4_clock_4 ⟨Nat.zero_le _, Nat.zero_le _⟩ hS (fun locs hS => ?_)
  exact hret 7 ls _ _ locs _ dX4_clock_7 hP hD hS rfl (⟨rfl, ⟨hp, ht, a4, a5, a6, a7, ho, b1, b2, b3, b4, b5, hc, j1, j2, g0, hpr, ⟨Cn, fs, fw, fd, kp, hpt, hkp⟩, ⟨Sn, fx, fo, fg, fb, fe, kn, hod, hkn⟩, hcl⟩, fr.rf⟩)
set_option maxHeartbeats 4000000 in
set_option maxRecDepth 100000 in
theorem c_X4_mounted_0 {l : Launch} {D : va_G} {ky : kT} {A : Nat → Prop} {Hs : Heap} {ws : va_W} (hP : va_P D CL ws Hs) (hD : va_D A ws) {h n : Nat} {T C Hd : Nat → Nat} {b : Nat} {q : Bool} {J : Nat → Nat} {bg : Bool} {pi bu : Nat} {tm tl : Int32} {K : Nat → Nat} (hap : AP ky ws h n T C Hd b q J bg pi bu tm tl K) (hI : PI0 n C Hd b) : MU l yX4_mounted wsX4_mounted 1 20 0 0 D ky A Hs [.ref h] (fun r w => r = tl ∧ AP ky w h n T C Hd b q J bg pi bu tm tl K ∧ fr ws w 0 18) := by
  refine MU.of (cc := cX4_mounted) (maxL := 1) (ty := .int) (by decide) rfl (Nat.le_of_ble_eq_true rfl) ?_
  intro pg en Rm sg mi av below meth co Qo hRf hRl hRc hRs hx hb hml hown hts hK hret ls hl
  have hl : lv_has ls 1 [(0, .ref h)] := hl
  have hS : va_S A Hs Hs [] := va_S.rf
  generalize ([] : List Loc) = locs at hS ⊢
  obtain ⟨hp, ht, a4, a5, a6, a7, ho, b1, b2, b3, b4, b5, hc, j1, j2, g0, hpr, ⟨Cn, fs, fw, fd, kp, hpt, hkp⟩, ⟨Sn, fx, fo, fg, fb, fe, kn, hod, hkn⟩, hcl⟩ := hap
  obtain ⟨a1, a2, a3, f1, -⟩ := id hpr
  obtain ⟨p5, -⟩ := id hpt
  obtain ⟨o10, -⟩ := id hod
  obtain ⟨cl16, -⟩ := id hcl
  have hn8 := hI.1
  have hp2 := p2_le hn8
  have k35 := hts (.fieldLink RX4 35 "AssemblyPlanner" "cell" "LAssemblyPlanner$Cell;") (by decide +kernel)
  have hinX4 : ∀ w ∈ wsX40, w ∈ wsX4_mounted := by decide +kernel
  refine lv_aload_n hx hb dX4_mounted_0 rfl (lv_at hl 0 rfl) ?_
  refine va_get (ci := 4) (C := RX4) (T := TX4) (N := 4) hx hb hts hinX4 hown hK hP 0 g0 rfl 3 (by decide) k35 (fun _ h9 => h9) rfl dX4_mounted_1 ?_
  refine pcV (c_X0_toolMounted hP hcl) ⟨hx, hb, hml, hown, hts⟩ hK gX4_mounted_X0_toolMounted rfl hd_X0_toolMounted ⟨by omega, by omega⟩ (va_recv hK hP (ci := 0) (q0 := 16) rfl cl16) rfl hl.1 rfl (Nat.le_of_ble_eq_true rfl) dX4_mounted_4 ⟨Nat.zero_le _, Nat.zero_le _⟩ hS (fun locs hS => ?_)
  exact hret 7 ls _ _ locs _ dX4_mounted_7 hP hD hS rfl (⟨rfl, ⟨hp, ht, a4, a5, a6, a7, ho, b1, b2, b3, b4, b5, hc, j1, j2, g0, hpr, ⟨Cn, fs, fw, fd, kp, hpt, hkp⟩, ⟨Sn, fx, fo, fg, fb, fe, kn, hod, hkn⟩, hcl⟩, fr.rf⟩)
set_option maxHeartbeats 4000000 in
set_option maxRecDepth 100000 in
theorem c_X4_isBypassed_0 {l : Launch} {D : va_G} {ky : kT} {A : Nat → Prop} {Hs : Heap} {ws : va_W} (hP : va_P D CL ws Hs) (hD : va_D A ws) {h n : Nat} {T C Hd : Nat → Nat} {b : Nat} {q : Bool} {J : Nat → Nat} {bg : Bool} {pi bu : Nat} {tm tl : Int32} {K : Nat → Nat} (hap : AP ky ws h n T C Hd b q J bg pi bu tm tl K) (hI : PI0 n C Hd b) {pt : Nat} (hp9 : pt < n) (hK2 : ∀ i, K i < 2 ^ 31) : MU l yX4_isBypassed wsX4_isBypassed 2 41 0 0 D ky A Hs [.ref h, .int (nI pt)] (fun r w => r = bI (decide (2 ≤ K pt)) ∧ AP ky w h n T C Hd b q J bg pi bu tm tl K ∧ fr ws w 0 18) := by
  refine MU.of (cc := cX4_isBypassed) (maxL := 2) (ty := .boolean) (by decide) rfl (Nat.le_of_ble_eq_true rfl) ?_
  intro pg en Rm sg mi av below meth co Qo hRf hRl hRc hRs hx hb hml hown hts hK hret ls hl
  have hl : lv_has ls 2 [(0, .ref h), (1, .int (nI pt))] := hl
  have hS : va_S A Hs Hs [] := va_S.rf
  generalize ([] : List Loc) = locs at hS ⊢
  obtain ⟨hp, ht, a4, a5, a6, a7, ho, b1, b2, b3, b4, b5, hc, j1, j2, g0, hpr, ⟨Cn, fs, fw, fd, kp, hpt, hkp⟩, ⟨Sn, fx, fo, fg, fb, fe, kn, hod, hkn⟩, hcl⟩ := hap
  obtain ⟨a1, a2, a3, f1, -⟩ := id hpr
  obtain ⟨p5, -⟩ := id hpt
  obtain ⟨o10, -⟩ := id hod
  obtain ⟨cl16, -⟩ := id hcl
  have hn8 := hI.1
  have hp2 := p2_le hn8
  have k35 := hts (.fieldLink RX4 35 "AssemblyPlanner" "cell" "LAssemblyPlanner$Cell;") (by decide +kernel)
  have hinX4 : ∀ w ∈ wsX40, w ∈ wsX4_isBypassed := by decide +kernel
  refine lv_aload_n hx hb dX4_isBypassed_0 rfl (lv_at hl 0 rfl) ?_
  refine lv_iload_n hx hb dX4_isBypassed_1 rfl (lv_at hl 1 rfl) ?_
  refine pvV (c_X4_needPart hP g0 hpr hI (by omega)) ⟨hx, hb, hml, hown, hts⟩ hK gX4_isBypassed_X4_needPart rfl hd_X4_needPart ⟨by omega, by omega⟩ (va_recv hK hP (ci := 4) (q0 := 0) rfl g0) rfl hl.1 rfl (Nat.le_of_ble_eq_true rfl) dX4_isBypassed_2 ⟨Nat.zero_le _, Nat.zero_le _⟩ hS (fun locs hS => ?_)
  refine lv_aload_n hx hb dX4_isBypassed_5 rfl (lv_at hl 0 rfl) ?_
  refine va_get (ci := 4) (C := RX4) (T := TX4) (N := 4) hx hb hts hinX4 hown hK hP 0 g0 rfl 3 (by decide) k35 (fun _ h9 => h9) rfl dX4_isBypassed_6 ?_
  refine lv_iload_n hx hb dX4_isBypassed_9 rfl (lv_at hl 1 rfl) ?_
  refine pcV (c_X0_bypassed hP hcl (by omega) (hK2 _)) ⟨hx, hb, hml, hown, hts⟩ hK gX4_isBypassed_X0_bypassed rfl hd_X0_bypassed ⟨by omega, by omega⟩ (va_recv hK hP (ci := 0) (q0 := 16) rfl cl16) rfl hl.1 rfl (Nat.le_of_ble_eq_true rfl) dX4_isBypassed_10 ⟨Nat.zero_le _, Nat.zero_le _⟩ hS (fun locs hS => ?_)
  exact hret 13 ls _ _ locs _ dX4_isBypassed_13 hP hD hS (bI_nar _) (⟨rfl, ⟨hp, ht, a4, a5, a6, a7, ho, b1, b2, b3, b4, b5, hc, j1, j2, g0, hpr, ⟨Cn, fs, fw, fd, kp, hpt, hkp⟩, ⟨Sn, fx, fo, fg, fb, fe, kn, hod, hkn⟩, hcl⟩, fr.rf⟩)
