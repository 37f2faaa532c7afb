theorem hd_X2_addSplit : yX2_addSplit.cls = RX2 ∧ yX2_addSplit.cls ≠ "java/lang/invoke/MethodHandle" ∧ yX2_addSplit.cls ≠ "java/lang/invoke/VarHandle" ∧ (parseMethodDescriptor yX2_addSplit.desc).map (fun d => d.parameters.length) = some 3 := by decide +kernel
theorem hd_X2_find : yX2_find.cls = RX2 ∧ yX2_find.cls ≠ "java/lang/invoke/MethodHandle" ∧ yX2_find.cls ≠ "java/lang/invoke/VarHandle" ∧ (parseMethodDescriptor yX2_find.desc).map (fun d => d.parameters.length) = some 0 := by decide +kernel
theorem hd_X2_findFor : yX2_findFor.cls = RX2 ∧ yX2_findFor.cls ≠ "java/lang/invoke/MethodHandle" ∧ yX2_findFor.cls ≠ "java/lang/invoke/VarHandle" ∧ (parseMethodDescriptor yX2_findFor.desc).map (fun d => d.parameters.length) = some 1 := by decide +kernel
theorem hd_X2_isSplit : yX2_isSplit.cls = RX2 ∧ yX2_isSplit.cls ≠ "java/lang/invoke/MethodHandle" ∧ yX2_isSplit.cls ≠ "java/lang/invoke/VarHandle" ∧ (parseMethodDescriptor yX2_isSplit.desc).map (fun d => d.parameters.length) = some 2 := by decide +kernel
theorem hd_X3_separable : yX3_separable.cls = RX3 ∧ yX3_separable.cls ≠ "java/lang/invoke/MethodHandle" ∧ yX3_separable.cls ≠ "java/lang/invoke/VarHandle" ∧ (parseMethodDescriptor yX3_separable.desc).map (fun d => d.parameters.length) = some 2 := by decide +kernel
theorem clr_le {a b : Nat} : clr a b ≤ a := sbs_le (fun k q => by rw [clr_bit, Bool.and_eq_true] at q; exact q.1)
set_option maxHeartbeats 4000000 in
set_option maxRecDepth 100000 in
theorem c_X2_isSplit {l : Launch} {D : va_G} {ky : kT} {Hs : Heap} {ws : va_W} (hP : va_P D CL ws Hs) {h hp a4 a5 a6 a7 : Nat} {Cn : Nat → Bool} {fs fw fd : Nat → Int32} {kn : Bool} (hpt : isPtg ky ws h hp a4 a5 a6 a7 Cn fs fw fd kn) {n : Nat} {T C Hd : Nat → Nat} {b : Nat} {q : Bool} (hpr : isProd ky ws hp n T C Hd b q) (hI : PI0 n C Hd b) {one oth : Nat} (h1 : one < 256) (h2 : oth < 256) : PI l yX2_isSplit wsX2_isSplit 2 47 D ky Hs [.ref h, .int (nI one), .int (nI oth)] (bI (Cn one && (Cn oth && sep Hd n one oth))) := by
  refine PI.of (cc := cX2_isSplit) (maxL := 3) (ty := .boolean) (by decide) rfl (bI_nar _) (Nat.le_of_ble_eq_true rfl) ?_
  intro pg en Rm sg mi av below meth co Qo hRf hRl hx hb hml hown hts hK hret ls hl
  have hl : lv_has ls 3 [(0, .ref h), (1, .int (nI one)), (2, .int (nI oth))] := hl
  have hS : va_S (fun _ => False) Hs Hs [] := va_S.rf
  generalize ([] : List Loc) = locs at hS ⊢
  obtain ⟨p5, p6, p7, p8, p9⟩ := id hpt
  obtain ⟨a1, a2, a3, f1, f2, f3, f4⟩ := id hpr
  have hn8 := hI.1
  have hp2 : 2 ^ n ≤ 256 := p2_le hn8
  have k9 := hts (.fieldLink RX2 9 "AssemblyPlanner$Parting" "connected" "[Z") (by decide +kernel)
  have hinX2 : ∀ w ∈ wsX20, w ∈ wsX2_isSplit := by decide +kernel
  have k25 := hts (.fieldLink RX2 25 "AssemblyPlanner$Parting" "product" "LAssemblyPlanner$Product;") (by decide +kernel)
  refine lv_aload_n hx hb dX2_isSplit_0 rfl (lv_at hl 0 rfl) ?_
  refine va_get (ci := 2) (C := RX2) (T := TX2) (N := 6) hx hb hts hinX2 hown hK hP 5 p5 rfl 1 (by decide) k9 (fun _ h9 => h9) rfl dX2_isSplit_1 ?_
  refine lv_iload_n hx hb dX2_isSplit_4 rfl (lv_at hl 1 rfl) ?_
  refine sv_zald hx hb hK hP 6 p6 (j := one) (by omega) (by decide) dX2_isSplit_5 ?_
  refine W.eq (g2 := F0 mi 6 ls (.int (bI (Cn one)) :: [])) rfl ?_
  refine sb_if_eq (tgt := 34) hx hb dX2_isSplit_6 (by decide) (fun c1 => ?_) (fun c1 => ?_)
  · refine lv_iconst (v := nI 0) hx hb dX2_isSplit_34 ci_0 ?_
    exact hret 35 ls locs _ dX2_isSplit_35 hS (bI_f (by rw [c1]; simp))
  · refine lv_aload_n hx hb dX2_isSplit_9 rfl (lv_at hl 0 rfl) ?_
    refine va_get (ci := 2) (C := RX2) (T := TX2) (N := 6) hx hb hts hinX2 hown hK hP 5 p5 rfl 1 (by decide) k9 (fun _ h9 => h9) rfl dX2_isSplit_10 ?_
    refine lv_iload_n hx hb dX2_isSplit_13 rfl (lv_at hl 2 rfl) ?_
    refine sv_zald hx hb hK hP 6 p6 (j := oth) (by omega) (by decide) dX2_isSplit_14 ?_
    refine W.eq (g2 := F0 mi 15 ls (.int (bI (Cn oth)) :: [])) rfl ?_
    refine sb_if_eq (tgt := 34) hx hb dX2_isSplit_15 (by decide) (fun c2 => ?_) (fun c2 => ?_)
    · refine lv_iconst (v := nI 0) hx hb dX2_isSplit_34 ci_0 ?_
      exact hret 35 ls locs _ dX2_isSplit_35 hS (bI_f (by rw [c2]; simp))
    · refine lv_aload_n hx hb dX2_isSplit_18 rfl (lv_at hl 0 rfl) ?_
      refine va_get (ci := 2) (C := RX2) (T := TX2) (N := 6) hx hb hts hinX2 hown hK hP 5 p5 rfl 0 (by decide) k25 (fun _ h9 => h9) rfl dX2_isSplit_19 ?_
      refine lv_iload_n hx hb dX2_isSplit_22 rfl (lv_at hl 1 rfl) ?_
      refine lv_iload_n hx hb dX2_isSplit_23 rfl (lv_at hl 2 rfl) ?_
      refine pcV (c_X3_separable hP hpr hI (by omega)) ⟨hx, hb, hml, hown, hts⟩ hK gX2_isSplit_X3_separable rfl hd_X3_separable ⟨by omega, by omega⟩ (va_recv hK hP (ci := 3) (q0 := 1) rfl f1) rfl hl.1 rfl (Nat.le_of_ble_eq_true rfl) dX2_isSplit_24 ⟨Nat.zero_le _, Nat.zero_le _⟩ hS (fun locs hS => ?_)
      refine sb_if_eq (tgt := 34) hx hb dX2_isSplit_27 (by decide) (fun c3 => ?_) (fun c3 => ?_)
      · refine lv_iconst (v := nI 0) hx hb dX2_isSplit_34 ci_0 ?_
        exact hret 35 ls locs _ dX2_isSplit_35 hS (bI_f (by rw [c3]; simp))
      · refine lv_iconst (v := nI 1) hx hb dX2_isSplit_30 ci_1 ?_
        refine lv_goto (tgt := 35) hx hb dX2_isSplit_31 (by decide) ?_
        exact hret 35 ls locs _ dX2_isSplit_35 hS (bI_t (by rw [c1, c2, c3]; rfl))
set_option maxHeartbeats 4000000 in
set_option maxRecDepth 100000 in
theorem c_X2_addSplit {l : Launch} {D : va_G} {ky : kT} {A : Nat → Prop} {Hs : Heap} {ws : va_W} (hP : va_P D CL ws Hs) (hD : va_D A ws) {h hp a4 a5 a6 a7 : Nat} {Cn : Nat → Bool} {fs fw fd : Nat → Int32} {kn : Bool} (hpt : isPtg ky ws h hp a4 a5 a6 a7 Cn fs fw fd kn) {S one oth : Nat} (hS9 : S < 256) (h1 : one < 256) (h2 : oth < 256) : MV l yX2_addSplit wsX2_addSplit 1 21 0 0 D ky A Hs [.ref h, .int (nI S), .int (nI one), .int (nI oth)] (fun w => isPtg ky w h hp a4 a5 a6 a7 Cn (upX fs S (fs S + nI 1)) (upX fw S (fw S + fw one * fw oth)) (adF fd S one oth) kn ∧ fr ws w 5 9) := by
  refine MV.of (cc := cX2_addSplit) (maxL := 5) (by decide) rfl (Nat.le_of_ble_eq_true rfl) ?_
  intro pg en Rm sg mi av below meth co Qo hRf hRl hRc hRs hx hb hml hown hin hts hK hret ls hl
  have hl : lv_has ls 5 [(0, .ref h), (1, .int (nI S)), (2, .int (nI one)), (3, .int (nI oth))] := hl
  have hS : va_S A Hs Hs [] := va_S.rf
  generalize ([] : List Loc) = locs at hS ⊢
  obtain ⟨p5, p6, p7, p8, p9⟩ := id hpt
  have k15 := hts (.fieldLink RX2 15 "AssemblyPlanner$Parting" "splits" "[I") (by decide +kernel)
  have hinX2 : ∀ w ∈ wsX20, w ∈ wsX2_addSplit := by decide +kernel
  have k19 := hts (.fieldLink RX2 19 "AssemblyPlanner$Parting" "ways" "[I") (by decide +kernel)
  have k22 := hts (.fieldLink RX2 22 "AssemblyPlanner$Parting" "depths" "[I") (by decide +kernel)
  refine lv_aload_n hx hb dX2_addSplit_0 rfl (lv_at hl 0 rfl) ?_
  refine va_get (ci := 2) (C := RX2) (T := TX2) (N := 6) hx hb hts hinX2 hown hK hP 5 p5 rfl 2 (by decide) k15 (fun _ h9 => h9) rfl dX2_addSplit_1 ?_
  refine lv_iload_n hx hb dX2_addSplit_4 rfl (lv_at hl 1 rfl) ?_
  refine lv_dup2_11 hx hb dX2_addSplit_5 rfl rfl ?_
  refine sv_iald hx hb hK hP 7 p7 (j := S) (by omega) (by decide) dX2_addSplit_6 ?_
  refine W.eq (g2 := F0 mi 7 ls (.int (fs S) :: [.int (nI S), .ref a5])) rfl ?_
  refine lv_iconst (v := nI 1) hx hb dX2_addSplit_7 ci_1 ?_
  refine lv_iadd hx hb dX2_addSplit_8 ?_
  refine sv_iast hx hb hK hP hD hS 7 p7 (j := S) (by omega) (by decide) dX2_addSplit_9 (fun ws2 H locs hP hD hS p7 fr1 => ?_)
  replace p5 := (fr1 5 (by decide)).trans p5
  replace p6 := (fr1 6 (by decide)).trans p6
  replace p8 := (fr1 8 (by decide)).trans p8
  replace p9 := (fr1 9 (by decide)).trans p9
  rw [upd_X] at p7
  refine lv_aload_n hx hb dX2_addSplit_10 rfl (lv_at hl 0 rfl) ?_
  refine va_get (ci := 2) (C := RX2) (T := TX2) (N := 6) hx hb hts hinX2 hown hK hP 5 p5 rfl 3 (by decide) k19 (fun _ h9 => h9) rfl dX2_addSplit_11 ?_
  refine lv_iload_n hx hb dX2_addSplit_14 rfl (lv_at hl 1 rfl) ?_
  refine lv_dup2_11 hx hb dX2_addSplit_15 rfl rfl ?_
  refine sv_iald hx hb hK hP 8 p8 (j := S) (by omega) (by decide) dX2_addSplit_16 ?_
  refine W.eq (g2 := F0 mi 17 ls (.int (fw S) :: [.int (nI S), .ref a6])) rfl ?_
  refine lv_aload_n hx hb dX2_addSplit_17 rfl (lv_at hl 0 rfl) ?_
  refine va_get (ci := 2) (C := RX2) (T := TX2) (N := 6) hx hb hts hinX2 hown hK hP 5 p5 rfl 3 (by decide) k19 (fun _ h9 => h9) rfl dX2_addSplit_18 ?_
  refine lv_iload_n hx hb dX2_addSplit_21 rfl (lv_at hl 2 rfl) ?_
  refine sv_iald hx hb hK hP 8 p8 (j := one) (by omega) (by decide) dX2_addSplit_22 ?_
  refine W.eq (g2 := F0 mi 23 ls (.int (fw one) :: [.int (fw S), .int (nI S), .ref a6])) rfl ?_
  refine lv_aload_n hx hb dX2_addSplit_23 rfl (lv_at hl 0 rfl) ?_
  refine va_get (ci := 2) (C := RX2) (T := TX2) (N := 6) hx hb hts hinX2 hown hK hP 5 p5 rfl 3 (by decide) k19 (fun _ h9 => h9) rfl dX2_addSplit_24 ?_
  refine lv_iload_n hx hb dX2_addSplit_27 rfl (lv_at hl 3 rfl) ?_
  refine sv_iald hx hb hK hP 8 p8 (j := oth) (by omega) (by decide) dX2_addSplit_28 ?_
  refine W.eq (g2 := F0 mi 29 ls (.int (fw oth) :: [.int (fw one), .int (fw S), .int (nI S), .ref a6])) rfl ?_
  refine lv_imul hx hb dX2_addSplit_29 ?_
  refine lv_iadd hx hb dX2_addSplit_30 ?_
  refine sv_iast hx hb hK hP hD hS 8 p8 (j := S) (by omega) (by decide) dX2_addSplit_31 (fun ws4 H locs hP hD hS p8 fr3 => ?_)
  replace p5 := (fr3 5 (by decide)).trans p5
  replace p6 := (fr3 6 (by decide)).trans p6
  replace p7 := (fr3 7 (by decide)).trans p7
  replace p9 := (fr3 9 (by decide)).trans p9
  rw [upd_X] at p8
  refine lv_aload_n hx hb dX2_addSplit_32 rfl (lv_at hl 0 rfl) ?_
  refine va_get (ci := 2) (C := RX2) (T := TX2) (N := 6) hx hb hts hinX2 hown hK hP 5 p5 rfl 4 (by decide) k22 (fun _ h9 => h9) rfl dX2_addSplit_33 ?_
  refine lv_iload_n hx hb dX2_addSplit_36 rfl (lv_at hl 2 rfl) ?_
  refine sv_iald hx hb hK hP 9 p9 (j := one) (by omega) (by decide) dX2_addSplit_37 ?_
  refine W.eq (g2 := F0 mi 38 ls (.int (fd one) :: [])) rfl ?_
  refine lv_iconst (v := -1) hx hb dX2_addSplit_38 ci_m1 ?_
  refine lv_icmp_eq (tgt := 103) hx hb dX2_addSplit_39 (by decide) (fun c5 => ?_) (fun c5 => ?_)
  · exact hret 103 ls _ _ locs dX2_addSplit_103 hP hD hS (by unfold adF; rw [if_pos c5]; exact ⟨⟨p5, p6, p7, p8, p9⟩, ((fr.wd fr1 : fr _ _ 5 9).tr fr3)⟩)
  · refine lv_aload_n hx hb dX2_addSplit_42 rfl (lv_at hl 0 rfl) ?_
    refine va_get (ci := 2) (C := RX2) (T := TX2) (N := 6) hx hb hts hinX2 hown hK hP 5 p5 rfl 4 (by decide) k22 (fun _ h9 => h9) rfl dX2_addSplit_43 ?_
    refine lv_iload_n hx hb dX2_addSplit_46 rfl (lv_at hl 3 rfl) ?_
    refine sv_iald hx hb hK hP 9 p9 (j := oth) (by omega) (by decide) dX2_addSplit_47 ?_
    refine W.eq (g2 := F0 mi 48 ls (.int (fd oth) :: [])) rfl ?_
    refine lv_iconst (v := -1) hx hb dX2_addSplit_48 ci_m1 ?_
    refine lv_icmp_eq (tgt := 103) hx hb dX2_addSplit_49 (by decide) (fun c6 => ?_) (fun c6 => ?_)
    · exact hret 103 ls _ _ locs dX2_addSplit_103 hP hD hS (by unfold adF; rw [if_neg c5, if_pos c6]; exact ⟨⟨p5, p6, p7, p8, p9⟩, ((fr.wd fr1 : fr _ _ 5 9).tr fr3)⟩)
    · refine lv_iconst (v := nI 1) hx hb dX2_addSplit_52 ci_1 ?_
      refine lv_aload_n hx hb dX2_addSplit_53 rfl (lv_at hl 0 rfl) ?_
      refine va_get (ci := 2) (C := RX2) (T := TX2) (N := 6) hx hb hts hinX2 hown hK hP 5 p5 rfl 4 (by decide) k22 (fun _ h9 => h9) rfl dX2_addSplit_54 ?_
      refine lv_iload_n hx hb dX2_addSplit_57 rfl (lv_at hl 2 rfl) ?_
      refine sv_iald hx hb hK hP 9 p9 (j := one) (by omega) (by decide) dX2_addSplit_58 ?_
      refine W.eq (g2 := F0 mi 59 ls (.int (fd one) :: [.int (nI 1)])) rfl ?_
      refine lv_aload_n hx hb dX2_addSplit_59 rfl (lv_at hl 0 rfl) ?_
      refine va_get (ci := 2) (C := RX2) (T := TX2) (N := 6) hx hb hts hinX2 hown hK hP 5 p5 rfl 4 (by decide) k22 (fun _ h9 => h9) rfl dX2_addSplit_60 ?_
      refine lv_iload_n hx hb dX2_addSplit_63 rfl (lv_at hl 3 rfl) ?_
      refine sv_iald hx hb hK hP 9 p9 (j := oth) (by omega) (by decide) dX2_addSplit_64 ?_
      refine W.eq (g2 := F0 mi 65 ls (.int (fd oth) :: [.int (fd one), .int (nI 1)])) rfl ?_
      refine va_mmax hx hb (hml.trans hl.1.symm) hown (hts (.methodLink RX2 60 Lib.Math.max.name) (by decide +kernel)) (hts (.static Lib.Math.max.name) (by decide +kernel)) (hts (.initialized "java/lang/Math") (by decide +kernel)) (hts (.code Lib.Math.max.name Lib.Math.max.code 2 (some .int)) (by decide +kernel)) (by omega) (Nat.le_trans (Nat.le_of_ble_eq_true rfl : _ ≤ 21) (by omega)) (Nat.zero_le _) (Nat.zero_le _) dX2_addSplit_65 ?_
      refine lv_iadd hx hb dX2_addSplit_68 ?_
      refine lv_istore (lv' := [(4, .int ((nI 1) + ((if (fd one) < (fd oth) then (fd oth) else (fd one))))), (0, .ref h), (1, .int (nI S)), (2, .int (nI one)), (3, .int (nI oth))]) hx hb dX2_addSplit_69 hl (by decide) rfl (fun ls hl => ?_)
      refine lv_aload_n hx hb dX2_addSplit_71 rfl (lv_at hl 1 rfl) ?_
      refine va_get (ci := 2) (C := RX2) (T := TX2) (N := 6) hx hb hts hinX2 hown hK hP 5 p5 rfl 4 (by decide) k22 (fun _ h9 => h9) rfl dX2_addSplit_72 ?_
      refine lv_iload_n hx hb dX2_addSplit_75 rfl (lv_at hl 2 rfl) ?_
      refine lv_aload_n hx hb dX2_addSplit_76 rfl (lv_at hl 1 rfl) ?_
      refine va_get (ci := 2) (C := RX2) (T := TX2) (N := 6) hx hb hts hinX2 hown hK hP 5 p5 rfl 4 (by decide) k22 (fun _ h9 => h9) rfl dX2_addSplit_77 ?_
      refine lv_iload_n hx hb dX2_addSplit_80 rfl (lv_at hl 2 rfl) ?_
      refine sv_iald hx hb hK hP 9 p9 (j := S) (by omega) (by decide) dX2_addSplit_81 ?_
      refine W.eq (g2 := F0 mi 82 ls (.int (fd S) :: [.int (nI S), .ref a7])) rfl ?_
      refine lv_iconst (v := -1) hx hb dX2_addSplit_82 ci_m1 ?_
      refine lv_icmp_ne (tgt := 91) hx hb dX2_addSplit_83 (by decide) (fun c7 => ?_) (fun c7 => ?_)
      · refine lv_aload_n hx hb dX2_addSplit_91 rfl (lv_at hl 1 rfl) ?_
        refine va_get (ci := 2) (C := RX2) (T := TX2) (N := 6) hx hb hts hinX2 hown hK hP 5 p5 rfl 4 (by decide) k22 (fun _ h9 => h9) rfl dX2_addSplit_92 ?_
        refine lv_iload_n hx hb dX2_addSplit_95 rfl (lv_at hl 2 rfl) ?_
        refine sv_iald hx hb hK hP 9 p9 (j := S) (by omega) (by decide) dX2_addSplit_96 ?_
        refine W.eq (g2 := F0 mi 97 ls (.int (fd S) :: [.int (nI S), .ref a7])) rfl ?_
        refine lv_iload hx hb dX2_addSplit_97 (lv_at hl 0 rfl) ?_
        refine va_mmin hx hb (hml.trans hl.1.symm) hown (hts (.methodLink RX2 66 Lib.Math.min.name) (by decide +kernel)) (hts (.static Lib.Math.min.name) (by decide +kernel)) (hts (.initialized "java/lang/Math") (by decide +kernel)) (hts (.code Lib.Math.min.name Lib.Math.min.code 2 (some .int)) (by decide +kernel)) (by omega) (Nat.le_trans (Nat.le_of_ble_eq_true rfl : _ ≤ 21) (by omega)) (Nat.zero_le _) (Nat.zero_le _) dX2_addSplit_99 ?_
        refine sv_iast hx hb hK hP hD hS 9 p9 (j := S) (by omega) (by decide) dX2_addSplit_102 (fun ws9 H locs hP hD hS p9 fr8 => ?_)
        replace p5 := (fr8 5 (by decide)).trans p5
        replace p6 := (fr8 6 (by decide)).trans p6
        replace p7 := (fr8 7 (by decide)).trans p7
        replace p8 := (fr8 8 (by decide)).trans p8
        rw [upd_X] at p9
        exact hret 103 ls _ _ locs dX2_addSplit_103 hP hD hS (by unfold adF; rw [if_neg c5, if_neg c6, if_neg c7]; exact ⟨⟨p5, p6, p7, p8, p9⟩, (((fr.wd fr1 : fr _ _ 5 9).tr fr3).tr fr8)⟩)
      · refine lv_iload hx hb dX2_addSplit_86 (lv_at hl 0 rfl) ?_
        refine lv_goto (tgt := 102) hx hb dX2_addSplit_88 (by decide) ?_
        refine sv_iast hx hb hK hP hD hS 9 p9 (j := S) (by omega) (by decide) dX2_addSplit_102 (fun ws11 H locs hP hD hS p9 fr10 => ?_)
        replace p5 := (fr10 5 (by decide)).trans p5
        replace p6 := (fr10 6 (by decide)).trans p6
        replace p7 := (fr10 7 (by decide)).trans p7
        replace p8 := (fr10 8 (by decide)).trans p8
        rw [upd_X] at p9
        exact hret 103 ls _ _ locs dX2_addSplit_103 hP hD hS (by unfold adF; rw [if_neg c5, if_neg c6, if_pos c7]; exact ⟨⟨p5, p6, p7, p8, p9⟩, (((fr.wd fr1 : fr _ _ 5 9).tr fr3).tr fr10)⟩)
set_option maxHeartbeats 4000000 in
set_option maxRecDepth 100000 in
theorem c_X2_findFor {l : Launch} {D : va_G} {ky : kT} {A : Nat → Prop} {Hs : Heap} {ws : va_W} (hP : va_P D CL ws Hs) (hD : va_D A ws) {h hp a4 a5 a6 a7 : Nat} {Cn : Nat → Bool} {fs fw fd : Nat → Int32} {kn : Bool} (hpt : isPtg ky ws h hp a4 a5 a6 a7 Cn fs fw fd kn) {n : Nat} {T C Hd : Nat → Nat} {b : Nat} {q : Bool} (hpr : isProd ky ws hp n T C Hd b q) (hI : PI0 n C Hd b) {S : Nat} (hS1 : 0 < S) (hS2 : S < 2 ^ n) (hok : ptOK C Hd n S Cn fs fw fd) (hcn : Cn S = conn C S) : MV l yX2_findFor wsX2_findFor 3 69 0 0 D ky A Hs [.ref h, .int (nI S)] (fun w => (∃ gs gw gd : Nat → Int32, isPtg ky w h hp a4 a5 a6 a7 Cn gs gw gd kn ∧ ptOK C Hd n (S + 1) Cn gs gw gd) ∧ fr ws w 5 9) := by
  refine MV.of (cc := cX2_findFor) (maxL := 4) (by decide) rfl (Nat.le_of_ble_eq_true rfl) ?_
  intro pg en Rm sg mi av below meth co Qo hRf hRl hRc hRs hx hb hml hown hin hts hK hret ls hl
  have hl : lv_has ls 4 [(0, .ref h), (1, .int (nI S))] := hl
  have hS : va_S A Hs Hs [] := va_S.rf
  generalize ([] : List Loc) = locs at hS ⊢
  obtain ⟨p5, p6, p7, p8, p9⟩ := id hpt
  obtain ⟨a1, a2, a3, f1, f2, f3, f4⟩ := id hpr
  have hn8 := hI.1
  have hp2 : 2 ^ n ≤ 256 := p2_le hn8
  have hS8 : S < 256 := Nat.lt_of_lt_of_le hS2 hp2
  have hm1 := and_pred_lt hS1
  have k15 := hts (.fieldLink RX2 15 "AssemblyPlanner$Parting" "splits" "[I") (by decide +kernel)
  have hinX2 : ∀ w ∈ wsX20, w ∈ wsX2_findFor := by decide +kernel
  have k19 := hts (.fieldLink RX2 19 "AssemblyPlanner$Parting" "ways" "[I") (by decide +kernel)
  have k22 := hts (.fieldLink RX2 22 "AssemblyPlanner$Parting" "depths" "[I") (by decide +kernel)
  have k9 := hts (.fieldLink RX2 9 "AssemblyPlanner$Parting" "connected" "[Z") (by decide +kernel)
  refine lv_aload_n hx hb dX2_findFor_0 rfl (lv_at hl 0 rfl) ?_
  refine va_get (ci := 2) (C := RX2) (T := TX2) (N := 6) hx hb hts hinX2 hown hK hP 5 p5 rfl 2 (by decide) k15 (fun _ h9 => h9) rfl dX2_findFor_1 ?_
  refine lv_iload_n hx hb dX2_findFor_4 rfl (lv_at hl 1 rfl) ?_
  refine lv_iconst (v := nI 0) hx hb dX2_findFor_5 ci_0 ?_
  refine sv_iast hx hb hK hP hD hS 7 p7 (j := S) (by omega) (by decide) dX2_findFor_6 (fun ws2 H locs hP hD hS p7 fr1 => ?_)
  replace p5 := (fr1 5 (by decide)).trans p5
  replace p6 := (fr1 6 (by decide)).trans p6
  replace p8 := (fr1 8 (by decide)).trans p8
  replace p9 := (fr1 9 (by decide)).trans p9
  replace f1 := (fr1 1 (by decide)).trans f1
  replace f2 := (fr1 2 (by decide)).trans f2
  replace f3 := (fr1 3 (by decide)).trans f3
  replace f4 := (fr1 4 (by decide)).trans f4
  replace hpr := hpr.fr fr1
  rw [upd_X] at p7
  refine lv_aload_n hx hb dX2_findFor_7 rfl (lv_at hl 0 rfl) ?_
  refine va_get (ci := 2) (C := RX2) (T := TX2) (N := 6) hx hb hts hinX2 hown hK hP 5 p5 rfl 3 (by decide) k19 (fun _ h9 => h9) rfl dX2_findFor_8 ?_
  refine lv_iload_n hx hb dX2_findFor_11 rfl (lv_at hl 1 rfl) ?_
  refine lv_iconst (v := nI 0) hx hb dX2_findFor_12 ci_0 ?_
  refine sv_iast hx hb hK hP hD hS 8 p8 (j := S) (by omega) (by decide) dX2_findFor_13 (fun ws4 H locs hP hD hS p8 fr3 => ?_)
  replace p5 := (fr3 5 (by decide)).trans p5
  replace p6 := (fr3 6 (by decide)).trans p6
  replace p7 := (fr3 7 (by decide)).trans p7
  replace p9 := (fr3 9 (by decide)).trans p9
  replace f1 := (fr3 1 (by decide)).trans f1
  replace f2 := (fr3 2 (by decide)).trans f2
  replace f3 := (fr3 3 (by decide)).trans f3
  replace f4 := (fr3 4 (by decide)).trans f4
  replace hpr := hpr.fr fr3
  rw [upd_X] at p8
  refine lv_aload_n hx hb dX2_findFor_14 rfl (lv_at hl 0 rfl) ?_
  refine va_get (ci := 2) (C := RX2) (T := TX2) (N := 6) hx hb hts hinX2 hown hK hP 5 p5 rfl 4 (by decide) k22 (fun _ h9 => h9) rfl dX2_findFor_15 ?_
  refine lv_iload_n hx hb dX2_findFor_18 rfl (lv_at hl 1 rfl) ?_
  refine lv_iconst (v := -1) hx hb dX2_findFor_19 ci_m1 ?_
  refine sv_iast hx hb hK hP hD hS 9 p9 (j := S) (by omega) (by decide) dX2_findFor_20 (fun ws6 H locs hP hD hS p9 fr5 => ?_)
  replace p5 := (fr5 5 (by decide)).trans p5
  replace p6 := (fr5 6 (by decide)).trans p6
  replace p7 := (fr5 7 (by decide)).trans p7
  replace p8 := (fr5 8 (by decide)).trans p8
  replace f1 := (fr5 1 (by decide)).trans f1
  replace f2 := (fr5 2 (by decide)).trans f2
  replace f3 := (fr5 3 (by decide)).trans f3
  replace f4 := (fr5 4 (by decide)).trans f4
  replace hpr := hpr.fr fr5
  rw [upd_X] at p9
  refine lv_aload_n hx hb dX2_findFor_21 rfl (lv_at hl 0 rfl) ?_
  refine va_get (ci := 2) (C := RX2) (T := TX2) (N := 6) hx hb hts hinX2 hown hK hP 5 p5 rfl 1 (by decide) k9 (fun _ h9 => h9) rfl dX2_findFor_22 ?_
  refine lv_iload_n hx hb dX2_findFor_25 rfl (lv_at hl 1 rfl) ?_
  refine sv_zald hx hb hK hP 6 p6 (j := S) (by omega) (by decide) dX2_findFor_26 ?_
  refine W.eq (g2 := F0 mi 27 ls (.int (bI (Cn S)) :: [])) rfl ?_
  refine sb_if_ne (tgt := 31) hx hb dX2_findFor_27 (by decide) (fun c7 => ?_) (fun c7 => ?_)
  · have hct := c7
    refine lv_iload_n hx hb dX2_findFor_31 rfl (lv_at hl 1 rfl) ?_
    refine lv_iload_n hx hb dX2_findFor_32 rfl (lv_at hl 1 rfl) ?_
    refine lv_iconst (v := nI 1) hx hb dX2_findFor_33 ci_1 ?_
    refine lv_isub hx hb dX2_findFor_34 ?_
    refine sv_top (y := nI (S - 1)) (pk_sub (by omega)) ?_
    refine lv_iand hx hb dX2_findFor_35 ?_
    refine sv_top (y := nI (S &&& (S - 1))) (an_and _ _) ?_
    obtain ⟨mv, hmv⟩ : ∃ z : Nat, z = S &&& (S - 1) := ⟨_, rfl⟩
    refine sv_top (y := nI mv) (by rw [hmv]) ?_
    refine lv_istore_n (lv' := [(2, .int (nI mv)), (0, .ref h), (1, .int (nI S))]) hx hb dX2_findFor_36 rfl hl (by decide) rfl (fun ls hl => ?_)
    refine lv_iload_n hx hb dX2_findFor_37 rfl (lv_at hl 0 rfl) ?_
    refine sn_if_ne (tgt := 55) hx hb dX2_findFor_38 (by decide) (by omega) (fun c8 => ?_) (fun c8 => ?_)
    · refine lv_iload_n hx hb dX2_findFor_55 rfl (lv_at hl 0 rfl) ?_
      refine lv_istore_n (lv' := [(3, .int (nI mv)), (2, .int (nI mv)), (0, .ref h), (1, .int (nI S))]) hx hb dX2_findFor_56 rfl hl (by decide) rfl (fun ls hl => ?_)
      have L57 : ∀ (L57d : Nat) (o : Nat) (gs : Nat → Int32) (gw : Nat → Int32) (gd : Nat → Int32), o < L57d → ∀ (wl57 : va_W) (H : Heap), o ≤ mv → ptOK C Hd n S Cn gs gw gd → ffI C Hd n S (S - o - 1) gs gw gd → va_P D CL wl57 H → va_D A wl57 → wl57[5]? = some (h, .inr (2, [.ref hp, .ref a4, .ref a5, .ref a6, .ref a7, .int (bI kn)])) → wl57[6]? = some (a4, .inl (ky.2.1, 256, .inl (fun i => bI (Cn i)))) → wl57[7]? = some (a5, .inl (ky.1, 256, .inl gs)) → wl57[8]? = some (a6, .inl (ky.1, 256, .inl gw)) → wl57[9]? = some (a7, .inl (ky.1, 256, .inl gd)) → wl57[1]? = some (hp, .inr (3, [.ref a1, .ref a2, .ref a3, .int (nI n), .int (nI b), .int (bI q)])) → wl57[2]? = some (a1, .inl (ky.1, 8, .inl (fun i => nI (T i)))) → wl57[3]? = some (a2, .inl (ky.1, 8, .inl (fun i => nI (C i)))) → wl57[4]? = some (a3, .inl (ky.1, 48, .inl (fun i => nI (Hd i)))) → isProd ky wl57 hp n T C Hd b q → fr ws wl57 5 9 → ∀ (ls : Array Slot) (locs : List Loc), lv_has ls 4 [(3, .int (nI o)), (2, .int (nI mv)), (0, .ref h), (1, .int (nI S))] → va_S A Hs H locs → W pg l en Rm sg mi av below meth co H locs 0 0 Qo (F0 mi 57 ls []) := by
        intro L57d
        induction L57d with
        | zero => intro o gs gw gd hfu; exact absurd hfu (Nat.not_lt_zero _)
        | succ L57d ih57 =>
          intro o gs gw gd hfu wl57 H i57_0 i57_1 i57_2 hP hD p5 p6 p7 p8 p9 f1 f2 f3 f4 hpr frwl57 ls locs hl hS
          refine lv_iload_n hx hb dX2_findFor_57 rfl (lv_at hl 0 rfl) ?_
          refine sn_if_le (tgt := 95) hx hb dX2_findFor_58 (by decide) (by omega) (fun c9 => ?_) (fun c9 => ?_)
          · exact hret 95 ls _ _ locs dX2_findFor_95 hP hD hS (⟨⟨gs, gw, gd, ⟨p5, p6, p7, p8, p9⟩, ptOK_up i57_1 hcn (ffI_end hS8 (hcn ▸ hct) (by rw [c9] at i57_2; exact i57_2))⟩, (fr.wd frwl57 : fr _ _ 5 9)⟩)
          · have hxo : S ^^^ o < 256 := Nat.xor_lt_two_pow (n := 8) hS8 (by omega)
            refine lv_iload_n hx hb dX2_findFor_61 rfl (lv_at hl 0 rfl) ?_
            refine lv_iload_n hx hb dX2_findFor_62 rfl (lv_at hl 1 rfl) ?_
            refine lv_iconst (v := -1) hx hb dX2_findFor_63 ci_m1 ?_
            refine lv_ixor hx hb dX2_findFor_64 ?_
            refine lv_iand hx hb dX2_findFor_65 ?_
            refine sv_top (y := nI (clr o mv)) (an_not _ _) ?_
            refine sn_if_ne (tgt := 89) hx hb dX2_findFor_66 (by decide) (Nat.lt_of_le_of_lt clr_le (by omega)) (fun c10 => ?_) (fun c10 => ?_)
            · refine lv_iinc (v := nI (o - 1)) (lv' := [(3, .int (nI (o - 1))), (2, .int (nI mv)), (0, .ref h), (1, .int (nI S))]) hx hb dX2_findFor_89 hl (k := 0) rfl (nI_pd (by omega)) (by decide) rfl (fun ls hl => ?_)
              refine lv_goto (tgt := 57) hx hb dX2_findFor_92 (by decide) ?_
              exact ih57 (o - 1) gs gw gd (by omega) _ _ (by omega) i57_1 (by subst hmv; exact ffJ_no i57_2 i57_1 hS8 c9 i57_0 (and_pred_lt hS1) (Or.inl c10)) hP hD p5 p6 p7 p8 p9 f1 f2 f3 f4 hpr (fr.wd frwl57 : fr _ _ 5 9) ls locs (lv_sub hl [0, 1, 2, 3] rfl) hS
            · refine lv_aload_n hx hb dX2_findFor_69 rfl (lv_at hl 2 rfl) ?_
              refine lv_iload_n hx hb dX2_findFor_70 rfl (lv_at hl 3 rfl) ?_
              refine lv_iload_n hx hb dX2_findFor_71 rfl (lv_at hl 0 rfl) ?_
              refine lv_ixor hx hb dX2_findFor_72 ?_
              refine sv_top (y := nI (S ^^^ o)) (an_xor _ _) ?_
              refine lv_iload_n hx hb dX2_findFor_73 rfl (lv_at hl 0 rfl) ?_
              refine pcV (c_X2_isSplit hP ⟨p5, p6, p7, p8, p9⟩ hpr hI hxo (by omega)) ⟨hx, hb, hml, hown, hts⟩ hK gX2_findFor_X2_isSplit rfl hd_X2_isSplit ⟨by omega, by omega⟩ (va_recv hK hP (ci := 2) (q0 := 5) rfl p5) rfl hl.1 rfl (Nat.le_of_ble_eq_true rfl) dX2_findFor_74 ⟨Nat.zero_le _, Nat.zero_le _⟩ hS (fun locs hS => ?_)
              refine sb_if_eq (tgt := 89) hx hb dX2_findFor_77 (by decide) (fun c11 => ?_) (fun c11 => ?_)
              · refine lv_iinc (v := nI (o - 1)) (lv' := [(3, .int (nI (o - 1))), (2, .int (nI mv)), (0, .ref h), (1, .int (nI S))]) hx hb dX2_findFor_89 hl (k := 0) rfl (nI_pd (by omega)) (by decide) rfl (fun ls hl => ?_)
                refine lv_goto (tgt := 57) hx hb dX2_findFor_92 (by decide) ?_
                exact ih57 (o - 1) gs gw gd (by omega) _ _ (by omega) i57_1 (by subst hmv; exact ffJ_no i57_2 i57_1 hS8 c9 i57_0 (and_pred_lt hS1) (Or.inr c11)) hP hD p5 p6 p7 p8 p9 f1 f2 f3 f4 hpr (fr.wd frwl57 : fr _ _ 5 9) ls locs (lv_sub hl [0, 1, 2, 3] rfl) hS
              · refine lv_aload_n hx hb dX2_findFor_80 rfl (lv_at hl 2 rfl) ?_
                refine lv_iload_n hx hb dX2_findFor_81 rfl (lv_at hl 3 rfl) ?_
                refine lv_iload_n hx hb dX2_findFor_82 rfl (lv_at hl 3 rfl) ?_
                refine lv_iload_n hx hb dX2_findFor_83 rfl (lv_at hl 0 rfl) ?_
                refine lv_ixor hx hb dX2_findFor_84 ?_
                refine sv_top (y := nI (S ^^^ o)) (an_xor _ _) ?_
                refine lv_iload_n hx hb dX2_findFor_85 rfl (lv_at hl 0 rfl) ?_
                refine mvV (c_X2_addSplit hP hD ⟨p5, p6, p7, p8, p9⟩ (by omega) hxo (by omega)) ⟨hx, hb, hml, hown, hts⟩ hK gX2_findFor_X2_addSplit rfl hd_X2_addSplit ⟨by omega, by omega⟩ (va_recv hK hP (ci := 2) (q0 := 5) rfl p5) rfl hl.1 rfl (Nat.le_of_ble_eq_true rfl) dX2_findFor_86 ⟨Nat.zero_le _, Nat.zero_le _⟩ hS (fun ws12 H locs hq14 hP hD hS => ?_)
                obtain ⟨hpt, fr13⟩ := hq14
                replace f1 := (fr13 1 (by decide)).trans f1
                replace f2 := (fr13 2 (by decide)).trans f2
                replace f3 := (fr13 3 (by decide)).trans f3
                replace f4 := (fr13 4 (by decide)).trans f4
                replace hpr := hpr.fr fr13
                obtain ⟨p5, p6, p7, p8, p9⟩ := hpt
                refine lv_iinc (v := nI (o - 1)) (lv' := [(3, .int (nI (o - 1))), (2, .int (nI mv)), (0, .ref h), (1, .int (nI S))]) hx hb dX2_findFor_89 hl (k := 0) rfl (nI_pd (by omega)) (by decide) rfl (fun ls hl => ?_)
                refine lv_goto (tgt := 57) hx hb dX2_findFor_92 (by decide) ?_
                exact ih57 (o - 1) ((upX gs S (gs S + nI 1))) ((upX gw S (gw S + gw (S ^^^ o) * gw o))) ((adF gd S (S ^^^ o) o)) (by omega) _ _ (by omega) (ptOK_ad i57_1) (by subst hmv; exact ffJ_yes i57_2 i57_1 hS8 c9 i57_0 (and_pred_lt hS1) c10 c11) hP hD p5 p6 p7 p8 p9 f1 f2 f3 f4 hpr ((fr.wd frwl57 : fr _ _ 5 9).tr fr13) ls locs (lv_sub hl [0, 1, 2, 3] rfl) hS
      exact L57 (mv + 1) mv ((upX fs S (nI 0))) ((upX fw S (nI 0))) ((upX fd S (-1))) (Nat.lt_succ_self _) _ _ (Nat.le_refl _) (ptOK_u3 hok) (ff_s hS8 hS1 hmv c8) hP hD p5 p6 p7 p8 p9 f1 f2 f3 f4 hpr (((fr.wd fr1 : fr _ _ 5 9).tr fr3).tr fr5) ls locs (lv_sub hl [0, 1, 2, 3] rfl) hS
    · refine lv_aload_n hx hb dX2_findFor_41 rfl (lv_at hl 1 rfl) ?_
      refine va_get (ci := 2) (C := RX2) (T := TX2) (N := 6) hx hb hts hinX2 hown hK hP 5 p5 rfl 3 (by decide) k19 (fun _ h9 => h9) rfl dX2_findFor_42 ?_
      refine lv_iload_n hx hb dX2_findFor_45 rfl (lv_at hl 2 rfl) ?_
      refine lv_iconst (v := nI 1) hx hb dX2_findFor_46 ci_1 ?_
      refine sv_iast hx hb hK hP hD hS 8 p8 (j := S) (by omega) (by decide) dX2_findFor_47 (fun ws16 H locs hP hD hS p8 fr15 => ?_)
      replace p5 := (fr15 5 (by decide)).trans p5
      replace p6 := (fr15 6 (by decide)).trans p6
      replace p7 := (fr15 7 (by decide)).trans p7
      replace p9 := (fr15 9 (by decide)).trans p9
      replace f1 := (fr15 1 (by decide)).trans f1
      replace f2 := (fr15 2 (by decide)).trans f2
      replace f3 := (fr15 3 (by decide)).trans f3
      replace f4 := (fr15 4 (by decide)).trans f4
      replace hpr := hpr.fr fr15
      rw [upd_X] at p8
      refine lv_aload_n hx hb dX2_findFor_48 rfl (lv_at hl 1 rfl) ?_
      refine va_get (ci := 2) (C := RX2) (T := TX2) (N := 6) hx hb hts hinX2 hown hK hP 5 p5 rfl 4 (by decide) k22 (fun _ h9 => h9) rfl dX2_findFor_49 ?_
      refine lv_iload_n hx hb dX2_findFor_52 rfl (lv_at hl 2 rfl) ?_
      refine lv_iconst (v := nI 0) hx hb dX2_findFor_53 ci_0 ?_
      refine sv_iast hx hb hK hP hD hS 9 p9 (j := S) (by omega) (by decide) dX2_findFor_54 (fun ws18 H locs hP hD hS p9 fr17 => ?_)
      replace p5 := (fr17 5 (by decide)).trans p5
      replace p6 := (fr17 6 (by decide)).trans p6
      replace p7 := (fr17 7 (by decide)).trans p7
      replace p8 := (fr17 8 (by decide)).trans p8
      replace f1 := (fr17 1 (by decide)).trans f1
      replace f2 := (fr17 2 (by decide)).trans f2
      replace f3 := (fr17 3 (by decide)).trans f3
      replace f4 := (fr17 4 (by decide)).trans f4
      replace hpr := hpr.fr fr17
      rw [upd_X] at p9
      refine lv_iload_n hx hb dX2_findFor_55 rfl (lv_at hl 0 rfl) ?_
      refine lv_istore_n (lv' := [(3, .int (nI mv)), (2, .int (nI mv)), (0, .ref h), (1, .int (nI S))]) hx hb dX2_findFor_56 rfl hl (by decide) rfl (fun ls hl => ?_)
      have L57 : ∀ (L57d : Nat) (o : Nat) (gs : Nat → Int32) (gw : Nat → Int32) (gd : Nat → Int32), o < L57d → ∀ (wl57 : va_W) (H : Heap), o ≤ mv → ptOK C Hd n S Cn gs gw gd → ffI C Hd n S (S - o - 1) gs gw gd → va_P D CL wl57 H → va_D A wl57 → wl57[5]? = some (h, .inr (2, [.ref hp, .ref a4, .ref a5, .ref a6, .ref a7, .int (bI kn)])) → wl57[6]? = some (a4, .inl (ky.2.1, 256, .inl (fun i => bI (Cn i)))) → wl57[7]? = some (a5, .inl (ky.1, 256, .inl gs)) → wl57[8]? = some (a6, .inl (ky.1, 256, .inl gw)) → wl57[9]? = some (a7, .inl (ky.1, 256, .inl gd)) → wl57[1]? = some (hp, .inr (3, [.ref a1, .ref a2, .ref a3, .int (nI n), .int (nI b), .int (bI q)])) → wl57[2]? = some (a1, .inl (ky.1, 8, .inl (fun i => nI (T i)))) → wl57[3]? = some (a2, .inl (ky.1, 8, .inl (fun i => nI (C i)))) → wl57[4]? = some (a3, .inl (ky.1, 48, .inl (fun i => nI (Hd i)))) → isProd ky wl57 hp n T C Hd b q → fr ws wl57 5 9 → ∀ (ls : Array Slot) (locs : List Loc), lv_has ls 4 [(3, .int (nI o)), (2, .int (nI mv)), (0, .ref h), (1, .int (nI S))] → va_S A Hs H locs → W pg l en Rm sg mi av below meth co H locs 0 0 Qo (F0 mi 57 ls []) := by
        intro L57d
        induction L57d with
        | zero => intro o gs gw gd hfu; exact absurd hfu (Nat.not_lt_zero _)
        | succ L57d ih57 =>
          intro o gs gw gd hfu wl57 H i57_0 i57_1 i57_2 hP hD p5 p6 p7 p8 p9 f1 f2 f3 f4 hpr frwl57 ls locs hl hS
          refine lv_iload_n hx hb dX2_findFor_57 rfl (lv_at hl 0 rfl) ?_
          refine sn_if_le (tgt := 95) hx hb dX2_findFor_58 (by decide) (by omega) (fun c19 => ?_) (fun c19 => ?_)
          · exact hret 95 ls _ _ locs dX2_findFor_95 hP hD hS (⟨⟨gs, gw, gd, ⟨p5, p6, p7, p8, p9⟩, ptOK_up i57_1 hcn (ffI_end hS8 (hcn ▸ hct) (by rw [c19] at i57_2; exact i57_2))⟩, (fr.wd frwl57 : fr _ _ 5 9)⟩)
          · have hxo : S ^^^ o < 256 := Nat.xor_lt_two_pow (n := 8) hS8 (by omega)
            refine lv_iload_n hx hb dX2_findFor_61 rfl (lv_at hl 0 rfl) ?_
            refine lv_iload_n hx hb dX2_findFor_62 rfl (lv_at hl 1 rfl) ?_
            refine lv_iconst (v := -1) hx hb dX2_findFor_63 ci_m1 ?_
            refine lv_ixor hx hb dX2_findFor_64 ?_
            refine lv_iand hx hb dX2_findFor_65 ?_
            refine sv_top (y := nI (clr o mv)) (an_not _ _) ?_
            refine sn_if_ne (tgt := 89) hx hb dX2_findFor_66 (by decide) (Nat.lt_of_le_of_lt clr_le (by omega)) (fun c20 => ?_) (fun c20 => ?_)
            · refine lv_iinc (v := nI (o - 1)) (lv' := [(3, .int (nI (o - 1))), (2, .int (nI mv)), (0, .ref h), (1, .int (nI S))]) hx hb dX2_findFor_89 hl (k := 0) rfl (nI_pd (by omega)) (by decide) rfl (fun ls hl => ?_)
              refine lv_goto (tgt := 57) hx hb dX2_findFor_92 (by decide) ?_
              exact ih57 (o - 1) gs gw gd (by omega) _ _ (by omega) i57_1 (by subst hmv; exact ffJ_no i57_2 i57_1 hS8 c19 i57_0 (and_pred_lt hS1) (Or.inl c20)) hP hD p5 p6 p7 p8 p9 f1 f2 f3 f4 hpr (fr.wd frwl57 : fr _ _ 5 9) ls locs (lv_sub hl [0, 1, 2, 3] rfl) hS
            · refine lv_aload_n hx hb dX2_findFor_69 rfl (lv_at hl 2 rfl) ?_
              refine lv_iload_n hx hb dX2_findFor_70 rfl (lv_at hl 3 rfl) ?_
              refine lv_iload_n hx hb dX2_findFor_71 rfl (lv_at hl 0 rfl) ?_
              refine lv_ixor hx hb dX2_findFor_72 ?_
              refine sv_top (y := nI (S ^^^ o)) (an_xor _ _) ?_
              refine lv_iload_n hx hb dX2_findFor_73 rfl (lv_at hl 0 rfl) ?_
              refine pcV (c_X2_isSplit hP ⟨p5, p6, p7, p8, p9⟩ hpr hI hxo (by omega)) ⟨hx, hb, hml, hown, hts⟩ hK gX2_findFor_X2_isSplit rfl hd_X2_isSplit ⟨by omega, by omega⟩ (va_recv hK hP (ci := 2) (q0 := 5) rfl p5) rfl hl.1 rfl (Nat.le_of_ble_eq_true rfl) dX2_findFor_74 ⟨Nat.zero_le _, Nat.zero_le _⟩ hS (fun locs hS => ?_)
              refine sb_if_eq (tgt := 89) hx hb dX2_findFor_77 (by decide) (fun c21 => ?_) (fun c21 => ?_)
              · refine lv_iinc (v := nI (o - 1)) (lv' := [(3, .int (nI (o - 1))), (2, .int (nI mv)), (0, .ref h), (1, .int (nI S))]) hx hb dX2_findFor_89 hl (k := 0) rfl (nI_pd (by omega)) (by decide) rfl (fun ls hl => ?_)
                refine lv_goto (tgt := 57) hx hb dX2_findFor_92 (by decide) ?_
                exact ih57 (o - 1) gs gw gd (by omega) _ _ (by omega) i57_1 (by subst hmv; exact ffJ_no i57_2 i57_1 hS8 c19 i57_0 (and_pred_lt hS1) (Or.inr c21)) hP hD p5 p6 p7 p8 p9 f1 f2 f3 f4 hpr (fr.wd frwl57 : fr _ _ 5 9) ls locs (lv_sub hl [0, 1, 2, 3] rfl) hS
              · refine lv_aload_n hx hb dX2_findFor_80 rfl (lv_at hl 2 rfl) ?_
                refine lv_iload_n hx hb dX2_findFor_81 rfl (lv_at hl 3 rfl) ?_
                refine lv_iload_n hx hb dX2_findFor_82 rfl (lv_at hl 3 rfl) ?_
                refine lv_iload_n hx hb dX2_findFor_83 rfl (lv_at hl 0 rfl) ?_
                refine lv_ixor hx hb dX2_findFor_84 ?_
                refine sv_top (y := nI (S ^^^ o)) (an_xor _ _) ?_
                refine lv_iload_n hx hb dX2_findFor_85 rfl (lv_at hl 0 rfl) ?_
                refine mvV (c_X2_addSplit hP hD ⟨p5, p6, p7, p8, p9⟩ (by omega) hxo (by omega)) ⟨hx, hb, hml, hown, hts⟩ hK gX2_findFor_X2_addSplit rfl hd_X2_addSplit ⟨by omega, by omega⟩ (va_recv hK hP (ci := 2) (q0 := 5) rfl p5) rfl hl.1 rfl (Nat.le_of_ble_eq_true rfl) dX2_findFor_86 ⟨Nat.zero_le _, Nat.zero_le _⟩ hS (fun ws22 H locs hq24 hP hD hS => ?_)
                obtain ⟨hpt, fr23⟩ := hq24
                replace f1 := (fr23 1 (by decide)).trans f1
                replace f2 := (fr23 2 (by decide)).trans f2
                replace f3 := (fr23 3 (by decide)).trans f3
                replace f4 := (fr23 4 (by decide)).trans f4
                replace hpr := hpr.fr fr23
                obtain ⟨p5, p6, p7, p8, p9⟩ := hpt
                refine lv_iinc (v := nI (o - 1)) (lv' := [(3, .int (nI (o - 1))), (2, .int (nI mv)), (0, .ref h), (1, .int (nI S))]) hx hb dX2_findFor_89 hl (k := 0) rfl (nI_pd (by omega)) (by decide) rfl (fun ls hl => ?_)
                refine lv_goto (tgt := 57) hx hb dX2_findFor_92 (by decide) ?_
                exact ih57 (o - 1) ((upX gs S (gs S + nI 1))) ((upX gw S (gw S + gw (S ^^^ o) * gw o))) ((adF gd S (S ^^^ o) o)) (by omega) _ _ (by omega) (ptOK_ad i57_1) (by subst hmv; exact ffJ_yes i57_2 i57_1 hS8 c19 i57_0 (and_pred_lt hS1) c20 c21) hP hD p5 p6 p7 p8 p9 f1 f2 f3 f4 hpr ((fr.wd frwl57 : fr _ _ 5 9).tr fr23) ls locs (lv_sub hl [0, 1, 2, 3] rfl) hS
      exact L57 (mv + 1) mv ((upX fs S (nI 0))) ((upX (upX fw S (nI 0)) S (nI 1))) ((upX (upX fd S (-1)) S (nI 0))) (Nat.lt_succ_self _) _ _ (Nat.le_refl _) (ptOK_set hok (fun s hs => ⟨upX_n hs, (upX_n hs).trans (upX_n hs), (upX_n hs).trans (upX_n hs)⟩)) (ff_s1 hS8 hS1 hmv c8) hP hD p5 p6 p7 p8 p9 f1 f2 f3 f4 hpr (((((fr.wd fr1 : fr _ _ 5 9).tr fr3).tr fr5).tr fr15).tr fr17) ls locs (lv_sub hl [0, 1, 2, 3] rfl) hS
  · exact hret 30 ls _ _ locs dX2_findFor_30 hP hD hS (⟨⟨_, _, _, ⟨p5, p6, p7, p8, p9⟩, ff_no hok hS8 hS1 hcn c7⟩, (((fr.wd fr1 : fr _ _ 5 9).tr fr3).tr fr5)⟩)
set_option maxHeartbeats 4000000 in
set_option maxRecDepth 100000 in
theorem c_X2_find {l : Launch} {D : va_G} {ky : kT} {A : Nat → Prop} {Hs : Heap} {ws : va_W} (hP : va_P D CL ws Hs) (hD : va_D A ws) {h hp a4 a5 a6 a7 : Nat} {Cn : Nat → Bool} {fs fw fd : Nat → Int32} {kn : Bool} (hpt : isPtg ky ws h hp a4 a5 a6 a7 Cn fs fw fd kn) {n : Nat} {T C Hd : Nat → Nat} {b : Nat} {q : Bool} (hpr : isProd ky ws hp n T C Hd b q) (hI : PI0 n C Hd b) (hkn : kn = true → ptOK C Hd n (2 ^ n) Cn fs fw fd) : MV l yX2_find wsX2_find 4 92 0 0 D ky A Hs [.ref h] (fun w => (∃ (Dn : Nat → Bool) (gs gw gd : Nat → Int32), isPtg ky w h hp a4 a5 a6 a7 Dn gs gw gd true ∧ ptOK C Hd n (2 ^ n) Dn gs gw gd) ∧ fr ws w 5 9) := by
  refine MV.of (cc := cX2_find) (maxL := 2) (by decide) rfl (Nat.le_of_ble_eq_true rfl) ?_
  intro pg en Rm sg mi av below meth co Qo hRf hRl hRc hRs hx hb hml hown hin hts hK hret ls hl
  have hl : lv_has ls 2 [(0, .ref h)] := hl
  have hS : va_S A Hs Hs [] := va_S.rf
  generalize ([] : List Loc) = locs at hS ⊢
  obtain ⟨p5, p6, p7, p8, p9⟩ := id hpt
  obtain ⟨a1, a2, a3, f1, f2, f3, f4⟩ := id hpr
  have hn8 := hI.1
  have hp2 : 2 ^ n ≤ 256 := p2_le hn8
  have hp1 : 1 ≤ 2 ^ n := Nat.one_le_two_pow
  have k29 := hts (.fieldLink RX2 29 "AssemblyPlanner$Parting" "known" "Z") (by decide +kernel)
  have hinX2 : ∀ w ∈ wsX20, w ∈ wsX2_find := by decide +kernel
  have k25 := hts (.fieldLink RX2 25 "AssemblyPlanner$Parting" "product" "LAssemblyPlanner$Product;") (by decide +kernel)
  have k9 := hts (.fieldLink RX2 9 "AssemblyPlanner$Parting" "connected" "[Z") (by decide +kernel)
  refine lv_aload_n hx hb dX2_find_0 rfl (lv_at hl 0 rfl) ?_
  refine va_get (ci := 2) (C := RX2) (T := TX2) (N := 6) hx hb hts hinX2 hown hK hP 5 p5 rfl 5 (by decide) k29 (fun _ h9 => h9) rfl dX2_find_1 ?_
  refine sb_if_eq (tgt := 8) hx hb dX2_find_4 (by decide) (fun c1 => ?_) (fun c1 => ?_)
  · refine lv_iconst (v := nI 1) hx hb dX2_find_8 ci_1 ?_
    refine lv_istore_n (lv' := [(1, .int (nI 1)), (0, .ref h)]) hx hb dX2_find_9 rfl hl (by decide) rfl (fun ls hl => ?_)
    have L10 : ∀ (L10d : Nat) (t : Nat) (Dn : Nat → Bool) (gs : Nat → Int32) (gw : Nat → Int32) (gd : Nat → Int32), 2 ^ n - t < L10d → ∀ (wl10 : va_W) (H : Heap), 1 ≤ t → t ≤ 2 ^ n → ptOK C Hd n t Dn gs gw gd → va_P D CL wl10 H → va_D A wl10 → wl10[5]? = some (h, .inr (2, [.ref hp, .ref a4, .ref a5, .ref a6, .ref a7, .int (bI kn)])) → wl10[6]? = some (a4, .inl (ky.2.1, 256, .inl (fun i => bI (Dn i)))) → wl10[7]? = some (a5, .inl (ky.1, 256, .inl gs)) → wl10[8]? = some (a6, .inl (ky.1, 256, .inl gw)) → wl10[9]? = some (a7, .inl (ky.1, 256, .inl gd)) → wl10[1]? = some (hp, .inr (3, [.ref a1, .ref a2, .ref a3, .int (nI n), .int (nI b), .int (bI q)])) → wl10[2]? = some (a1, .inl (ky.1, 8, .inl (fun i => nI (T i)))) → wl10[3]? = some (a2, .inl (ky.1, 8, .inl (fun i => nI (C i)))) → wl10[4]? = some (a3, .inl (ky.1, 48, .inl (fun i => nI (Hd i)))) → isProd ky wl10 hp n T C Hd b q → fr ws wl10 5 9 → ∀ (ls : Array Slot) (locs : List Loc), lv_has ls 2 [(1, .int (nI t)), (0, .ref h)] → va_S A Hs H locs → W pg l en Rm sg mi av below meth co H locs 0 0 Qo (F0 mi 10 ls []) := by
      intro L10d
      induction L10d with
      | zero => intro t Dn gs gw gd hfu; exact absurd hfu (Nat.not_lt_zero _)
      | succ L10d ih10 =>
        intro t Dn gs gw gd hfu wl10 H i10_0 i10_1 i10_2 hP hD p5 p6 p7 p8 p9 f1 f2 f3 f4 hpr frwl10 ls locs hl hS
        refine lv_iload_n hx hb dX2_find_10 rfl (lv_at hl 0 rfl) ?_
        refine lv_aload_n hx hb dX2_find_11 rfl (lv_at hl 1 rfl) ?_
        refine va_get (ci := 2) (C := RX2) (T := TX2) (N := 6) hx hb hts hinX2 hown hK hP 5 p5 rfl 0 (by decide) k25 (fun _ h9 => h9) rfl dX2_find_12 ?_
        refine pcV (c_X3_all hP hpr hI) ⟨hx, hb, hml, hown, hts⟩ hK gX2_find_X3_all rfl hd_X3_all ⟨by omega, by omega⟩ (va_recv hK hP (ci := 3) (q0 := 1) rfl f1) rfl hl.1 rfl (Nat.le_of_ble_eq_true rfl) dX2_find_15 ⟨Nat.zero_le _, Nat.zero_le _⟩ hS (fun locs hS => ?_)
        refine sn_icmp_gt (tgt := 46) hx hb dX2_find_18 (by decide) (by omega) (Nat.lt_of_le_of_lt (Nat.sub_le _ _) (pw_lt (by omega))) (fun c2 => ?_) (fun c2 => ?_)
        · refine lv_aload_n hx hb dX2_find_46 rfl (lv_at hl 1 rfl) ?_
          refine lv_iconst (v := nI 1) hx hb dX2_find_47 ci_1 ?_
          refine W.eq (g2 := F0 mi 48 ls (.int (bI true) :: .ref h :: [])) rfl ?_
          refine sv_put (ci := 2) (C := RX2) (T := TX2) (N := 6) hx hb hts hinX2 tyX2 tyX2_ok nmX2 hown hK hP hD hS 5 p5 rfl 5 (by decide) k29 (fun _ h9 => h9) rfl .boolean (by decide +kernel) (bI_nar _) (bI_fit _) [.ref hp, .ref a4, .ref a5, .ref a6, .ref a7, .int (bI true)] (Nat.le_of_ble_eq_true rfl) rfl dX2_find_48 (fun ws4 H locs hP hD hS p5 fr3 => ?_)
          replace p6 := (fr3 6 (by decide)).trans p6
          replace p7 := (fr3 7 (by decide)).trans p7
          replace p8 := (fr3 8 (by decide)).trans p8
          replace p9 := (fr3 9 (by decide)).trans p9
          replace f1 := (fr3 1 (by decide)).trans f1
          replace f2 := (fr3 2 (by decide)).trans f2
          replace f3 := (fr3 3 (by decide)).trans f3
          replace f4 := (fr3 4 (by decide)).trans f4
          replace hpr := hpr.fr fr3
          exact hret 51 ls _ _ locs dX2_find_51 hP hD hS (⟨⟨Dn, gs, gw, gd, ⟨p5, p6, p7, p8, p9⟩, by rw [show t = 2 ^ n by omega] at i10_2; exact i10_2⟩, ((fr.wd frwl10 : fr _ _ 5 9).tr fr3)⟩)
        · refine lv_aload_n hx hb dX2_find_21 rfl (lv_at hl 1 rfl) ?_
          refine va_get (ci := 2) (C := RX2) (T := TX2) (N := 6) hx hb hts hinX2 hown hK hP 5 p5 rfl 1 (by decide) k9 (fun _ h9 => h9) rfl dX2_find_22 ?_
          refine lv_iload_n hx hb dX2_find_25 rfl (lv_at hl 0 rfl) ?_
          refine lv_aload_n hx hb dX2_find_26 rfl (lv_at hl 1 rfl) ?_
          refine va_get (ci := 2) (C := RX2) (T := TX2) (N := 6) hx hb hts hinX2 hown hK hP 5 p5 rfl 0 (by decide) k25 (fun _ h9 => h9) rfl dX2_find_27 ?_
          refine lv_iload_n hx hb dX2_find_30 rfl (lv_at hl 0 rfl) ?_
          refine pcV (c_X3_connected hP hpr hI (by omega)) ⟨hx, hb, hml, hown, hts⟩ hK gX2_find_X3_connected rfl hd_X3_connected ⟨by omega, by omega⟩ (va_recv hK hP (ci := 3) (q0 := 1) rfl f1) rfl hl.1 rfl (Nat.le_of_ble_eq_true rfl) dX2_find_31 ⟨Nat.zero_le _, Nat.zero_le _⟩ hS (fun locs hS => ?_)
          refine sv_zast hx hb hK hP hD hS 6 p6 (j := t) (by omega) (by decide) dX2_find_34 (fun ws6 H locs hP hD hS p6 fr5 => ?_)
          replace p5 := (fr5 5 (by decide)).trans p5
          replace p7 := (fr5 7 (by decide)).trans p7
          replace p8 := (fr5 8 (by decide)).trans p8
          replace p9 := (fr5 9 (by decide)).trans p9
          replace f1 := (fr5 1 (by decide)).trans f1
          replace f2 := (fr5 2 (by decide)).trans f2
          replace f3 := (fr5 3 (by decide)).trans f3
          replace f4 := (fr5 4 (by decide)).trans f4
          replace hpr := hpr.fr fr5
          rw [upd_B] at p6
          refine lv_aload_n hx hb dX2_find_35 rfl (lv_at hl 1 rfl) ?_
          refine lv_iload_n hx hb dX2_find_36 rfl (lv_at hl 0 rfl) ?_
          refine mvV (c_X2_findFor hP hD ⟨p5, p6, p7, p8, p9⟩ hpr hI (by omega) (by omega) (ptOK_C i10_2) upX_s) ⟨hx, hb, hml, hown, hts⟩ hK gX2_find_X2_findFor rfl hd_X2_findFor ⟨by omega, by omega⟩ (va_recv hK hP (ci := 2) (q0 := 5) rfl p5) rfl hl.1 rfl (Nat.le_of_ble_eq_true rfl) dX2_find_37 ⟨Nat.zero_le _, Nat.zero_le _⟩ hS (fun ws7 H locs hq9 hP hD hS => ?_)
          obtain ⟨⟨gs2, gw2, gd2, hpt, hok2⟩, fr8⟩ := hq9
          replace f1 := (fr8 1 (by decide)).trans f1
          replace f2 := (fr8 2 (by decide)).trans f2
          replace f3 := (fr8 3 (by decide)).trans f3
          replace f4 := (fr8 4 (by decide)).trans f4
          replace hpr := hpr.fr fr8
          obtain ⟨p5, p6, p7, p8, p9⟩ := hpt
          refine lv_iinc (v := nI (t + 1)) (lv' := [(1, .int (nI (t + 1))), (0, .ref h)]) hx hb dX2_find_40 hl (k := 0) rfl (nI_1 _) (by decide) rfl (fun ls hl => ?_)
          refine lv_goto (tgt := 10) hx hb dX2_find_43 (by decide) ?_
          exact ih10 (t + 1) ((upX Dn t (conn C t))) gs2 gw2 gd2 (by omega) _ _ (by omega) (by omega) hok2 hP hD p5 p6 p7 p8 p9 f1 f2 f3 f4 hpr (((fr.wd frwl10 : fr _ _ 5 9).tr fr5).tr fr8) ls locs (lv_sub hl [0, 1] rfl) hS
    exact L10 ((2 ^ n - 1) + 1) 1 Cn fs fw fd (Nat.lt_succ_self _) _ _ (by omega) hp1 (fun s h1 h2 => absurd h1 (by omega)) hP hD p5 p6 p7 p8 p9 f1 f2 f3 f4 hpr fr.rf ls locs (lv_sub hl [0, 1] rfl) hS
  · exact hret 7 ls _ _ locs dX2_find_7 hP hD hS (⟨⟨Cn, fs, fw, fd, by rw [c1] at p5; exact ⟨p5, p6, p7, p8, p9⟩, hkn c1⟩, fr.rf⟩)
set_option maxHeartbeats 4000000 in
set_option maxRecDepth 100000 in
theorem c_X2_forget {l : Launch} {D : va_G} {ky : kT} {A : Nat → Prop} {Hs : Heap} {ws : va_W} (hP : va_P D CL ws Hs) (hD : va_D A ws) {h hp a4 a5 a6 a7 : Nat} {Cn : Nat → Bool} {fs fw fd : Nat → Int32} {kn : Bool} (hpt : isPtg ky ws h hp a4 a5 a6 a7 Cn fs fw fd kn) : MV l yX2_forget wsX2_forget 0 0 0 0 D ky A Hs [.ref h] (fun w => isPtg ky w h hp a4 a5 a6 a7 Cn fs fw fd false ∧ fr ws w 5 9) := by
  refine MV.of (cc := cX2_forget) (maxL := 1) (by decide) rfl (Nat.le_of_ble_eq_true rfl) ?_
  intro pg en Rm sg mi av below meth co Qo hRf hRl hRc hRs hx hb hml hown hin hts hK hret ls hl
  have hl : lv_has ls 1 [(0, .ref h)] := hl
  have hS : va_S A Hs Hs [] := va_S.rf
  generalize ([] : List Loc) = locs at hS ⊢
  obtain ⟨p5, p6, p7, p8, p9⟩ := id hpt
  have k29 := hts (.fieldLink RX2 29 "AssemblyPlanner$Parting" "known" "Z") (by decide +kernel)
  have hinX2 : ∀ w ∈ wsX20, w ∈ wsX2_forget := by decide +kernel
  refine lv_aload_n hx hb dX2_forget_0 rfl (lv_at hl 0 rfl) ?_
  refine lv_iconst (v := nI 0) hx hb dX2_forget_1 ci_0 ?_
  refine W.eq (g2 := F0 mi 2 ls (.int (bI false) :: .ref h :: [])) rfl ?_
  refine sv_put (ci := 2) (C := RX2) (T := TX2) (N := 6) hx hb hts hinX2 tyX2 tyX2_ok nmX2 hown hK hP hD hS 5 p5 rfl 5 (by decide) k29 (fun _ h9 => h9) rfl .boolean (by decide +kernel) (bI_nar _) (bI_fit _) [.ref hp, .ref a4, .ref a5, .ref a6, .ref a7, .int (bI false)] (Nat.le_of_ble_eq_true rfl) rfl dX2_forget_2 (fun ws2 H locs hP hD hS p5 fr1 => ?_)
  replace p6 := (fr1 6 (by decide)).trans p6
  replace p7 := (fr1 7 (by decide)).trans p7
  replace p8 := (fr1 8 (by decide)).trans p8
  replace p9 := (fr1 9 (by decide)).trans p9
  exact hret 5 ls _ _ locs dX2_forget_5 hP hD hS (⟨⟨p5, p6, p7, p8, p9⟩, (fr.wd fr1 : fr _ _ 5 9)⟩)
set_option maxHeartbeats 4000000 in
set_option maxRecDepth 100000 in
theorem c_X2_splitsOf {l : Launch} {D : va_G} {ky : kT} {A : Nat → Prop} {Hs : Heap} {ws : va_W} (hP : va_P D CL ws Hs) (hD : va_D A ws) {h hp a4 a5 a6 a7 : Nat} {Cn : Nat → Bool} {fs fw fd : Nat → Int32} {kn : Bool} (hpt : isPtg ky ws h hp a4 a5 a6 a7 Cn fs fw fd kn) {n : Nat} {T C Hd : Nat → Nat} {b : Nat} {q : Bool} (hpr : isProd ky ws hp n T C Hd b q) (hI : PI0 n C Hd b) (hkn : kn = true → ptOK C Hd n (2 ^ n) Cn fs fw fd) {S : Nat} (hS1 : 0 < S) (hS2 : S < 2 ^ n) : MU l yX2_splitsOf wsX2_splitsOf 5 113 0 0 D ky A Hs [.ref h, .int (nI S)] (fun r w => r = nI (spc C Hd n S) ∧ PTG ky w h hp a4 a5 a6 a7 n C Hd ∧ fr ws w 5 9) := by
  refine MU.of (cc := cX2_splitsOf) (maxL := 2) (ty := .int) (by decide) rfl (Nat.le_of_ble_eq_true rfl) ?_
  intro pg en Rm sg mi av below meth co Qo hRf hRl hRc hRs hx hb hml hown hts hK hret ls hl
  have hl : lv_has ls 2 [(0, .ref h), (1, .int (nI S))] := hl
  have hS : va_S A Hs Hs [] := va_S.rf
  generalize ([] : List Loc) = locs at hS ⊢
  obtain ⟨p5, p6, p7, p8, p9⟩ := id hpt
  obtain ⟨a1, a2, a3, f1, f2, f3, f4⟩ := id hpr
  have hn8 := hI.1
  have hp2 : 2 ^ n ≤ 256 := p2_le hn8
  have k15 := hts (.fieldLink RX2 15 "AssemblyPlanner$Parting" "splits" "[I") (by decide +kernel)
  have hinX2 : ∀ w ∈ wsX20, w ∈ wsX2_splitsOf := by decide +kernel
  refine lv_aload_n hx hb dX2_splitsOf_0 rfl (lv_at hl 0 rfl) ?_
  refine mvV (c_X2_find hP hD ⟨p5, p6, p7, p8, p9⟩ hpr hI hkn) ⟨hx, hb, hml, hown, hts⟩ hK gX2_splitsOf_X2_find rfl hd_X2_find ⟨by omega, by omega⟩ (va_recv hK hP (ci := 2) (q0 := 5) rfl p5) rfl hl.1 rfl (Nat.le_of_ble_eq_true rfl) dX2_splitsOf_1 ⟨Nat.zero_le _, Nat.zero_le _⟩ hS (fun ws1 H locs hq3 hP hD hS => ?_)
  obtain ⟨⟨Dn, gs, gw, gd, hpt, hok⟩, fr2⟩ := hq3
  replace f1 := (fr2 1 (by decide)).trans f1
  replace f2 := (fr2 2 (by decide)).trans f2
  replace f3 := (fr2 3 (by decide)).trans f3
  replace f4 := (fr2 4 (by decide)).trans f4
  replace hpr := hpr.fr fr2
  obtain ⟨p5, p6, p7, p8, p9⟩ := hpt
  refine lv_aload_n hx hb dX2_splitsOf_4 rfl (lv_at hl 0 rfl) ?_
  refine va_get (ci := 2) (C := RX2) (T := TX2) (N := 6) hx hb hts hinX2 hown hK hP 5 p5 rfl 2 (by decide) k15 (fun _ h9 => h9) rfl dX2_splitsOf_5 ?_
  refine lv_iload_n hx hb dX2_splitsOf_8 rfl (lv_at hl 1 rfl) ?_
  refine sv_iald hx hb hK hP 7 p7 (j := S) (by omega) (by decide) dX2_splitsOf_9 ?_
  refine W.eq (g2 := F0 mi 10 ls (.int (gs S) :: [])) rfl ?_
  exact hret 10 ls _ _ locs _ dX2_splitsOf_10 hP hD hS rfl (⟨(hok S (by omega) hS2).2.1, ⟨Dn, gs, gw, gd, true, ⟨p5, p6, p7, p8, p9⟩, fun _ => hok⟩, (fr.wd fr2 : fr _ _ 5 9)⟩)
set_option maxHeartbeats 4000000 in
set_option maxRecDepth 100000 in
theorem c_X2_waysOf {l : Launch} {D : va_G} {ky : kT} {A : Nat → Prop} {Hs : Heap} {ws : va_W} (hP : va_P D CL ws Hs) (hD : va_D A ws) {h hp a4 a5 a6 a7 : Nat} {Cn : Nat → Bool} {fs fw fd : Nat → Int32} {kn : Bool} (hpt : isPtg ky ws h hp a4 a5 a6 a7 Cn fs fw fd kn) {n : Nat} {T C Hd : Nat → Nat} {b : Nat} {q : Bool} (hpr : isProd ky ws hp n T C Hd b q) (hI : PI0 n C Hd b) (hkn : kn = true → ptOK C Hd n (2 ^ n) Cn fs fw fd) {S : Nat} (hS1 : 0 < S) (hS2 : S < 2 ^ n) : MU l yX2_waysOf wsX2_waysOf 5 113 0 0 D ky A Hs [.ref h, .int (nI S)] (fun r w => r = nI (wys C Hd n S) ∧ PTG ky w h hp a4 a5 a6 a7 n C Hd ∧ fr ws w 5 9) := by
  refine MU.of (cc := cX2_waysOf) (maxL := 2) (ty := .int) (by decide) rfl (Nat.le_of_ble_eq_true rfl) ?_
  intro pg en Rm sg mi av below meth co Qo hRf hRl hRc hRs hx hb hml hown hts hK hret ls hl
  have hl : lv_has ls 2 [(0, .ref h), (1, .int (nI S))] := hl
  have hS : va_S A Hs Hs [] := va_S.rf
  generalize ([] : List Loc) = locs at hS ⊢
  obtain ⟨p5, p6, p7, p8, p9⟩ := id hpt
  obtain ⟨a1, a2, a3, f1, f2, f3, f4⟩ := id hpr
  have hn8 := hI.1
  have hp2 : 2 ^ n ≤ 256 := p2_le hn8
  have k19 := hts (.fieldLink RX2 19 "AssemblyPlanner$Parting" "ways" "[I") (by decide +kernel)
  have hinX2 : ∀ w ∈ wsX20, w ∈ wsX2_waysOf := by decide +kernel
  refine lv_aload_n hx hb dX2_waysOf_0 rfl (lv_at hl 0 rfl) ?_
  refine mvV (c_X2_find hP hD ⟨p5, p6, p7, p8, p9⟩ hpr hI hkn) ⟨hx, hb, hml, hown, hts⟩ hK gX2_waysOf_X2_find rfl hd_X2_find ⟨by omega, by omega⟩ (va_recv hK hP (ci := 2) (q0 := 5) rfl p5) rfl hl.1 rfl (Nat.le_of_ble_eq_true rfl) dX2_waysOf_1 ⟨Nat.zero_le _, Nat.zero_le _⟩ hS (fun ws1 H locs hq3 hP hD hS => ?_)
  obtain ⟨⟨Dn, gs, gw, gd, hpt, hok⟩, fr2⟩ := hq3
  replace f1 := (fr2 1 (by decide)).trans f1
  replace f2 := (fr2 2 (by decide)).trans f2
  replace f3 := (fr2 3 (by decide)).trans f3
  replace f4 := (fr2 4 (by decide)).trans f4
  replace hpr := hpr.fr fr2
  obtain ⟨p5, p6, p7, p8, p9⟩ := hpt
  refine lv_aload_n hx hb dX2_waysOf_4 rfl (lv_at hl 0 rfl) ?_
  refine va_get (ci := 2) (C := RX2) (T := TX2) (N := 6) hx hb hts hinX2 hown hK hP 5 p5 rfl 3 (by decide) k19 (fun _ h9 => h9) rfl dX2_waysOf_5 ?_
  refine lv_iload_n hx hb dX2_waysOf_8 rfl (lv_at hl 1 rfl) ?_
  refine sv_iald hx hb hK hP 8 p8 (j := S) (by omega) (by decide) dX2_waysOf_9 ?_
  refine W.eq (g2 := F0 mi 10 ls (.int (gw S) :: [])) rfl ?_
  exact hret 10 ls _ _ locs _ dX2_waysOf_10 hP hD hS rfl (⟨(hok S (by omega) hS2).2.2.1, ⟨Dn, gs, gw, gd, true, ⟨p5, p6, p7, p8, p9⟩, fun _ => hok⟩, (fr.wd fr2 : fr _ _ 5 9)⟩)
set_option maxHeartbeats 4000000 in
set_option maxRecDepth 100000 in
theorem c_X2_leastDepthOf {l : Launch} {D : va_G} {ky : kT} {A : Nat → Prop} {Hs : Heap} {ws : va_W} (hP : va_P D CL ws Hs) (hD : va_D A ws) {h hp a4 a5 a6 a7 : Nat} {Cn : Nat → Bool} {fs fw fd : Nat → Int32} {kn : Bool} (hpt : isPtg ky ws h hp a4 a5 a6 a7 Cn fs fw fd kn) {n : Nat} {T C Hd : Nat → Nat} {b : Nat} {q : Bool} (hpr : isProd ky ws hp n T C Hd b q) (hI : PI0 n C Hd b) (hkn : kn = true → ptOK C Hd n (2 ^ n) Cn fs fw fd) {S : Nat} (hS1 : 0 < S) (hS2 : S < 2 ^ n) : MU l yX2_leastDepthOf wsX2_leastDepthOf 5 113 0 0 D ky A Hs [.ref h, .int (nI S)] (fun r w => r = dI (dps C Hd n S) ∧ PTG ky w h hp a4 a5 a6 a7 n C Hd ∧ fr ws w 5 9) := by
  refine MU.of (cc := cX2_leastDepthOf) (maxL := 2) (ty := .int) (by decide) rfl (Nat.le_of_ble_eq_true rfl) ?_
  intro pg en Rm sg mi av below meth co Qo hRf hRl hRc hRs hx hb hml hown hts hK hret ls hl
  have hl : lv_has ls 2 [(0, .ref h), (1, .int (nI S))] := hl
  have hS : va_S A Hs Hs [] := va_S.rf
  generalize ([] : List Loc) = locs at hS ⊢
  obtain ⟨p5, p6, p7, p8, p9⟩ := id hpt
  obtain ⟨a1, a2, a3, f1, f2, f3, f4⟩ := id hpr
  have hn8 := hI.1
  have hp2 : 2 ^ n ≤ 256 := p2_le hn8
  have k22 := hts (.fieldLink RX2 22 "AssemblyPlanner$Parting" "depths" "[I") (by decide +kernel)
  have hinX2 : ∀ w ∈ wsX20, w ∈ wsX2_leastDepthOf := by decide +kernel
  refine lv_aload_n hx hb dX2_leastDepthOf_0 rfl (lv_at hl 0 rfl) ?_
  refine mvV (c_X2_find hP hD ⟨p5, p6, p7, p8, p9⟩ hpr hI hkn) ⟨hx, hb, hml, hown, hts⟩ hK gX2_leastDepthOf_X2_find rfl hd_X2_find ⟨by omega, by omega⟩ (va_recv hK hP (ci := 2) (q0 := 5) rfl p5) rfl hl.1 rfl (Nat.le_of_ble_eq_true rfl) dX2_leastDepthOf_1 ⟨Nat.zero_le _, Nat.zero_le _⟩ hS (fun ws1 H locs hq3 hP hD hS => ?_)
  obtain ⟨⟨Dn, gs, gw, gd, hpt, hok⟩, fr2⟩ := hq3
  replace f1 := (fr2 1 (by decide)).trans f1
  replace f2 := (fr2 2 (by decide)).trans f2
  replace f3 := (fr2 3 (by decide)).trans f3
  replace f4 := (fr2 4 (by decide)).trans f4
  replace hpr := hpr.fr fr2
  obtain ⟨p5, p6, p7, p8, p9⟩ := hpt
  refine lv_aload_n hx hb dX2_leastDepthOf_4 rfl (lv_at hl 0 rfl) ?_
  refine va_get (ci := 2) (C := RX2) (T := TX2) (N := 6) hx hb hts hinX2 hown hK hP 5 p5 rfl 4 (by decide) k22 (fun _ h9 => h9) rfl dX2_leastDepthOf_5 ?_
  refine lv_iload_n hx hb dX2_leastDepthOf_8 rfl (lv_at hl 1 rfl) ?_
  refine sv_iald hx hb hK hP 9 p9 (j := S) (by omega) (by decide) dX2_leastDepthOf_9 ?_
  refine W.eq (g2 := F0 mi 10 ls (.int (gd S) :: [])) rfl ?_
  exact hret 10 ls _ _ locs _ dX2_leastDepthOf_10 hP hD hS rfl (⟨(hok S (by omega) hS2).2.2.2, ⟨Dn, gs, gw, gd, true, ⟨p5, p6, p7, p8, p9⟩, fun _ => hok⟩, (fr.wd fr2 : fr _ _ 5 9)⟩)

