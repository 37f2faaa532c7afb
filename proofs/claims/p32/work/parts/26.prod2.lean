theorem bi_16 : (Int8.ofInt 16).toInt32 = nI 16 := by decide +kernel
theorem bi_63 : (Int8.ofInt 63).toInt32 = nI 63 := by decide +kernel
theorem hd_J6_bitCount_0f7a4 : yJ6_bitCount_0f7a4.cls ≠ "java/lang/invoke/MethodHandle" ∧ yJ6_bitCount_0f7a4.cls ≠ "java/lang/invoke/VarHandle" ∧ (parseMethodDescriptor yJ6_bitCount_0f7a4.desc).map (fun d => d.parameters.length) = some 1 := by decide +kernel
theorem hd_X3_changed : yX3_changed.cls ≠ "java/lang/invoke/MethodHandle" ∧ yX3_changed.cls ≠ "java/lang/invoke/VarHandle" ∧ (parseMethodDescriptor yX3_changed.desc).map (fun d => d.parameters.length) = some 3 := by decide +kernel
set_option maxHeartbeats 4000000 in
set_option maxRecDepth 100000 in
theorem c_J6_bitCount_0f7a4 {l : Launch} {D : va_G} {ky : kT} {Hs : Heap} {S : Nat} (hS9 : S < 256) : PI l yJ6_bitCount_0f7a4 wsJ6_bitCount_0f7a4 0 0 D ky Hs [.int (nI S)] (nI (cnt S)) := by
  refine PI.of (cc := cJ6_bitCount_0f7a4) (maxL := 1) (ty := .int) (by decide) rfl rfl (Nat.le_of_ble_eq_true rfl) ?_
  intro pg en Rm sg mi av below meth co Qo hRf hRl hx hb hml hown hts hK hret ls hl
  have hl : lv_has ls 1 [(0, .int (nI S))] := hl
  have hS : va_S (fun _ => False) Hs Hs [] := va_S.rf
  generalize ([] : List Loc) = locs at hS ⊢
  refine lv_iload_n hx hb dJ6_bitCount_0f7a4_0 rfl (lv_at hl 0 rfl) ?_
  refine lv_iload_n hx hb dJ6_bitCount_0f7a4_1 rfl (lv_at hl 0 rfl) ?_
  refine lv_iconst (v := nI 1) hx hb dJ6_bitCount_0f7a4_2 ci_1 ?_
  refine lv_iushr hx hb dJ6_bitCount_0f7a4_3 rfl ?_
  refine lv_ldcw hx hb hown (hts (.constant RJ6 265 (1431655765)) (by decide +kernel)) dJ6_bitCount_0f7a4_4 ?_
  refine lv_iand hx hb dJ6_bitCount_0f7a4_7 ?_
  refine lv_isub hx hb dJ6_bitCount_0f7a4_8 ?_
  refine lv_istore_n (lv' := [(0, .int ((nI S) - ((((nI S).toUInt32 >>> ((nI 1).toUInt32 &&& Int32.toUInt32 31)).toInt32) &&& 1431655765)))]) hx hb dJ6_bitCount_0f7a4_9 rfl hl (by decide) rfl (fun ls hl => ?_)
  refine lv_iload_n hx hb dJ6_bitCount_0f7a4_10 rfl (lv_at hl 0 rfl) ?_
  refine lv_ldcw hx hb hown (hts (.constant RJ6 266 (858993459)) (by decide +kernel)) dJ6_bitCount_0f7a4_11 ?_
  refine lv_iand hx hb dJ6_bitCount_0f7a4_14 ?_
  refine lv_iload_n hx hb dJ6_bitCount_0f7a4_15 rfl (lv_at hl 0 rfl) ?_
  refine lv_iconst (v := nI 2) hx hb dJ6_bitCount_0f7a4_16 ci_2 ?_
  refine lv_iushr hx hb dJ6_bitCount_0f7a4_17 rfl ?_
  refine lv_ldcw hx hb hown (hts (.constant RJ6 266 (858993459)) (by decide +kernel)) dJ6_bitCount_0f7a4_18 ?_
  refine lv_iand hx hb dJ6_bitCount_0f7a4_21 ?_
  refine lv_iadd hx hb dJ6_bitCount_0f7a4_22 ?_
  refine lv_istore_n (lv' := [(0, .int ((((nI S) - ((((nI S).toUInt32 >>> ((nI 1).toUInt32 &&& Int32.toUInt32 31)).toInt32) &&& 1431655765)) &&& 858993459) + (((((nI S) - ((((nI S).toUInt32 >>> ((nI 1).toUInt32 &&& Int32.toUInt32 31)).toInt32) &&& 1431655765)).toUInt32 >>> ((nI 2).toUInt32 &&& Int32.toUInt32 31)).toInt32) &&& 858993459)))]) hx hb dJ6_bitCount_0f7a4_23 rfl hl (by decide) rfl (fun ls hl => ?_)
  refine lv_iload_n hx hb dJ6_bitCount_0f7a4_24 rfl (lv_at hl 0 rfl) ?_
  refine lv_iload_n hx hb dJ6_bitCount_0f7a4_25 rfl (lv_at hl 0 rfl) ?_
  refine lv_iconst (v := nI 4) hx hb dJ6_bitCount_0f7a4_26 ci_4 ?_
  refine lv_iushr hx hb dJ6_bitCount_0f7a4_27 rfl ?_
  refine lv_iadd hx hb dJ6_bitCount_0f7a4_28 ?_
  refine lv_ldcw hx hb hown (hts (.constant RJ6 267 (252645135)) (by decide +kernel)) dJ6_bitCount_0f7a4_29 ?_
  refine lv_iand hx hb dJ6_bitCount_0f7a4_32 ?_
  refine lv_istore_n (lv' := [(0, .int ((((((nI S) - ((((nI S).toUInt32 >>> ((nI 1).toUInt32 &&& Int32.toUInt32 31)).toInt32) &&& 1431655765)) &&& 858993459) + (((((nI S) - ((((nI S).toUInt32 >>> ((nI 1).toUInt32 &&& Int32.toUInt32 31)).toInt32) &&& 1431655765)).toUInt32 >>> ((nI 2).toUInt32 &&& Int32.toUInt32 31)).toInt32) &&& 858993459)) + ((((((nI S) - ((((nI S).toUInt32 >>> ((nI 1).toUInt32 &&& Int32.toUInt32 31)).toInt32) &&& 1431655765)) &&& 858993459) + (((((nI S) - ((((nI S).toUInt32 >>> ((nI 1).toUInt32 &&& Int32.toUInt32 31)).toInt32) &&& 1431655765)).toUInt32 >>> ((nI 2).toUInt32 &&& Int32.toUInt32 31)).toInt32) &&& 858993459)).toUInt32 >>> ((nI 4).toUInt32 &&& Int32.toUInt32 31)).toInt32)) &&& 252645135))]) hx hb dJ6_bitCount_0f7a4_33 rfl hl (by decide) rfl (fun ls hl => ?_)
  refine lv_iload_n hx hb dJ6_bitCount_0f7a4_34 rfl (lv_at hl 0 rfl) ?_
  refine lv_iload_n hx hb dJ6_bitCount_0f7a4_35 rfl (lv_at hl 0 rfl) ?_
  refine lv_bipush (v := nI 8) hx hb dJ6_bitCount_0f7a4_36 bi_8 ?_
  refine lv_iushr hx hb dJ6_bitCount_0f7a4_38 rfl ?_
  refine lv_iadd hx hb dJ6_bitCount_0f7a4_39 ?_
  refine lv_istore_n (lv' := [(0, .int (((((((nI S) - ((((nI S).toUInt32 >>> ((nI 1).toUInt32 &&& Int32.toUInt32 31)).toInt32) &&& 1431655765)) &&& 858993459) + (((((nI S) - ((((nI S).toUInt32 >>> ((nI 1).toUInt32 &&& Int32.toUInt32 31)).toInt32) &&& 1431655765)).toUInt32 >>> ((nI 2).toUInt32 &&& Int32.toUInt32 31)).toInt32) &&& 858993459)) + ((((((nI S) - ((((nI S).toUInt32 >>> ((nI 1).toUInt32 &&& Int32.toUInt32 31)).toInt32) &&& 1431655765)) &&& 858993459) + (((((nI S) - ((((nI S).toUInt32 >>> ((nI 1).toUInt32 &&& Int32.toUInt32 31)).toInt32) &&& 1431655765)).toUInt32 >>> ((nI 2).toUInt32 &&& Int32.toUInt32 31)).toInt32) &&& 858993459)).toUInt32 >>> ((nI 4).toUInt32 &&& Int32.toUInt32 31)).toInt32)) &&& 252645135) + ((((((((nI S) - ((((nI S).toUInt32 >>> ((nI 1).toUInt32 &&& Int32.toUInt32 31)).toInt32) &&& 1431655765)) &&& 858993459) + (((((nI S) - ((((nI S).toUInt32 >>> ((nI 1).toUInt32 &&& Int32.toUInt32 31)).toInt32) &&& 1431655765)).toUInt32 >>> ((nI 2).toUInt32 &&& Int32.toUInt32 31)).toInt32) &&& 858993459)) + ((((((nI S) - ((((nI S).toUInt32 >>> ((nI 1).toUInt32 &&& Int32.toUInt32 31)).toInt32) &&& 1431655765)) &&& 858993459) + (((((nI S) - ((((nI S).toUInt32 >>> ((nI 1).toUInt32 &&& Int32.toUInt32 31)).toInt32) &&& 1431655765)).toUInt32 >>> ((nI 2).toUInt32 &&& Int32.toUInt32 31)).toInt32) &&& 858993459)).toUInt32 >>> ((nI 4).toUInt32 &&& Int32.toUInt32 31)).toInt32)) &&& 252645135).toUInt32 >>> ((nI 8).toUInt32 &&& Int32.toUInt32 31)).toInt32)))]) hx hb dJ6_bitCount_0f7a4_40 rfl hl (by decide) rfl (fun ls hl => ?_)
  refine lv_iload_n hx hb dJ6_bitCount_0f7a4_41 rfl (lv_at hl 0 rfl) ?_
  refine lv_iload_n hx hb dJ6_bitCount_0f7a4_42 rfl (lv_at hl 0 rfl) ?_
  refine lv_bipush (v := nI 16) hx hb dJ6_bitCount_0f7a4_43 bi_16 ?_
  refine lv_iushr hx hb dJ6_bitCount_0f7a4_45 rfl ?_
  refine lv_iadd hx hb dJ6_bitCount_0f7a4_46 ?_
  refine lv_istore_n (lv' := [(0, .int ((((((((nI S) - ((((nI S).toUInt32 >>> ((nI 1).toUInt32 &&& Int32.toUInt32 31)).toInt32) &&& 1431655765)) &&& 858993459) + (((((nI S) - ((((nI S).toUInt32 >>> ((nI 1).toUInt32 &&& Int32.toUInt32 31)).toInt32) &&& 1431655765)).toUInt32 >>> ((nI 2).toUInt32 &&& Int32.toUInt32 31)).toInt32) &&& 858993459)) + ((((((nI S) - ((((nI S).toUInt32 >>> ((nI 1).toUInt32 &&& Int32.toUInt32 31)).toInt32) &&& 1431655765)) &&& 858993459) + (((((nI S) - ((((nI S).toUInt32 >>> ((nI 1).toUInt32 &&& Int32.toUInt32 31)).toInt32) &&& 1431655765)).toUInt32 >>> ((nI 2).toUInt32 &&& Int32.toUInt32 31)).toInt32) &&& 858993459)).toUInt32 >>> ((nI 4).toUInt32 &&& Int32.toUInt32 31)).toInt32)) &&& 252645135) + ((((((((nI S) - ((((nI S).toUInt32 >>> ((nI 1).toUInt32 &&& Int32.toUInt32 31)).toInt32) &&& 1431655765)) &&& 858993459) + (((((nI S) - ((((nI S).toUInt32 >>> ((nI 1).toUInt32 &&& Int32.toUInt32 31)).toInt32) &&& 1431655765)).toUInt32 >>> ((nI 2).toUInt32 &&& Int32.toUInt32 31)).toInt32) &&& 858993459)) + ((((((nI S) - ((((nI S).toUInt32 >>> ((nI 1).toUInt32 &&& Int32.toUInt32 31)).toInt32) &&& 1431655765)) &&& 858993459) + (((((nI S) - ((((nI S).toUInt32 >>> ((nI 1).toUInt32 &&& Int32.toUInt32 31)).toInt32) &&& 1431655765)).toUInt32 >>> ((nI 2).toUInt32 &&& Int32.toUInt32 31)).toInt32) &&& 858993459)).toUInt32 >>> ((nI 4).toUInt32 &&& Int32.toUInt32 31)).toInt32)) &&& 252645135).toUInt32 >>> ((nI 8).toUInt32 &&& Int32.toUInt32 31)).toInt32)) + (((((((((nI S) - ((((nI S).toUInt32 >>> ((nI 1).toUInt32 &&& Int32.toUInt32 31)).toInt32) &&& 1431655765)) &&& 858993459) + (((((nI S) - ((((nI S).toUInt32 >>> ((nI 1).toUInt32 &&& Int32.toUInt32 31)).toInt32) &&& 1431655765)).toUInt32 >>> ((nI 2).toUInt32 &&& Int32.toUInt32 31)).toInt32) &&& 858993459)) + ((((((nI S) - ((((nI S).toUInt32 >>> ((nI 1).toUInt32 &&& Int32.toUInt32 31)).toInt32) &&& 1431655765)) &&& 858993459) + (((((nI S) - ((((nI S).toUInt32 >>> ((nI 1).toUInt32 &&& Int32.toUInt32 31)).toInt32) &&& 1431655765)).toUInt32 >>> ((nI 2).toUInt32 &&& Int32.toUInt32 31)).toInt32) &&& 858993459)).toUInt32 >>> ((nI 4).toUInt32 &&& Int32.toUInt32 31)).toInt32)) &&& 252645135) + ((((((((nI S) - ((((nI S).toUInt32 >>> ((nI 1).toUInt32 &&& Int32.toUInt32 31)).toInt32) &&& 1431655765)) &&& 858993459) + (((((nI S) - ((((nI S).toUInt32 >>> ((nI 1).toUInt32 &&& Int32.toUInt32 31)).toInt32) &&& 1431655765)).toUInt32 >>> ((nI 2).toUInt32 &&& Int32.toUInt32 31)).toInt32) &&& 858993459)) + ((((((nI S) - ((((nI S).toUInt32 >>> ((nI 1).toUInt32 &&& Int32.toUInt32 31)).toInt32) &&& 1431655765)) &&& 858993459) + (((((nI S) - ((((nI S).toUInt32 >>> ((nI 1).toUInt32 &&& Int32.toUInt32 31)).toInt32) &&& 1431655765)).toUInt32 >>> ((nI 2).toUInt32 &&& Int32.toUInt32 31)).toInt32) &&& 858993459)).toUInt32 >>> ((nI 4).toUInt32 &&& Int32.toUInt32 31)).toInt32)) &&& 252645135).toUInt32 >>> ((nI 8).toUInt32 &&& Int32.toUInt32 31)).toInt32)).toUInt32 >>> ((nI 16).toUInt32 &&& Int32.toUInt32 31)).toInt32)))]) hx hb dJ6_bitCount_0f7a4_47 rfl hl (by decide) rfl (fun ls hl => ?_)
  refine lv_iload_n hx hb dJ6_bitCount_0f7a4_48 rfl (lv_at hl 0 rfl) ?_
  refine lv_bipush (v := nI 63) hx hb dJ6_bitCount_0f7a4_49 bi_63 ?_
  refine lv_iand hx hb dJ6_bitCount_0f7a4_51 ?_
  exact hret 52 ls locs _ dJ6_bitCount_0f7a4_52 hS (bc_cnt S hS9)
set_option maxHeartbeats 4000000 in
set_option maxRecDepth 100000 in
theorem c_X3_add {l : Launch} {D : va_G} {ky : kT} {A : Nat → Prop} {Hs : Heap} {ws : va_W} (hP : va_P D CL ws Hs) (hD : va_D A ws) {h n : Nat} {T C Hd : Nat → Nat} {b : Nat} {q : Bool} (hpr : isProd ky ws h n T C Hd b q) (hn : n < 8) {t : Nat} : MU l yX3_add wsX3_add 0 0 0 0 D ky A Hs [.ref h, .int (nI t)] (fun r w => r = nI n ∧ isProd ky w h (n + 1) (upX T n t) C Hd b q ∧ fr ws w 1 4) := by
  refine MU.of (cc := cX3_add) (maxL := 3) (ty := .int) (by decide) rfl (Nat.le_of_ble_eq_true rfl) ?_
  intro pg en Rm sg mi av below meth co Qo hRf hRl hRc hRs hx hb hml hown hts hK hret ls hl
  have hl : lv_has ls 3 [(0, .ref h), (1, .int (nI t))] := hl
  have hS : va_S A Hs Hs [] := va_S.rf
  generalize ([] : List Loc) = locs at hS ⊢
  obtain ⟨a1, a2, a3, f1, f2, f3, f4⟩ := hpr
  have k21 := hts (.fieldLink RX3 21 "AssemblyPlanner$Product" "count" "I") (by decide +kernel)
  have hinX3 : ∀ w ∈ wsX30, w ∈ wsX3_add := by decide +kernel
  have k9 := hts (.fieldLink RX3 9 "AssemblyPlanner$Product" "tools" "[I") (by decide +kernel)
  refine lv_aload_n hx hb dX3_add_0 rfl (lv_at hl 0 rfl) ?_
  refine va_get (ci := 3) (C := RX3) (T := TX3) (N := 6) hx hb hts hinX3 hown hK hP 1 f1 rfl 3 (by decide) k21 (fun _ h9 => h9) rfl dX3_add_1 ?_
  refine lv_istore_n (lv' := [(2, .int (nI n)), (0, .ref h), (1, .int (nI t))]) hx hb dX3_add_4 rfl hl (by decide) rfl (fun ls hl => ?_)
  refine lv_aload_n hx hb dX3_add_5 rfl (lv_at hl 1 rfl) ?_
  refine va_get (ci := 3) (C := RX3) (T := TX3) (N := 6) hx hb hts hinX3 hown hK hP 1 f1 rfl 0 (by decide) k9 (fun _ h9 => h9) rfl dX3_add_6 ?_
  refine lv_iload_n hx hb dX3_add_9 rfl (lv_at hl 0 rfl) ?_
  refine lv_iload_n hx hb dX3_add_10 rfl (lv_at hl 2 rfl) ?_
  refine sv_iast hx hb hK hP hD hS 2 f2 (j := n) (by omega) (by decide) dX3_add_11 (fun ws2 H locs hP hD hS f2 fr1 => ?_)
  replace f1 := (fr1 1 (by decide)).trans f1
  replace f3 := (fr1 3 (by decide)).trans f3
  replace f4 := (fr1 4 (by decide)).trans f4
  rw [upd_N] at f2
  refine lv_aload_n hx hb dX3_add_12 rfl (lv_at hl 1 rfl) ?_
  refine lv_dup hx hb dX3_add_13 rfl ?_
  refine va_get (ci := 3) (C := RX3) (T := TX3) (N := 6) hx hb hts hinX3 hown hK hP 1 f1 rfl 3 (by decide) k21 (fun _ h9 => h9) rfl dX3_add_14 ?_
  refine lv_iconst (v := nI 1) hx hb dX3_add_17 ci_1 ?_
  refine lv_iadd hx hb dX3_add_18 ?_
  refine sv_top (y := nI (n + 1)) (nI_add _ _) ?_
  refine sv_put (ci := 3) (C := RX3) (T := TX3) (N := 6) hx hb hts hinX3 tyX3 tyX3_ok nmX3 hown hK hP hD hS 1 f1 rfl 3 (by decide) k21 (fun _ h9 => h9) rfl .int (by decide +kernel) rfl rfl [.ref a1, .ref a2, .ref a3, .int (nI (n + 1)), .int (nI b), .int (bI q)] (Nat.le_of_ble_eq_true rfl) rfl dX3_add_19 (fun ws4 H locs hP hD hS f1 fr3 => ?_)
  replace f2 := (fr3 2 (by decide)).trans f2
  replace f3 := (fr3 3 (by decide)).trans f3
  replace f4 := (fr3 4 (by decide)).trans f4
  refine lv_iload_n hx hb dX3_add_22 rfl (lv_at hl 0 rfl) ?_
  exact hret 23 ls _ _ locs _ dX3_add_23 hP hD hS rfl (⟨rfl, ⟨a1, a2, a3, f1, f2, f3, f4⟩, ((fr.wd fr1 : fr _ _ 1 4).tr fr3)⟩)
set_option maxHeartbeats 4000000 in
set_option maxRecDepth 100000 in
theorem c_X3_changeTool {l : Launch} {D : va_G} {ky : kT} {A : Nat → Prop} {Hs : Heap} {ws : va_W} (hP : va_P D CL ws Hs) (hD : va_D A ws) {h n : Nat} {T C Hd : Nat → Nat} {b : Nat} {q : Bool} (hpr : isProd ky ws h n T C Hd b q) {pt t : Nat} (hp : pt < 8) : MU l yX3_changeTool wsX3_changeTool 0 0 0 0 D ky A Hs [.ref h, .int (nI pt), .int (nI t)] (fun r w => r = nI (T pt) ∧ isProd ky w h n (upX T pt t) C Hd b q ∧ fr ws w 1 4) := by
  refine MU.of (cc := cX3_changeTool) (maxL := 4) (ty := .int) (by decide) rfl (Nat.le_of_ble_eq_true rfl) ?_
  intro pg en Rm sg mi av below meth co Qo hRf hRl hRc hRs hx hb hml hown hts hK hret ls hl
  have hl : lv_has ls 4 [(0, .ref h), (1, .int (nI pt)), (2, .int (nI t))] := hl
  have hS : va_S A Hs Hs [] := va_S.rf
  generalize ([] : List Loc) = locs at hS ⊢
  obtain ⟨a1, a2, a3, f1, f2, f3, f4⟩ := hpr
  have k9 := hts (.fieldLink RX3 9 "AssemblyPlanner$Product" "tools" "[I") (by decide +kernel)
  have hinX3 : ∀ w ∈ wsX30, w ∈ wsX3_changeTool := by decide +kernel
  refine lv_aload_n hx hb dX3_changeTool_0 rfl (lv_at hl 0 rfl) ?_
  refine va_get (ci := 3) (C := RX3) (T := TX3) (N := 6) hx hb hts hinX3 hown hK hP 1 f1 rfl 0 (by decide) k9 (fun _ h9 => h9) rfl dX3_changeTool_1 ?_
  refine lv_iload_n hx hb dX3_changeTool_4 rfl (lv_at hl 1 rfl) ?_
  refine sv_iald hx hb hK hP 2 f2 (j := pt) (by omega) (by decide) dX3_changeTool_5 ?_
  refine W.eq (g2 := F0 mi 6 ls (.int (nI (T pt)) :: [])) rfl ?_
  refine lv_istore_n (lv' := [(3, .int (nI (T pt))), (0, .ref h), (1, .int (nI pt)), (2, .int (nI t))]) hx hb dX3_changeTool_6 rfl hl (by decide) rfl (fun ls hl => ?_)
  refine lv_aload_n hx hb dX3_changeTool_7 rfl (lv_at hl 1 rfl) ?_
  refine va_get (ci := 3) (C := RX3) (T := TX3) (N := 6) hx hb hts hinX3 hown hK hP 1 f1 rfl 0 (by decide) k9 (fun _ h9 => h9) rfl dX3_changeTool_8 ?_
  refine lv_iload_n hx hb dX3_changeTool_11 rfl (lv_at hl 2 rfl) ?_
  refine lv_iload_n hx hb dX3_changeTool_12 rfl (lv_at hl 3 rfl) ?_
  refine sv_iast hx hb hK hP hD hS 2 f2 (j := pt) (by omega) (by decide) dX3_changeTool_13 (fun ws2 H locs hP hD hS f2 fr1 => ?_)
  replace f1 := (fr1 1 (by decide)).trans f1
  replace f3 := (fr1 3 (by decide)).trans f3
  replace f4 := (fr1 4 (by decide)).trans f4
  rw [upd_N] at f2
  refine lv_iload_n hx hb dX3_changeTool_14 rfl (lv_at hl 0 rfl) ?_
  exact hret 15 ls _ _ locs _ dX3_changeTool_15 hP hD hS rfl (⟨rfl, ⟨a1, a2, a3, f1, f2, f3, f4⟩, (fr.wd fr1 : fr _ _ 1 4)⟩)
set_option maxHeartbeats 4000000 in
set_option maxRecDepth 100000 in
theorem c_X3_tellContact {l : Launch} {D : va_G} {ky : kT} {A : Nat → Prop} {Hs : Heap} {ws : va_W} (hP : va_P D CL ws Hs) (hD : va_D A ws) {h n : Nat} {T C Hd : Nat → Nat} {b : Nat} {q : Bool} (hpr : isProd ky ws h n T C Hd b q) {pt ot : Nat} {are : Bool} (hI : PI0 n C Hd b) (hp : pt < n) (ho : ot < n) : MU l yX3_tellContact wsX3_tellContact 1 22 0 0 D ky A Hs [.ref h, .int (nI pt), .int (nI ot), .int (bI are)] (fun r w => r = nI (cnt (ctc C pt ot are pt)) ∧ isProd ky w h n T (ctc C pt ot are) Hd b q ∧ fr ws w 1 4) := by
  refine MU.of (cc := cX3_tellContact) (maxL := 4) (ty := .int) (by decide) rfl (Nat.le_of_ble_eq_true rfl) ?_
  intro pg en Rm sg mi av below meth co Qo hRf hRl hRc hRs hx hb hml hown hts hK hret ls hl
  have hl : lv_has ls 4 [(0, .ref h), (1, .int (nI pt)), (2, .int (nI ot)), (3, .int (bI are))] := hl
  have hS : va_S A Hs Hs [] := va_S.rf
  generalize ([] : List Loc) = locs at hS ⊢
  obtain ⟨a1, a2, a3, f1, f2, f3, f4⟩ := hpr
  have h8 := hI.1
  have hlt := ctc_lt (are := are) hI.2.2.1 hp ho pt
  have hlt := Nat.lt_of_lt_of_le hlt (p2_le h8)
  have k15 := hts (.fieldLink RX3 15 "AssemblyPlanner$Product" "contacts" "[I") (by decide +kernel)
  have hinX3 : ∀ w ∈ wsX30, w ∈ wsX3_tellContact := by decide +kernel
  refine lv_aload_n hx hb dX3_tellContact_0 rfl (lv_at hl 0 rfl) ?_
  refine va_get (ci := 3) (C := RX3) (T := TX3) (N := 6) hx hb hts hinX3 hown hK hP 1 f1 rfl 1 (by decide) k15 (fun _ h9 => h9) rfl dX3_tellContact_1 ?_
  refine lv_iload_n hx hb dX3_tellContact_4 rfl (lv_at hl 1 rfl) ?_
  refine lv_aload_n hx hb dX3_tellContact_5 rfl (lv_at hl 0 rfl) ?_
  refine va_get (ci := 3) (C := RX3) (T := TX3) (N := 6) hx hb hts hinX3 hown hK hP 1 f1 rfl 1 (by decide) k15 (fun _ h9 => h9) rfl dX3_tellContact_6 ?_
  refine lv_iload_n hx hb dX3_tellContact_9 rfl (lv_at hl 1 rfl) ?_
  refine sv_iald hx hb hK hP 3 f3 (j := pt) (by omega) (by decide) dX3_tellContact_10 ?_
  refine W.eq (g2 := F0 mi 11 ls (.int (nI (C pt)) :: [.int (nI pt), .ref a2])) rfl ?_
  refine lv_iload_n hx hb dX3_tellContact_11 rfl (lv_at hl 2 rfl) ?_
  refine lv_iload_n hx hb dX3_tellContact_12 rfl (lv_at hl 3 rfl) ?_
  refine pcS (c_X3_changed (by omega)) ⟨hx, hb, hml, hown, hts⟩ hK gX3_tellContact_X3_changed rfl hd_X3_changed ⟨by omega, by omega⟩ rfl hl.1 rfl (Nat.le_of_ble_eq_true rfl) dX3_tellContact_13 ⟨Nat.zero_le _, Nat.zero_le _⟩ hS (fun locs hS => ?_)
  refine sv_iast hx hb hK hP hD hS 3 f3 (j := pt) (by omega) (by decide) dX3_tellContact_16 (fun ws2 H locs hP hD hS f3 fr1 => ?_)
  replace f1 := (fr1 1 (by decide)).trans f1
  replace f2 := (fr1 2 (by decide)).trans f2
  replace f4 := (fr1 4 (by decide)).trans f4
  rw [upd_N] at f3
  refine lv_aload_n hx hb dX3_tellContact_17 rfl (lv_at hl 0 rfl) ?_
  refine va_get (ci := 3) (C := RX3) (T := TX3) (N := 6) hx hb hts hinX3 hown hK hP 1 f1 rfl 1 (by decide) k15 (fun _ h9 => h9) rfl dX3_tellContact_18 ?_
  refine lv_iload_n hx hb dX3_tellContact_21 rfl (lv_at hl 2 rfl) ?_
  refine lv_aload_n hx hb dX3_tellContact_22 rfl (lv_at hl 0 rfl) ?_
  refine va_get (ci := 3) (C := RX3) (T := TX3) (N := 6) hx hb hts hinX3 hown hK hP 1 f1 rfl 1 (by decide) k15 (fun _ h9 => h9) rfl dX3_tellContact_23 ?_
  refine lv_iload_n hx hb dX3_tellContact_26 rfl (lv_at hl 2 rfl) ?_
  refine sv_iald hx hb hK hP 3 f3 (j := ot) (by omega) (by decide) dX3_tellContact_27 ?_
  refine W.eq (g2 := F0 mi 28 ls (.int (nI ((upX C pt (chg (C pt) ot are)) ot)) :: [.int (nI ot), .ref a2])) rfl ?_
  refine lv_iload_n hx hb dX3_tellContact_28 rfl (lv_at hl 1 rfl) ?_
  refine lv_iload_n hx hb dX3_tellContact_29 rfl (lv_at hl 3 rfl) ?_
  refine pcS (c_X3_changed (by omega)) ⟨hx, hb, hml, hown, hts⟩ hK gX3_tellContact_X3_changed rfl hd_X3_changed ⟨by omega, by omega⟩ rfl hl.1 rfl (Nat.le_of_ble_eq_true rfl) dX3_tellContact_30 ⟨Nat.zero_le _, Nat.zero_le _⟩ hS (fun locs hS => ?_)
  refine sv_iast hx hb hK hP hD hS 3 f3 (j := ot) (by omega) (by decide) dX3_tellContact_33 (fun ws4 H locs hP hD hS f3 fr3 => ?_)
  replace f1 := (fr3 1 (by decide)).trans f1
  replace f2 := (fr3 2 (by decide)).trans f2
  replace f4 := (fr3 4 (by decide)).trans f4
  rw [upd_N] at f3
  refine lv_aload_n hx hb dX3_tellContact_34 rfl (lv_at hl 0 rfl) ?_
  refine va_get (ci := 3) (C := RX3) (T := TX3) (N := 6) hx hb hts hinX3 hown hK hP 1 f1 rfl 1 (by decide) k15 (fun _ h9 => h9) rfl dX3_tellContact_35 ?_
  refine lv_iload_n hx hb dX3_tellContact_38 rfl (lv_at hl 1 rfl) ?_
  refine sv_iald hx hb hK hP 3 f3 (j := pt) (by omega) (by decide) dX3_tellContact_39 ?_
  refine W.eq (g2 := F0 mi 40 ls (.int (nI ((upX (upX C pt (chg (C pt) ot are)) ot (chg ((upX C pt (chg (C pt) ot are)) ot) pt are)) pt)) :: [])) rfl ?_
  refine pcS (c_J6_bitCount_0f7a4 (by exact hlt)) ⟨hx, hb, hml, hown, hts⟩ hK gX3_tellContact_J6_bitCount_0f7a4 rfl hd_J6_bitCount_0f7a4 ⟨by omega, by omega⟩ rfl hl.1 rfl (Nat.le_of_ble_eq_true rfl) dX3_tellContact_40 ⟨Nat.zero_le _, Nat.zero_le _⟩ hS (fun locs hS => ?_)
  exact hret 43 ls _ _ locs _ dX3_tellContact_43 hP hD hS rfl (⟨rfl, ⟨a1, a2, a3, f1, f2, f3, f4⟩, ((fr.wd fr1 : fr _ _ 1 4).tr fr3)⟩)
set_option maxHeartbeats 4000000 in
set_option maxRecDepth 100000 in
theorem c_X3_tellHindered {l : Launch} {D : va_G} {ky : kT} {A : Nat → Prop} {Hs : Heap} {ws : va_W} (hP : va_P D CL ws Hs) (hD : va_D A ws) {h n : Nat} {T C Hd : Nat → Nat} {b : Nat} {q : Bool} (hpr : isProd ky ws h n T C Hd b q) {pt d ot : Nat} {is : Bool} (hI : PI0 n C Hd b) (hp : pt < n) (hd : d < 6) (ho : ot < n) : MU l yX3_tellHindered wsX3_tellHindered 1 22 0 0 D ky A Hs [.ref h, .int (nI pt), .int (nI d), .int (nI ot), .int (bI is)] (fun r w => r = nI (cnt (htc Hd pt d ot is (8 * d + pt))) ∧ isProd ky w h n T C (htc Hd pt d ot is) b q ∧ fr ws w 1 4) := by
  refine MU.of (cc := cX3_tellHindered) (maxL := 7) (ty := .int) (by decide) rfl (Nat.le_of_ble_eq_true rfl) ?_
  intro pg en Rm sg mi av below meth co Qo hRf hRl hRc hRs hx hb hml hown hts hK hret ls hl
  have hl : lv_has ls 7 [(0, .ref h), (1, .int (nI pt)), (2, .int (nI d)), (3, .int (nI ot)), (4, .int (bI is))] := hl
  have hS : va_S A Hs Hs [] := va_S.rf
  generalize ([] : List Loc) = locs at hS ⊢
  obtain ⟨a1, a2, a3, f1, f2, f3, f4⟩ := hpr
  have h8 := hI.1
  have hd1 := (x1_ne d hd).2.1
  have hlt := htc_lt (is := is) (d := d) hI.2.2.2.1 hp ho (8 * d + pt)
  have hlt := Nat.lt_of_lt_of_le hlt (p2_le h8)
  have k18 := hts (.fieldLink RX3 18 "AssemblyPlanner$Product" "hinderers" "[I") (by decide +kernel)
  have hinX3 : ∀ w ∈ wsX30, w ∈ wsX3_tellHindered := by decide +kernel
  refine lv_iload_n hx hb dX3_tellHindered_0 rfl (lv_at hl 2 rfl) ?_
  refine lv_bipush (v := nI 8) hx hb dX3_tellHindered_1 bi_8 ?_
  refine lv_imul hx hb dX3_tellHindered_3 ?_
  refine sv_top (y := nI (8 * d)) (mul_c _ _) ?_
  refine lv_iload_n hx hb dX3_tellHindered_4 rfl (lv_at hl 1 rfl) ?_
  refine lv_iadd hx hb dX3_tellHindered_5 ?_
  refine sv_top (y := nI (8 * d + pt)) (nI_add _ _) ?_
  refine lv_istore (lv' := [(5, .int (nI (8 * d + pt))), (0, .ref h), (1, .int (nI pt)), (2, .int (nI d)), (3, .int (nI ot)), (4, .int (bI is))]) hx hb dX3_tellHindered_6 hl (by decide) rfl (fun ls hl => ?_)
  refine lv_iload_n hx hb dX3_tellHindered_8 rfl (lv_at hl 3 rfl) ?_
  refine pcS (c_X3_opposite ) ⟨hx, hb, hml, hown, hts⟩ hK gX3_tellHindered_X3_opposite rfl hd_X3_opposite ⟨by omega, by omega⟩ rfl hl.1 rfl (Nat.le_of_ble_eq_true rfl) dX3_tellHindered_9 ⟨Nat.zero_le _, Nat.zero_le _⟩ hS (fun locs hS => ?_)
  refine lv_bipush (v := nI 8) hx hb dX3_tellHindered_12 bi_8 ?_
  refine lv_imul hx hb dX3_tellHindered_14 ?_
  refine sv_top (y := nI (8 * (d ^^^ 1))) (mul_c _ _) ?_
  refine lv_iload_n hx hb dX3_tellHindered_15 rfl (lv_at hl 4 rfl) ?_
  refine lv_iadd hx hb dX3_tellHindered_16 ?_
  refine sv_top (y := nI ((8 * (d ^^^ 1)) + ot)) (nI_add _ _) ?_
  refine lv_istore (lv' := [(6, .int (nI ((8 * (d ^^^ 1)) + ot))), (5, .int (nI (8 * d + pt))), (0, .ref h), (1, .int (nI pt)), (2, .int (nI d)), (3, .int (nI ot)), (4, .int (bI is))]) hx hb dX3_tellHindered_17 hl (by decide) rfl (fun ls hl => ?_)
  refine lv_aload_n hx hb dX3_tellHindered_19 rfl (lv_at hl 2 rfl) ?_
  refine va_get (ci := 3) (C := RX3) (T := TX3) (N := 6) hx hb hts hinX3 hown hK hP 1 f1 rfl 2 (by decide) k18 (fun _ h9 => h9) rfl dX3_tellHindered_20 ?_
  refine lv_iload hx hb dX3_tellHindered_23 (lv_at hl 1 rfl) ?_
  refine lv_aload_n hx hb dX3_tellHindered_25 rfl (lv_at hl 2 rfl) ?_
  refine va_get (ci := 3) (C := RX3) (T := TX3) (N := 6) hx hb hts hinX3 hown hK hP 1 f1 rfl 2 (by decide) k18 (fun _ h9 => h9) rfl dX3_tellHindered_26 ?_
  refine lv_iload hx hb dX3_tellHindered_29 (lv_at hl 1 rfl) ?_
  refine sv_iald hx hb hK hP 4 f4 (j := 8 * d + pt) (by omega) (by decide) dX3_tellHindered_31 ?_
  refine W.eq (g2 := F0 mi 32 ls (.int (nI (Hd (8 * d + pt))) :: [.int (nI (8 * d + pt)), .ref a3])) rfl ?_
  refine lv_iload_n hx hb dX3_tellHindered_32 rfl (lv_at hl 5 rfl) ?_
  refine lv_iload hx hb dX3_tellHindered_33 (lv_at hl 6 rfl) ?_
  refine pcS (c_X3_changed (by omega)) ⟨hx, hb, hml, hown, hts⟩ hK gX3_tellHindered_X3_changed rfl hd_X3_changed ⟨by omega, by omega⟩ rfl hl.1 rfl (Nat.le_of_ble_eq_true rfl) dX3_tellHindered_35 ⟨Nat.zero_le _, Nat.zero_le _⟩ hS (fun locs hS => ?_)
  refine sv_iast hx hb hK hP hD hS 4 f4 (j := 8 * d + pt) (by omega) (by decide) dX3_tellHindered_38 (fun ws2 H locs hP hD hS f4 fr1 => ?_)
  replace f1 := (fr1 1 (by decide)).trans f1
  replace f2 := (fr1 2 (by decide)).trans f2
  replace f3 := (fr1 3 (by decide)).trans f3
  rw [upd_N] at f4
  refine lv_aload_n hx hb dX3_tellHindered_39 rfl (lv_at hl 2 rfl) ?_
  refine va_get (ci := 3) (C := RX3) (T := TX3) (N := 6) hx hb hts hinX3 hown hK hP 1 f1 rfl 2 (by decide) k18 (fun _ h9 => h9) rfl dX3_tellHindered_40 ?_
  refine lv_iload hx hb dX3_tellHindered_43 (lv_at hl 0 rfl) ?_
  refine lv_aload_n hx hb dX3_tellHindered_45 rfl (lv_at hl 2 rfl) ?_
  refine va_get (ci := 3) (C := RX3) (T := TX3) (N := 6) hx hb hts hinX3 hown hK hP 1 f1 rfl 2 (by decide) k18 (fun _ h9 => h9) rfl dX3_tellHindered_46 ?_
  refine lv_iload hx hb dX3_tellHindered_49 (lv_at hl 0 rfl) ?_
  refine sv_iald hx hb hK hP 4 f4 (j := (8 * (d ^^^ 1)) + ot) (by omega) (by decide) dX3_tellHindered_51 ?_
  refine W.eq (g2 := F0 mi 52 ls (.int (nI ((upX Hd (8 * d + pt) (chg (Hd (8 * d + pt)) ot is)) ((8 * (d ^^^ 1)) + ot))) :: [.int (nI ((8 * (d ^^^ 1)) + ot)), .ref a3])) rfl ?_
  refine lv_iload_n hx hb dX3_tellHindered_52 rfl (lv_at hl 3 rfl) ?_
  refine lv_iload hx hb dX3_tellHindered_53 (lv_at hl 6 rfl) ?_
  refine pcS (c_X3_changed (by omega)) ⟨hx, hb, hml, hown, hts⟩ hK gX3_tellHindered_X3_changed rfl hd_X3_changed ⟨by omega, by omega⟩ rfl hl.1 rfl (Nat.le_of_ble_eq_true rfl) dX3_tellHindered_55 ⟨Nat.zero_le _, Nat.zero_le _⟩ hS (fun locs hS => ?_)
  refine sv_iast hx hb hK hP hD hS 4 f4 (j := (8 * (d ^^^ 1)) + ot) (by omega) (by decide) dX3_tellHindered_58 (fun ws4 H locs hP hD hS f4 fr3 => ?_)
  replace f1 := (fr3 1 (by decide)).trans f1
  replace f2 := (fr3 2 (by decide)).trans f2
  replace f3 := (fr3 3 (by decide)).trans f3
  rw [upd_N] at f4
  refine lv_aload_n hx hb dX3_tellHindered_59 rfl (lv_at hl 2 rfl) ?_
  refine va_get (ci := 3) (C := RX3) (T := TX3) (N := 6) hx hb hts hinX3 hown hK hP 1 f1 rfl 2 (by decide) k18 (fun _ h9 => h9) rfl dX3_tellHindered_60 ?_
  refine lv_iload hx hb dX3_tellHindered_63 (lv_at hl 1 rfl) ?_
  refine sv_iald hx hb hK hP 4 f4 (j := 8 * d + pt) (by omega) (by decide) dX3_tellHindered_65 ?_
  refine W.eq (g2 := F0 mi 66 ls (.int (nI ((upX (upX Hd (8 * d + pt) (chg (Hd (8 * d + pt)) ot is)) ((8 * (d ^^^ 1)) + ot) (chg ((upX Hd (8 * d + pt) (chg (Hd (8 * d + pt)) ot is)) ((8 * (d ^^^ 1)) + ot)) pt is)) (8 * d + pt))) :: [])) rfl ?_
  refine pcS (c_J6_bitCount_0f7a4 (by exact hlt)) ⟨hx, hb, hml, hown, hts⟩ hK gX3_tellHindered_J6_bitCount_0f7a4 rfl hd_J6_bitCount_0f7a4 ⟨by omega, by omega⟩ rfl hl.1 rfl (Nat.le_of_ble_eq_true rfl) dX3_tellHindered_66 ⟨Nat.zero_le _, Nat.zero_le _⟩ hS (fun locs hS => ?_)
  exact hret 69 ls _ _ locs _ dX3_tellHindered_69 hP hD hS rfl (⟨rfl, ⟨a1, a2, a3, f1, f2, f3, f4⟩, ((fr.wd fr1 : fr _ _ 1 4).tr fr3)⟩)
set_option maxHeartbeats 4000000 in
set_option maxRecDepth 100000 in
theorem c_X3_changeBase {l : Launch} {D : va_G} {ky : kT} {A : Nat → Prop} {Hs : Heap} {ws : va_W} (hP : va_P D CL ws Hs) (hD : va_D A ws) {h n : Nat} {T C Hd : Nat → Nat} {b : Nat} {q : Bool} (hpr : isProd ky ws h n T C Hd b q) {x : Nat} : MU l yX3_changeBase wsX3_changeBase 0 0 0 0 D ky A Hs [.ref h, .int (nI x)] (fun r w => r = nI b ∧ isProd ky w h n T C Hd x q ∧ fr ws w 1 4) := by
  refine MU.of (cc := cX3_changeBase) (maxL := 3) (ty := .int) (by decide) rfl (Nat.le_of_ble_eq_true rfl) ?_
  intro pg en Rm sg mi av below meth co Qo hRf hRl hRc hRs hx hb hml hown hts hK hret ls hl
  have hl : lv_has ls 3 [(0, .ref h), (1, .int (nI x))] := hl
  have hS : va_S A Hs Hs [] := va_S.rf
  generalize ([] : List Loc) = locs at hS ⊢
  obtain ⟨a1, a2, a3, f1, f2, f3, f4⟩ := hpr
  have k38 := hts (.fieldLink RX3 38 "AssemblyPlanner$Product" "base" "I") (by decide +kernel)
  have hinX3 : ∀ w ∈ wsX30, w ∈ wsX3_changeBase := by decide +kernel
  refine lv_aload_n hx hb dX3_changeBase_0 rfl (lv_at hl 0 rfl) ?_
  refine va_get (ci := 3) (C := RX3) (T := TX3) (N := 6) hx hb hts hinX3 hown hK hP 1 f1 rfl 4 (by decide) k38 (fun _ h9 => h9) rfl dX3_changeBase_1 ?_
  refine lv_istore_n (lv' := [(2, .int (nI b)), (0, .ref h), (1, .int (nI x))]) hx hb dX3_changeBase_4 rfl hl (by decide) rfl (fun ls hl => ?_)
  refine lv_aload_n hx hb dX3_changeBase_5 rfl (lv_at hl 1 rfl) ?_
  refine lv_iload_n hx hb dX3_changeBase_6 rfl (lv_at hl 2 rfl) ?_
  refine sv_put (ci := 3) (C := RX3) (T := TX3) (N := 6) hx hb hts hinX3 tyX3 tyX3_ok nmX3 hown hK hP hD hS 1 f1 rfl 4 (by decide) k38 (fun _ h9 => h9) rfl .int (by decide +kernel) rfl rfl [.ref a1, .ref a2, .ref a3, .int (nI n), .int (nI x), .int (bI q)] (Nat.le_of_ble_eq_true rfl) rfl dX3_changeBase_7 (fun ws2 H locs hP hD hS f1 fr1 => ?_)
  replace f2 := (fr1 2 (by decide)).trans f2
  replace f3 := (fr1 3 (by decide)).trans f3
  replace f4 := (fr1 4 (by decide)).trans f4
  refine lv_iload_n hx hb dX3_changeBase_10 rfl (lv_at hl 0 rfl) ?_
  exact hret 11 ls _ _ locs _ dX3_changeBase_11 hP hD hS rfl (⟨rfl, ⟨a1, a2, a3, f1, f2, f3, f4⟩, (fr.wd fr1 : fr _ _ 1 4)⟩)
set_option maxHeartbeats 4000000 in
set_option maxRecDepth 100000 in
theorem c_X3_changeSteadyAsked {l : Launch} {D : va_G} {ky : kT} {A : Nat → Prop} {Hs : Heap} {ws : va_W} (hP : va_P D CL ws Hs) (hD : va_D A ws) {h n : Nat} {T C Hd : Nat → Nat} {b : Nat} {q : Bool} (hpr : isProd ky ws h n T C Hd b q) {x : Bool} : MU l yX3_changeSteadyAsked wsX3_changeSteadyAsked 0 0 0 0 D ky A Hs [.ref h, .int (bI x)] (fun r w => r = bI q ∧ isProd ky w h n T C Hd b x ∧ fr ws w 1 4) := by
  refine MU.of (cc := cX3_changeSteadyAsked) (maxL := 3) (ty := .boolean) (by decide) rfl (Nat.le_of_ble_eq_true rfl) ?_
  intro pg en Rm sg mi av below meth co Qo hRf hRl hRc hRs hx hb hml hown hts hK hret ls hl
  have hl : lv_has ls 3 [(0, .ref h), (1, .int (bI x))] := hl
  have hS : va_S A Hs Hs [] := va_S.rf
  generalize ([] : List Loc) = locs at hS ⊢
  obtain ⟨a1, a2, a3, f1, f2, f3, f4⟩ := hpr
  have k41 := hts (.fieldLink RX3 41 "AssemblyPlanner$Product" "steadyAsked" "Z") (by decide +kernel)
  have hinX3 : ∀ w ∈ wsX30, w ∈ wsX3_changeSteadyAsked := by decide +kernel
  refine lv_aload_n hx hb dX3_changeSteadyAsked_0 rfl (lv_at hl 0 rfl) ?_
  refine va_get (ci := 3) (C := RX3) (T := TX3) (N := 6) hx hb hts hinX3 hown hK hP 1 f1 rfl 5 (by decide) k41 (fun _ h9 => h9) rfl dX3_changeSteadyAsked_1 ?_
  refine lv_istore_n (lv' := [(2, .int (bI q)), (0, .ref h), (1, .int (bI x))]) hx hb dX3_changeSteadyAsked_4 rfl hl (by decide) rfl (fun ls hl => ?_)
  refine lv_aload_n hx hb dX3_changeSteadyAsked_5 rfl (lv_at hl 1 rfl) ?_
  refine lv_iload_n hx hb dX3_changeSteadyAsked_6 rfl (lv_at hl 2 rfl) ?_
  refine sv_put (ci := 3) (C := RX3) (T := TX3) (N := 6) hx hb hts hinX3 tyX3 tyX3_ok nmX3 hown hK hP hD hS 1 f1 rfl 5 (by decide) k41 (fun _ h9 => h9) rfl .boolean (by decide +kernel) (bI_nar _) (bI_fit _) [.ref a1, .ref a2, .ref a3, .int (nI n), .int (nI b), .int (bI x)] (Nat.le_of_ble_eq_true rfl) rfl dX3_changeSteadyAsked_7 (fun ws2 H locs hP hD hS f1 fr1 => ?_)
  replace f2 := (fr1 2 (by decide)).trans f2
  replace f3 := (fr1 3 (by decide)).trans f3
  replace f4 := (fr1 4 (by decide)).trans f4
  refine lv_iload_n hx hb dX3_changeSteadyAsked_10 rfl (lv_at hl 0 rfl) ?_
  exact hret 11 ls _ _ locs _ dX3_changeSteadyAsked_11 hP hD hS (bI_nar _) (⟨rfl, ⟨a1, a2, a3, f1, f2, f3, f4⟩, (fr.wd fr1 : fr _ _ 1 4)⟩)

