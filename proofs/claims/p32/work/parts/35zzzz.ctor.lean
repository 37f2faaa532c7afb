theorem bi_48 : (Int8.ofInt 48).toInt32 = nI 48 := by decide +kernel
theorem si_1024 : (Int16.ofInt 1024).toInt32 = nI 1024 := by decide +kernel
theorem si_256 : (Int16.ofInt 256).toInt32 = nI 256 := by decide +kernel
theorem hd_X0_init : yX0_init.cls ≠ "java/lang/invoke/MethodHandle" ∧ yX0_init.cls ≠ "java/lang/invoke/VarHandle" ∧ (parseMethodDescriptor yX0_init.desc).map (fun d => d.parameters.length) = some 1 := by decide +kernel
theorem hd_X1_init : yX1_init.cls ≠ "java/lang/invoke/MethodHandle" ∧ yX1_init.cls ≠ "java/lang/invoke/VarHandle" ∧ (parseMethodDescriptor yX1_init.desc).map (fun d => d.parameters.length) = some 1 := by decide +kernel
theorem hd_X2_init : yX2_init.cls ≠ "java/lang/invoke/MethodHandle" ∧ yX2_init.cls ≠ "java/lang/invoke/VarHandle" ∧ (parseMethodDescriptor yX2_init.desc).map (fun d => d.parameters.length) = some 1 := by decide +kernel
theorem hd_X3_init : yX3_init.cls ≠ "java/lang/invoke/MethodHandle" ∧ yX3_init.cls ≠ "java/lang/invoke/VarHandle" ∧ (parseMethodDescriptor yX3_init.desc).map (fun d => d.parameters.length) = some 0 := by decide +kernel
set_option maxHeartbeats 4000000 in
set_option maxRecDepth 100000 in
theorem c_X3_init {l : Launch} {D : va_G} {ky : kT} {A : Nat → Prop} {Hs : Heap} {ws : va_W} (hA : ∀ q : Nat, Hs.size ≤ q → A q) (hP : va_P D CL ws Hs) (hD : va_D A ws) (hlen : ws.length = 2) {h : Nat} (e0 : ws[1]? = some (h, .inr (3, [.null, .null, .null, .int (nI 0), .int (nI 0), .int (bI false)]))) : MV l yX3_init wsX3_init 1 12 3 64 D ky A Hs [.ref h] (fun w => w.length = 5 ∧ isProd ky w h 0 (fun _ => 0) (fun _ => 0) (fun _ => 0) 0 false ∧ fr ws w 1 4) := by
  refine MV.of (cc := cX3_init) (maxL := 1) (by decide) rfl (Nat.le_of_ble_eq_true rfl) ?_
  intro pg en Rm sg mi av below meth co Qo hRf hRl hRc hRs hx hb hml hown hin hts hK hret ls hl
  have hl : lv_has ls 1 [(0, .ref h)] := hl
  have hin : meth.name = "<init>" := hin
  have hS : va_S A Hs Hs [] := va_S.rf
  generalize ([] : List Loc) = locs at hS ⊢
  have hinX3 : ∀ w ∈ wsX30, w ∈ wsX3_init := by decide +kernel
  refine lv_aload_n hx hb dX3_init_0 rfl (lv_at hl 0 rfl) ?_
  refine W.objInit hx hb hown (hts (.methodLink RX3 3 objectInit) (by decide +kernel)) (hts (.instanceMethod objectInit) (by decide +kernel)) (hts _ (List.mem_cons_of_mem _ (List.mem_append_left _ (List.mem_of_getElem? (i := 2) rfl)))) rfl (by rw [hml]; exact hl.1) rfl dX3_init_1 (by omega) (by show 2 * 0 + 0 + 12 ≤ _; omega) ?_
  refine W.eq (g2 := F0 mi 4 ls []) rfl ?_
  refine lv_aload_n hx hb dX3_init_4 rfl (lv_at hl 0 rfl) ?_
  refine lv_bipush (v := nI 8) hx hb dX3_init_5 bi_8 ?_
  refine cv_newI hx hb hts (by decide +kernel : Cond.arrayClass .int ∈ wsX3_init) hK hP hD hS hA hlen (N := 8) (by decide) (by omega) (by omega) dX3_init_7 (fun w2 q1 H hlen hP hD hS eq1 fr3 => ?_)
  replace e0 := (fr3 1 (by decide)).trans e0
  refine cv_putF (ci := 3) (C := RX3) (T := TX3) (N := 6) hx hb hts hinX3 tyX3 tyX3_ok nmX3 hown hK hP hD hS hlen 1 e0 rfl 0 (by decide) (by decide +kernel) (fun _ h9 => h9) rfl hin rfl (.array .int) (by decide +kernel) rfl rfl [.ref q1, .null, .null, .int (nI 0), .int (nI 0), .int (bI false)] (Nat.le_of_ble_eq_true rfl) rfl dX3_init_9 (fun w4 H locs hlen hP hD hS e0 fr5 => ?_)
  replace eq1 := (fr5 2 (by decide)).trans eq1
  refine lv_aload_n hx hb dX3_init_12 rfl (lv_at hl 0 rfl) ?_
  refine lv_bipush (v := nI 8) hx hb dX3_init_13 bi_8 ?_
  refine cv_newI hx hb hts (by decide +kernel : Cond.arrayClass .int ∈ wsX3_init) hK hP hD hS hA hlen (N := 8) (by decide) (by omega) (by omega) dX3_init_15 (fun w7 q6 H hlen hP hD hS eq6 fr8 => ?_)
  replace e0 := (fr8 1 (by decide)).trans e0
  replace eq1 := (fr8 2 (by decide)).trans eq1
  refine cv_putF (ci := 3) (C := RX3) (T := TX3) (N := 6) hx hb hts hinX3 tyX3 tyX3_ok nmX3 hown hK hP hD hS hlen 1 e0 rfl 1 (by decide) (by decide +kernel) (fun _ h9 => h9) rfl hin rfl (.array .int) (by decide +kernel) rfl rfl [.ref q1, .ref q6, .null, .int (nI 0), .int (nI 0), .int (bI false)] (Nat.le_of_ble_eq_true rfl) rfl dX3_init_17 (fun w9 H locs hlen hP hD hS e0 fr10 => ?_)
  replace eq1 := (fr10 2 (by decide)).trans eq1
  replace eq6 := (fr10 3 (by decide)).trans eq6
  refine lv_aload_n hx hb dX3_init_20 rfl (lv_at hl 0 rfl) ?_
  refine lv_bipush (v := nI 48) hx hb dX3_init_21 bi_48 ?_
  refine cv_newI hx hb hts (by decide +kernel : Cond.arrayClass .int ∈ wsX3_init) hK hP hD hS hA hlen (N := 48) (by decide) (by omega) (by omega) dX3_init_23 (fun w12 q11 H hlen hP hD hS eq11 fr13 => ?_)
  replace e0 := (fr13 1 (by decide)).trans e0
  replace eq1 := (fr13 2 (by decide)).trans eq1
  replace eq6 := (fr13 3 (by decide)).trans eq6
  refine cv_putF (ci := 3) (C := RX3) (T := TX3) (N := 6) hx hb hts hinX3 tyX3 tyX3_ok nmX3 hown hK hP hD hS hlen 1 e0 rfl 2 (by decide) (by decide +kernel) (fun _ h9 => h9) rfl hin rfl (.array .int) (by decide +kernel) rfl rfl [.ref q1, .ref q6, .ref q11, .int (nI 0), .int (nI 0), .int (bI false)] (Nat.le_of_ble_eq_true rfl) rfl dX3_init_25 (fun w14 H locs hlen hP hD hS e0 fr15 => ?_)
  replace eq1 := (fr15 2 (by decide)).trans eq1
  replace eq6 := (fr15 3 (by decide)).trans eq6
  replace eq11 := (fr15 4 (by decide)).trans eq11
  exact hret 28 ls _ _ locs dX3_init_28 hP hD hS ⟨hlen, ⟨q1, q6, q11, e0, eq1, eq6, eq11⟩, ((((((fr.wd fr3 : fr _ _ 1 4).tr fr5).tr fr8).tr fr10).tr fr13).tr fr15)⟩
set_option maxHeartbeats 4000000 in
set_option maxRecDepth 100000 in
theorem c_X2_init {l : Launch} {D : va_G} {ky : kT} {A : Nat → Prop} {Hs : Heap} {ws : va_W} (hA : ∀ q : Nat, Hs.size ≤ q → A q) (hP : va_P D CL ws Hs) (hD : va_D A ws) (hlen : ws.length = 6) {h : Nat} (e0 : ws[5]? = some (h, .inr (2, [.null, .null, .null, .null, .null, .int (bI false)]))) {hp : Nat} : MV l yX2_init wsX2_init 1 12 4 1024 D ky A Hs [.ref h, .ref hp] (fun w => w.length = 10 ∧ (∃ a4 a5 a6 a7 : Nat, isPtg ky w h hp a4 a5 a6 a7 (fun _ => false) (fun _ => nI 0) (fun _ => nI 0) (fun _ => nI 0) false) ∧ fr ws w 5 9) := by
  refine MV.of (cc := cX2_init) (maxL := 2) (by decide) rfl (Nat.le_of_ble_eq_true rfl) ?_
  intro pg en Rm sg mi av below meth co Qo hRf hRl hRc hRs hx hb hml hown hin hts hK hret ls hl
  have hl : lv_has ls 2 [(0, .ref h), (1, .ref hp)] := hl
  have hin : meth.name = "<init>" := hin
  have hS : va_S A Hs Hs [] := va_S.rf
  generalize ([] : List Loc) = locs at hS ⊢
  have hinX2 : ∀ w ∈ wsX20, w ∈ wsX2_init := by decide +kernel
  refine lv_aload_n hx hb dX2_init_0 rfl (lv_at hl 0 rfl) ?_
  refine W.objInit hx hb hown (hts (.methodLink RX2 3 objectInit) (by decide +kernel)) (hts (.instanceMethod objectInit) (by decide +kernel)) (hts _ (List.mem_cons_of_mem _ (List.mem_append_left _ (List.mem_of_getElem? (i := 2) rfl)))) rfl (by rw [hml]; exact hl.1) rfl dX2_init_1 (by omega) (by show 2 * 0 + 0 + 12 ≤ _; omega) ?_
  refine W.eq (g2 := F0 mi 4 ls []) rfl ?_
  refine lv_aload_n hx hb dX2_init_4 rfl (lv_at hl 0 rfl) ?_
  refine lv_sipush (v := nI 256) hx hb dX2_init_5 si_256 ?_
  refine cv_newZ hx hb hts (by decide +kernel : Cond.arrayClass .boolean ∈ wsX2_init) hK hP hD hS hA hlen (N := 256) (by decide) (by omega) (by omega) dX2_init_8 (fun w2 q1 H hlen hP hD hS eq1 fr3 => ?_)
  replace e0 := (fr3 5 (by decide)).trans e0
  refine cv_putF (ci := 2) (C := RX2) (T := TX2) (N := 6) hx hb hts hinX2 tyX2 tyX2_ok nmX2 hown hK hP hD hS hlen 5 e0 rfl 1 (by decide) (by decide +kernel) (fun _ h9 => h9) rfl hin rfl (.array .boolean) (by decide +kernel) rfl rfl [.null, .ref q1, .null, .null, .null, .int (bI false)] (Nat.le_of_ble_eq_true rfl) rfl dX2_init_10 (fun w4 H locs hlen hP hD hS e0 fr5 => ?_)
  replace eq1 := (fr5 6 (by decide)).trans eq1
  refine lv_aload_n hx hb dX2_init_13 rfl (lv_at hl 0 rfl) ?_
  refine lv_sipush (v := nI 256) hx hb dX2_init_14 si_256 ?_
  refine cv_newI hx hb hts (by decide +kernel : Cond.arrayClass .int ∈ wsX2_init) hK hP hD hS hA hlen (N := 256) (by decide) (by omega) (by omega) dX2_init_17 (fun w7 q6 H hlen hP hD hS eq6 fr8 => ?_)
  replace e0 := (fr8 5 (by decide)).trans e0
  replace eq1 := (fr8 6 (by decide)).trans eq1
  refine cv_putF (ci := 2) (C := RX2) (T := TX2) (N := 6) hx hb hts hinX2 tyX2 tyX2_ok nmX2 hown hK hP hD hS hlen 5 e0 rfl 2 (by decide) (by decide +kernel) (fun _ h9 => h9) rfl hin rfl (.array .int) (by decide +kernel) rfl rfl [.null, .ref q1, .ref q6, .null, .null, .int (bI false)] (Nat.le_of_ble_eq_true rfl) rfl dX2_init_19 (fun w9 H locs hlen hP hD hS e0 fr10 => ?_)
  replace eq1 := (fr10 6 (by decide)).trans eq1
  replace eq6 := (fr10 7 (by decide)).trans eq6
  refine lv_aload_n hx hb dX2_init_22 rfl (lv_at hl 0 rfl) ?_
  refine lv_sipush (v := nI 256) hx hb dX2_init_23 si_256 ?_
  refine cv_newI hx hb hts (by decide +kernel : Cond.arrayClass .int ∈ wsX2_init) hK hP hD hS hA hlen (N := 256) (by decide) (by omega) (by omega) dX2_init_26 (fun w12 q11 H hlen hP hD hS eq11 fr13 => ?_)
  replace e0 := (fr13 5 (by decide)).trans e0
  replace eq1 := (fr13 6 (by decide)).trans eq1
  replace eq6 := (fr13 7 (by decide)).trans eq6
  refine cv_putF (ci := 2) (C := RX2) (T := TX2) (N := 6) hx hb hts hinX2 tyX2 tyX2_ok nmX2 hown hK hP hD hS hlen 5 e0 rfl 3 (by decide) (by decide +kernel) (fun _ h9 => h9) rfl hin rfl (.array .int) (by decide +kernel) rfl rfl [.null, .ref q1, .ref q6, .ref q11, .null, .int (bI false)] (Nat.le_of_ble_eq_true rfl) rfl dX2_init_28 (fun w14 H locs hlen hP hD hS e0 fr15 => ?_)
  replace eq1 := (fr15 6 (by decide)).trans eq1
  replace eq6 := (fr15 7 (by decide)).trans eq6
  replace eq11 := (fr15 8 (by decide)).trans eq11
  refine lv_aload_n hx hb dX2_init_31 rfl (lv_at hl 0 rfl) ?_
  refine lv_sipush (v := nI 256) hx hb dX2_init_32 si_256 ?_
  refine cv_newI hx hb hts (by decide +kernel : Cond.arrayClass .int ∈ wsX2_init) hK hP hD hS hA hlen (N := 256) (by decide) (by omega) (by omega) dX2_init_35 (fun w17 q16 H hlen hP hD hS eq16 fr18 => ?_)
  replace e0 := (fr18 5 (by decide)).trans e0
  replace eq1 := (fr18 6 (by decide)).trans eq1
  replace eq6 := (fr18 7 (by decide)).trans eq6
  replace eq11 := (fr18 8 (by decide)).trans eq11
  refine cv_putF (ci := 2) (C := RX2) (T := TX2) (N := 6) hx hb hts hinX2 tyX2 tyX2_ok nmX2 hown hK hP hD hS hlen 5 e0 rfl 4 (by decide) (by decide +kernel) (fun _ h9 => h9) rfl hin rfl (.array .int) (by decide +kernel) rfl rfl [.null, .ref q1, .ref q6, .ref q11, .ref q16, .int (bI false)] (Nat.le_of_ble_eq_true rfl) rfl dX2_init_37 (fun w19 H locs hlen hP hD hS e0 fr20 => ?_)
  replace eq1 := (fr20 6 (by decide)).trans eq1
  replace eq6 := (fr20 7 (by decide)).trans eq6
  replace eq11 := (fr20 8 (by decide)).trans eq11
  replace eq16 := (fr20 9 (by decide)).trans eq16
  refine lv_aload_n hx hb dX2_init_40 rfl (lv_at hl 0 rfl) ?_
  refine lv_aload_n hx hb dX2_init_41 rfl (lv_at hl 1 rfl) ?_
  refine cv_putF (ci := 2) (C := RX2) (T := TX2) (N := 6) hx hb hts hinX2 tyX2 tyX2_ok nmX2 hown hK hP hD hS hlen 5 e0 rfl 0 (by decide) (by decide +kernel) (fun _ h9 => h9) rfl hin rfl (.object "AssemblyPlanner$Product") (by decide +kernel) rfl rfl [.ref hp, .ref q1, .ref q6, .ref q11, .ref q16, .int (bI false)] (Nat.le_of_ble_eq_true rfl) rfl dX2_init_42 (fun w21 H locs hlen hP hD hS e0 fr22 => ?_)
  replace eq1 := (fr22 6 (by decide)).trans eq1
  replace eq6 := (fr22 7 (by decide)).trans eq6
  replace eq11 := (fr22 8 (by decide)).trans eq11
  replace eq16 := (fr22 9 (by decide)).trans eq16
  exact hret 45 ls _ _ locs dX2_init_45 hP hD hS ⟨hlen, ⟨q1, q6, q11, q16, e0, eq1, eq6, eq11, eq16⟩, (((((((((fr.wd fr3 : fr _ _ 5 9).tr fr5).tr fr8).tr fr10).tr fr13).tr fr15).tr fr18).tr fr20).tr fr22)⟩
set_option maxHeartbeats 4000000 in
set_option maxRecDepth 100000 in
theorem c_X1_init {l : Launch} {D : va_G} {ky : kT} {A : Nat → Prop} {Hs : Heap} {ws : va_W} (hA : ∀ q : Nat, Hs.size ≤ q → A q) (hP : va_P D CL ws Hs) (hD : va_D A ws) (hlen : ws.length = 11) {h : Nat} (e0 : ws[10]? = some (h, .inr (1, [.null, .null, .null, .null, .null, .null, .int (nI 0), .int (bI false)]))) {hp : Nat} : MV l yX1_init wsX1_init 1 12 5 1800 D ky A Hs [.ref h, .ref hp] (fun w => w.length = 16 ∧ (∃ b1 b2 b3 b4 b5 : Nat, isOrd ky w h hp b1 b2 b3 b4 b5 (fun _ => false) (fun _ => nI 0) (fun _ => nI 0) (fun _ => nI 0) (fun _ => nI 0) (nI 0) false) ∧ fr ws w 10 15) := by
  refine MV.of (cc := cX1_init) (maxL := 2) (by decide) rfl (Nat.le_of_ble_eq_true rfl) ?_
  intro pg en Rm sg mi av below meth co Qo hRf hRl hRc hRs hx hb hml hown hin hts hK hret ls hl
  have hl : lv_has ls 2 [(0, .ref h), (1, .ref hp)] := hl
  have hin : meth.name = "<init>" := hin
  have hS : va_S A Hs Hs [] := va_S.rf
  generalize ([] : List Loc) = locs at hS ⊢
  have hinX1 : ∀ w ∈ wsX10, w ∈ wsX1_init := by decide +kernel
  refine lv_aload_n hx hb dX1_init_0 rfl (lv_at hl 0 rfl) ?_
  refine W.objInit hx hb hown (hts (.methodLink RX1 3 objectInit) (by decide +kernel)) (hts (.instanceMethod objectInit) (by decide +kernel)) (hts _ (List.mem_cons_of_mem _ (List.mem_append_left _ (List.mem_of_getElem? (i := 2) rfl)))) rfl (by rw [hml]; exact hl.1) rfl dX1_init_1 (by omega) (by show 2 * 0 + 0 + 12 ≤ _; omega) ?_
  refine W.eq (g2 := F0 mi 4 ls []) rfl ?_
  refine lv_aload_n hx hb dX1_init_4 rfl (lv_at hl 0 rfl) ?_
  refine lv_sipush (v := nI 256) hx hb dX1_init_5 si_256 ?_
  refine cv_newZ hx hb hts (by decide +kernel : Cond.arrayClass .boolean ∈ wsX1_init) hK hP hD hS hA hlen (N := 256) (by decide) (by omega) (by omega) dX1_init_8 (fun w2 q1 H hlen hP hD hS eq1 fr3 => ?_)
  replace e0 := (fr3 10 (by decide)).trans e0
  refine cv_putF (ci := 1) (C := RX1) (T := TX1) (N := 8) hx hb hts hinX1 tyX1 tyX1_ok nmX1 hown hK hP hD hS hlen 10 e0 rfl 1 (by decide) (by decide +kernel) (fun _ h9 => h9) rfl hin rfl (.array .boolean) (by decide +kernel) rfl rfl [.null, .ref q1, .null, .null, .null, .null, .int (nI 0), .int (bI false)] (Nat.le_of_ble_eq_true rfl) rfl dX1_init_10 (fun w4 H locs hlen hP hD hS e0 fr5 => ?_)
  replace eq1 := (fr5 11 (by decide)).trans eq1
  refine lv_aload_n hx hb dX1_init_13 rfl (lv_at hl 0 rfl) ?_
  refine lv_sipush (v := nI 256) hx hb dX1_init_14 si_256 ?_
  refine cv_newI hx hb hts (by decide +kernel : Cond.arrayClass .int ∈ wsX1_init) hK hP hD hS hA hlen (N := 256) (by decide) (by omega) (by omega) dX1_init_17 (fun w7 q6 H hlen hP hD hS eq6 fr8 => ?_)
  replace e0 := (fr8 10 (by decide)).trans e0
  replace eq1 := (fr8 11 (by decide)).trans eq1
  refine cv_putF (ci := 1) (C := RX1) (T := TX1) (N := 8) hx hb hts hinX1 tyX1 tyX1_ok nmX1 hown hK hP hD hS hlen 10 e0 rfl 2 (by decide) (by decide +kernel) (fun _ h9 => h9) rfl hin rfl (.array .int) (by decide +kernel) rfl rfl [.null, .ref q1, .ref q6, .null, .null, .null, .int (nI 0), .int (bI false)] (Nat.le_of_ble_eq_true rfl) rfl dX1_init_19 (fun w9 H locs hlen hP hD hS e0 fr10 => ?_)
  replace eq1 := (fr10 11 (by decide)).trans eq1
  replace eq6 := (fr10 12 (by decide)).trans eq6
  refine lv_aload_n hx hb dX1_init_22 rfl (lv_at hl 0 rfl) ?_
  refine lv_sipush (v := nI 256) hx hb dX1_init_23 si_256 ?_
  refine cv_newI hx hb hts (by decide +kernel : Cond.arrayClass .int ∈ wsX1_init) hK hP hD hS hA hlen (N := 256) (by decide) (by omega) (by omega) dX1_init_26 (fun w12 q11 H hlen hP hD hS eq11 fr13 => ?_)
  replace e0 := (fr13 10 (by decide)).trans e0
  replace eq1 := (fr13 11 (by decide)).trans eq1
  replace eq6 := (fr13 12 (by decide)).trans eq6
  refine cv_putF (ci := 1) (C := RX1) (T := TX1) (N := 8) hx hb hts hinX1 tyX1 tyX1_ok nmX1 hown hK hP hD hS hlen 10 e0 rfl 3 (by decide) (by decide +kernel) (fun _ h9 => h9) rfl hin rfl (.array .int) (by decide +kernel) rfl rfl [.null, .ref q1, .ref q6, .ref q11, .null, .null, .int (nI 0), .int (bI false)] (Nat.le_of_ble_eq_true rfl) rfl dX1_init_28 (fun w14 H locs hlen hP hD hS e0 fr15 => ?_)
  replace eq1 := (fr15 11 (by decide)).trans eq1
  replace eq6 := (fr15 12 (by decide)).trans eq6
  replace eq11 := (fr15 13 (by decide)).trans eq11
  refine lv_aload_n hx hb dX1_init_31 rfl (lv_at hl 0 rfl) ?_
  refine lv_sipush (v := nI 1024) hx hb dX1_init_32 si_1024 ?_
  refine cv_newI hx hb hts (by decide +kernel : Cond.arrayClass .int ∈ wsX1_init) hK hP hD hS hA hlen (N := 1024) (by decide) (by omega) (by omega) dX1_init_35 (fun w17 q16 H hlen hP hD hS eq16 fr18 => ?_)
  replace e0 := (fr18 10 (by decide)).trans e0
  replace eq1 := (fr18 11 (by decide)).trans eq1
  replace eq6 := (fr18 12 (by decide)).trans eq6
  replace eq11 := (fr18 13 (by decide)).trans eq11
  refine cv_putF (ci := 1) (C := RX1) (T := TX1) (N := 8) hx hb hts hinX1 tyX1 tyX1_ok nmX1 hown hK hP hD hS hlen 10 e0 rfl 4 (by decide) (by decide +kernel) (fun _ h9 => h9) rfl hin rfl (.array .int) (by decide +kernel) rfl rfl [.null, .ref q1, .ref q6, .ref q11, .ref q16, .null, .int (nI 0), .int (bI false)] (Nat.le_of_ble_eq_true rfl) rfl dX1_init_37 (fun w19 H locs hlen hP hD hS e0 fr20 => ?_)
  replace eq1 := (fr20 11 (by decide)).trans eq1
  replace eq6 := (fr20 12 (by decide)).trans eq6
  replace eq11 := (fr20 13 (by decide)).trans eq11
  replace eq16 := (fr20 14 (by decide)).trans eq16
  refine lv_aload_n hx hb dX1_init_40 rfl (lv_at hl 0 rfl) ?_
  refine lv_bipush (v := nI 8) hx hb dX1_init_41 bi_8 ?_
  refine cv_newI hx hb hts (by decide +kernel : Cond.arrayClass .int ∈ wsX1_init) hK hP hD hS hA hlen (N := 8) (by decide) (by omega) (by omega) dX1_init_43 (fun w22 q21 H hlen hP hD hS eq21 fr23 => ?_)
  replace e0 := (fr23 10 (by decide)).trans e0
  replace eq1 := (fr23 11 (by decide)).trans eq1
  replace eq6 := (fr23 12 (by decide)).trans eq6
  replace eq11 := (fr23 13 (by decide)).trans eq11
  replace eq16 := (fr23 14 (by decide)).trans eq16
  refine cv_putF (ci := 1) (C := RX1) (T := TX1) (N := 8) hx hb hts hinX1 tyX1 tyX1_ok nmX1 hown hK hP hD hS hlen 10 e0 rfl 5 (by decide) (by decide +kernel) (fun _ h9 => h9) rfl hin rfl (.array .int) (by decide +kernel) rfl rfl [.null, .ref q1, .ref q6, .ref q11, .ref q16, .ref q21, .int (nI 0), .int (bI false)] (Nat.le_of_ble_eq_true rfl) rfl dX1_init_45 (fun w24 H locs hlen hP hD hS e0 fr25 => ?_)
  replace eq1 := (fr25 11 (by decide)).trans eq1
  replace eq6 := (fr25 12 (by decide)).trans eq6
  replace eq11 := (fr25 13 (by decide)).trans eq11
  replace eq16 := (fr25 14 (by decide)).trans eq16
  replace eq21 := (fr25 15 (by decide)).trans eq21
  refine lv_aload_n hx hb dX1_init_48 rfl (lv_at hl 0 rfl) ?_
  refine lv_aload_n hx hb dX1_init_49 rfl (lv_at hl 1 rfl) ?_
  refine cv_putF (ci := 1) (C := RX1) (T := TX1) (N := 8) hx hb hts hinX1 tyX1 tyX1_ok nmX1 hown hK hP hD hS hlen 10 e0 rfl 0 (by decide) (by decide +kernel) (fun _ h9 => h9) rfl hin rfl (.object "AssemblyPlanner$Product") (by decide +kernel) rfl rfl [.ref hp, .ref q1, .ref q6, .ref q11, .ref q16, .ref q21, .int (nI 0), .int (bI false)] (Nat.le_of_ble_eq_true rfl) rfl dX1_init_50 (fun w26 H locs hlen hP hD hS e0 fr27 => ?_)
  replace eq1 := (fr27 11 (by decide)).trans eq1
  replace eq6 := (fr27 12 (by decide)).trans eq6
  replace eq11 := (fr27 13 (by decide)).trans eq11
  replace eq16 := (fr27 14 (by decide)).trans eq16
  replace eq21 := (fr27 15 (by decide)).trans eq21
  exact hret 53 ls _ _ locs dX1_init_53 hP hD hS ⟨hlen, ⟨q1, q6, q11, q16, q21, e0, eq1, eq6, eq11, eq16, eq21⟩, (((((((((((fr.wd fr3 : fr _ _ 10 15).tr fr5).tr fr8).tr fr10).tr fr13).tr fr15).tr fr18).tr fr20).tr fr23).tr fr25).tr fr27)⟩
set_option maxHeartbeats 4000000 in
set_option maxRecDepth 100000 in
theorem c_X0_init {l : Launch} {D : va_G} {ky : kT} {A : Nat → Prop} {Hs : Heap} {ws : va_W} (hA : ∀ q : Nat, Hs.size ≤ q → A q) (hP : va_P D CL ws Hs) (hD : va_D A ws) (hlen : ws.length = 17) {h : Nat} (e0 : ws[16]? = some (h, .inr (0, [.null, .null, .null, .int (bI false), .int (nI 0), .int (nI 0), .int (nI 0), .int (nI 0)]))) {hp : Nat} : MV l yX0_init wsX0_init 1 12 2 16 D ky A Hs [.ref h, .ref hp] (fun w => w.length = 19 ∧ (∃ j1 j2 : Nat, isCell ky w h hp j1 j2 (fun _ => 0) (fun _ => 0) false 0 0 (nI 0) (-1)) ∧ fr ws w 16 18) := by
  refine MV.of (cc := cX0_init) (maxL := 2) (by decide) rfl (Nat.le_of_ble_eq_true rfl) ?_
  intro pg en Rm sg mi av below meth co Qo hRf hRl hRc hRs hx hb hml hown hin hts hK hret ls hl
  have hl : lv_has ls 2 [(0, .ref h), (1, .ref hp)] := hl
  have hin : meth.name = "<init>" := hin
  have hS : va_S A Hs Hs [] := va_S.rf
  generalize ([] : List Loc) = locs at hS ⊢
  have hinX0 : ∀ w ∈ wsX00, w ∈ wsX0_init := by decide +kernel
  refine lv_aload_n hx hb dX0_init_0 rfl (lv_at hl 0 rfl) ?_
  refine W.objInit hx hb hown (hts (.methodLink RX0 3 objectInit) (by decide +kernel)) (hts (.instanceMethod objectInit) (by decide +kernel)) (hts _ (List.mem_cons_of_mem _ (List.mem_append_left _ (List.mem_of_getElem? (i := 2) rfl)))) rfl (by rw [hml]; exact hl.1) rfl dX0_init_1 (by omega) (by show 2 * 0 + 0 + 12 ≤ _; omega) ?_
  refine W.eq (g2 := F0 mi 4 ls []) rfl ?_
  refine lv_aload_n hx hb dX0_init_4 rfl (lv_at hl 0 rfl) ?_
  refine lv_bipush (v := nI 8) hx hb dX0_init_5 bi_8 ?_
  refine cv_newI hx hb hts (by decide +kernel : Cond.arrayClass .int ∈ wsX0_init) hK hP hD hS hA hlen (N := 8) (by decide) (by omega) (by omega) dX0_init_7 (fun w2 q1 H hlen hP hD hS eq1 fr3 => ?_)
  replace e0 := (fr3 16 (by decide)).trans e0
  refine cv_putF (ci := 0) (C := RX0) (T := TX0) (N := 8) hx hb hts hinX0 tyX0 tyX0_ok nmX0 hown hK hP hD hS hlen 16 e0 rfl 1 (by decide) (by decide +kernel) (fun _ h9 => h9) rfl hin rfl (.array .int) (by decide +kernel) rfl rfl [.null, .ref q1, .null, .int (bI false), .int (nI 0), .int (nI 0), .int (nI 0), .int (nI 0)] (Nat.le_of_ble_eq_true rfl) rfl dX0_init_9 (fun w4 H locs hlen hP hD hS e0 fr5 => ?_)
  replace eq1 := (fr5 17 (by decide)).trans eq1
  refine lv_aload_n hx hb dX0_init_12 rfl (lv_at hl 0 rfl) ?_
  refine lv_bipush (v := nI 8) hx hb dX0_init_13 bi_8 ?_
  refine cv_newI hx hb hts (by decide +kernel : Cond.arrayClass .int ∈ wsX0_init) hK hP hD hS hA hlen (N := 8) (by decide) (by omega) (by omega) dX0_init_15 (fun w7 q6 H hlen hP hD hS eq6 fr8 => ?_)
  replace e0 := (fr8 16 (by decide)).trans e0
  replace eq1 := (fr8 17 (by decide)).trans eq1
  refine cv_putF (ci := 0) (C := RX0) (T := TX0) (N := 8) hx hb hts hinX0 tyX0 tyX0_ok nmX0 hown hK hP hD hS hlen 16 e0 rfl 2 (by decide) (by decide +kernel) (fun _ h9 => h9) rfl hin rfl (.array .int) (by decide +kernel) rfl rfl [.null, .ref q1, .ref q6, .int (bI false), .int (nI 0), .int (nI 0), .int (nI 0), .int (nI 0)] (Nat.le_of_ble_eq_true rfl) rfl dX0_init_17 (fun w9 H locs hlen hP hD hS e0 fr10 => ?_)
  replace eq1 := (fr10 17 (by decide)).trans eq1
  replace eq6 := (fr10 18 (by decide)).trans eq6
  refine lv_aload_n hx hb dX0_init_20 rfl (lv_at hl 0 rfl) ?_
  refine lv_iconst (v := -1) hx hb dX0_init_21 ci_m1 ?_
  refine sv_put (ci := 0) (C := RX0) (T := TX0) (N := 8) hx hb hts hinX0 tyX0 tyX0_ok nmX0 hown hK hP hD hS 16 e0 rfl 7 (by decide) (hts _ (by decide +kernel)) (fun _ h9 => h9) rfl .int (by decide +kernel) rfl rfl [.null, .ref q1, .ref q6, .int (bI false), .int (nI 0), .int (nI 0), .int (nI 0), .int (-1)] (Nat.le_of_ble_eq_true rfl) rfl dX0_init_22 (fun w11 H locs hP hD hS e0 fr12 => ?_)
  replace hlen := fr_len fr12 hlen (by decide) e0
  replace eq1 := (fr12 17 (by decide)).trans eq1
  replace eq6 := (fr12 18 (by decide)).trans eq6
  refine lv_aload_n hx hb dX0_init_25 rfl (lv_at hl 0 rfl) ?_
  refine lv_aload_n hx hb dX0_init_26 rfl (lv_at hl 1 rfl) ?_
  refine cv_putF (ci := 0) (C := RX0) (T := TX0) (N := 8) hx hb hts hinX0 tyX0 tyX0_ok nmX0 hown hK hP hD hS hlen 16 e0 rfl 0 (by decide) (by decide +kernel) (fun _ h9 => h9) rfl hin rfl (.object "AssemblyPlanner$Product") (by decide +kernel) rfl rfl [.ref hp, .ref q1, .ref q6, .int (bI false), .int (nI 0), .int (nI 0), .int (nI 0), .int (-1)] (Nat.le_of_ble_eq_true rfl) rfl dX0_init_27 (fun w13 H locs hlen hP hD hS e0 fr14 => ?_)
  replace eq1 := (fr14 17 (by decide)).trans eq1
  replace eq6 := (fr14 18 (by decide)).trans eq6
  exact hret 30 ls _ _ locs dX0_init_30 hP hD hS ⟨hlen, ⟨q1, q6, e0, eq1, eq6⟩, ((((((fr.wd fr3 : fr _ _ 16 18).tr fr5).tr fr8).tr fr10).tr fr12).tr fr14)⟩
set_option maxHeartbeats 4000000 in
set_option maxRecDepth 100000 in
theorem c_X4_init {l : Launch} {D : va_G} {ky : kT} {A : Nat → Prop} {Hs : Heap} {ws : va_W} (hA : ∀ q : Nat, Hs.size ≤ q → A q) (hP : va_P D CL ws Hs) (hD : va_D A ws) (hlen : ws.length = 1) {h : Nat} (e0 : ws[0]? = some (h, .inr (4, [.null, .null, .null, .null]))) : MVN l yX4_init wsX4_init 2 33 18 2932 D ky A Hs [.ref h] (fun w => w.length = 19 ∧ AP ky w h 0 (fun _ => 0) (fun _ => 0) (fun _ => 0) 0 false (fun _ => 0) false 0 0 (nI 0) (-1) (fun _ => 0) ∧ fr ws w 0 18) := by
  refine MVN.of (cc := cX4_init) (maxL := 1) (by decide) rfl (Nat.le_of_ble_eq_true rfl) ?_
  intro pg en Rm sg mi av below meth co Qo hRf hRl hRc hRs hx hb hml hown hin hts hK hNW hret ls hl
  have hl : lv_has ls 1 [(0, .ref h)] := hl
  have hin : meth.name = "<init>" := hin
  have hS : va_S A Hs Hs [] := va_S.rf
  generalize ([] : List Loc) = locs at hS ⊢
  have hinX0 : ∀ w ∈ wsX00, w ∈ wsX4_init := by decide +kernel
  have hinX1 : ∀ w ∈ wsX10, w ∈ wsX4_init := by decide +kernel
  have hinX2 : ∀ w ∈ wsX20, w ∈ wsX4_init := by decide +kernel
  have hinX3 : ∀ w ∈ wsX30, w ∈ wsX4_init := by decide +kernel
  have hinX4 : ∀ w ∈ wsX40, w ∈ wsX4_init := by decide +kernel
  refine lv_aload_n hx hb dX4_init_0 rfl (lv_at hl 0 rfl) ?_
  refine W.objInit hx hb hown (hts (.methodLink RX4 3 objectInit) (by decide +kernel)) (hts (.instanceMethod objectInit) (by decide +kernel)) (hts _ (List.mem_cons_of_mem _ (List.mem_append_left _ (List.mem_append_left _ (List.mem_append_left _ (List.mem_append_left _ (List.mem_append_left _ (List.mem_append_left _ (List.mem_of_getElem? (i := 2) rfl))))))))) rfl (by rw [hml]; exact hl.1) rfl dX4_init_1 (by omega) (by show 2 * 0 + 0 + 12 ≤ _; omega) ?_
  refine W.eq (g2 := F0 mi 4 ls []) rfl ?_
  refine lv_aload_n hx hb dX4_init_4 rfl (lv_at hl 0 rfl) ?_
  refine cv_new (ci := 3) (C := RX3) (T := TX3) (N := 6) hx hb hts hinX3 tyX3 tyX3_ok hown (by decide +kernel : Cond.classLink RX4 9 RX3 ∈ wsX4_init) (by decide +kernel) (by decide +kernel) hK hP hD hS hA hlen rfl [.null, .null, .null, .int (nI 0), .int (nI 0), .int (bI false)] (fun j hj => by rcases (show j = 0 ∨ j = 1 ∨ j = 2 ∨ j = 3 ∨ j = 4 ∨ j = 5 by omega) with rfl | rfl | rfl | rfl | rfl | rfl <;> rfl) (by omega) (by omega) dX4_init_5 (fun w2 q1 H hlen hP hD hS eq1 fr3 => ?_)
  replace e0 := (fr3 0 (by decide)).trans e0
  refine lv_dup hx hb dX4_init_8 rfl ?_
  refine mvIN (c_X3_init (fun q z => hA q (Nat.le_trans hS.1 z)) hP hD hlen eq1) ⟨hx, hb, hml, hown, hts⟩ hK gX4_init_X3_init_n11 rfl (by decide +kernel) hNW (by decide +kernel) rfl hd_X3_init ⟨by omega, by omega⟩ rfl hl.1 rfl (Nat.le_of_ble_eq_true rfl) dX4_init_9 ⟨by omega, by omega⟩ hS (fun w4 H locs hq hP hD hS => ?_)
  obtain ⟨hlen, hpr, fr5⟩ := hq
  replace e0 := (fr5 0 (by decide)).trans e0
  refine cv_putF (ci := 4) (C := RX4) (T := TX4) (N := 4) hx hb hts hinX4 tyX4 tyX4_ok nmX4 hown hK hP hD hS hlen 0 e0 rfl 0 (by decide) (by decide +kernel) (fun _ h9 => h9) rfl hin rfl (.object "AssemblyPlanner$Product") (by decide +kernel) rfl rfl [.ref q1, .null, .null, .null] (Nat.le_of_ble_eq_true rfl) rfl dX4_init_12 (fun w6 H locs hlen hP hD hS e0 fr7 => ?_)
  replace hpr := hpr.fr fr7
  refine lv_aload_n hx hb dX4_init_15 rfl (lv_at hl 0 rfl) ?_
  refine cv_new (ci := 2) (C := RX2) (T := TX2) (N := 6) hx hb hts hinX2 tyX2 tyX2_ok hown (by decide +kernel : Cond.classLink RX4 16 RX2 ∈ wsX4_init) (by decide +kernel) (by decide +kernel) hK hP hD hS hA hlen rfl [.null, .null, .null, .null, .null, .int (bI false)] (fun j hj => by rcases (show j = 0 ∨ j = 1 ∨ j = 2 ∨ j = 3 ∨ j = 4 ∨ j = 5 by omega) with rfl | rfl | rfl | rfl | rfl | rfl <;> rfl) (by omega) (by omega) dX4_init_16 (fun w9 q8 H hlen hP hD hS eq8 fr10 => ?_)
  replace e0 := (fr10 0 (by decide)).trans e0
  replace hpr := hpr.fr fr10
  refine lv_dup hx hb dX4_init_19 rfl ?_
  refine lv_aload_n hx hb dX4_init_20 rfl (lv_at hl 0 rfl) ?_
  refine va_get (ci := 4) (C := RX4) (T := TX4) (N := 4) hx hb hts hinX4 hown hK hP 0 e0 rfl 0 (by decide) (hts (.fieldLink RX4 12 "AssemblyPlanner" "product" "LAssemblyPlanner$Product;") (by decide +kernel)) (fun _ h9 => h9) rfl dX4_init_21 ?_
  refine mvI (c_X2_init (fun q z => hA q (Nat.le_trans hS.1 z)) hP hD hlen eq8) ⟨hx, hb, hml, hown, hts⟩ hK gX4_init_X2_init rfl (by decide +kernel) (by decide +kernel : Cond.methodLink RX4 18 yX2_init ∈ wsX4_init) (by decide +kernel) rfl hd_X2_init ⟨by omega, by omega⟩ rfl hl.1 rfl (Nat.le_of_ble_eq_true rfl) dX4_init_24 ⟨by omega, by omega⟩ hS (fun w11 H locs hq hP hD hS => ?_)
  obtain ⟨hlen, ⟨a4, a5, a6, a7, hpt⟩, fr12⟩ := hq
  replace e0 := (fr12 0 (by decide)).trans e0
  replace hpr := hpr.fr fr12
  refine cv_putF (ci := 4) (C := RX4) (T := TX4) (N := 4) hx hb hts hinX4 tyX4 tyX4_ok nmX4 hown hK hP hD hS hlen 0 e0 rfl 1 (by decide) (by decide +kernel) (fun _ h9 => h9) rfl hin rfl (.object "AssemblyPlanner$Parting") (by decide +kernel) rfl rfl [.ref q1, .ref q8, .null, .null] (Nat.le_of_ble_eq_true rfl) rfl dX4_init_27 (fun w13 H locs hlen hP hD hS e0 fr14 => ?_)
  replace hpr := hpr.fr fr14
  replace hpt := hpt.fr fr14
  refine lv_aload_n hx hb dX4_init_30 rfl (lv_at hl 0 rfl) ?_
  refine cv_new (ci := 1) (C := RX1) (T := TX1) (N := 8) hx hb hts hinX1 tyX1 tyX1_ok hown (by decide +kernel : Cond.classLink RX4 25 RX1 ∈ wsX4_init) (by decide +kernel) (by decide +kernel) hK hP hD hS hA hlen rfl [.null, .null, .null, .null, .null, .null, .int (nI 0), .int (bI false)] (fun j hj => by rcases (show j = 0 ∨ j = 1 ∨ j = 2 ∨ j = 3 ∨ j = 4 ∨ j = 5 ∨ j = 6 ∨ j = 7 by omega) with rfl | rfl | rfl | rfl | rfl | rfl | rfl | rfl <;> rfl) (by omega) (by omega) dX4_init_31 (fun w16 q15 H hlen hP hD hS eq15 fr17 => ?_)
  replace e0 := (fr17 0 (by decide)).trans e0
  replace hpr := hpr.fr fr17
  replace hpt := hpt.fr fr17
  refine lv_dup hx hb dX4_init_34 rfl ?_
  refine lv_aload_n hx hb dX4_init_35 rfl (lv_at hl 0 rfl) ?_
  refine va_get (ci := 4) (C := RX4) (T := TX4) (N := 4) hx hb hts hinX4 hown hK hP 0 e0 rfl 0 (by decide) (hts (.fieldLink RX4 12 "AssemblyPlanner" "product" "LAssemblyPlanner$Product;") (by decide +kernel)) (fun _ h9 => h9) rfl dX4_init_36 ?_
  refine mvI (c_X1_init (fun q z => hA q (Nat.le_trans hS.1 z)) hP hD hlen eq15) ⟨hx, hb, hml, hown, hts⟩ hK gX4_init_X1_init rfl (by decide +kernel) (by decide +kernel : Cond.methodLink RX4 27 yX1_init ∈ wsX4_init) (by decide +kernel) rfl hd_X1_init ⟨by omega, by omega⟩ rfl hl.1 rfl (Nat.le_of_ble_eq_true rfl) dX4_init_39 ⟨by omega, by omega⟩ hS (fun w18 H locs hq hP hD hS => ?_)
  obtain ⟨hlen, ⟨b1, b2, b3, b4, b5, hod⟩, fr19⟩ := hq
  replace e0 := (fr19 0 (by decide)).trans e0
  replace hpr := hpr.fr fr19
  replace hpt := hpt.fr fr19
  refine cv_putF (ci := 4) (C := RX4) (T := TX4) (N := 4) hx hb hts hinX4 tyX4 tyX4_ok nmX4 hown hK hP hD hS hlen 0 e0 rfl 2 (by decide) (by decide +kernel) (fun _ h9 => h9) rfl hin rfl (.object "AssemblyPlanner$Ordering") (by decide +kernel) rfl rfl [.ref q1, .ref q8, .ref q15, .null] (Nat.le_of_ble_eq_true rfl) rfl dX4_init_42 (fun w20 H locs hlen hP hD hS e0 fr21 => ?_)
  replace hpr := hpr.fr fr21
  replace hpt := hpt.fr fr21
  replace hod := hod.fr fr21
  refine lv_aload_n hx hb dX4_init_45 rfl (lv_at hl 0 rfl) ?_
  refine cv_new (ci := 0) (C := RX0) (T := TX0) (N := 8) hx hb hts hinX0 tyX0 tyX0_ok hown (by decide +kernel : Cond.classLink RX4 32 RX0 ∈ wsX4_init) (by decide +kernel) (by decide +kernel) hK hP hD hS hA hlen rfl [.null, .null, .null, .int (bI false), .int (nI 0), .int (nI 0), .int (nI 0), .int (nI 0)] (fun j hj => by rcases (show j = 0 ∨ j = 1 ∨ j = 2 ∨ j = 3 ∨ j = 4 ∨ j = 5 ∨ j = 6 ∨ j = 7 by omega) with rfl | rfl | rfl | rfl | rfl | rfl | rfl | rfl <;> rfl) (by omega) (by omega) dX4_init_46 (fun w23 q22 H hlen hP hD hS eq22 fr24 => ?_)
  replace e0 := (fr24 0 (by decide)).trans e0
  replace hpr := hpr.fr fr24
  replace hpt := hpt.fr fr24
  replace hod := hod.fr fr24
  refine lv_dup hx hb dX4_init_49 rfl ?_
  refine lv_aload_n hx hb dX4_init_50 rfl (lv_at hl 0 rfl) ?_
  refine va_get (ci := 4) (C := RX4) (T := TX4) (N := 4) hx hb hts hinX4 hown hK hP 0 e0 rfl 0 (by decide) (hts (.fieldLink RX4 12 "AssemblyPlanner" "product" "LAssemblyPlanner$Product;") (by decide +kernel)) (fun _ h9 => h9) rfl dX4_init_51 ?_
  refine mvI (c_X0_init (fun q z => hA q (Nat.le_trans hS.1 z)) hP hD hlen eq22) ⟨hx, hb, hml, hown, hts⟩ hK gX4_init_X0_init rfl (by decide +kernel) (by decide +kernel : Cond.methodLink RX4 34 yX0_init ∈ wsX4_init) (by decide +kernel) rfl hd_X0_init ⟨by omega, by omega⟩ rfl hl.1 rfl (Nat.le_of_ble_eq_true rfl) dX4_init_54 ⟨by omega, by omega⟩ hS (fun w25 H locs hq hP hD hS => ?_)
  obtain ⟨hlen, ⟨j1, j2, hcl⟩, fr26⟩ := hq
  replace e0 := (fr26 0 (by decide)).trans e0
  replace hpr := hpr.fr fr26
  replace hpt := hpt.fr fr26
  replace hod := hod.fr fr26
  refine cv_putF (ci := 4) (C := RX4) (T := TX4) (N := 4) hx hb hts hinX4 tyX4 tyX4_ok nmX4 hown hK hP hD hS hlen 0 e0 rfl 3 (by decide) (by decide +kernel) (fun _ h9 => h9) rfl hin rfl (.object "AssemblyPlanner$Cell") (by decide +kernel) rfl rfl [.ref q1, .ref q8, .ref q15, .ref q22] (Nat.le_of_ble_eq_true rfl) rfl dX4_init_57 (fun w27 H locs hlen hP hD hS e0 fr28 => ?_)
  replace hpr := hpr.fr fr28
  replace hpt := hpt.fr fr28
  replace hod := hod.fr fr28
  replace hcl := hcl.fr fr28
  exact hret 60 ls _ _ locs dX4_init_60 hP hD hS ⟨hlen, ⟨q1, q8, a4, a5, a6, a7, q15, b1, b2, b3, b4, b5, q22, j1, j2, e0, hpr, ⟨_, _, _, _, false, hpt, fun z => Bool.noConfusion z⟩, ⟨_, _, _, _, _, _, false, hod, fun z => Bool.noConfusion z⟩, hcl⟩, ((((((((((((fr.wd fr3 : fr _ _ 0 18).tr fr5).tr fr7).tr fr10).tr fr12).tr fr14).tr fr17).tr fr19).tr fr21).tr fr24).tr fr26).tr fr28)⟩
