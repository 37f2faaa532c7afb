theorem bi_32 : (Int8.ofInt 32).toInt32 = nI 32 := by decide +kernel
theorem bi_6 : (Int8.ofInt 6).toInt32 = nI 6 := by decide +kernel
theorem bi_8 : (Int8.ofInt 8).toInt32 = nI 8 := by decide +kernel
theorem ci_0 : Int32.ofInt 0 = nI 0 := by decide +kernel
theorem ci_1 : Int32.ofInt 1 = nI 1 := by decide +kernel
theorem ci_m1 : Int32.ofInt (-1) = -1 := by decide +kernel
theorem hd_X3_all : yX3_all.cls = RX3 ∧ yX3_all.cls ≠ "java/lang/invoke/MethodHandle" ∧ yX3_all.cls ≠ "java/lang/invoke/VarHandle" ∧ (parseMethodDescriptor yX3_all.desc).map (fun d => d.parameters.length) = some 0 := by decide +kernel
theorem hd_X3_boundWith : yX3_boundWith.cls = RX3 ∧ yX3_boundWith.cls ≠ "java/lang/invoke/MethodHandle" ∧ yX3_boundWith.cls ≠ "java/lang/invoke/VarHandle" ∧ (parseMethodDescriptor yX3_boundWith.desc).map (fun d => d.parameters.length) = some 2 := by decide +kernel
theorem hd_X3_connected : yX3_connected.cls = RX3 ∧ yX3_connected.cls ≠ "java/lang/invoke/MethodHandle" ∧ yX3_connected.cls ≠ "java/lang/invoke/VarHandle" ∧ (parseMethodDescriptor yX3_connected.desc).map (fun d => d.parameters.length) = some 1 := by decide +kernel
theorem hd_X3_freeDirections : yX3_freeDirections.cls = RX3 ∧ yX3_freeDirections.cls ≠ "java/lang/invoke/MethodHandle" ∧ yX3_freeDirections.cls ≠ "java/lang/invoke/VarHandle" ∧ (parseMethodDescriptor yX3_freeDirections.desc).map (fun d => d.parameters.length) = some 2 := by decide +kernel
theorem hd_X3_hindered : yX3_hindered.cls = RX3 ∧ yX3_hindered.cls ≠ "java/lang/invoke/MethodHandle" ∧ yX3_hindered.cls ≠ "java/lang/invoke/VarHandle" ∧ (parseMethodDescriptor yX3_hindered.desc).map (fun d => d.parameters.length) = some 3 := by decide +kernel
theorem hd_X3_movingWith : yX3_movingWith.cls = RX3 ∧ yX3_movingWith.cls ≠ "java/lang/invoke/MethodHandle" ∧ yX3_movingWith.cls ≠ "java/lang/invoke/VarHandle" ∧ (parseMethodDescriptor yX3_movingWith.desc).map (fun d => d.parameters.length) = some 2 := by decide +kernel
theorem hd_X3_opposite : yX3_opposite.cls ≠ "java/lang/invoke/MethodHandle" ∧ yX3_opposite.cls ≠ "java/lang/invoke/VarHandle" ∧ (parseMethodDescriptor yX3_opposite.desc).map (fun d => d.parameters.length) = some 1 := by decide +kernel
theorem hd_X3_reached : yX3_reached.cls ≠ "java/lang/invoke/MethodHandle" ∧ yX3_reached.cls ≠ "java/lang/invoke/VarHandle" ∧ (parseMethodDescriptor yX3_reached.desc).map (fun d => d.parameters.length) = some 4 := by decide +kernel
theorem hd_X3_sound : yX3_sound.cls = RX3 ∧ yX3_sound.cls ≠ "java/lang/invoke/MethodHandle" ∧ yX3_sound.cls ≠ "java/lang/invoke/VarHandle" ∧ (parseMethodDescriptor yX3_sound.desc).map (fun d => d.parameters.length) = some 1 := by decide +kernel
theorem hd_X3_steady : yX3_steady.cls = RX3 ∧ yX3_steady.cls ≠ "java/lang/invoke/MethodHandle" ∧ yX3_steady.cls ≠ "java/lang/invoke/VarHandle" ∧ (parseMethodDescriptor yX3_steady.desc).map (fun d => d.parameters.length) = some 1 := by decide +kernel
set_option maxHeartbeats 4000000 in
set_option maxRecDepth 100000 in
theorem c_X3_count {l : Launch} {D : va_G} {ky : kT} {Hs : Heap} {ws : va_W} {h n : Nat} {T C Hd : Nat → Nat} {b : Nat} {q : Bool} (hP : va_P D CL ws Hs) (hpr : isProd ky ws h n T C Hd b q) (hI : PI0 n C Hd b) : PI l yX3_count wsX3_count 0 0 D ky Hs [.ref h] (nI n) := by
  refine PI.of (cc := cX3_count) (maxL := 1) (ty := .int) (by decide) rfl rfl (Nat.le_of_ble_eq_true rfl) ?_
  intro pg en Rm sg mi av below meth co Qo hRf hRl hx hb hml hown hts hK hret ls hl
  have hl : lv_has ls 1 [(0, .ref h)] := hl
  have hS : va_S (fun _ => False) Hs Hs [] := va_S.rf
  generalize ([] : List Loc) = locs at hS ⊢
  obtain ⟨a1, a2, a3, f1, f2, f3, f4⟩ := hpr
  obtain ⟨hn8, hb8, hC, hH, hsy⟩ := hI
  have k21 := hts (.fieldLink RX3 21 "AssemblyPlanner$Product" "count" "I") (by decide +kernel)
  have hinX3 : ∀ w ∈ wsX30, w ∈ wsX3_count := by decide +kernel
  refine lv_aload_n hx hb dX3_count_0 rfl (lv_at hl 0 rfl) ?_
  refine va_get (ci := 3) (C := RX3) (T := TX3) (N := 6) hx hb hts hinX3 hown hK hP 1 f1 rfl 3 (by decide) k21 (fun _ h9 => h9) rfl dX3_count_1 ?_
  exact hret 4 ls locs _ dX3_count_4 hS (rfl)
set_option maxHeartbeats 4000000 in
set_option maxRecDepth 100000 in
theorem c_X3_all {l : Launch} {D : va_G} {ky : kT} {Hs : Heap} {ws : va_W} {h n : Nat} {T C Hd : Nat → Nat} {b : Nat} {q : Bool} (hP : va_P D CL ws Hs) (hpr : isProd ky ws h n T C Hd b q) (hI : PI0 n C Hd b) : PI l yX3_all wsX3_all 0 0 D ky Hs [.ref h] (nI (2 ^ n - 1)) := by
  refine PI.of (cc := cX3_all) (maxL := 1) (ty := .int) (by decide) rfl rfl (Nat.le_of_ble_eq_true rfl) ?_
  intro pg en Rm sg mi av below meth co Qo hRf hRl hx hb hml hown hts hK hret ls hl
  have hl : lv_has ls 1 [(0, .ref h)] := hl
  have hS : va_S (fun _ => False) Hs Hs [] := va_S.rf
  generalize ([] : List Loc) = locs at hS ⊢
  obtain ⟨a1, a2, a3, f1, f2, f3, f4⟩ := hpr
  obtain ⟨hn8, hb8, hC, hH, hsy⟩ := hI
  have hp1 : 1 ≤ 2 ^ n := Nat.one_le_two_pow
  have k21 := hts (.fieldLink RX3 21 "AssemblyPlanner$Product" "count" "I") (by decide +kernel)
  have hinX3 : ∀ w ∈ wsX30, w ∈ wsX3_all := by decide +kernel
  refine lv_iconst (v := nI 1) hx hb dX3_all_0 ci_1 ?_
  refine lv_aload_n hx hb dX3_all_1 rfl (lv_at hl 0 rfl) ?_
  refine va_get (ci := 3) (C := RX3) (T := TX3) (N := 6) hx hb hts hinX3 hown hK hP 1 f1 rfl 3 (by decide) k21 (fun _ h9 => h9) rfl dX3_all_2 ?_
  refine lv_ishl hx hb dX3_all_5 ?_
  refine sv_top (y := nI (2 ^ n)) (sh_l1 (by omega)) ?_
  refine lv_iconst (v := nI 1) hx hb dX3_all_6 ci_1 ?_
  refine lv_isub hx hb dX3_all_7 ?_
  refine sv_top (y := nI ((2 ^ n) - 1)) (pk_sub (by omega)) ?_
  exact hret 8 ls locs _ dX3_all_8 hS (rfl)
set_option maxHeartbeats 4000000 in
set_option maxRecDepth 100000 in
theorem c_X3_tool {l : Launch} {D : va_G} {ky : kT} {Hs : Heap} {ws : va_W} {h n : Nat} {T C Hd : Nat → Nat} {b : Nat} {q : Bool} (hP : va_P D CL ws Hs) (hpr : isProd ky ws h n T C Hd b q) (hI : PI0 n C Hd b) {p : Nat} (hp : p < 8) : PI l yX3_tool wsX3_tool 0 0 D ky Hs [.ref h, .int (nI p)] (nI (T p)) := by
  refine PI.of (cc := cX3_tool) (maxL := 2) (ty := .int) (by decide) rfl rfl (Nat.le_of_ble_eq_true rfl) ?_
  intro pg en Rm sg mi av below meth co Qo hRf hRl hx hb hml hown hts hK hret ls hl
  have hl : lv_has ls 2 [(0, .ref h), (1, .int (nI p))] := hl
  have hS : va_S (fun _ => False) Hs Hs [] := va_S.rf
  generalize ([] : List Loc) = locs at hS ⊢
  obtain ⟨a1, a2, a3, f1, f2, f3, f4⟩ := hpr
  obtain ⟨hn8, hb8, hC, hH, hsy⟩ := hI
  have k9 := hts (.fieldLink RX3 9 "AssemblyPlanner$Product" "tools" "[I") (by decide +kernel)
  have hinX3 : ∀ w ∈ wsX30, w ∈ wsX3_tool := by decide +kernel
  refine lv_aload_n hx hb dX3_tool_0 rfl (lv_at hl 0 rfl) ?_
  refine va_get (ci := 3) (C := RX3) (T := TX3) (N := 6) hx hb hts hinX3 hown hK hP 1 f1 rfl 0 (by decide) k9 (fun _ h9 => h9) rfl dX3_tool_1 ?_
  refine lv_iload_n hx hb dX3_tool_4 rfl (lv_at hl 1 rfl) ?_
  refine sv_iald hx hb hK hP 2 f2 (j := p) (by omega) (by decide) dX3_tool_5 ?_
  refine W.eq (g2 := F0 mi 6 ls (.int (nI (T p)) :: [])) rfl ?_
  exact hret 6 ls locs _ dX3_tool_6 hS (rfl)
set_option maxHeartbeats 4000000 in
set_option maxRecDepth 100000 in
theorem c_X3_opposite {l : Launch} {D : va_G} {ky : kT} {Hs : Heap} {d : Nat} : PI l yX3_opposite wsX3_opposite 0 0 D ky Hs [.int (nI d)] (nI (d ^^^ 1)) := by
  refine PI.of (cc := cX3_opposite) (maxL := 1) (ty := .int) (by decide) rfl rfl (Nat.le_of_ble_eq_true rfl) ?_
  intro pg en Rm sg mi av below meth co Qo hRf hRl hx hb hml hown hts hK hret ls hl
  have hl : lv_has ls 1 [(0, .int (nI d))] := hl
  have hS : va_S (fun _ => False) Hs Hs [] := va_S.rf
  generalize ([] : List Loc) = locs at hS ⊢
  refine lv_iload_n hx hb dX3_opposite_0 rfl (lv_at hl 0 rfl) ?_
  refine lv_iconst (v := nI 1) hx hb dX3_opposite_1 ci_1 ?_
  refine lv_ixor hx hb dX3_opposite_2 ?_
  refine sv_top (y := nI (d ^^^ 1)) (an_xor _ _) ?_
  exact hret 3 ls locs _ dX3_opposite_3 hS (rfl)
set_option maxHeartbeats 4000000 in
set_option maxRecDepth 100000 in
theorem c_X3_changed {l : Launch} {D : va_G} {ky : kT} {Hs : Heap} {S p : Nat} {is : Bool} (hp : p < 8) : PI l yX3_changed wsX3_changed 0 0 D ky Hs [.int (nI S), .int (nI p), .int (bI is)] (nI (chg S p is)) := by
  refine PI.of (cc := cX3_changed) (maxL := 3) (ty := .int) (by decide) rfl rfl (Nat.le_of_ble_eq_true rfl) ?_
  intro pg en Rm sg mi av below meth co Qo hRf hRl hx hb hml hown hts hK hret ls hl
  have hl : lv_has ls 3 [(0, .int (nI S)), (1, .int (nI p)), (2, .int (bI is))] := hl
  have hS : va_S (fun _ => False) Hs Hs [] := va_S.rf
  generalize ([] : List Loc) = locs at hS ⊢
  refine lv_iload_n hx hb dX3_changed_0 rfl (lv_at hl 2 rfl) ?_
  refine sb_if_eq (tgt := 12) hx hb dX3_changed_1 (by decide) (fun c1 => ?_) (fun c1 => ?_)
  · refine lv_iload_n hx hb dX3_changed_12 rfl (lv_at hl 0 rfl) ?_
    refine lv_iconst (v := nI 1) hx hb dX3_changed_13 ci_1 ?_
    refine lv_iload_n hx hb dX3_changed_14 rfl (lv_at hl 1 rfl) ?_
    refine lv_ishl hx hb dX3_changed_15 ?_
    refine sv_top (y := nI (2 ^ p)) (sh_l1 (by omega)) ?_
    refine lv_iconst (v := -1) hx hb dX3_changed_16 ci_m1 ?_
    refine lv_ixor hx hb dX3_changed_17 ?_
    refine lv_iand hx hb dX3_changed_18 ?_
    refine sv_top (y := nI (clr S (2 ^ p))) (an_not _ _) ?_
    exact hret 19 ls locs _ dX3_changed_19 hS (by simp only [chg, c1, if_true]; try rfl)
  · refine lv_iload_n hx hb dX3_changed_4 rfl (lv_at hl 0 rfl) ?_
    refine lv_iconst (v := nI 1) hx hb dX3_changed_5 ci_1 ?_
    refine lv_iload_n hx hb dX3_changed_6 rfl (lv_at hl 1 rfl) ?_
    refine lv_ishl hx hb dX3_changed_7 ?_
    refine sv_top (y := nI (2 ^ p)) (sh_l1 (by omega)) ?_
    refine lv_ior hx hb dX3_changed_8 ?_
    refine sv_top (y := nI (S ||| (2 ^ p))) (an_or _ _) ?_
    refine lv_goto (tgt := 19) hx hb dX3_changed_9 (by decide) ?_
    exact hret 19 ls locs _ dX3_changed_19 hS (by simp only [chg, c1, if_true]; try rfl)
set_option maxHeartbeats 4000000 in
set_option maxRecDepth 100000 in
theorem c_X3_reached {l : Launch} {D : va_G} {ky : kT} {Hs : Heap} {ws : va_W} {a q0 N : Nat} {G L : Nat → Nat} {g f i : Nat} (hP : va_P D CL ws Hs) (fa : ws[q0]? = some (a, .inl (ky.1, N, .inl (fun j => nI (G j))))) (hN : N < 2 ^ 31) (hg : g + 8 ≤ N) (hL : ∀ j, j < 8 → G (g + j) &&& i = L j) : PI l yX3_reached wsX3_reached 0 0 D ky Hs [.ref a, .int (nI g), .int (nI f), .int (nI i)] (nI (rch L f 7)) := by
  refine PI.of (cc := cX3_reached) (maxL := 7) (ty := .int) (by decide) rfl rfl (Nat.le_of_ble_eq_true rfl) ?_
  intro pg en Rm sg mi av below meth co Qo hRf hRl hx hb hml hown hts hK hret ls hl
  have hl : lv_has ls 7 [(0, .ref a), (1, .int (nI g)), (2, .int (nI f)), (3, .int (nI i))] := hl
  have hS : va_S (fun _ => False) Hs Hs [] := va_S.rf
  generalize ([] : List Loc) = locs at hS ⊢
  refine lv_iload_n hx hb dX3_reached_0 rfl (lv_at hl 2 rfl) ?_
  refine lv_istore (lv' := [(4, .int (nI f)), (0, .ref a), (1, .int (nI g)), (2, .int (nI f)), (3, .int (nI i))]) hx hb dX3_reached_1 hl (by decide) rfl (fun ls hl => ?_)
  refine lv_iconst (v := nI 1) hx hb dX3_reached_3 ci_1 ?_
  refine lv_istore (lv' := [(5, .int (nI 1)), (4, .int (nI f)), (0, .ref a), (1, .int (nI g)), (2, .int (nI f)), (3, .int (nI i))]) hx hb dX3_reached_4 hl (by decide) rfl (fun ls hl => ?_)
  have L6 : ∀ (L6d : Nat) (t : Nat), 7 - t < L6d → t ≤ 7 → ∀ (ls : Array Slot) (locs : List Loc), lv_has ls 7 [(4, .int (nI (rch L f t))), (5, .int (nI (t + 1))), (0, .ref a), (1, .int (nI g)), (2, .int (nI f)), (3, .int (nI i))] → va_S (fun _ => False) Hs Hs locs → W pg l en Rm sg mi av below meth co Hs locs 0 0 Qo (F0 mi 6 ls []) := by
    intro L6d
    induction L6d with
    | zero => intro t hfu; exact absurd hfu (Nat.not_lt_zero _)
    | succ L6d ih6 =>
      intro t hfu i6_0 ls locs hl hS
      refine lv_iload hx hb dX3_reached_6 (lv_at hl 1 rfl) ?_
      refine lv_bipush (v := nI 8) hx hb dX3_reached_8 bi_8 ?_
      refine sn_icmp_ge (tgt := 58) hx hb dX3_reached_10 (by decide) (by omega) (by decide) (fun c1 => ?_) (fun c1 => ?_)
      · refine lv_iload hx hb dX3_reached_58 (lv_at hl 0 rfl) ?_
        exact hret 60 ls locs _ dX3_reached_60 hS (by rw [show t = 7 by omega])
      · refine lv_iconst (v := nI 0) hx hb dX3_reached_13 ci_0 ?_
        refine lv_istore (lv' := [(6, .int (nI 0)), (4, .int (nI (rch L f t))), (5, .int (nI (t + 1))), (0, .ref a), (1, .int (nI g)), (2, .int (nI f)), (3, .int (nI i))]) hx hb dX3_reached_14 hl (by decide) rfl (fun ls hl => ?_)
        have L16 : ∀ (L16d : Nat) (j : Nat), 8 - j < L16d → j ≤ 8 → ∀ (ls : Array Slot) (locs : List Loc), lv_has ls 7 [(4, .int (nI (itr (rsw L) j (rch L f t)))), (6, .int (nI j)), (5, .int (nI (t + 1))), (0, .ref a), (1, .int (nI g)), (2, .int (nI f)), (3, .int (nI i))] → va_S (fun _ => False) Hs Hs locs → W pg l en Rm sg mi av below meth co Hs locs 0 0 Qo (F0 mi 16 ls []) := by
          intro L16d
          induction L16d with
          | zero => intro j hfu; exact absurd hfu (Nat.not_lt_zero _)
          | succ L16d ih16 =>
            intro j hfu i16_0 ls locs hl hS
            refine lv_iload hx hb dX3_reached_16 (lv_at hl 1 rfl) ?_
            refine lv_bipush (v := nI 8) hx hb dX3_reached_18 bi_8 ?_
            refine sn_icmp_ge (tgt := 52) hx hb dX3_reached_20 (by decide) (by omega) (by decide) (fun c2 => ?_) (fun c2 => ?_)
            · refine lv_iinc (v := nI (t + 1 + 1)) (lv' := [(5, .int (nI (t + 1 + 1))), (4, .int (nI (itr (rsw L) j (rch L f t)))), (6, .int (nI j)), (0, .ref a), (1, .int (nI g)), (2, .int (nI f)), (3, .int (nI i))]) hx hb dX3_reached_52 hl (k := 2) rfl (nI_1 _) (by decide) rfl (fun ls hl => ?_)
              refine lv_goto (tgt := 6) hx hb dX3_reached_55 (by decide) ?_
              have e4 : nI (itr (rsw L) j (rch L f t)) = nI (rch L f (t + 1)) := (by rw [show j = 8 by omega]; rfl)
              rw [e4] at hl
              exact ih6 (t + 1) (by omega) (by omega) ls locs (lv_sub hl [1, 0, 3, 4, 5, 6] rfl) hS
            · refine lv_iload hx hb dX3_reached_23 (lv_at hl 0 rfl) ?_
              refine lv_iconst (v := nI 1) hx hb dX3_reached_25 ci_1 ?_
              refine lv_iload hx hb dX3_reached_26 (lv_at hl 1 rfl) ?_
              refine lv_ishl hx hb dX3_reached_28 ?_
              refine sv_top (y := nI (2 ^ j)) (sh_l1 (by omega)) ?_
              refine lv_iand hx hb dX3_reached_29 ?_
              refine sv_top (y := nI ((itr (rsw L) j (rch L f t)) &&& (2 ^ j))) (an_and _ _) ?_
              refine st_if_eq (tgt := 46) hx hb dX3_reached_30 (by decide) (by omega) (fun c3 => ?_) (fun c3 => ?_)
              · refine lv_iinc (v := nI (j + 1)) (lv' := [(6, .int (nI (j + 1))), (4, .int (nI (itr (rsw L) j (rch L f t)))), (5, .int (nI (t + 1))), (0, .ref a), (1, .int (nI g)), (2, .int (nI f)), (3, .int (nI i))]) hx hb dX3_reached_46 hl (k := 1) rfl (nI_1 _) (by decide) rfl (fun ls hl => ?_)
                refine lv_goto (tgt := 16) hx hb dX3_reached_49 (by decide) ?_
                have e4 : nI (itr (rsw L) j (rch L f t)) = nI (itr (rsw L) (j + 1) (rch L f t)) := (congrArg nI (show _ = rsw L j _ from (if_neg (by rw [c3]; decide)).symm))
                rw [e4] at hl
                exact ih16 (j + 1) (by omega) (by omega) ls locs (lv_sub hl [1, 0, 2, 3, 4, 5, 6] rfl) hS
              · refine lv_iload hx hb dX3_reached_33 (lv_at hl 0 rfl) ?_
                refine lv_aload_n hx hb dX3_reached_35 rfl (lv_at hl 3 rfl) ?_
                refine lv_iload_n hx hb dX3_reached_36 rfl (lv_at hl 4 rfl) ?_
                refine lv_iload hx hb dX3_reached_37 (lv_at hl 1 rfl) ?_
                refine lv_iadd hx hb dX3_reached_39 ?_
                refine sv_top (y := nI (g + j)) (nI_add _ _) ?_
                refine sv_iald hx hb hK hP q0 fa (j := g + j) (by omega) hN dX3_reached_40 ?_
                refine W.eq (g2 := F0 mi 41 ls (.int (nI (G (g + j))) :: [.int (nI (itr (rsw L) j (rch L f t)))])) rfl ?_
                refine lv_iload_n hx hb dX3_reached_41 rfl (lv_at hl 6 rfl) ?_
                refine lv_iand hx hb dX3_reached_42 ?_
                refine sv_top (y := nI ((G (g + j)) &&& i)) (an_and _ _) ?_
                refine lv_ior hx hb dX3_reached_43 ?_
                refine sv_top (y := nI ((itr (rsw L) j (rch L f t)) ||| ((G (g + j)) &&& i))) (an_or _ _) ?_
                refine lv_istore (lv' := [(4, .int (nI ((itr (rsw L) j (rch L f t)) ||| ((G (g + j)) &&& i)))), (6, .int (nI j)), (5, .int (nI (t + 1))), (0, .ref a), (1, .int (nI g)), (2, .int (nI f)), (3, .int (nI i))]) hx hb dX3_reached_44 hl (by decide) rfl (fun ls hl => ?_)
                refine lv_iinc (v := nI (j + 1)) (lv' := [(6, .int (nI (j + 1))), (4, .int (nI ((itr (rsw L) j (rch L f t)) ||| ((G (g + j)) &&& i)))), (5, .int (nI (t + 1))), (0, .ref a), (1, .int (nI g)), (2, .int (nI f)), (3, .int (nI i))]) hx hb dX3_reached_46 hl (k := 1) rfl (nI_1 _) (by decide) rfl (fun ls hl => ?_)
                refine lv_goto (tgt := 16) hx hb dX3_reached_49 (by decide) ?_
                have e4 : nI ((itr (rsw L) j (rch L f t)) ||| ((G (g + j)) &&& i)) = nI (itr (rsw L) (j + 1) (rch L f t)) := (by rw [hL j (by omega)]; exact congrArg nI (show _ = rsw L j _ from (if_pos c3).symm))
                rw [e4] at hl
                exact ih16 (j + 1) (by omega) (by omega) ls locs (lv_sub hl [1, 0, 2, 3, 4, 5, 6] rfl) hS
        exact L16 ((8 - 0) + 1) 0 (Nat.lt_succ_self _) (by omega) ls locs (lv_sub hl [1, 0, 2, 3, 4, 5, 6] rfl) hS
  exact L6 ((7 - 0) + 1) 0 (Nat.lt_succ_self _) (by omega) ls locs (lv_sub hl [1, 0, 2, 3, 4, 5] rfl) hS
set_option maxHeartbeats 4000000 in
set_option maxRecDepth 100000 in
theorem c_X3_connected {l : Launch} {D : va_G} {ky : kT} {Hs : Heap} {ws : va_W} {h n : Nat} {T C Hd : Nat → Nat} {b : Nat} {q : Bool} (hP : va_P D CL ws Hs) (hpr : isProd ky ws h n T C Hd b q) (hI : PI0 n C Hd b) {S : Nat} (hS0 : S < 2 ^ n) : PI l yX3_connected wsX3_connected 1 26 D ky Hs [.ref h, .int (nI S)] (bI (conn C S)) := by
  refine PI.of (cc := cX3_connected) (maxL := 3) (ty := .boolean) (by decide) rfl (bI_nar _) (Nat.le_of_ble_eq_true rfl) ?_
  intro pg en Rm sg mi av below meth co Qo hRf hRl hx hb hml hown hts hK hret ls hl
  have hl : lv_has ls 3 [(0, .ref h), (1, .int (nI S))] := hl
  have hS : va_S (fun _ => False) Hs Hs [] := va_S.rf
  generalize ([] : List Loc) = locs at hS ⊢
  obtain ⟨a1, a2, a3, f1, f2, f3, f4⟩ := hpr
  obtain ⟨hn8, hb8, hC, hH, hsy⟩ := hI
  have hS8 : S < 256 := Nat.lt_of_lt_of_le hS0 (p2_le hn8)
  have k15 := hts (.fieldLink RX3 15 "AssemblyPlanner$Product" "contacts" "[I") (by decide +kernel)
  have hinX3 : ∀ w ∈ wsX30, w ∈ wsX3_connected := by decide +kernel
  refine lv_iload_n hx hb dX3_connected_0 rfl (lv_at hl 1 rfl) ?_
  refine lv_iload_n hx hb dX3_connected_1 rfl (lv_at hl 1 rfl) ?_
  refine lv_ineg hx hb dX3_connected_2 ?_
  refine lv_iand hx hb dX3_connected_3 ?_
  refine sv_top (y := nI (low S)) (low_eq _) ?_
  refine lv_istore_n (lv' := [(2, .int (nI (low S))), (0, .ref h), (1, .int (nI S))]) hx hb dX3_connected_4 rfl hl (by decide) rfl (fun ls hl => ?_)
  refine lv_iload_n hx hb dX3_connected_5 rfl (lv_at hl 2 rfl) ?_
  refine sn_if_eq (tgt := 27) hx hb dX3_connected_6 (by decide) (by omega) (fun c1 => ?_) (fun c1 => ?_)
  · refine lv_iconst (v := nI 0) hx hb dX3_connected_27 ci_0 ?_
    exact hret 28 ls locs _ dX3_connected_28 hS (bI_f (by unfold conn; rw [decide_eq_false (fun q => q c1)]; rfl))
  · refine lv_aload_n hx hb dX3_connected_9 rfl (lv_at hl 1 rfl) ?_
    refine va_get (ci := 3) (C := RX3) (T := TX3) (N := 6) hx hb hts hinX3 hown hK hP 1 f1 rfl 1 (by decide) k15 (fun _ h9 => h9) rfl dX3_connected_10 ?_
    refine lv_iconst (v := nI 0) hx hb dX3_connected_13 ci_0 ?_
    refine lv_iload_n hx hb dX3_connected_14 rfl (lv_at hl 0 rfl) ?_
    refine lv_iload_n hx hb dX3_connected_15 rfl (lv_at hl 2 rfl) ?_
    refine pcS (c_X3_reached (G := fun j => C j) (L := fun i => C i &&& S) hP f3 (by decide) (by omega) (fun j _ => by rw [Nat.zero_add])) ⟨hx, hb, hml, hown, hts⟩ hK gX3_connected_X3_reached rfl hd_X3_reached ⟨by omega, by omega⟩ rfl hl.1 rfl (Nat.le_of_ble_eq_true rfl) dX3_connected_16 ⟨Nat.zero_le _, Nat.zero_le _⟩ hS (fun locs hS => ?_)
    refine lv_iload_n hx hb dX3_connected_19 rfl (lv_at hl 2 rfl) ?_
    refine sn_icmp_ne (tgt := 27) hx hb dX3_connected_20 (by decide) (lt_31 (rch_lt (fun i _ => and_b1 (hC i)) (Nat.lt_of_le_of_lt (low_lt S hS8).2.1 hS0) 7) hn8) (by omega) (fun c2 => ?_) (fun c2 => ?_)
    · refine lv_iconst (v := nI 0) hx hb dX3_connected_27 ci_0 ?_
      exact hret 28 ls locs _ dX3_connected_28 hS (bI_f (by unfold conn; rw [decide_eq_false c2, Bool.and_false]))
    · refine lv_iconst (v := nI 1) hx hb dX3_connected_23 ci_1 ?_
      refine lv_goto (tgt := 28) hx hb dX3_connected_24 (by decide) ?_
      exact hret 28 ls locs _ dX3_connected_28 hS (bI_t (by unfold conn; rw [decide_eq_true c1, decide_eq_true c2]; rfl))
set_option maxHeartbeats 4000000 in
set_option maxRecDepth 100000 in
theorem c_X3_steady {l : Launch} {D : va_G} {ky : kT} {Hs : Heap} {ws : va_W} {h n : Nat} {T C Hd : Nat → Nat} {b : Nat} {q : Bool} (hP : va_P D CL ws Hs) (hpr : isProd ky ws h n T C Hd b q) (hI : PI0 n C Hd b) {S : Nat} (hS0 : S < 2 ^ n) : PI l yX3_steady wsX3_steady 1 26 D ky Hs [.ref h, .int (nI S)] (bI (stdy Hd b S)) := by
  refine PI.of (cc := cX3_steady) (maxL := 2) (ty := .boolean) (by decide) rfl (bI_nar _) (Nat.le_of_ble_eq_true rfl) ?_
  intro pg en Rm sg mi av below meth co Qo hRf hRl hx hb hml hown hts hK hret ls hl
  have hl : lv_has ls 2 [(0, .ref h), (1, .int (nI S))] := hl
  have hS : va_S (fun _ => False) Hs Hs [] := va_S.rf
  generalize ([] : List Loc) = locs at hS ⊢
  obtain ⟨a1, a2, a3, f1, f2, f3, f4⟩ := hpr
  obtain ⟨hn8, hb8, hC, hH, hsy⟩ := hI
  have hS31 : S < 2 ^ 31 := lt_31 hS0 hn8
  have k18 := hts (.fieldLink RX3 18 "AssemblyPlanner$Product" "hinderers" "[I") (by decide +kernel)
  have hinX3 : ∀ w ∈ wsX30, w ∈ wsX3_steady := by decide +kernel
  have k38 := hts (.fieldLink RX3 38 "AssemblyPlanner$Product" "base" "I") (by decide +kernel)
  refine lv_aload_n hx hb dX3_steady_0 rfl (lv_at hl 0 rfl) ?_
  refine va_get (ci := 3) (C := RX3) (T := TX3) (N := 6) hx hb hts hinX3 hown hK hP 1 f1 rfl 2 (by decide) k18 (fun _ h9 => h9) rfl dX3_steady_1 ?_
  refine lv_bipush (v := nI 32) hx hb dX3_steady_4 bi_32 ?_
  refine lv_iload_n hx hb dX3_steady_6 rfl (lv_at hl 1 rfl) ?_
  refine lv_iconst (v := nI 1) hx hb dX3_steady_7 ci_1 ?_
  refine lv_aload_n hx hb dX3_steady_8 rfl (lv_at hl 0 rfl) ?_
  refine va_get (ci := 3) (C := RX3) (T := TX3) (N := 6) hx hb hts hinX3 hown hK hP 1 f1 rfl 4 (by decide) k38 (fun _ h9 => h9) rfl dX3_steady_9 ?_
  refine lv_ishl hx hb dX3_steady_12 ?_
  refine sv_top (y := nI (2 ^ b)) (sh_l1 (by omega)) ?_
  refine lv_iand hx hb dX3_steady_13 ?_
  refine sv_top (y := nI (S &&& (2 ^ b))) (an_and _ _) ?_
  refine lv_iload_n hx hb dX3_steady_14 rfl (lv_at hl 1 rfl) ?_
  refine pcS (c_X3_reached (G := fun j => Hd j) (L := fun i => Hd (32 + i) &&& S) hP f4 (by decide) (by omega) (fun j _ => rfl)) ⟨hx, hb, hml, hown, hts⟩ hK gX3_steady_X3_reached rfl hd_X3_reached ⟨by omega, by omega⟩ rfl hl.1 rfl (Nat.le_of_ble_eq_true rfl) dX3_steady_15 ⟨Nat.zero_le _, Nat.zero_le _⟩ hS (fun locs hS => ?_)
  refine lv_iload_n hx hb dX3_steady_18 rfl (lv_at hl 1 rfl) ?_
  refine sn_icmp_ne (tgt := 26) hx hb dX3_steady_19 (by decide) (lt_31 (rch_lt (fun i _ => and_b1 (hH _)) (and_b1 hS0) 7) hn8) (by omega) (fun c1 => ?_) (fun c1 => ?_)
  · refine lv_iconst (v := nI 0) hx hb dX3_steady_26 ci_0 ?_
    exact hret 27 ls locs _ dX3_steady_27 hS (bI_f (by unfold stdy; exact decide_eq_false c1))
  · refine lv_iconst (v := nI 1) hx hb dX3_steady_22 ci_1 ?_
    refine lv_goto (tgt := 27) hx hb dX3_steady_23 (by decide) ?_
    exact hret 27 ls locs _ dX3_steady_27 hS (bI_t (by unfold stdy; exact decide_eq_true c1))
set_option maxHeartbeats 4000000 in
set_option maxRecDepth 100000 in
theorem c_X3_sound {l : Launch} {D : va_G} {ky : kT} {Hs : Heap} {ws : va_W} {h n : Nat} {T C Hd : Nat → Nat} {b : Nat} {q : Bool} (hP : va_P D CL ws Hs) (hpr : isProd ky ws h n T C Hd b q) (hI : PI0 n C Hd b) {S : Nat} (hS0 : S < 2 ^ n) : PI l yX3_sound wsX3_sound 2 48 D ky Hs [.ref h, .int (nI S)] (bI (sou C Hd b q S)) := by
  refine PI.of (cc := cX3_sound) (maxL := 2) (ty := .boolean) (by decide) rfl (bI_nar _) (Nat.le_of_ble_eq_true rfl) ?_
  intro pg en Rm sg mi av below meth co Qo hRf hRl hx hb hml hown hts hK hret ls hl
  have hl : lv_has ls 2 [(0, .ref h), (1, .int (nI S))] := hl
  have hS : va_S (fun _ => False) Hs Hs [] := va_S.rf
  generalize ([] : List Loc) = locs at hS ⊢
  obtain ⟨a1, a2, a3, f1, f2, f3, f4⟩ := hpr
  obtain ⟨hn8, hb8, hC, hH, hsy⟩ := hI
  have hI : PI0 n C Hd b := ⟨hn8, hb8, hC, hH, hsy⟩
  have hpr : isProd ky ws h n T C Hd b q := ⟨a1, a2, a3, f1, f2, f3, f4⟩
  have hS31 : S < 2 ^ 31 := lt_31 hS0 hn8
  have k41 := hts (.fieldLink RX3 41 "AssemblyPlanner$Product" "steadyAsked" "Z") (by decide +kernel)
  have hinX3 : ∀ w ∈ wsX30, w ∈ wsX3_sound := by decide +kernel
  refine lv_iload_n hx hb dX3_sound_0 rfl (lv_at hl 1 rfl) ?_
  refine sn_if_eq (tgt := 27) hx hb dX3_sound_1 (by decide) hS31 (fun c1 => ?_) (fun c1 => ?_)
  · refine lv_iconst (v := nI 1) hx hb dX3_sound_27 ci_1 ?_
    refine lv_goto (tgt := 32) hx hb dX3_sound_28 (by decide) ?_
    exact hret 32 ls locs _ dX3_sound_32 hS (bI_t (by unfold sou; rw [decide_eq_true c1]; rfl))
  · refine lv_aload_n hx hb dX3_sound_4 rfl (lv_at hl 0 rfl) ?_
    refine lv_iload_n hx hb dX3_sound_5 rfl (lv_at hl 1 rfl) ?_
    refine pcV (c_X3_connected hP hpr hI hS0) ⟨hx, hb, hml, hown, hts⟩ hK gX3_sound_X3_connected rfl hd_X3_connected ⟨by omega, by omega⟩ (va_recv hK hP (ci := 3) (q0 := 1) rfl f1) rfl hl.1 rfl (Nat.le_of_ble_eq_true rfl) dX3_sound_6 ⟨Nat.zero_le _, Nat.zero_le _⟩ hS (fun locs hS => ?_)
    refine sb_if_eq (tgt := 31) hx hb dX3_sound_9 (by decide) (fun c2 => ?_) (fun c2 => ?_)
    · refine lv_iconst (v := nI 0) hx hb dX3_sound_31 ci_0 ?_
      exact hret 32 ls locs _ dX3_sound_32 hS (bI_f (by unfold sou; rw [decide_eq_false c1, c2]; rfl))
    · refine lv_aload_n hx hb dX3_sound_12 rfl (lv_at hl 0 rfl) ?_
      refine va_get (ci := 3) (C := RX3) (T := TX3) (N := 6) hx hb hts hinX3 hown hK hP 1 f1 rfl 5 (by decide) k41 (fun _ h9 => h9) rfl dX3_sound_13 ?_
      refine sb_if_eq (tgt := 27) hx hb dX3_sound_16 (by decide) (fun c3 => ?_) (fun c3 => ?_)
      · refine lv_iconst (v := nI 1) hx hb dX3_sound_27 ci_1 ?_
        refine lv_goto (tgt := 32) hx hb dX3_sound_28 (by decide) ?_
        exact hret 32 ls locs _ dX3_sound_32 hS (bI_t (by unfold sou; rw [c2, c3]; simp))
      · refine lv_aload_n hx hb dX3_sound_19 rfl (lv_at hl 0 rfl) ?_
        refine lv_iload_n hx hb dX3_sound_20 rfl (lv_at hl 1 rfl) ?_
        refine pcV (c_X3_steady hP hpr hI hS0) ⟨hx, hb, hml, hown, hts⟩ hK gX3_sound_X3_steady rfl hd_X3_steady ⟨by omega, by omega⟩ (va_recv hK hP (ci := 3) (q0 := 1) rfl f1) rfl hl.1 rfl (Nat.le_of_ble_eq_true rfl) dX3_sound_21 ⟨Nat.zero_le _, Nat.zero_le _⟩ hS (fun locs hS => ?_)
        refine sb_if_eq (tgt := 31) hx hb dX3_sound_24 (by decide) (fun c4 => ?_) (fun c4 => ?_)
        · refine lv_iconst (v := nI 0) hx hb dX3_sound_31 ci_0 ?_
          exact hret 32 ls locs _ dX3_sound_32 hS (bI_f (by unfold sou; rw [decide_eq_false c1, c3, c4]; simp))
        · refine lv_iconst (v := nI 1) hx hb dX3_sound_27 ci_1 ?_
          refine lv_goto (tgt := 32) hx hb dX3_sound_28 (by decide) ?_
          exact hret 32 ls locs _ dX3_sound_32 hS (bI_t (by unfold sou; rw [c2, c4]; simp))
set_option maxHeartbeats 4000000 in
set_option maxRecDepth 100000 in
theorem c_X3_freeDirections {l : Launch} {D : va_G} {ky : kT} {Hs : Heap} {ws : va_W} {h n : Nat} {T C Hd : Nat → Nat} {b : Nat} {q : Bool} (hP : va_P D CL ws Hs) (hpr : isProd ky ws h n T C Hd b q) (hI : PI0 n C Hd b) {S pt : Nat} (hp : pt < 8) : PI l yX3_freeDirections wsX3_freeDirections 0 0 D ky Hs [.ref h, .int (nI S), .int (nI pt)] (nI (frd Hd S pt)) := by
  refine PI.of (cc := cX3_freeDirections) (maxL := 5) (ty := .int) (by decide) rfl rfl (Nat.le_of_ble_eq_true rfl) ?_
  intro pg en Rm sg mi av below meth co Qo hRf hRl hx hb hml hown hts hK hret ls hl
  have hl : lv_has ls 5 [(0, .ref h), (1, .int (nI S)), (2, .int (nI pt))] := hl
  have hS : va_S (fun _ => False) Hs Hs [] := va_S.rf
  generalize ([] : List Loc) = locs at hS ⊢
  obtain ⟨a1, a2, a3, f1, f2, f3, f4⟩ := hpr
  obtain ⟨hn8, hb8, hC, hH, hsy⟩ := hI
  have k18 := hts (.fieldLink RX3 18 "AssemblyPlanner$Product" "hinderers" "[I") (by decide +kernel)
  have hinX3 : ∀ w ∈ wsX30, w ∈ wsX3_freeDirections := by decide +kernel
  refine lv_iconst (v := nI 0) hx hb dX3_freeDirections_0 ci_0 ?_
  refine lv_istore_n (lv' := [(3, .int (nI 0)), (0, .ref h), (1, .int (nI S)), (2, .int (nI pt))]) hx hb dX3_freeDirections_1 rfl hl (by decide) rfl (fun ls hl => ?_)
  refine lv_iconst (v := nI 0) hx hb dX3_freeDirections_2 ci_0 ?_
  refine lv_istore (lv' := [(4, .int (nI 0)), (3, .int (nI 0)), (0, .ref h), (1, .int (nI S)), (2, .int (nI pt))]) hx hb dX3_freeDirections_3 hl (by decide) rfl (fun ls hl => ?_)
  have L5 : ∀ (L5d : Nat) (d : Nat), 6 - d < L5d → d ≤ 6 → ∀ (ls : Array Slot) (locs : List Loc), lv_has ls 5 [(3, .int (nI (itr (frs Hd S pt) d 0))), (4, .int (nI d)), (0, .ref h), (1, .int (nI S)), (2, .int (nI pt))] → va_S (fun _ => False) Hs Hs locs → W pg l en Rm sg mi av below meth co Hs locs 0 0 Qo (F0 mi 5 ls []) := by
    intro L5d
    induction L5d with
    | zero => intro d hfu; exact absurd hfu (Nat.not_lt_zero _)
    | succ L5d ih5 =>
      intro d hfu i5_0 ls locs hl hS
      refine lv_iload hx hb dX3_freeDirections_5 (lv_at hl 1 rfl) ?_
      refine lv_bipush (v := nI 6) hx hb dX3_freeDirections_7 bi_6 ?_
      refine sn_icmp_ge (tgt := 42) hx hb dX3_freeDirections_9 (by decide) (by omega) (by decide) (fun c1 => ?_) (fun c1 => ?_)
      · refine lv_iload_n hx hb dX3_freeDirections_42 rfl (lv_at hl 0 rfl) ?_
        exact hret 43 ls locs _ dX3_freeDirections_43 hS (by rw [show d = 6 by omega]; rfl)
      · refine lv_aload_n hx hb dX3_freeDirections_12 rfl (lv_at hl 2 rfl) ?_
        refine va_get (ci := 3) (C := RX3) (T := TX3) (N := 6) hx hb hts hinX3 hown hK hP 1 f1 rfl 2 (by decide) k18 (fun _ h9 => h9) rfl dX3_freeDirections_13 ?_
        refine lv_iload hx hb dX3_freeDirections_16 (lv_at hl 1 rfl) ?_
        refine lv_bipush (v := nI 8) hx hb dX3_freeDirections_18 bi_8 ?_
        refine lv_imul hx hb dX3_freeDirections_20 ?_
        refine sv_top (y := nI (8 * d)) (mul_c _ _) ?_
        refine lv_iload_n hx hb dX3_freeDirections_21 rfl (lv_at hl 4 rfl) ?_
        refine lv_iadd hx hb dX3_freeDirections_22 ?_
        refine sv_top (y := nI (8 * d + pt)) (nI_add _ _) ?_
        refine sv_iald hx hb hK hP 4 f4 (j := 8 * d + pt) (by omega) (by decide) dX3_freeDirections_23 ?_
        refine W.eq (g2 := F0 mi 24 ls (.int (nI (Hd (8 * d + pt))) :: [])) rfl ?_
        refine lv_iload_n hx hb dX3_freeDirections_24 rfl (lv_at hl 3 rfl) ?_
        refine lv_iand hx hb dX3_freeDirections_25 ?_
        refine sv_top (y := nI ((Hd (8 * d + pt)) &&& S)) (an_and _ _) ?_
        refine sn_if_ne (tgt := 36) hx hb dX3_freeDirections_26 (by decide) (and_b1 (lt_31 (hH _) hn8)) (fun c2 => ?_) (fun c2 => ?_)
        · refine lv_iinc (v := nI (d + 1)) (lv' := [(4, .int (nI (d + 1))), (3, .int (nI (itr (frs Hd S pt) d 0))), (0, .ref h), (1, .int (nI S)), (2, .int (nI pt))]) hx hb dX3_freeDirections_36 hl (k := 1) rfl (nI_1 _) (by decide) rfl (fun ls hl => ?_)
          refine lv_goto (tgt := 5) hx hb dX3_freeDirections_39 (by decide) ?_
          have e3 : nI (itr (frs Hd S pt) d 0) = nI (itr (frs Hd S pt) (d + 1) 0) := (congrArg nI (show _ = frs Hd S pt d _ from (if_neg c2).symm))
          rw [e3] at hl
          exact ih5 (d + 1) (by omega) (by omega) ls locs (lv_sub hl [1, 0, 2, 3, 4] rfl) hS
        · refine lv_iload_n hx hb dX3_freeDirections_29 rfl (lv_at hl 0 rfl) ?_
          refine lv_iconst (v := nI 1) hx hb dX3_freeDirections_30 ci_1 ?_
          refine lv_iload hx hb dX3_freeDirections_31 (lv_at hl 1 rfl) ?_
          refine lv_ishl hx hb dX3_freeDirections_33 ?_
          refine sv_top (y := nI (2 ^ d)) (sh_l1 (by omega)) ?_
          refine lv_ior hx hb dX3_freeDirections_34 ?_
          refine sv_top (y := nI ((itr (frs Hd S pt) d 0) ||| (2 ^ d))) (an_or _ _) ?_
          refine lv_istore_n (lv' := [(3, .int (nI ((itr (frs Hd S pt) d 0) ||| (2 ^ d)))), (4, .int (nI d)), (0, .ref h), (1, .int (nI S)), (2, .int (nI pt))]) hx hb dX3_freeDirections_35 rfl hl (by decide) rfl (fun ls hl => ?_)
          refine lv_iinc (v := nI (d + 1)) (lv' := [(4, .int (nI (d + 1))), (3, .int (nI ((itr (frs Hd S pt) d 0) ||| (2 ^ d)))), (0, .ref h), (1, .int (nI S)), (2, .int (nI pt))]) hx hb dX3_freeDirections_36 hl (k := 1) rfl (nI_1 _) (by decide) rfl (fun ls hl => ?_)
          refine lv_goto (tgt := 5) hx hb dX3_freeDirections_39 (by decide) ?_
          have e3 : nI ((itr (frs Hd S pt) d 0) ||| (2 ^ d)) = nI (itr (frs Hd S pt) (d + 1) 0) := (congrArg nI (show _ = frs Hd S pt d _ from (if_pos c2).symm))
          rw [e3] at hl
          exact ih5 (d + 1) (by omega) (by omega) ls locs (lv_sub hl [1, 0, 2, 3, 4] rfl) hS
  exact L5 ((6 - 0) + 1) 0 (Nat.lt_succ_self _) (by omega) ls locs (lv_sub hl [1, 0, 2, 3, 4] rfl) hS
set_option maxHeartbeats 4000000 in
set_option maxRecDepth 100000 in
theorem c_X3_takeable {l : Launch} {D : va_G} {ky : kT} {Hs : Heap} {ws : va_W} {h n : Nat} {T C Hd : Nat → Nat} {b : Nat} {q : Bool} (hP : va_P D CL ws Hs) (hpr : isProd ky ws h n T C Hd b q) (hI : PI0 n C Hd b) {S pt : Nat} (hS0 : S < 2 ^ n) (hp : pt < 8) : PI l yX3_takeable wsX3_takeable 3 69 D ky Hs [.ref h, .int (nI S), .int (nI pt)] (bI (tke C Hd b q S pt)) := by
  refine PI.of (cc := cX3_takeable) (maxL := 3) (ty := .boolean) (by decide) rfl (bI_nar _) (Nat.le_of_ble_eq_true rfl) ?_
  intro pg en Rm sg mi av below meth co Qo hRf hRl hx hb hml hown hts hK hret ls hl
  have hl : lv_has ls 3 [(0, .ref h), (1, .int (nI S)), (2, .int (nI pt))] := hl
  have hS : va_S (fun _ => False) Hs Hs [] := va_S.rf
  generalize ([] : List Loc) = locs at hS ⊢
  obtain ⟨a1, a2, a3, f1, f2, f3, f4⟩ := hpr
  obtain ⟨hn8, hb8, hC, hH, hsy⟩ := hI
  have hI : PI0 n C Hd b := ⟨hn8, hb8, hC, hH, hsy⟩
  have hpr : isProd ky ws h n T C Hd b q := ⟨a1, a2, a3, f1, f2, f3, f4⟩
  refine lv_aload_n hx hb dX3_takeable_0 rfl (lv_at hl 0 rfl) ?_
  refine lv_iload_n hx hb dX3_takeable_1 rfl (lv_at hl 1 rfl) ?_
  refine pcV (c_X3_sound hP hpr hI hS0) ⟨hx, hb, hml, hown, hts⟩ hK gX3_takeable_X3_sound rfl hd_X3_sound ⟨by omega, by omega⟩ (va_recv hK hP (ci := 3) (q0 := 1) rfl f1) rfl hl.1 rfl (Nat.le_of_ble_eq_true rfl) dX3_takeable_2 ⟨Nat.zero_le _, Nat.zero_le _⟩ hS (fun locs hS => ?_)
  refine sb_if_eq (tgt := 35) hx hb dX3_takeable_5 (by decide) (fun c1 => ?_) (fun c1 => ?_)
  · refine lv_iconst (v := nI 0) hx hb dX3_takeable_35 ci_0 ?_
    exact hret 36 ls locs _ dX3_takeable_36 hS (bI_f (by unfold tke; rw [c1]; rfl))
  · refine lv_aload_n hx hb dX3_takeable_8 rfl (lv_at hl 0 rfl) ?_
    refine lv_iload_n hx hb dX3_takeable_9 rfl (lv_at hl 1 rfl) ?_
    refine lv_iload_n hx hb dX3_takeable_10 rfl (lv_at hl 2 rfl) ?_
    refine pcV (c_X3_freeDirections hP hpr hI hp) ⟨hx, hb, hml, hown, hts⟩ hK gX3_takeable_X3_freeDirections rfl hd_X3_freeDirections ⟨by omega, by omega⟩ (va_recv hK hP (ci := 3) (q0 := 1) rfl f1) rfl hl.1 rfl (Nat.le_of_ble_eq_true rfl) dX3_takeable_11 ⟨Nat.zero_le _, Nat.zero_le _⟩ hS (fun locs hS => ?_)
    refine sn_if_eq (tgt := 35) hx hb dX3_takeable_14 (by decide) (Nat.lt_trans (frd_lt _ _ _) (by decide)) (fun c2 => ?_) (fun c2 => ?_)
    · refine lv_iconst (v := nI 0) hx hb dX3_takeable_35 ci_0 ?_
      exact hret 36 ls locs _ dX3_takeable_36 hS (bI_f (by unfold tke; rw [decide_eq_false (fun q => q c2)]; simp))
    · refine lv_aload_n hx hb dX3_takeable_17 rfl (lv_at hl 0 rfl) ?_
      refine lv_iload_n hx hb dX3_takeable_18 rfl (lv_at hl 1 rfl) ?_
      refine lv_iconst (v := nI 1) hx hb dX3_takeable_19 ci_1 ?_
      refine lv_iload_n hx hb dX3_takeable_20 rfl (lv_at hl 2 rfl) ?_
      refine lv_ishl hx hb dX3_takeable_21 ?_
      refine sv_top (y := nI (2 ^ pt)) (sh_l1 (by omega)) ?_
      refine lv_iconst (v := -1) hx hb dX3_takeable_22 ci_m1 ?_
      refine lv_ixor hx hb dX3_takeable_23 ?_
      refine lv_iand hx hb dX3_takeable_24 ?_
      refine sv_top (y := nI (clr S (2 ^ pt))) (an_not _ _) ?_
      refine pcV (c_X3_sound hP hpr hI (clr_lt hS0)) ⟨hx, hb, hml, hown, hts⟩ hK gX3_takeable_X3_sound rfl hd_X3_sound ⟨by omega, by omega⟩ (va_recv hK hP (ci := 3) (q0 := 1) rfl f1) rfl hl.1 rfl (Nat.le_of_ble_eq_true rfl) dX3_takeable_25 ⟨Nat.zero_le _, Nat.zero_le _⟩ hS (fun locs hS => ?_)
      refine sb_if_eq (tgt := 35) hx hb dX3_takeable_28 (by decide) (fun c3 => ?_) (fun c3 => ?_)
      · refine lv_iconst (v := nI 0) hx hb dX3_takeable_35 ci_0 ?_
        exact hret 36 ls locs _ dX3_takeable_36 hS (bI_f (by unfold tke; rw [c3]; simp))
      · refine lv_iconst (v := nI 1) hx hb dX3_takeable_31 ci_1 ?_
        refine lv_goto (tgt := 36) hx hb dX3_takeable_32 (by decide) ?_
        exact hret 36 ls locs _ dX3_takeable_36 hS (bI_t (by unfold tke; rw [c1, decide_eq_true c2, c3]; rfl))
set_option maxHeartbeats 4000000 in
set_option maxRecDepth 100000 in
theorem c_X3_movingWith {l : Launch} {D : va_G} {ky : kT} {Hs : Heap} {ws : va_W} {h n : Nat} {T C Hd : Nat → Nat} {b : Nat} {q : Bool} (hP : va_P D CL ws Hs) (hpr : isProd ky ws h n T C Hd b q) (hI : PI0 n C Hd b) {pt d : Nat} (hp : pt < 8) (hd : d < 6) : PI l yX3_movingWith wsX3_movingWith 1 26 D ky Hs [.ref h, .int (nI pt), .int (nI d)] (nI (mov Hd n pt d)) := by
  refine PI.of (cc := cX3_movingWith) (maxL := 3) (ty := .int) (by decide) rfl rfl (Nat.le_of_ble_eq_true rfl) ?_
  intro pg en Rm sg mi av below meth co Qo hRf hRl hx hb hml hown hts hK hret ls hl
  have hl : lv_has ls 3 [(0, .ref h), (1, .int (nI pt)), (2, .int (nI d))] := hl
  have hS : va_S (fun _ => False) Hs Hs [] := va_S.rf
  generalize ([] : List Loc) = locs at hS ⊢
  obtain ⟨a1, a2, a3, f1, f2, f3, f4⟩ := hpr
  obtain ⟨hn8, hb8, hC, hH, hsy⟩ := hI
  have hI : PI0 n C Hd b := ⟨hn8, hb8, hC, hH, hsy⟩
  have hpr : isProd ky ws h n T C Hd b q := ⟨a1, a2, a3, f1, f2, f3, f4⟩
  have k18 := hts (.fieldLink RX3 18 "AssemblyPlanner$Product" "hinderers" "[I") (by decide +kernel)
  have hinX3 : ∀ w ∈ wsX30, w ∈ wsX3_movingWith := by decide +kernel
  refine lv_aload_n hx hb dX3_movingWith_0 rfl (lv_at hl 0 rfl) ?_
  refine va_get (ci := 3) (C := RX3) (T := TX3) (N := 6) hx hb hts hinX3 hown hK hP 1 f1 rfl 2 (by decide) k18 (fun _ h9 => h9) rfl dX3_movingWith_1 ?_
  refine lv_iload_n hx hb dX3_movingWith_4 rfl (lv_at hl 2 rfl) ?_
  refine lv_bipush (v := nI 8) hx hb dX3_movingWith_5 bi_8 ?_
  refine lv_imul hx hb dX3_movingWith_7 ?_
  refine sv_top (y := nI (8 * d)) (mul_c _ _) ?_
  refine lv_iconst (v := nI 1) hx hb dX3_movingWith_8 ci_1 ?_
  refine lv_iload_n hx hb dX3_movingWith_9 rfl (lv_at hl 1 rfl) ?_
  refine lv_ishl hx hb dX3_movingWith_10 ?_
  refine sv_top (y := nI (2 ^ pt)) (sh_l1 (by omega)) ?_
  refine lv_aload_n hx hb dX3_movingWith_11 rfl (lv_at hl 0 rfl) ?_
  refine pcV (c_X3_all hP hpr hI) ⟨hx, hb, hml, hown, hts⟩ hK gX3_movingWith_X3_all rfl hd_X3_all ⟨by omega, by omega⟩ (va_recv hK hP (ci := 3) (q0 := 1) rfl f1) rfl hl.1 rfl (Nat.le_of_ble_eq_true rfl) dX3_movingWith_12 ⟨Nat.zero_le _, Nat.zero_le _⟩ hS (fun locs hS => ?_)
  refine pcS (c_X3_reached (G := fun j => Hd j) (L := fun i => Hd (8 * d + i) &&& (2 ^ n - 1)) hP f4 (by decide) (by omega) (fun j _ => rfl)) ⟨hx, hb, hml, hown, hts⟩ hK gX3_movingWith_X3_reached rfl hd_X3_reached ⟨by omega, by omega⟩ rfl hl.1 rfl (Nat.le_of_ble_eq_true rfl) dX3_movingWith_15 ⟨Nat.zero_le _, Nat.zero_le _⟩ hS (fun locs hS => ?_)
  exact hret 18 ls locs _ dX3_movingWith_18 hS (rfl)
set_option maxHeartbeats 4000000 in
set_option maxRecDepth 100000 in
theorem c_X3_boundWith {l : Launch} {D : va_G} {ky : kT} {Hs : Heap} {ws : va_W} {h n : Nat} {T C Hd : Nat → Nat} {b : Nat} {q : Bool} (hP : va_P D CL ws Hs) (hpr : isProd ky ws h n T C Hd b q) (hI : PI0 n C Hd b) {pt d : Nat} (hp : pt < 8) (hd : d < 6) : PI l yX3_boundWith wsX3_boundWith 2 48 D ky Hs [.ref h, .int (nI pt), .int (nI d)] (nI (bnd Hd n pt d)) := by
  refine PI.of (cc := cX3_boundWith) (maxL := 3) (ty := .int) (by decide) rfl rfl (Nat.le_of_ble_eq_true rfl) ?_
  intro pg en Rm sg mi av below meth co Qo hRf hRl hx hb hml hown hts hK hret ls hl
  have hl : lv_has ls 3 [(0, .ref h), (1, .int (nI pt)), (2, .int (nI d))] := hl
  have hS : va_S (fun _ => False) Hs Hs [] := va_S.rf
  generalize ([] : List Loc) = locs at hS ⊢
  obtain ⟨a1, a2, a3, f1, f2, f3, f4⟩ := hpr
  obtain ⟨hn8, hb8, hC, hH, hsy⟩ := hI
  have hI : PI0 n C Hd b := ⟨hn8, hb8, hC, hH, hsy⟩
  have hpr : isProd ky ws h n T C Hd b q := ⟨a1, a2, a3, f1, f2, f3, f4⟩
  have hd1 : ∀ d, d < 6 → d ^^^ 1 < 6 := by decide
  refine lv_aload_n hx hb dX3_boundWith_0 rfl (lv_at hl 0 rfl) ?_
  refine lv_iload_n hx hb dX3_boundWith_1 rfl (lv_at hl 1 rfl) ?_
  refine lv_iload_n hx hb dX3_boundWith_2 rfl (lv_at hl 2 rfl) ?_
  refine pcV (c_X3_movingWith hP hpr hI hp hd) ⟨hx, hb, hml, hown, hts⟩ hK gX3_boundWith_X3_movingWith rfl hd_X3_movingWith ⟨by omega, by omega⟩ (va_recv hK hP (ci := 3) (q0 := 1) rfl f1) rfl hl.1 rfl (Nat.le_of_ble_eq_true rfl) dX3_boundWith_3 ⟨Nat.zero_le _, Nat.zero_le _⟩ hS (fun locs hS => ?_)
  refine lv_aload_n hx hb dX3_boundWith_6 rfl (lv_at hl 0 rfl) ?_
  refine lv_iload_n hx hb dX3_boundWith_7 rfl (lv_at hl 1 rfl) ?_
  refine lv_iload_n hx hb dX3_boundWith_8 rfl (lv_at hl 2 rfl) ?_
  refine pcS (c_X3_opposite ) ⟨hx, hb, hml, hown, hts⟩ hK gX3_boundWith_X3_opposite rfl hd_X3_opposite ⟨by omega, by omega⟩ rfl hl.1 rfl (Nat.le_of_ble_eq_true rfl) dX3_boundWith_9 ⟨Nat.zero_le _, Nat.zero_le _⟩ hS (fun locs hS => ?_)
  refine pcV (c_X3_movingWith hP hpr hI hp (hd1 d hd)) ⟨hx, hb, hml, hown, hts⟩ hK gX3_boundWith_X3_movingWith rfl hd_X3_movingWith ⟨by omega, by omega⟩ (va_recv hK hP (ci := 3) (q0 := 1) rfl f1) rfl hl.1 rfl (Nat.le_of_ble_eq_true rfl) dX3_boundWith_12 ⟨Nat.zero_le _, Nat.zero_le _⟩ hS (fun locs hS => ?_)
  refine lv_iand hx hb dX3_boundWith_15 ?_
  refine sv_top (y := nI ((mov Hd n pt d) &&& (mov Hd n pt (d ^^^ 1)))) (an_and _ _) ?_
  exact hret 16 ls locs _ dX3_boundWith_16 hS (rfl)
set_option maxHeartbeats 4000000 in
set_option maxRecDepth 100000 in
theorem c_X3_boundGroups {l : Launch} {D : va_G} {ky : kT} {Hs : Heap} {ws : va_W} {h n : Nat} {T C Hd : Nat → Nat} {b : Nat} {q : Bool} (hP : va_P D CL ws Hs) (hpr : isProd ky ws h n T C Hd b q) (hI : PI0 n C Hd b) {d : Nat} (hd : d < 6) : PI l yX3_boundGroups wsX3_boundGroups 3 70 D ky Hs [.ref h, .int (nI d)] (nI (grp Hd n d)) := by
  refine PI.of (cc := cX3_boundGroups) (maxL := 5) (ty := .int) (by decide) rfl rfl (Nat.le_of_ble_eq_true rfl) ?_
  intro pg en Rm sg mi av below meth co Qo hRf hRl hx hb hml hown hts hK hret ls hl
  have hl : lv_has ls 5 [(0, .ref h), (1, .int (nI d))] := hl
  have hS : va_S (fun _ => False) Hs Hs [] := va_S.rf
  generalize ([] : List Loc) = locs at hS ⊢
  obtain ⟨a1, a2, a3, f1, f2, f3, f4⟩ := hpr
  obtain ⟨hn8, hb8, hC, hH, hsy⟩ := hI
  have hI : PI0 n C Hd b := ⟨hn8, hb8, hC, hH, hsy⟩
  have hpr : isProd ky ws h n T C Hd b q := ⟨a1, a2, a3, f1, f2, f3, f4⟩
  have k21 := hts (.fieldLink RX3 21 "AssemblyPlanner$Product" "count" "I") (by decide +kernel)
  have hinX3 : ∀ w ∈ wsX30, w ∈ wsX3_boundGroups := by decide +kernel
  refine lv_iconst (v := nI 0) hx hb dX3_boundGroups_0 ci_0 ?_
  refine lv_istore_n (lv' := [(2, .int (nI 0)), (0, .ref h), (1, .int (nI d))]) hx hb dX3_boundGroups_1 rfl hl (by decide) rfl (fun ls hl => ?_)
  refine lv_iconst (v := nI 0) hx hb dX3_boundGroups_2 ci_0 ?_
  refine lv_istore_n (lv' := [(3, .int (nI 0)), (2, .int (nI 0)), (0, .ref h), (1, .int (nI d))]) hx hb dX3_boundGroups_3 rfl hl (by decide) rfl (fun ls hl => ?_)
  have L4 : ∀ (L4d : Nat) (t : Nat), n - t < L4d → t ≤ n → ∀ (ls : Array Slot) (locs : List Loc), lv_has ls 5 [(2, .int (nI (itr (grs Hd n d) t 0))), (3, .int (nI t)), (0, .ref h), (1, .int (nI d))] → va_S (fun _ => False) Hs Hs locs → W pg l en Rm sg mi av below meth co Hs locs 0 0 Qo (F0 mi 4 ls []) := by
    intro L4d
    induction L4d with
    | zero => intro t hfu; exact absurd hfu (Nat.not_lt_zero _)
    | succ L4d ih4 =>
      intro t hfu i4_0 ls locs hl hS
      refine lv_iload_n hx hb dX3_boundGroups_4 rfl (lv_at hl 1 rfl) ?_
      refine lv_aload_n hx hb dX3_boundGroups_5 rfl (lv_at hl 2 rfl) ?_
      refine va_get (ci := 3) (C := RX3) (T := TX3) (N := 6) hx hb hts hinX3 hown hK hP 1 f1 rfl 3 (by decide) k21 (fun _ h9 => h9) rfl dX3_boundGroups_6 ?_
      refine sn_icmp_ge (tgt := 40) hx hb dX3_boundGroups_9 (by decide) (by omega) (by omega) (fun c1 => ?_) (fun c1 => ?_)
      · refine lv_iload_n hx hb dX3_boundGroups_40 rfl (lv_at hl 0 rfl) ?_
        exact hret 41 ls locs _ dX3_boundGroups_41 hS (by rw [show t = n by omega]; rfl)
      · refine lv_iconst (v := nI 1) hx hb dX3_boundGroups_12 ci_1 ?_
        refine lv_iload_n hx hb dX3_boundGroups_13 rfl (lv_at hl 1 rfl) ?_
        refine lv_ishl hx hb dX3_boundGroups_14 ?_
        refine sv_top (y := nI (2 ^ t)) (sh_l1 (by omega)) ?_
        refine lv_iconst (v := nI 1) hx hb dX3_boundGroups_15 ci_1 ?_
        refine lv_isub hx hb dX3_boundGroups_16 ?_
        refine sv_top (y := nI ((2 ^ t) - 1)) (pk_sub Nat.one_le_two_pow) ?_
        refine lv_istore (lv' := [(4, .int (nI ((2 ^ t) - 1))), (2, .int (nI (itr (grs Hd n d) t 0))), (3, .int (nI t)), (0, .ref h), (1, .int (nI d))]) hx hb dX3_boundGroups_17 hl (by decide) rfl (fun ls hl => ?_)
        refine lv_aload_n hx hb dX3_boundGroups_19 rfl (lv_at hl 3 rfl) ?_
        refine lv_iload_n hx hb dX3_boundGroups_20 rfl (lv_at hl 2 rfl) ?_
        refine lv_iload_n hx hb dX3_boundGroups_21 rfl (lv_at hl 4 rfl) ?_
        refine pcV (c_X3_boundWith hP hpr hI (by omega) hd) ⟨hx, hb, hml, hown, hts⟩ hK gX3_boundGroups_X3_boundWith rfl hd_X3_boundWith ⟨by omega, by omega⟩ (va_recv hK hP (ci := 3) (q0 := 1) rfl f1) rfl hl.1 rfl (Nat.le_of_ble_eq_true rfl) dX3_boundGroups_22 ⟨Nat.zero_le _, Nat.zero_le _⟩ hS (fun locs hS => ?_)
        refine lv_iload hx hb dX3_boundGroups_25 (lv_at hl 0 rfl) ?_
        refine lv_iand hx hb dX3_boundGroups_27 ?_
        refine sv_top (y := nI ((bnd Hd n t d) &&& ((2 ^ t) - 1))) (an_and _ _) ?_
        refine sn_if_ne (tgt := 34) hx hb dX3_boundGroups_28 (by decide) (and_b2 (Nat.lt_of_le_of_lt (Nat.sub_le _ _) (pw_lt (by omega)))) (fun c2 => ?_) (fun c2 => ?_)
        · refine lv_iinc (v := nI (t + 1)) (lv' := [(3, .int (nI (t + 1))), (4, .int (nI ((2 ^ t) - 1))), (2, .int (nI (itr (grs Hd n d) t 0))), (0, .ref h), (1, .int (nI d))]) hx hb dX3_boundGroups_34 hl (k := 2) rfl (nI_1 _) (by decide) rfl (fun ls hl => ?_)
          refine lv_goto (tgt := 4) hx hb dX3_boundGroups_37 (by decide) ?_
          have e2 : nI (itr (grs Hd n d) t 0) = nI (itr (grs Hd n d) (t + 1) 0) := (congrArg nI (show _ = grs Hd n d t _ from (if_neg c2).symm))
          rw [e2] at hl
          exact ih4 (t + 1) (by omega) (by omega) ls locs (lv_sub hl [2, 0, 3, 4] rfl) hS
        · refine lv_iinc (v := nI (itr (grs Hd n d) t 0 + 1)) (lv' := [(2, .int (nI (itr (grs Hd n d) t 0 + 1))), (4, .int (nI ((2 ^ t) - 1))), (3, .int (nI t)), (0, .ref h), (1, .int (nI d))]) hx hb dX3_boundGroups_31 hl (k := 1) rfl (nI_1 _) (by decide) rfl (fun ls hl => ?_)
          refine lv_iinc (v := nI (t + 1)) (lv' := [(3, .int (nI (t + 1))), (2, .int (nI (itr (grs Hd n d) t 0 + 1))), (4, .int (nI ((2 ^ t) - 1))), (0, .ref h), (1, .int (nI d))]) hx hb dX3_boundGroups_34 hl (k := 2) rfl (nI_1 _) (by decide) rfl (fun ls hl => ?_)
          refine lv_goto (tgt := 4) hx hb dX3_boundGroups_37 (by decide) ?_
          have e2 : nI (itr (grs Hd n d) t 0 + 1) = nI (itr (grs Hd n d) (t + 1) 0) := (congrArg nI (show _ = grs Hd n d t _ from (if_pos c2).symm))
          rw [e2] at hl
          exact ih4 (t + 1) (by omega) (by omega) ls locs (lv_sub hl [1, 0, 3, 4] rfl) hS
  exact L4 ((n - 0) + 1) 0 (Nat.lt_succ_self _) (by omega) ls locs (lv_sub hl [1, 0, 2, 3] rfl) hS
set_option maxHeartbeats 4000000 in
set_option maxRecDepth 100000 in
theorem c_X3_hindered {l : Launch} {D : va_G} {ky : kT} {Hs : Heap} {ws : va_W} {h n : Nat} {T C Hd : Nat → Nat} {b : Nat} {q : Bool} (hP : va_P D CL ws Hs) (hpr : isProd ky ws h n T C Hd b q) (hI : PI0 n C Hd b) {one d oth : Nat} (hd : d < 6) (ho : oth < 2 ^ 31) : PI l yX3_hindered wsX3_hindered 0 0 D ky Hs [.ref h, .int (nI one), .int (nI d), .int (nI oth)] (bI (hnd Hd n one d oth)) := by
  refine PI.of (cc := cX3_hindered) (maxL := 5) (ty := .boolean) (by decide) rfl (bI_nar _) (Nat.le_of_ble_eq_true rfl) ?_
  intro pg en Rm sg mi av below meth co Qo hRf hRl hx hb hml hown hts hK hret ls hl
  have hl : lv_has ls 5 [(0, .ref h), (1, .int (nI one)), (2, .int (nI d)), (3, .int (nI oth))] := hl
  have hS : va_S (fun _ => False) Hs Hs [] := va_S.rf
  generalize ([] : List Loc) = locs at hS ⊢
  obtain ⟨a1, a2, a3, f1, f2, f3, f4⟩ := hpr
  obtain ⟨hn8, hb8, hC, hH, hsy⟩ := hI
  have hI : PI0 n C Hd b := ⟨hn8, hb8, hC, hH, hsy⟩
  have hpr : isProd ky ws h n T C Hd b q := ⟨a1, a2, a3, f1, f2, f3, f4⟩
  have k21 := hts (.fieldLink RX3 21 "AssemblyPlanner$Product" "count" "I") (by decide +kernel)
  have hinX3 : ∀ w ∈ wsX30, w ∈ wsX3_hindered := by decide +kernel
  have k18 := hts (.fieldLink RX3 18 "AssemblyPlanner$Product" "hinderers" "[I") (by decide +kernel)
  refine lv_iconst (v := nI 0) hx hb dX3_hindered_0 ci_0 ?_
  refine lv_istore (lv' := [(4, .int (nI 0)), (0, .ref h), (1, .int (nI one)), (2, .int (nI d)), (3, .int (nI oth))]) hx hb dX3_hindered_1 hl (by decide) rfl (fun ls hl => ?_)
  have L3 : ∀ (L3d : Nat) (t : Nat), n - t < L3d → t ≤ n → exB (hnP Hd one d oth) t = false → ∀ (ls : Array Slot) (locs : List Loc), lv_has ls 5 [(4, .int (nI t)), (0, .ref h), (1, .int (nI one)), (2, .int (nI d)), (3, .int (nI oth))] → va_S (fun _ => False) Hs Hs locs → W pg l en Rm sg mi av below meth co Hs locs 0 0 Qo (F0 mi 3 ls []) := by
    intro L3d
    induction L3d with
    | zero => intro t hfu; exact absurd hfu (Nat.not_lt_zero _)
    | succ L3d ih3 =>
      intro t hfu i3_0 i3_1 ls locs hl hS
      refine lv_iload hx hb dX3_hindered_3 (lv_at hl 0 rfl) ?_
      refine lv_aload_n hx hb dX3_hindered_5 rfl (lv_at hl 1 rfl) ?_
      refine va_get (ci := 3) (C := RX3) (T := TX3) (N := 6) hx hb hts hinX3 hown hK hP 1 f1 rfl 3 (by decide) k21 (fun _ h9 => h9) rfl dX3_hindered_6 ?_
      refine sn_icmp_ge (tgt := 46) hx hb dX3_hindered_9 (by decide) (by omega) (by omega) (fun c1 => ?_) (fun c1 => ?_)
      · refine lv_iconst (v := nI 0) hx hb dX3_hindered_46 ci_0 ?_
        exact hret 47 ls locs _ dX3_hindered_47 hS (bI_f (by rw [show t = n by omega] at i3_1; exact i3_1))
      · refine lv_iload_n hx hb dX3_hindered_12 rfl (lv_at hl 2 rfl) ?_
        refine lv_iconst (v := nI 1) hx hb dX3_hindered_13 ci_1 ?_
        refine lv_iload hx hb dX3_hindered_14 (lv_at hl 0 rfl) ?_
        refine lv_ishl hx hb dX3_hindered_16 ?_
        refine sv_top (y := nI (2 ^ t)) (sh_l1 (by omega)) ?_
        refine lv_iand hx hb dX3_hindered_17 ?_
        refine sv_top (y := nI (one &&& (2 ^ t))) (an_and _ _) ?_
        refine st_if_eq (tgt := 40) hx hb dX3_hindered_18 (by decide) (by omega) (fun c2 => ?_) (fun c2 => ?_)
        · refine lv_iinc (v := nI (t + 1)) (lv' := [(4, .int (nI (t + 1))), (0, .ref h), (1, .int (nI one)), (2, .int (nI d)), (3, .int (nI oth))]) hx hb dX3_hindered_40 hl (k := 0) rfl (nI_1 _) (by decide) rfl (fun ls hl => ?_)
          refine lv_goto (tgt := 3) hx hb dX3_hindered_43 (by decide) ?_
          exact ih3 (t + 1) (by omega) (by omega) (exB_s i3_1 (by unfold hnP; rw [c2]; rfl)) ls locs (lv_sub hl [0, 1, 2, 3, 4] rfl) hS
        · refine lv_aload_n hx hb dX3_hindered_21 rfl (lv_at hl 1 rfl) ?_
          refine va_get (ci := 3) (C := RX3) (T := TX3) (N := 6) hx hb hts hinX3 hown hK hP 1 f1 rfl 2 (by decide) k18 (fun _ h9 => h9) rfl dX3_hindered_22 ?_
          refine lv_iload_n hx hb dX3_hindered_25 rfl (lv_at hl 3 rfl) ?_
          refine lv_bipush (v := nI 8) hx hb dX3_hindered_26 bi_8 ?_
          refine lv_imul hx hb dX3_hindered_28 ?_
          refine sv_top (y := nI (8 * d)) (mul_c _ _) ?_
          refine lv_iload hx hb dX3_hindered_29 (lv_at hl 0 rfl) ?_
          refine lv_iadd hx hb dX3_hindered_31 ?_
          refine sv_top (y := nI (8 * d + t)) (nI_add _ _) ?_
          refine sv_iald hx hb hK hP 4 f4 (j := 8 * d + t) (by omega) (by decide) dX3_hindered_32 ?_
          refine W.eq (g2 := F0 mi 33 ls (.int (nI (Hd (8 * d + t))) :: [])) rfl ?_
          refine lv_iload_n hx hb dX3_hindered_33 rfl (lv_at hl 4 rfl) ?_
          refine lv_iand hx hb dX3_hindered_34 ?_
          refine sv_top (y := nI ((Hd (8 * d + t)) &&& oth)) (an_and _ _) ?_
          refine sn_if_eq (tgt := 40) hx hb dX3_hindered_35 (by decide) (and_b1 (lt_31 (hH _) hn8)) (fun c3 => ?_) (fun c3 => ?_)
          · refine lv_iinc (v := nI (t + 1)) (lv' := [(4, .int (nI (t + 1))), (0, .ref h), (1, .int (nI one)), (2, .int (nI d)), (3, .int (nI oth))]) hx hb dX3_hindered_40 hl (k := 0) rfl (nI_1 _) (by decide) rfl (fun ls hl => ?_)
            refine lv_goto (tgt := 3) hx hb dX3_hindered_43 (by decide) ?_
            exact ih3 (t + 1) (by omega) (by omega) (exB_s i3_1 (by unfold hnP; rw [decide_eq_false (fun q => q c3), Bool.and_false])) ls locs (lv_sub hl [0, 1, 2, 3, 4] rfl) hS
          · refine lv_iconst (v := nI 1) hx hb dX3_hindered_38 ci_1 ?_
            exact hret 39 ls locs _ dX3_hindered_39 hS (bI_t (exB_in c1 (by unfold hnP; rw [c2, decide_eq_true c3]; rfl)))
  exact L3 ((n - 0) + 1) 0 (Nat.lt_succ_self _) (by omega) rfl ls locs (lv_sub hl [0, 1, 2, 3, 4] rfl) hS
set_option maxHeartbeats 4000000 in
set_option maxRecDepth 100000 in
theorem c_X3_separable {l : Launch} {D : va_G} {ky : kT} {Hs : Heap} {ws : va_W} {h n : Nat} {T C Hd : Nat → Nat} {b : Nat} {q : Bool} (hP : va_P D CL ws Hs) (hpr : isProd ky ws h n T C Hd b q) (hI : PI0 n C Hd b) {one oth : Nat} (ho : oth < 2 ^ 31) : PI l yX3_separable wsX3_separable 1 24 D ky Hs [.ref h, .int (nI one), .int (nI oth)] (bI (sep Hd n one oth)) := by
  refine PI.of (cc := cX3_separable) (maxL := 4) (ty := .boolean) (by decide) rfl (bI_nar _) (Nat.le_of_ble_eq_true rfl) ?_
  intro pg en Rm sg mi av below meth co Qo hRf hRl hx hb hml hown hts hK hret ls hl
  have hl : lv_has ls 4 [(0, .ref h), (1, .int (nI one)), (2, .int (nI oth))] := hl
  have hS : va_S (fun _ => False) Hs Hs [] := va_S.rf
  generalize ([] : List Loc) = locs at hS ⊢
  obtain ⟨a1, a2, a3, f1, f2, f3, f4⟩ := hpr
  obtain ⟨hn8, hb8, hC, hH, hsy⟩ := hI
  have hI : PI0 n C Hd b := ⟨hn8, hb8, hC, hH, hsy⟩
  have hpr : isProd ky ws h n T C Hd b q := ⟨a1, a2, a3, f1, f2, f3, f4⟩
  refine lv_iconst (v := nI 0) hx hb dX3_separable_0 ci_0 ?_
  refine lv_istore_n (lv' := [(3, .int (nI 0)), (0, .ref h), (1, .int (nI one)), (2, .int (nI oth))]) hx hb dX3_separable_1 rfl hl (by decide) rfl (fun ls hl => ?_)
  have L2 : ∀ (L2d : Nat) (t : Nat), 6 - t < L2d → t ≤ 6 → exB (fun d => !hnd Hd n one d oth) t = false → ∀ (ls : Array Slot) (locs : List Loc), lv_has ls 4 [(3, .int (nI t)), (0, .ref h), (1, .int (nI one)), (2, .int (nI oth))] → va_S (fun _ => False) Hs Hs locs → W pg l en Rm sg mi av below meth co Hs locs 0 0 Qo (F0 mi 2 ls []) := by
    intro L2d
    induction L2d with
    | zero => intro t hfu; exact absurd hfu (Nat.not_lt_zero _)
    | succ L2d ih2 =>
      intro t hfu i2_0 i2_1 ls locs hl hS
      refine lv_iload_n hx hb dX3_separable_2 rfl (lv_at hl 0 rfl) ?_
      refine lv_bipush (v := nI 6) hx hb dX3_separable_3 bi_6 ?_
      refine sn_icmp_ge (tgt := 26) hx hb dX3_separable_5 (by decide) (by omega) (by decide) (fun c1 => ?_) (fun c1 => ?_)
      · refine lv_iconst (v := nI 0) hx hb dX3_separable_26 ci_0 ?_
        exact hret 27 ls locs _ dX3_separable_27 hS (bI_f (by rw [show t = 6 by omega] at i2_1; exact i2_1))
      · refine lv_aload_n hx hb dX3_separable_8 rfl (lv_at hl 1 rfl) ?_
        refine lv_iload_n hx hb dX3_separable_9 rfl (lv_at hl 2 rfl) ?_
        refine lv_iload_n hx hb dX3_separable_10 rfl (lv_at hl 0 rfl) ?_
        refine lv_iload_n hx hb dX3_separable_11 rfl (lv_at hl 3 rfl) ?_
        refine pcV (c_X3_hindered hP hpr hI (by omega) ho) ⟨hx, hb, hml, hown, hts⟩ hK gX3_separable_X3_hindered rfl hd_X3_hindered ⟨by omega, by omega⟩ (va_recv hK hP (ci := 3) (q0 := 1) rfl f1) rfl hl.1 rfl (Nat.le_of_ble_eq_true rfl) dX3_separable_12 ⟨Nat.zero_le _, Nat.zero_le _⟩ hS (fun locs hS => ?_)
        refine sb_if_ne (tgt := 20) hx hb dX3_separable_15 (by decide) (fun c2 => ?_) (fun c2 => ?_)
        · refine lv_iinc (v := nI (t + 1)) (lv' := [(3, .int (nI (t + 1))), (0, .ref h), (1, .int (nI one)), (2, .int (nI oth))]) hx hb dX3_separable_20 hl (k := 0) rfl (nI_1 _) (by decide) rfl (fun ls hl => ?_)
          refine lv_goto (tgt := 2) hx hb dX3_separable_23 (by decide) ?_
          exact ih2 (t + 1) (by omega) (by omega) (exB_s i2_1 (by show (!hnd Hd n one t oth) = false; rw [c2]; rfl)) ls locs (lv_sub hl [0, 1, 2, 3] rfl) hS
        · refine lv_iconst (v := nI 1) hx hb dX3_separable_18 ci_1 ?_
          exact hret 19 ls locs _ dX3_separable_19 hS (bI_t (exB_in c1 (by show (!hnd Hd n one t oth) = true; rw [c2]; rfl)))
  exact L2 ((6 - 0) + 1) 0 (Nat.lt_succ_self _) (by omega) rfl ls locs (lv_sub hl [0, 1, 2, 3] rfl) hS

