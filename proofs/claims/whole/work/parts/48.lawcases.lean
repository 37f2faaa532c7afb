theorem hd_X4_askSteady : yX4_askSteady.cls = RX4 ∧ yX4_askSteady.cls ≠ "java/lang/invoke/MethodHandle" ∧ yX4_askSteady.cls ≠ "java/lang/invoke/VarHandle" ∧ (parseMethodDescriptor yX4_askSteady.desc).map (fun d => d.parameters.length) = some 1 := by decide +kernel
theorem hd_X4_built : yX4_built.cls = RX4 ∧ yX4_built.cls ≠ "java/lang/invoke/MethodHandle" ∧ yX4_built.cls ≠ "java/lang/invoke/VarHandle" ∧ (parseMethodDescriptor yX4_built.desc).map (fun d => d.parameters.length) = some 0 := by decide +kernel
theorem hd_X4_clock : yX4_clock.cls = RX4 ∧ yX4_clock.cls ≠ "java/lang/invoke/MethodHandle" ∧ yX4_clock.cls ≠ "java/lang/invoke/VarHandle" ∧ (parseMethodDescriptor yX4_clock.desc).map (fun d => d.parameters.length) = some 0 := by decide +kernel
theorem hd_X4_mounted : yX4_mounted.cls = RX4 ∧ yX4_mounted.cls ≠ "java/lang/invoke/MethodHandle" ∧ yX4_mounted.cls ≠ "java/lang/invoke/VarHandle" ∧ (parseMethodDescriptor yX4_mounted.desc).map (fun d => d.parameters.length) = some 0 := by decide +kernel
theorem hd_X4_parts : yX4_parts.cls = RX4 ∧ yX4_parts.cls ≠ "java/lang/invoke/MethodHandle" ∧ yX4_parts.cls ≠ "java/lang/invoke/VarHandle" ∧ (parseMethodDescriptor yX4_parts.desc).map (fun d => d.parameters.length) = some 0 := by decide +kernel
theorem hd_X5_addPart : yX5_addPart.cls = RX5 ∧ yX5_addPart.cls ≠ "java/lang/invoke/MethodHandle" ∧ yX5_addPart.cls ≠ "java/lang/invoke/VarHandle" ∧ (parseMethodDescriptor yX5_addPart.desc).map (fun d => d.parameters.length) = some 1 := by decide +kernel
theorem hd_X5_askSteady : yX5_askSteady.cls = RX5 ∧ yX5_askSteady.cls ≠ "java/lang/invoke/MethodHandle" ∧ yX5_askSteady.cls ≠ "java/lang/invoke/VarHandle" ∧ (parseMethodDescriptor yX5_askSteady.desc).map (fun d => d.parameters.length) = some 1 := by decide +kernel
theorem hd_X5_begin : yX5_begin.cls = RX5 ∧ yX5_begin.cls ≠ "java/lang/invoke/MethodHandle" ∧ yX5_begin.cls ≠ "java/lang/invoke/VarHandle" ∧ (parseMethodDescriptor yX5_begin.desc).map (fun d => d.parameters.length) = some 0 := by decide +kernel
theorem hd_X5_boundTo : yX5_boundTo.cls = RX5 ∧ yX5_boundTo.cls ≠ "java/lang/invoke/MethodHandle" ∧ yX5_boundTo.cls ≠ "java/lang/invoke/VarHandle" ∧ (parseMethodDescriptor yX5_boundTo.desc).map (fun d => d.parameters.length) = some 2 := by decide +kernel
theorem hd_X5_built : yX5_built.cls = RX5 ∧ yX5_built.cls ≠ "java/lang/invoke/MethodHandle" ∧ yX5_built.cls ≠ "java/lang/invoke/VarHandle" ∧ (parseMethodDescriptor yX5_built.desc).map (fun d => d.parameters.length) = some 0 := by decide +kernel
theorem hd_X5_canTake : yX5_canTake.cls = RX5 ∧ yX5_canTake.cls ≠ "java/lang/invoke/MethodHandle" ∧ yX5_canTake.cls ≠ "java/lang/invoke/VarHandle" ∧ (parseMethodDescriptor yX5_canTake.desc).map (fun d => d.parameters.length) = some 2 := by decide +kernel
theorem hd_X5_clock : yX5_clock.cls = RX5 ∧ yX5_clock.cls ≠ "java/lang/invoke/MethodHandle" ∧ yX5_clock.cls ≠ "java/lang/invoke/VarHandle" ∧ (parseMethodDescriptor yX5_clock.desc).map (fun d => d.parameters.length) = some 0 := by decide +kernel
theorem hd_X5_contact : yX5_contact.cls = RX5 ∧ yX5_contact.cls ≠ "java/lang/invoke/MethodHandle" ∧ yX5_contact.cls ≠ "java/lang/invoke/VarHandle" ∧ (parseMethodDescriptor yX5_contact.desc).map (fun d => d.parameters.length) = some 3 := by decide +kernel
theorem hd_X5_fewestByListing : yX5_fewestByListing.cls = RX5 ∧ yX5_fewestByListing.cls ≠ "java/lang/invoke/MethodHandle" ∧ yX5_fewestByListing.cls ≠ "java/lang/invoke/VarHandle" ∧ (parseMethodDescriptor yX5_fewestByListing.desc).map (fun d => d.parameters.length) = some 0 := by decide +kernel
theorem hd_X5_fewestChanges : yX5_fewestChanges.cls = RX5 ∧ yX5_fewestChanges.cls ≠ "java/lang/invoke/MethodHandle" ∧ yX5_fewestChanges.cls ≠ "java/lang/invoke/VarHandle" ∧ (parseMethodDescriptor yX5_fewestChanges.desc).map (fun d => d.parameters.length) = some 0 := by decide +kernel
theorem hd_X5_free : yX5_free.cls = RX5 ∧ yX5_free.cls ≠ "java/lang/invoke/MethodHandle" ∧ yX5_free.cls ≠ "java/lang/invoke/VarHandle" ∧ (parseMethodDescriptor yX5_free.desc).map (fun d => d.parameters.length) = some 2 := by decide +kernel
theorem hd_X5_groups : yX5_groups.cls = RX5 ∧ yX5_groups.cls ≠ "java/lang/invoke/MethodHandle" ∧ yX5_groups.cls ≠ "java/lang/invoke/VarHandle" ∧ (parseMethodDescriptor yX5_groups.desc).map (fun d => d.parameters.length) = some 1 := by decide +kernel
theorem hd_X5_hinder : yX5_hinder.cls = RX5 ∧ yX5_hinder.cls ≠ "java/lang/invoke/MethodHandle" ∧ yX5_hinder.cls ≠ "java/lang/invoke/VarHandle" ∧ (parseMethodDescriptor yX5_hinder.desc).map (fun d => d.parameters.length) = some 4 := by decide +kernel
theorem hd_X5_isBypassed : yX5_isBypassed.cls = RX5 ∧ yX5_isBypassed.cls ≠ "java/lang/invoke/MethodHandle" ∧ yX5_isBypassed.cls ≠ "java/lang/invoke/VarHandle" ∧ (parseMethodDescriptor yX5_isBypassed.desc).map (fun d => d.parameters.length) = some 1 := by decide +kernel
theorem hd_X5_isConnected : yX5_isConnected.cls = RX5 ∧ yX5_isConnected.cls ≠ "java/lang/invoke/MethodHandle" ∧ yX5_isConnected.cls ≠ "java/lang/invoke/VarHandle" ∧ (parseMethodDescriptor yX5_isConnected.desc).map (fun d => d.parameters.length) = some 1 := by decide +kernel
theorem hd_X5_isSteady : yX5_isSteady.cls = RX5 ∧ yX5_isSteady.cls ≠ "java/lang/invoke/MethodHandle" ∧ yX5_isSteady.cls ≠ "java/lang/invoke/VarHandle" ∧ (parseMethodDescriptor yX5_isSteady.desc).map (fun d => d.parameters.length) = some 1 := by decide +kernel
theorem hd_X5_leastDepth : yX5_leastDepth.cls = RX5 ∧ yX5_leastDepth.cls ≠ "java/lang/invoke/MethodHandle" ∧ yX5_leastDepth.cls ≠ "java/lang/invoke/VarHandle" ∧ (parseMethodDescriptor yX5_leastDepth.desc).map (fun d => d.parameters.length) = some 0 := by decide +kernel
theorem hd_X5_mounted : yX5_mounted.cls = RX5 ∧ yX5_mounted.cls ≠ "java/lang/invoke/MethodHandle" ∧ yX5_mounted.cls ≠ "java/lang/invoke/VarHandle" ∧ (parseMethodDescriptor yX5_mounted.desc).map (fun d => d.parameters.length) = some 0 := by decide +kernel
theorem hd_X5_movesWith : yX5_movesWith.cls = RX5 ∧ yX5_movesWith.cls ≠ "java/lang/invoke/MethodHandle" ∧ yX5_movesWith.cls ≠ "java/lang/invoke/VarHandle" ∧ (parseMethodDescriptor yX5_movesWith.desc).map (fun d => d.parameters.length) = some 2 := by decide +kernel
theorem hd_X5_orderAt : yX5_orderAt.cls = RX5 ∧ yX5_orderAt.cls ≠ "java/lang/invoke/MethodHandle" ∧ yX5_orderAt.cls ≠ "java/lang/invoke/VarHandle" ∧ (parseMethodDescriptor yX5_orderAt.desc).map (fun d => d.parameters.length) = some 1 := by decide +kernel
theorem hd_X5_orders : yX5_orders.cls = RX5 ∧ yX5_orders.cls ≠ "java/lang/invoke/MethodHandle" ∧ yX5_orders.cls ≠ "java/lang/invoke/VarHandle" ∧ (parseMethodDescriptor yX5_orders.desc).map (fun d => d.parameters.length) = some 0 := by decide +kernel
theorem hd_X5_parts : yX5_parts.cls = RX5 ∧ yX5_parts.cls ≠ "java/lang/invoke/MethodHandle" ∧ yX5_parts.cls ≠ "java/lang/invoke/VarHandle" ∧ (parseMethodDescriptor yX5_parts.desc).map (fun d => d.parameters.length) = some 0 := by decide +kernel
theorem hd_X5_setBase : yX5_setBase.cls = RX5 ∧ yX5_setBase.cls ≠ "java/lang/invoke/MethodHandle" ∧ yX5_setBase.cls ≠ "java/lang/invoke/VarHandle" ∧ (parseMethodDescriptor yX5_setBase.desc).map (fun d => d.parameters.length) = some 1 := by decide +kernel
theorem hd_X5_setJams : yX5_setJams.cls = RX5 ∧ yX5_setJams.cls ≠ "java/lang/invoke/MethodHandle" ∧ yX5_setJams.cls ≠ "java/lang/invoke/VarHandle" ∧ (parseMethodDescriptor yX5_setJams.desc).map (fun d => d.parameters.length) = some 2 := by decide +kernel
theorem hd_X5_setTool : yX5_setTool.cls = RX5 ∧ yX5_setTool.cls ≠ "java/lang/invoke/MethodHandle" ∧ yX5_setTool.cls ≠ "java/lang/invoke/VarHandle" ∧ (parseMethodDescriptor yX5_setTool.desc).map (fun d => d.parameters.length) = some 2 := by decide +kernel
theorem hd_X5_splits : yX5_splits.cls = RX5 ∧ yX5_splits.cls ≠ "java/lang/invoke/MethodHandle" ∧ yX5_splits.cls ≠ "java/lang/invoke/VarHandle" ∧ (parseMethodDescriptor yX5_splits.desc).map (fun d => d.parameters.length) = some 1 := by decide +kernel
theorem hd_X5_step : yX5_step.cls = RX5 ∧ yX5_step.cls ≠ "java/lang/invoke/MethodHandle" ∧ yX5_step.cls ≠ "java/lang/invoke/VarHandle" ∧ (parseMethodDescriptor yX5_step.desc).map (fun d => d.parameters.length) = some 0 := by decide +kernel
theorem hd_X5_stepBack : yX5_stepBack.cls = RX5 ∧ yX5_stepBack.cls ≠ "java/lang/invoke/MethodHandle" ∧ yX5_stepBack.cls ≠ "java/lang/invoke/VarHandle" ∧ (parseMethodDescriptor yX5_stepBack.desc).map (fun d => d.parameters.length) = some 0 := by decide +kernel
theorem hd_X5_thrown : yX5_thrown.cls = RX5 ∧ yX5_thrown.cls ≠ "java/lang/invoke/MethodHandle" ∧ yX5_thrown.cls ≠ "java/lang/invoke/VarHandle" ∧ (parseMethodDescriptor yX5_thrown.desc).map (fun d => d.parameters.length) = some 0 := by decide +kernel
theorem hd_X5_ways : yX5_ways.cls = RX5 ∧ yX5_ways.cls ≠ "java/lang/invoke/MethodHandle" ∧ yX5_ways.cls ≠ "java/lang/invoke/VarHandle" ∧ (parseMethodDescriptor yX5_ways.desc).map (fun d => d.parameters.length) = some 0 := by decide +kernel
set_option maxHeartbeats 4000000 in
set_option maxRecDepth 100000 in
theorem lk_addPart {p : Program} {l : Launch} {e : Env} {R : Room} {s : State} {mi : MethodId} {av : Array Value} {below : List Frame} {meth : Method} {c : Code} {Q : State → Prop} {D : va_G} {ky : kT} {A : Nat → Prop} {b L : Nat} {xs : Nat → Int32} (hC : LC p s mi av c R D ky A b L xs) {ws : va_W} {H : Heap} {locs : List Loc} {cells slots : Nat} (hP : va_P D CL ws H) (hD : va_D A ws) (hS : va_S A s.heap H locs) (hc : cells + 1 ≤ R.cells) (hs : slots + 6 ≤ R.slots) {x m o i : Nat} (hi : i + 5 ≤ L) {P1 : va_W → Prop} {P2 : Int32 → va_W → Prop} {kc : Nat} (hkc : kc < 3) (hW : WU l yL_addPart wsL_addPart 8 124 D ky A H [.ref x, .int (xs (i + 1)), .ref o] (fun k w => k = nI kc ∧ P1 w)) (h2 : ∀ (w : va_W) (H1 : Heap), P1 w → va_P D CL w H1 → va_D A w → (∃ fs : List Value, w[19]? = some (m, .inr (5, fs))) ∧ ∃ fr lo : Nat, fr ≤ 1 ∧ lo ≤ 21 ∧ MU l yX5_addPart wsX5_addPart fr lo 0 0 D ky A H1 [.ref m, .int (xs (i + 1))] P2) (ht : ∀ r w, P2 r w → THR ky w m kc) (hz : ∀ r w, P2 r w → kc = 0 → ∃ g : Nat → Int64, isOut ky w o g ∧ g 0 = r.toInt64)
    (kk : ∀ (r : Int32) (w : va_W) (H1 : Heap) (locs1 : List Loc) (ls1 : Array Slot), P2 r w → va_P D CL w H1 → va_D A w → va_S A s.heap H1 locs1 → lv_has ls1 7 (hdl b x m o (i + 5)) → W p l e R s mi av below meth c H1 locs1 (cells + 1) (slots + 6) Q (F0 mi 23 ls1 [])) (ls : Array Slot) (hl : lv_has ls 7 (hdl b x m o i)) : W p l e R s mi av below meth c H locs cells slots Q (F0 mi 168 ls []) := by
  obtain ⟨hx, hb, hml, hown, hts, hK, hXE, hNC, hX, hbl, hbA, hL, hRf, hRl⟩ := hC
  have hl : lv_has ls 7 [(4, .int (nI i)), (0, .ref b), (1, .ref x), (2, .ref m), (3, .ref o)] := hl
  refine lv_aload_n hx hb dL_law_168 rfl (lv_at hl 2 rfl) ?_
  refine lw_arg hx hb hX hbl hbA hS hi (show 1 < 5 by decide) hL hl (k0 := 1) (k4 := 0) rfl rfl dL_law_169 dL_law_170 (fj := nI 1) rfl ci_1 dL_law_172 dL_law_173 dL_law_174 ?_
  refine lv_aload_n hx hb dL_law_175 rfl (lv_at hl 4 rfl) ?_
  refine wcS hW ⟨hx, hb, hml, hown, hts⟩ hK hXE hNC gL_law_L_addPart rfl hd_L_addPart ⟨by omega, by omega⟩ rfl hl.1 rfl (Nat.le_of_ble_eq_true rfl) dL_law_176 ⟨by omega, by omega⟩ hS (fun r1 w1 H1 locs hp1 hP hD hS => ?_)
  obtain ⟨rfl, hp1⟩ := hp1
  refine lv_istore (lv' := [(5, .int (nI kc)), (4, .int (nI i)), (0, .ref b), (1, .ref x), (2, .ref m), (3, .ref o)]) hx hb dL_law_179 hl (by decide) rfl (fun ls hl => ?_)
  refine lv_aload_n hx hb dL_law_181 rfl (lv_at hl 4 rfl) ?_
  refine lw_arg hx hb hX hbl hbA hS hi (show 1 < 5 by decide) hL hl (k0 := 2) (k4 := 1) rfl rfl dL_law_182 dL_law_183 (fj := nI 1) rfl ci_1 dL_law_185 dL_law_186 dL_law_187 ?_
  obtain ⟨⟨fs5, e19⟩, fr5, lo5, hfr5, hlo5, hM⟩ := h2 w1 H1 hp1 hP hD
  refine mcV hM ⟨hx, hb, hml, hown, hts⟩ hK gL_law_X5_addPart rfl hd_X5_addPart ⟨by omega, by omega⟩ (va_recv hK hP (ci := 5) (q0 := 19) rfl e19) rfl hl.1 rfl (Nat.le_of_ble_eq_true rfl) dL_law_188 ⟨by omega, by omega⟩ hS (fun r2 w2 H2 locs hp2 hP hD hS => ?_)
  refine lv_istore (lv' := [(6, .int r2), (5, .int (nI kc)), (4, .int (nI i)), (0, .ref b), (1, .ref x), (2, .ref m), (3, .ref o)]) hx hb dL_law_191 hl (by decide) rfl (fun ls hl => ?_)
  refine lv_aload_n hx hb dL_law_193 rfl (lv_at hl 5 rfl) ?_
  obtain ⟨n9, T9, C9, Hd9, b9, q9, J9, bg9, pu9, bu9, cl9, mo9, K9, z1, z2, z3, z4, z5, hmd⟩ := ht r2 w2 hp2
  have e19 := hmd
  obtain ⟨m1, m2, m3, m4, m5, m6, m7, m8, m9, m10, g19, -⟩ := id hmd
  refine pcV (c_X5_thrown hP hmd) ⟨hx, hb, hml, hown, hts⟩ hK gL_law_X5_thrown rfl hd_X5_thrown ⟨by omega, by omega⟩ (va_recv hK hP (ci := 5) (q0 := 19) rfl g19) rfl hl.1 rfl (Nat.le_of_ble_eq_true rfl) dL_law_194 ⟨by omega, by omega⟩ hS (fun locs hS => ?_)
  refine lv_iload hx hb dL_law_197 (lv_at hl 1 rfl) ?_
  refine lv_icmp_eq (tgt := 204) hx hb dL_law_199 (by decide) (fun _ => ?_) (fun cz => absurd rfl cz)
  refine lv_iload hx hb dL_law_204 (lv_at hl 1 rfl) ?_
  refine sn_if_ne (tgt := 221) hx hb dL_law_206 (by decide) (by omega) (fun cz => ?_) (fun cz => ?_)
  · refine lv_goto (tgt := 1701) hx hb dL_law_221 (by decide) ?_
    refine lv_iinc (v := nI (i + 5)) hx hb dL_law_1701 hl (k := 2) rfl (nI_5 i) (by decide) rfl (fun ls hl => ?_)
    refine lv_goto (tgt := 23) hx hb dL_law_1704 (by decide) ?_
    exact kk _ w2 H2 locs ls hp2 hP hD hS (lv_sub hl [0, 3, 4, 5, 6] rfl)
  · have ho := hz r2 w2 hp2 cz
    obtain ⟨g9, eo, hg9⟩ := ho
    refine lv_aload_n hx hb dL_law_209 rfl (lv_at hl 6 rfl) ?_
    refine lv_iconst (v := nI 0) hx hb dL_law_210 ci_0 ?_
    refine sv_lald hx hb hK hP eo dL_law_211 ?_
    rw [hg9]
    refine lv_iload hx hb dL_law_212 (lv_at hl 0 rfl) ?_
    refine lv_i2l (v := r2.toInt64) hx hb dL_law_214 rfl ?_
    refine W.lcmp hx hb dL_law_215 ?_
    rw [lg_cmp_s]
    refine lv_if_eq (tgt := 221) hx hb dL_law_216 (by decide) (fun _ => ?_) (fun cz => absurd rfl cz)
    refine lv_goto (tgt := 1701) hx hb dL_law_221 (by decide) ?_
    refine lv_iinc (v := nI (i + 5)) hx hb dL_law_1701 hl (k := 2) rfl (nI_5 i) (by decide) rfl (fun ls hl => ?_)
    refine lv_goto (tgt := 23) hx hb dL_law_1704 (by decide) ?_
    exact kk _ w2 H2 locs ls hp2 hP hD hS (lv_sub hl [0, 3, 4, 5, 6] rfl)
set_option maxHeartbeats 4000000 in
set_option maxRecDepth 100000 in
theorem lk_setTool {p : Program} {l : Launch} {e : Env} {R : Room} {s : State} {mi : MethodId} {av : Array Value} {below : List Frame} {meth : Method} {c : Code} {Q : State → Prop} {D : va_G} {ky : kT} {A : Nat → Prop} {b L : Nat} {xs : Nat → Int32} (hC : LC p s mi av c R D ky A b L xs) {ws : va_W} {H : Heap} {locs : List Loc} {cells slots : Nat} (hP : va_P D CL ws H) (hD : va_D A ws) (hS : va_S A s.heap H locs) (hc : cells + 1 ≤ R.cells) (hs : slots + 6 ≤ R.slots) {x m o i : Nat} (hi : i + 5 ≤ L) {P1 : va_W → Prop} {P2 : Int32 → va_W → Prop} {kc : Nat} (hkc : kc < 3) (hW : WU l yL_setTool wsL_setTool 8 125 D ky A H [.ref x, .int (xs (i + 1)), .int (xs (i + 2)), .ref o] (fun k w => k = nI kc ∧ P1 w)) (h2 : ∀ (w : va_W) (H1 : Heap), P1 w → va_P D CL w H1 → va_D A w → (∃ fs : List Value, w[19]? = some (m, .inr (5, fs))) ∧ ∃ fr lo : Nat, fr ≤ 1 ∧ lo ≤ 21 ∧ MU l yX5_setTool wsX5_setTool fr lo 0 0 D ky A H1 [.ref m, .int (xs (i + 1)), .int (xs (i + 2))] P2) (ht : ∀ r w, P2 r w → THR ky w m kc) (hz : ∀ r w, P2 r w → kc = 0 → ∃ g : Nat → Int64, isOut ky w o g ∧ g 0 = r.toInt64)
    (kk : ∀ (r : Int32) (w : va_W) (H1 : Heap) (locs1 : List Loc) (ls1 : Array Slot), P2 r w → va_P D CL w H1 → va_D A w → va_S A s.heap H1 locs1 → lv_has ls1 7 (hdl b x m o (i + 5)) → W p l e R s mi av below meth c H1 locs1 (cells + 1) (slots + 6) Q (F0 mi 23 ls1 [])) (ls : Array Slot) (hl : lv_has ls 7 (hdl b x m o i)) : W p l e R s mi av below meth c H locs cells slots Q (F0 mi 224 ls []) := by
  obtain ⟨hx, hb, hml, hown, hts, hK, hXE, hNC, hX, hbl, hbA, hL, hRf, hRl⟩ := hC
  have hl : lv_has ls 7 [(4, .int (nI i)), (0, .ref b), (1, .ref x), (2, .ref m), (3, .ref o)] := hl
  refine lv_aload_n hx hb dL_law_224 rfl (lv_at hl 2 rfl) ?_
  refine lw_arg hx hb hX hbl hbA hS hi (show 1 < 5 by decide) hL hl (k0 := 1) (k4 := 0) rfl rfl dL_law_225 dL_law_226 (fj := nI 1) rfl ci_1 dL_law_228 dL_law_229 dL_law_230 ?_
  refine lw_arg hx hb hX hbl hbA hS hi (show 2 < 5 by decide) hL hl (k0 := 1) (k4 := 0) rfl rfl dL_law_231 dL_law_232 (fj := nI 2) rfl ci_2 dL_law_234 dL_law_235 dL_law_236 ?_
  refine lv_aload_n hx hb dL_law_237 rfl (lv_at hl 4 rfl) ?_
  refine wcS hW ⟨hx, hb, hml, hown, hts⟩ hK hXE hNC gL_law_L_setTool rfl hd_L_setTool ⟨by omega, by omega⟩ rfl hl.1 rfl (Nat.le_of_ble_eq_true rfl) dL_law_238 ⟨by omega, by omega⟩ hS (fun r1 w1 H1 locs hp1 hP hD hS => ?_)
  obtain ⟨rfl, hp1⟩ := hp1
  refine lv_istore (lv' := [(5, .int (nI kc)), (4, .int (nI i)), (0, .ref b), (1, .ref x), (2, .ref m), (3, .ref o)]) hx hb dL_law_241 hl (by decide) rfl (fun ls hl => ?_)
  refine lv_aload_n hx hb dL_law_243 rfl (lv_at hl 4 rfl) ?_
  refine lw_arg hx hb hX hbl hbA hS hi (show 1 < 5 by decide) hL hl (k0 := 2) (k4 := 1) rfl rfl dL_law_244 dL_law_245 (fj := nI 1) rfl ci_1 dL_law_247 dL_law_248 dL_law_249 ?_
  refine lw_arg hx hb hX hbl hbA hS hi (show 2 < 5 by decide) hL hl (k0 := 2) (k4 := 1) rfl rfl dL_law_250 dL_law_251 (fj := nI 2) rfl ci_2 dL_law_253 dL_law_254 dL_law_255 ?_
  obtain ⟨⟨fs5, e19⟩, fr5, lo5, hfr5, hlo5, hM⟩ := h2 w1 H1 hp1 hP hD
  refine mcV hM ⟨hx, hb, hml, hown, hts⟩ hK gL_law_X5_setTool rfl hd_X5_setTool ⟨by omega, by omega⟩ (va_recv hK hP (ci := 5) (q0 := 19) rfl e19) rfl hl.1 rfl (Nat.le_of_ble_eq_true rfl) dL_law_256 ⟨by omega, by omega⟩ hS (fun r2 w2 H2 locs hp2 hP hD hS => ?_)
  refine lv_istore (lv' := [(6, .int r2), (5, .int (nI kc)), (4, .int (nI i)), (0, .ref b), (1, .ref x), (2, .ref m), (3, .ref o)]) hx hb dL_law_259 hl (by decide) rfl (fun ls hl => ?_)
  refine lv_aload_n hx hb dL_law_261 rfl (lv_at hl 5 rfl) ?_
  obtain ⟨n9, T9, C9, Hd9, b9, q9, J9, bg9, pu9, bu9, cl9, mo9, K9, z1, z2, z3, z4, z5, hmd⟩ := ht r2 w2 hp2
  have e19 := hmd
  obtain ⟨m1, m2, m3, m4, m5, m6, m7, m8, m9, m10, g19, -⟩ := id hmd
  refine pcV (c_X5_thrown hP hmd) ⟨hx, hb, hml, hown, hts⟩ hK gL_law_X5_thrown rfl hd_X5_thrown ⟨by omega, by omega⟩ (va_recv hK hP (ci := 5) (q0 := 19) rfl g19) rfl hl.1 rfl (Nat.le_of_ble_eq_true rfl) dL_law_262 ⟨by omega, by omega⟩ hS (fun locs hS => ?_)
  refine lv_iload hx hb dL_law_265 (lv_at hl 1 rfl) ?_
  refine lv_icmp_eq (tgt := 272) hx hb dL_law_267 (by decide) (fun _ => ?_) (fun cz => absurd rfl cz)
  refine lv_iload hx hb dL_law_272 (lv_at hl 1 rfl) ?_
  refine sn_if_ne (tgt := 289) hx hb dL_law_274 (by decide) (by omega) (fun cz => ?_) (fun cz => ?_)
  · refine lv_goto (tgt := 1701) hx hb dL_law_289 (by decide) ?_
    refine lv_iinc (v := nI (i + 5)) hx hb dL_law_1701 hl (k := 2) rfl (nI_5 i) (by decide) rfl (fun ls hl => ?_)
    refine lv_goto (tgt := 23) hx hb dL_law_1704 (by decide) ?_
    exact kk _ w2 H2 locs ls hp2 hP hD hS (lv_sub hl [0, 3, 4, 5, 6] rfl)
  · have ho := hz r2 w2 hp2 cz
    obtain ⟨g9, eo, hg9⟩ := ho
    refine lv_aload_n hx hb dL_law_277 rfl (lv_at hl 6 rfl) ?_
    refine lv_iconst (v := nI 0) hx hb dL_law_278 ci_0 ?_
    refine sv_lald hx hb hK hP eo dL_law_279 ?_
    rw [hg9]
    refine lv_iload hx hb dL_law_280 (lv_at hl 0 rfl) ?_
    refine lv_i2l (v := r2.toInt64) hx hb dL_law_282 rfl ?_
    refine W.lcmp hx hb dL_law_283 ?_
    rw [lg_cmp_s]
    refine lv_if_eq (tgt := 289) hx hb dL_law_284 (by decide) (fun _ => ?_) (fun cz => absurd rfl cz)
    refine lv_goto (tgt := 1701) hx hb dL_law_289 (by decide) ?_
    refine lv_iinc (v := nI (i + 5)) hx hb dL_law_1701 hl (k := 2) rfl (nI_5 i) (by decide) rfl (fun ls hl => ?_)
    refine lv_goto (tgt := 23) hx hb dL_law_1704 (by decide) ?_
    exact kk _ w2 H2 locs ls hp2 hP hD hS (lv_sub hl [0, 3, 4, 5, 6] rfl)
set_option maxHeartbeats 4000000 in
set_option maxRecDepth 100000 in
theorem lk_contact {p : Program} {l : Launch} {e : Env} {R : Room} {s : State} {mi : MethodId} {av : Array Value} {below : List Frame} {meth : Method} {c : Code} {Q : State → Prop} {D : va_G} {ky : kT} {A : Nat → Prop} {b L : Nat} {xs : Nat → Int32} (hC : LC p s mi av c R D ky A b L xs) {ws : va_W} {H : Heap} {locs : List Loc} {cells slots : Nat} (hP : va_P D CL ws H) (hD : va_D A ws) (hS : va_S A s.heap H locs) (hc : cells + 1 ≤ R.cells) (hs : slots + 6 ≤ R.slots) {x m o i : Nat} (hi : i + 5 ≤ L) {P1 : va_W → Prop} {P2 : Int32 → va_W → Prop} {kc : Nat} (hkc : kc < 3) (hW : WU l yL_contact wsL_contact 8 127 D ky A H [.ref x, .int (xs (i + 1)), .int (xs (i + 2)), .int (bI (decide (¬ xs (i + 3) = 0))), .ref o] (fun k w => k = nI kc ∧ P1 w)) (h2 : ∀ (w : va_W) (H1 : Heap), P1 w → va_P D CL w H1 → va_D A w → (∃ fs : List Value, w[19]? = some (m, .inr (5, fs))) ∧ ∃ fr lo : Nat, fr ≤ 1 ∧ lo ≤ 22 ∧ MU l yX5_contact wsX5_contact fr lo 0 0 D ky A H1 [.ref m, .int (xs (i + 1)), .int (xs (i + 2)), .int (bI (decide (¬ xs (i + 3) = 0)))] P2) (ht : ∀ r w, P2 r w → THR ky w m kc) (hz : ∀ r w, P2 r w → kc = 0 → ∃ g : Nat → Int64, isOut ky w o g ∧ g 0 = r.toInt64)
    (kk : ∀ (r : Int32) (w : va_W) (H1 : Heap) (locs1 : List Loc) (ls1 : Array Slot), P2 r w → va_P D CL w H1 → va_D A w → va_S A s.heap H1 locs1 → lv_has ls1 7 (hdl b x m o (i + 5)) → W p l e R s mi av below meth c H1 locs1 (cells + 1) (slots + 6) Q (F0 mi 23 ls1 [])) (ls : Array Slot) (hl : lv_has ls 7 (hdl b x m o i)) : W p l e R s mi av below meth c H locs cells slots Q (F0 mi 292 ls []) := by
  obtain ⟨hx, hb, hml, hown, hts, hK, hXE, hNC, hX, hbl, hbA, hL, hRf, hRl⟩ := hC
  have hl : lv_has ls 7 [(4, .int (nI i)), (0, .ref b), (1, .ref x), (2, .ref m), (3, .ref o)] := hl
  refine lv_aload_n hx hb dL_law_292 rfl (lv_at hl 2 rfl) ?_
  refine lw_arg hx hb hX hbl hbA hS hi (show 1 < 5 by decide) hL hl (k0 := 1) (k4 := 0) rfl rfl dL_law_293 dL_law_294 (fj := nI 1) rfl ci_1 dL_law_296 dL_law_297 dL_law_298 ?_
  refine lw_arg hx hb hX hbl hbA hS hi (show 2 < 5 by decide) hL hl (k0 := 1) (k4 := 0) rfl rfl dL_law_299 dL_law_300 (fj := nI 2) rfl ci_2 dL_law_302 dL_law_303 dL_law_304 ?_
  refine lw_arg hx hb hX hbl hbA hS hi (show 3 < 5 by decide) hL hl (k0 := 1) (k4 := 0) rfl rfl dL_law_305 dL_law_306 (fj := nI 3) rfl ci_3 dL_law_308 dL_law_309 dL_law_310 ?_
  refine lw_ne hx hb dL_law_311 dL_law_314 dL_law_315 dL_law_318 ?_
  refine lv_aload_n hx hb dL_law_319 rfl (lv_at hl 4 rfl) ?_
  refine wcS hW ⟨hx, hb, hml, hown, hts⟩ hK hXE hNC gL_law_L_contact rfl hd_L_contact ⟨by omega, by omega⟩ rfl hl.1 rfl (Nat.le_of_ble_eq_true rfl) dL_law_320 ⟨by omega, by omega⟩ hS (fun r1 w1 H1 locs hp1 hP hD hS => ?_)
  obtain ⟨rfl, hp1⟩ := hp1
  refine lv_istore (lv' := [(5, .int (nI kc)), (4, .int (nI i)), (0, .ref b), (1, .ref x), (2, .ref m), (3, .ref o)]) hx hb dL_law_323 hl (by decide) rfl (fun ls hl => ?_)
  refine lv_aload_n hx hb dL_law_325 rfl (lv_at hl 4 rfl) ?_
  refine lw_arg hx hb hX hbl hbA hS hi (show 1 < 5 by decide) hL hl (k0 := 2) (k4 := 1) rfl rfl dL_law_326 dL_law_327 (fj := nI 1) rfl ci_1 dL_law_329 dL_law_330 dL_law_331 ?_
  refine lw_arg hx hb hX hbl hbA hS hi (show 2 < 5 by decide) hL hl (k0 := 2) (k4 := 1) rfl rfl dL_law_332 dL_law_333 (fj := nI 2) rfl ci_2 dL_law_335 dL_law_336 dL_law_337 ?_
  refine lw_arg hx hb hX hbl hbA hS hi (show 3 < 5 by decide) hL hl (k0 := 2) (k4 := 1) rfl rfl dL_law_338 dL_law_339 (fj := nI 3) rfl ci_3 dL_law_341 dL_law_342 dL_law_343 ?_
  refine lw_ne hx hb dL_law_344 dL_law_347 dL_law_348 dL_law_351 ?_
  obtain ⟨⟨fs5, e19⟩, fr5, lo5, hfr5, hlo5, hM⟩ := h2 w1 H1 hp1 hP hD
  refine mcV hM ⟨hx, hb, hml, hown, hts⟩ hK gL_law_X5_contact rfl hd_X5_contact ⟨by omega, by omega⟩ (va_recv hK hP (ci := 5) (q0 := 19) rfl e19) rfl hl.1 rfl (Nat.le_of_ble_eq_true rfl) dL_law_352 ⟨by omega, by omega⟩ hS (fun r2 w2 H2 locs hp2 hP hD hS => ?_)
  refine lv_istore (lv' := [(6, .int r2), (5, .int (nI kc)), (4, .int (nI i)), (0, .ref b), (1, .ref x), (2, .ref m), (3, .ref o)]) hx hb dL_law_355 hl (by decide) rfl (fun ls hl => ?_)
  refine lv_aload_n hx hb dL_law_357 rfl (lv_at hl 5 rfl) ?_
  obtain ⟨n9, T9, C9, Hd9, b9, q9, J9, bg9, pu9, bu9, cl9, mo9, K9, z1, z2, z3, z4, z5, hmd⟩ := ht r2 w2 hp2
  have e19 := hmd
  obtain ⟨m1, m2, m3, m4, m5, m6, m7, m8, m9, m10, g19, -⟩ := id hmd
  refine pcV (c_X5_thrown hP hmd) ⟨hx, hb, hml, hown, hts⟩ hK gL_law_X5_thrown rfl hd_X5_thrown ⟨by omega, by omega⟩ (va_recv hK hP (ci := 5) (q0 := 19) rfl g19) rfl hl.1 rfl (Nat.le_of_ble_eq_true rfl) dL_law_358 ⟨by omega, by omega⟩ hS (fun locs hS => ?_)
  refine lv_iload hx hb dL_law_361 (lv_at hl 1 rfl) ?_
  refine lv_icmp_eq (tgt := 368) hx hb dL_law_363 (by decide) (fun _ => ?_) (fun cz => absurd rfl cz)
  refine lv_iload hx hb dL_law_368 (lv_at hl 1 rfl) ?_
  refine sn_if_ne (tgt := 385) hx hb dL_law_370 (by decide) (by omega) (fun cz => ?_) (fun cz => ?_)
  · refine lv_goto (tgt := 1701) hx hb dL_law_385 (by decide) ?_
    refine lv_iinc (v := nI (i + 5)) hx hb dL_law_1701 hl (k := 2) rfl (nI_5 i) (by decide) rfl (fun ls hl => ?_)
    refine lv_goto (tgt := 23) hx hb dL_law_1704 (by decide) ?_
    exact kk _ w2 H2 locs ls hp2 hP hD hS (lv_sub hl [0, 3, 4, 5, 6] rfl)
  · have ho := hz r2 w2 hp2 cz
    obtain ⟨g9, eo, hg9⟩ := ho
    refine lv_aload_n hx hb dL_law_373 rfl (lv_at hl 6 rfl) ?_
    refine lv_iconst (v := nI 0) hx hb dL_law_374 ci_0 ?_
    refine sv_lald hx hb hK hP eo dL_law_375 ?_
    rw [hg9]
    refine lv_iload hx hb dL_law_376 (lv_at hl 0 rfl) ?_
    refine lv_i2l (v := r2.toInt64) hx hb dL_law_378 rfl ?_
    refine W.lcmp hx hb dL_law_379 ?_
    rw [lg_cmp_s]
    refine lv_if_eq (tgt := 385) hx hb dL_law_380 (by decide) (fun _ => ?_) (fun cz => absurd rfl cz)
    refine lv_goto (tgt := 1701) hx hb dL_law_385 (by decide) ?_
    refine lv_iinc (v := nI (i + 5)) hx hb dL_law_1701 hl (k := 2) rfl (nI_5 i) (by decide) rfl (fun ls hl => ?_)
    refine lv_goto (tgt := 23) hx hb dL_law_1704 (by decide) ?_
    exact kk _ w2 H2 locs ls hp2 hP hD hS (lv_sub hl [0, 3, 4, 5, 6] rfl)
set_option maxHeartbeats 4000000 in
set_option maxRecDepth 100000 in
theorem lk_hinder {p : Program} {l : Launch} {e : Env} {R : Room} {s : State} {mi : MethodId} {av : Array Value} {below : List Frame} {meth : Method} {c : Code} {Q : State → Prop} {D : va_G} {ky : kT} {A : Nat → Prop} {b L : Nat} {xs : Nat → Int32} (hC : LC p s mi av c R D ky A b L xs) {ws : va_W} {H : Heap} {locs : List Loc} {cells slots : Nat} (hP : va_P D CL ws H) (hD : va_D A ws) (hS : va_S A s.heap H locs) (hc : cells + 1 ≤ R.cells) (hs : slots + 6 ≤ R.slots) {x m o i : Nat} (hi : i + 5 ≤ L) {P1 : va_W → Prop} {P2 : Int32 → va_W → Prop} {kc : Nat} (hkc : kc < 3) (hW : WU l yL_hinder wsL_hinder 8 128 D ky A H [.ref x, .int (xs (i + 1)), .int (xs (i + 2)), .int (xs (i + 3)), .int (bI (decide (¬ xs (i + 4) = 0))), .ref o] (fun k w => k = nI kc ∧ P1 w)) (h2 : ∀ (w : va_W) (H1 : Heap), P1 w → va_P D CL w H1 → va_D A w → (∃ fs : List Value, w[19]? = some (m, .inr (5, fs))) ∧ ∃ fr lo : Nat, fr ≤ 1 ∧ lo ≤ 22 ∧ MU l yX5_hinder wsX5_hinder fr lo 0 0 D ky A H1 [.ref m, .int (xs (i + 1)), .int (xs (i + 2)), .int (xs (i + 3)), .int (bI (decide (¬ xs (i + 4) = 0)))] P2) (ht : ∀ r w, P2 r w → THR ky w m kc) (hz : ∀ r w, P2 r w → kc = 0 → ∃ g : Nat → Int64, isOut ky w o g ∧ g 0 = r.toInt64)
    (kk : ∀ (r : Int32) (w : va_W) (H1 : Heap) (locs1 : List Loc) (ls1 : Array Slot), P2 r w → va_P D CL w H1 → va_D A w → va_S A s.heap H1 locs1 → lv_has ls1 7 (hdl b x m o (i + 5)) → W p l e R s mi av below meth c H1 locs1 (cells + 1) (slots + 6) Q (F0 mi 23 ls1 [])) (ls : Array Slot) (hl : lv_has ls 7 (hdl b x m o i)) : W p l e R s mi av below meth c H locs cells slots Q (F0 mi 388 ls []) := by
  obtain ⟨hx, hb, hml, hown, hts, hK, hXE, hNC, hX, hbl, hbA, hL, hRf, hRl⟩ := hC
  have hl : lv_has ls 7 [(4, .int (nI i)), (0, .ref b), (1, .ref x), (2, .ref m), (3, .ref o)] := hl
  refine lv_aload_n hx hb dL_law_388 rfl (lv_at hl 2 rfl) ?_
  refine lw_arg hx hb hX hbl hbA hS hi (show 1 < 5 by decide) hL hl (k0 := 1) (k4 := 0) rfl rfl dL_law_389 dL_law_390 (fj := nI 1) rfl ci_1 dL_law_392 dL_law_393 dL_law_394 ?_
  refine lw_arg hx hb hX hbl hbA hS hi (show 2 < 5 by decide) hL hl (k0 := 1) (k4 := 0) rfl rfl dL_law_395 dL_law_396 (fj := nI 2) rfl ci_2 dL_law_398 dL_law_399 dL_law_400 ?_
  refine lw_arg hx hb hX hbl hbA hS hi (show 3 < 5 by decide) hL hl (k0 := 1) (k4 := 0) rfl rfl dL_law_401 dL_law_402 (fj := nI 3) rfl ci_3 dL_law_404 dL_law_405 dL_law_406 ?_
  refine lw_arg hx hb hX hbl hbA hS hi (show 4 < 5 by decide) hL hl (k0 := 1) (k4 := 0) rfl rfl dL_law_407 dL_law_408 (fj := nI 4) rfl ci_4 dL_law_410 dL_law_411 dL_law_412 ?_
  refine lw_ne hx hb dL_law_413 dL_law_416 dL_law_417 dL_law_420 ?_
  refine lv_aload_n hx hb dL_law_421 rfl (lv_at hl 4 rfl) ?_
  refine wcS hW ⟨hx, hb, hml, hown, hts⟩ hK hXE hNC gL_law_L_hinder rfl hd_L_hinder ⟨by omega, by omega⟩ rfl hl.1 rfl (Nat.le_of_ble_eq_true rfl) dL_law_422 ⟨by omega, by omega⟩ hS (fun r1 w1 H1 locs hp1 hP hD hS => ?_)
  obtain ⟨rfl, hp1⟩ := hp1
  refine lv_istore (lv' := [(5, .int (nI kc)), (4, .int (nI i)), (0, .ref b), (1, .ref x), (2, .ref m), (3, .ref o)]) hx hb dL_law_425 hl (by decide) rfl (fun ls hl => ?_)
  refine lv_aload_n hx hb dL_law_427 rfl (lv_at hl 4 rfl) ?_
  refine lw_arg hx hb hX hbl hbA hS hi (show 1 < 5 by decide) hL hl (k0 := 2) (k4 := 1) rfl rfl dL_law_428 dL_law_429 (fj := nI 1) rfl ci_1 dL_law_431 dL_law_432 dL_law_433 ?_
  refine lw_arg hx hb hX hbl hbA hS hi (show 2 < 5 by decide) hL hl (k0 := 2) (k4 := 1) rfl rfl dL_law_434 dL_law_435 (fj := nI 2) rfl ci_2 dL_law_437 dL_law_438 dL_law_439 ?_
  refine lw_arg hx hb hX hbl hbA hS hi (show 3 < 5 by decide) hL hl (k0 := 2) (k4 := 1) rfl rfl dL_law_440 dL_law_441 (fj := nI 3) rfl ci_3 dL_law_443 dL_law_444 dL_law_445 ?_
  refine lw_arg hx hb hX hbl hbA hS hi (show 4 < 5 by decide) hL hl (k0 := 2) (k4 := 1) rfl rfl dL_law_446 dL_law_447 (fj := nI 4) rfl ci_4 dL_law_449 dL_law_450 dL_law_451 ?_
  refine lw_ne hx hb dL_law_452 dL_law_455 dL_law_456 dL_law_459 ?_
  obtain ⟨⟨fs5, e19⟩, fr5, lo5, hfr5, hlo5, hM⟩ := h2 w1 H1 hp1 hP hD
  refine mcV hM ⟨hx, hb, hml, hown, hts⟩ hK gL_law_X5_hinder rfl hd_X5_hinder ⟨by omega, by omega⟩ (va_recv hK hP (ci := 5) (q0 := 19) rfl e19) rfl hl.1 rfl (Nat.le_of_ble_eq_true rfl) dL_law_460 ⟨by omega, by omega⟩ hS (fun r2 w2 H2 locs hp2 hP hD hS => ?_)
  refine lv_istore (lv' := [(6, .int r2), (5, .int (nI kc)), (4, .int (nI i)), (0, .ref b), (1, .ref x), (2, .ref m), (3, .ref o)]) hx hb dL_law_463 hl (by decide) rfl (fun ls hl => ?_)
  refine lv_aload_n hx hb dL_law_465 rfl (lv_at hl 5 rfl) ?_
  obtain ⟨n9, T9, C9, Hd9, b9, q9, J9, bg9, pu9, bu9, cl9, mo9, K9, z1, z2, z3, z4, z5, hmd⟩ := ht r2 w2 hp2
  have e19 := hmd
  obtain ⟨m1, m2, m3, m4, m5, m6, m7, m8, m9, m10, g19, -⟩ := id hmd
  refine pcV (c_X5_thrown hP hmd) ⟨hx, hb, hml, hown, hts⟩ hK gL_law_X5_thrown rfl hd_X5_thrown ⟨by omega, by omega⟩ (va_recv hK hP (ci := 5) (q0 := 19) rfl g19) rfl hl.1 rfl (Nat.le_of_ble_eq_true rfl) dL_law_466 ⟨by omega, by omega⟩ hS (fun locs hS => ?_)
  refine lv_iload hx hb dL_law_469 (lv_at hl 1 rfl) ?_
  refine lv_icmp_eq (tgt := 476) hx hb dL_law_471 (by decide) (fun _ => ?_) (fun cz => absurd rfl cz)
  refine lv_iload hx hb dL_law_476 (lv_at hl 1 rfl) ?_
  refine sn_if_ne (tgt := 493) hx hb dL_law_478 (by decide) (by omega) (fun cz => ?_) (fun cz => ?_)
  · refine lv_goto (tgt := 1701) hx hb dL_law_493 (by decide) ?_
    refine lv_iinc (v := nI (i + 5)) hx hb dL_law_1701 hl (k := 2) rfl (nI_5 i) (by decide) rfl (fun ls hl => ?_)
    refine lv_goto (tgt := 23) hx hb dL_law_1704 (by decide) ?_
    exact kk _ w2 H2 locs ls hp2 hP hD hS (lv_sub hl [0, 3, 4, 5, 6] rfl)
  · have ho := hz r2 w2 hp2 cz
    obtain ⟨g9, eo, hg9⟩ := ho
    refine lv_aload_n hx hb dL_law_481 rfl (lv_at hl 6 rfl) ?_
    refine lv_iconst (v := nI 0) hx hb dL_law_482 ci_0 ?_
    refine sv_lald hx hb hK hP eo dL_law_483 ?_
    rw [hg9]
    refine lv_iload hx hb dL_law_484 (lv_at hl 0 rfl) ?_
    refine lv_i2l (v := r2.toInt64) hx hb dL_law_486 rfl ?_
    refine W.lcmp hx hb dL_law_487 ?_
    rw [lg_cmp_s]
    refine lv_if_eq (tgt := 493) hx hb dL_law_488 (by decide) (fun _ => ?_) (fun cz => absurd rfl cz)
    refine lv_goto (tgt := 1701) hx hb dL_law_493 (by decide) ?_
    refine lv_iinc (v := nI (i + 5)) hx hb dL_law_1701 hl (k := 2) rfl (nI_5 i) (by decide) rfl (fun ls hl => ?_)
    refine lv_goto (tgt := 23) hx hb dL_law_1704 (by decide) ?_
    exact kk _ w2 H2 locs ls hp2 hP hD hS (lv_sub hl [0, 3, 4, 5, 6] rfl)
set_option maxHeartbeats 4000000 in
set_option maxRecDepth 100000 in
theorem lk_setBase {p : Program} {l : Launch} {e : Env} {R : Room} {s : State} {mi : MethodId} {av : Array Value} {below : List Frame} {meth : Method} {c : Code} {Q : State → Prop} {D : va_G} {ky : kT} {A : Nat → Prop} {b L : Nat} {xs : Nat → Int32} (hC : LC p s mi av c R D ky A b L xs) {ws : va_W} {H : Heap} {locs : List Loc} {cells slots : Nat} (hP : va_P D CL ws H) (hD : va_D A ws) (hS : va_S A s.heap H locs) (hc : cells + 1 ≤ R.cells) (hs : slots + 6 ≤ R.slots) {x m o i : Nat} (hi : i + 5 ≤ L) {P1 : va_W → Prop} {P2 : Int32 → va_W → Prop} {kc : Nat} (hkc : kc < 3) (hW : WU l yL_setBase wsL_setBase 8 124 D ky A H [.ref x, .int (xs (i + 1)), .ref o] (fun k w => k = nI kc ∧ P1 w)) (h2 : ∀ (w : va_W) (H1 : Heap), P1 w → va_P D CL w H1 → va_D A w → (∃ fs : List Value, w[19]? = some (m, .inr (5, fs))) ∧ ∃ fr lo : Nat, fr ≤ 1 ∧ lo ≤ 21 ∧ MU l yX5_setBase wsX5_setBase fr lo 0 0 D ky A H1 [.ref m, .int (xs (i + 1))] P2) (ht : ∀ r w, P2 r w → THR ky w m kc) (hz : ∀ r w, P2 r w → kc = 0 → ∃ g : Nat → Int64, isOut ky w o g ∧ g 0 = r.toInt64)
    (kk : ∀ (r : Int32) (w : va_W) (H1 : Heap) (locs1 : List Loc) (ls1 : Array Slot), P2 r w → va_P D CL w H1 → va_D A w → va_S A s.heap H1 locs1 → lv_has ls1 7 (hdl b x m o (i + 5)) → W p l e R s mi av below meth c H1 locs1 (cells + 1) (slots + 6) Q (F0 mi 23 ls1 [])) (ls : Array Slot) (hl : lv_has ls 7 (hdl b x m o i)) : W p l e R s mi av below meth c H locs cells slots Q (F0 mi 496 ls []) := by
  obtain ⟨hx, hb, hml, hown, hts, hK, hXE, hNC, hX, hbl, hbA, hL, hRf, hRl⟩ := hC
  have hl : lv_has ls 7 [(4, .int (nI i)), (0, .ref b), (1, .ref x), (2, .ref m), (3, .ref o)] := hl
  refine lv_aload_n hx hb dL_law_496 rfl (lv_at hl 2 rfl) ?_
  refine lw_arg hx hb hX hbl hbA hS hi (show 1 < 5 by decide) hL hl (k0 := 1) (k4 := 0) rfl rfl dL_law_497 dL_law_498 (fj := nI 1) rfl ci_1 dL_law_500 dL_law_501 dL_law_502 ?_
  refine lv_aload_n hx hb dL_law_503 rfl (lv_at hl 4 rfl) ?_
  refine wcS hW ⟨hx, hb, hml, hown, hts⟩ hK hXE hNC gL_law_L_setBase rfl hd_L_setBase ⟨by omega, by omega⟩ rfl hl.1 rfl (Nat.le_of_ble_eq_true rfl) dL_law_504 ⟨by omega, by omega⟩ hS (fun r1 w1 H1 locs hp1 hP hD hS => ?_)
  obtain ⟨rfl, hp1⟩ := hp1
  refine lv_istore (lv' := [(5, .int (nI kc)), (4, .int (nI i)), (0, .ref b), (1, .ref x), (2, .ref m), (3, .ref o)]) hx hb dL_law_507 hl (by decide) rfl (fun ls hl => ?_)
  refine lv_aload_n hx hb dL_law_509 rfl (lv_at hl 4 rfl) ?_
  refine lw_arg hx hb hX hbl hbA hS hi (show 1 < 5 by decide) hL hl (k0 := 2) (k4 := 1) rfl rfl dL_law_510 dL_law_511 (fj := nI 1) rfl ci_1 dL_law_513 dL_law_514 dL_law_515 ?_
  obtain ⟨⟨fs5, e19⟩, fr5, lo5, hfr5, hlo5, hM⟩ := h2 w1 H1 hp1 hP hD
  refine mcV hM ⟨hx, hb, hml, hown, hts⟩ hK gL_law_X5_setBase rfl hd_X5_setBase ⟨by omega, by omega⟩ (va_recv hK hP (ci := 5) (q0 := 19) rfl e19) rfl hl.1 rfl (Nat.le_of_ble_eq_true rfl) dL_law_516 ⟨by omega, by omega⟩ hS (fun r2 w2 H2 locs hp2 hP hD hS => ?_)
  refine lv_istore (lv' := [(6, .int r2), (5, .int (nI kc)), (4, .int (nI i)), (0, .ref b), (1, .ref x), (2, .ref m), (3, .ref o)]) hx hb dL_law_519 hl (by decide) rfl (fun ls hl => ?_)
  refine lv_aload_n hx hb dL_law_521 rfl (lv_at hl 5 rfl) ?_
  obtain ⟨n9, T9, C9, Hd9, b9, q9, J9, bg9, pu9, bu9, cl9, mo9, K9, z1, z2, z3, z4, z5, hmd⟩ := ht r2 w2 hp2
  have e19 := hmd
  obtain ⟨m1, m2, m3, m4, m5, m6, m7, m8, m9, m10, g19, -⟩ := id hmd
  refine pcV (c_X5_thrown hP hmd) ⟨hx, hb, hml, hown, hts⟩ hK gL_law_X5_thrown rfl hd_X5_thrown ⟨by omega, by omega⟩ (va_recv hK hP (ci := 5) (q0 := 19) rfl g19) rfl hl.1 rfl (Nat.le_of_ble_eq_true rfl) dL_law_522 ⟨by omega, by omega⟩ hS (fun locs hS => ?_)
  refine lv_iload hx hb dL_law_525 (lv_at hl 1 rfl) ?_
  refine lv_icmp_eq (tgt := 532) hx hb dL_law_527 (by decide) (fun _ => ?_) (fun cz => absurd rfl cz)
  refine lv_iload hx hb dL_law_532 (lv_at hl 1 rfl) ?_
  refine sn_if_ne (tgt := 549) hx hb dL_law_534 (by decide) (by omega) (fun cz => ?_) (fun cz => ?_)
  · refine lv_goto (tgt := 1701) hx hb dL_law_549 (by decide) ?_
    refine lv_iinc (v := nI (i + 5)) hx hb dL_law_1701 hl (k := 2) rfl (nI_5 i) (by decide) rfl (fun ls hl => ?_)
    refine lv_goto (tgt := 23) hx hb dL_law_1704 (by decide) ?_
    exact kk _ w2 H2 locs ls hp2 hP hD hS (lv_sub hl [0, 3, 4, 5, 6] rfl)
  · have ho := hz r2 w2 hp2 cz
    obtain ⟨g9, eo, hg9⟩ := ho
    refine lv_aload_n hx hb dL_law_537 rfl (lv_at hl 6 rfl) ?_
    refine lv_iconst (v := nI 0) hx hb dL_law_538 ci_0 ?_
    refine sv_lald hx hb hK hP eo dL_law_539 ?_
    rw [hg9]
    refine lv_iload hx hb dL_law_540 (lv_at hl 0 rfl) ?_
    refine lv_i2l (v := r2.toInt64) hx hb dL_law_542 rfl ?_
    refine W.lcmp hx hb dL_law_543 ?_
    rw [lg_cmp_s]
    refine lv_if_eq (tgt := 549) hx hb dL_law_544 (by decide) (fun _ => ?_) (fun cz => absurd rfl cz)
    refine lv_goto (tgt := 1701) hx hb dL_law_549 (by decide) ?_
    refine lv_iinc (v := nI (i + 5)) hx hb dL_law_1701 hl (k := 2) rfl (nI_5 i) (by decide) rfl (fun ls hl => ?_)
    refine lv_goto (tgt := 23) hx hb dL_law_1704 (by decide) ?_
    exact kk _ w2 H2 locs ls hp2 hP hD hS (lv_sub hl [0, 3, 4, 5, 6] rfl)
set_option maxHeartbeats 4000000 in
set_option maxRecDepth 100000 in
theorem lk_askSteady {p : Program} {l : Launch} {e : Env} {R : Room} {s : State} {mi : MethodId} {av : Array Value} {below : List Frame} {meth : Method} {c : Code} {Q : State → Prop} {D : va_G} {ky : kT} {A : Nat → Prop} {b L : Nat} {xs : Nat → Int32} (hC : LC p s mi av c R D ky A b L xs) {ws : va_W} {H : Heap} {locs : List Loc} {cells slots : Nat} (hP : va_P D CL ws H) (hD : va_D A ws) (hS : va_S A s.heap H locs) (hc : cells + 0 ≤ R.cells) (hs : slots + 0 ≤ R.slots) {x m o i : Nat} (hi : i + 5 ≤ L) {P1 : va_W → Prop} {P2 : Int32 → va_W → Prop} {fs0 : List Value} (e0 : ws[0]? = some (x, .inr (4, fs0))) {v9 : Int32} {fr0 lo0 : Nat} (hf0 : fr0 ≤ 2) (hl0 : lo0 ≤ 41) (hW : MU l yX4_askSteady wsX4_askSteady fr0 lo0 0 0 D ky A H [.ref x, .int (bI (decide (¬ xs (i + 1) = 0)))] (fun r w => r = v9 ∧ P1 w)) (h2 : ∀ (w : va_W) (H1 : Heap), P1 w → va_P D CL w H1 → va_D A w → (∃ fs : List Value, w[19]? = some (m, .inr (5, fs))) ∧ ∃ fr lo : Nat, fr ≤ 0 ∧ lo ≤ 0 ∧ MU l yX5_askSteady wsX5_askSteady fr lo 0 0 D ky A H1 [.ref m, .int (bI (decide (¬ xs (i + 1) = 0)))] P2) (hv : ∀ r w, P2 r w → r = v9)
    (kk : ∀ (r : Int32) (w : va_W) (H1 : Heap) (locs1 : List Loc) (ls1 : Array Slot), P2 r w → va_P D CL w H1 → va_D A w → va_S A s.heap H1 locs1 → lv_has ls1 7 (hdl b x m o (i + 5)) → W p l e R s mi av below meth c H1 locs1 cells slots Q (F0 mi 23 ls1 [])) (ls : Array Slot) (hl : lv_has ls 7 (hdl b x m o i)) : W p l e R s mi av below meth c H locs cells slots Q (F0 mi 552 ls []) := by
  obtain ⟨hx, hb, hml, hown, hts, hK, hXE, hNC, hX, hbl, hbA, hL, hRf, hRl⟩ := hC
  have hl : lv_has ls 7 [(4, .int (nI i)), (0, .ref b), (1, .ref x), (2, .ref m), (3, .ref o)] := hl
  refine lv_aload_n hx hb dL_law_552 rfl (lv_at hl 2 rfl) ?_
  refine lw_arg hx hb hX hbl hbA hS hi (show 1 < 5 by decide) hL hl (k0 := 1) (k4 := 0) rfl rfl dL_law_553 dL_law_554 (fj := nI 1) rfl ci_1 dL_law_556 dL_law_557 dL_law_558 ?_
  refine lw_ne hx hb dL_law_559 dL_law_562 dL_law_563 dL_law_566 ?_
  refine mcV hW ⟨hx, hb, hml, hown, hts⟩ hK gL_law_X4_askSteady rfl hd_X4_askSteady ⟨by omega, by omega⟩ (va_recv hK hP (ci := 4) (q0 := 0) rfl e0) rfl hl.1 rfl (Nat.le_of_ble_eq_true rfl) dL_law_567 ⟨by omega, by omega⟩ hS (fun r1 w1 H1 locs hp1 hP hD hS => ?_)
  obtain ⟨rfl, hp1⟩ := hp1
  refine lv_aload_n hx hb dL_law_570 rfl (lv_at hl 3 rfl) ?_
  refine lw_arg hx hb hX hbl hbA hS hi (show 1 < 5 by decide) hL hl (k0 := 1) (k4 := 0) rfl rfl dL_law_571 dL_law_572 (fj := nI 1) rfl ci_1 dL_law_574 dL_law_575 dL_law_576 ?_
  refine lw_ne hx hb dL_law_577 dL_law_580 dL_law_581 dL_law_584 ?_
  obtain ⟨⟨fs5, e19⟩, fr5, lo5, hfr5, hlo5, hM⟩ := h2 w1 H1 hp1 hP hD
  refine mcV hM ⟨hx, hb, hml, hown, hts⟩ hK gL_law_X5_askSteady rfl hd_X5_askSteady ⟨by omega, by omega⟩ (va_recv hK hP (ci := 5) (q0 := 19) rfl e19) rfl hl.1 rfl (Nat.le_of_ble_eq_true rfl) dL_law_585 ⟨by omega, by omega⟩ hS (fun r2 w2 H2 locs hp2 hP hD hS => ?_)
  obtain rfl := hv r2 w2 hp2
  refine lv_icmp_eq (tgt := 1701) hx hb dL_law_588 (by decide) (fun _ => ?_) (fun cz => absurd rfl cz)
  refine lv_iinc (v := nI (i + 5)) hx hb dL_law_1701 hl (k := 0) rfl (nI_5 i) (by decide) rfl (fun ls hl => ?_)
  refine lv_goto (tgt := 23) hx hb dL_law_1704 (by decide) ?_
  exact kk _ w2 H2 locs ls hp2 hP hD hS (lv_sub hl [0, 1, 2, 3, 4] rfl)
set_option maxHeartbeats 4000000 in
set_option maxRecDepth 100000 in
theorem lk_parts {p : Program} {l : Launch} {e : Env} {R : Room} {s : State} {mi : MethodId} {av : Array Value} {below : List Frame} {meth : Method} {c : Code} {Q : State → Prop} {D : va_G} {ky : kT} {A : Nat → Prop} {b L : Nat} {xs : Nat → Int32} (hC : LC p s mi av c R D ky A b L xs) {ws : va_W} {H : Heap} {locs : List Loc} {cells slots : Nat} (hP : va_P D CL ws H) (hD : va_D A ws) (hS : va_S A s.heap H locs) (hc : cells + 0 ≤ R.cells) (hs : slots + 0 ≤ R.slots) {x m o i : Nat} (hi : i + 5 ≤ L) {P1 : va_W → Prop} {P2 : Int32 → va_W → Prop} {fs0 : List Value} (e0 : ws[0]? = some (x, .inr (4, fs0))) {v9 : Int32} {fr0 lo0 : Nat} (hf0 : fr0 ≤ 1) (hl0 : lo0 ≤ 20) (hW : MU l yX4_parts wsX4_parts fr0 lo0 0 0 D ky A H [.ref x] (fun r w => r = v9 ∧ P1 w)) (h2 : ∀ (w : va_W) (H1 : Heap), P1 w → va_P D CL w H1 → va_D A w → (∃ fs : List Value, w[19]? = some (m, .inr (5, fs))) ∧ ∃ fr lo : Nat, fr ≤ 0 ∧ lo ≤ 0 ∧ MU l yX5_parts wsX5_parts fr lo 0 0 D ky A H1 [.ref m] P2) (hv : ∀ r w, P2 r w → r = v9)
    (kk : ∀ (r : Int32) (w : va_W) (H1 : Heap) (locs1 : List Loc) (ls1 : Array Slot), P2 r w → va_P D CL w H1 → va_D A w → va_S A s.heap H1 locs1 → lv_has ls1 7 (hdl b x m o (i + 5)) → W p l e R s mi av below meth c H1 locs1 cells slots Q (F0 mi 23 ls1 [])) (ls : Array Slot) (hl : lv_has ls 7 (hdl b x m o i)) : W p l e R s mi av below meth c H locs cells slots Q (F0 mi 593 ls []) := by
  obtain ⟨hx, hb, hml, hown, hts, hK, hXE, hNC, hX, hbl, hbA, hL, hRf, hRl⟩ := hC
  have hl : lv_has ls 7 [(4, .int (nI i)), (0, .ref b), (1, .ref x), (2, .ref m), (3, .ref o)] := hl
  refine lv_aload_n hx hb dL_law_593 rfl (lv_at hl 2 rfl) ?_
  refine mcV hW ⟨hx, hb, hml, hown, hts⟩ hK gL_law_X4_parts rfl hd_X4_parts ⟨by omega, by omega⟩ (va_recv hK hP (ci := 4) (q0 := 0) rfl e0) rfl hl.1 rfl (Nat.le_of_ble_eq_true rfl) dL_law_594 ⟨by omega, by omega⟩ hS (fun r1 w1 H1 locs hp1 hP hD hS => ?_)
  obtain ⟨rfl, hp1⟩ := hp1
  refine lv_aload_n hx hb dL_law_597 rfl (lv_at hl 3 rfl) ?_
  obtain ⟨⟨fs5, e19⟩, fr5, lo5, hfr5, hlo5, hM⟩ := h2 w1 H1 hp1 hP hD
  refine mcV hM ⟨hx, hb, hml, hown, hts⟩ hK gL_law_X5_parts rfl hd_X5_parts ⟨by omega, by omega⟩ (va_recv hK hP (ci := 5) (q0 := 19) rfl e19) rfl hl.1 rfl (Nat.le_of_ble_eq_true rfl) dL_law_598 ⟨by omega, by omega⟩ hS (fun r2 w2 H2 locs hp2 hP hD hS => ?_)
  obtain rfl := hv r2 w2 hp2
  refine lv_icmp_eq (tgt := 1701) hx hb dL_law_601 (by decide) (fun _ => ?_) (fun cz => absurd rfl cz)
  refine lv_iinc (v := nI (i + 5)) hx hb dL_law_1701 hl (k := 0) rfl (nI_5 i) (by decide) rfl (fun ls hl => ?_)
  refine lv_goto (tgt := 23) hx hb dL_law_1704 (by decide) ?_
  exact kk _ w2 H2 locs ls hp2 hP hD hS (lv_sub hl [0, 1, 2, 3, 4] rfl)
set_option maxHeartbeats 4000000 in
set_option maxRecDepth 100000 in
theorem lk_isConnected {p : Program} {l : Launch} {e : Env} {R : Room} {s : State} {mi : MethodId} {av : Array Value} {below : List Frame} {meth : Method} {c : Code} {Q : State → Prop} {D : va_G} {ky : kT} {A : Nat → Prop} {b L : Nat} {xs : Nat → Int32} (hC : LC p s mi av c R D ky A b L xs) {ws : va_W} {H : Heap} {locs : List Loc} {cells slots : Nat} (hP : va_P D CL ws H) (hD : va_D A ws) (hS : va_S A s.heap H locs) (hc : cells + 1 ≤ R.cells) (hs : slots + 6 ≤ R.slots) {x m o i : Nat} (hi : i + 5 ≤ L) {P1 : va_W → Prop} {P2 : Int32 → va_W → Prop} {kc : Nat} (hkc : kc < 3) (hW : WU l yL_isConnected wsL_isConnected 8 124 D ky A H [.ref x, .int (xs (i + 1)), .ref o] (fun k w => k = nI kc ∧ P1 w)) (h2 : ∀ (w : va_W) (H1 : Heap), P1 w → va_P D CL w H1 → va_D A w → (∃ fs : List Value, w[19]? = some (m, .inr (5, fs))) ∧ ∃ fr lo : Nat, fr ≤ 2 ∧ lo ≤ 46 ∧ MU l yX5_isConnected wsX5_isConnected fr lo 0 0 D ky A H1 [.ref m, .int (xs (i + 1))] P2) (ht : ∀ r w, P2 r w → THR ky w m kc) (hz : ∀ r w, P2 r w → kc = 0 → ∃ (v : Bool) (g : Nat → Int64), r = bI v ∧ isOut ky w o g ∧ g 0 = if v then 1 else 0)
    (kk : ∀ (r : Int32) (w : va_W) (H1 : Heap) (locs1 : List Loc) (ls1 : Array Slot), P2 r w → va_P D CL w H1 → va_D A w → va_S A s.heap H1 locs1 → lv_has ls1 7 (hdl b x m o (i + 5)) → W p l e R s mi av below meth c H1 locs1 (cells + 1) (slots + 6) Q (F0 mi 23 ls1 [])) (ls : Array Slot) (hl : lv_has ls 7 (hdl b x m o i)) : W p l e R s mi av below meth c H locs cells slots Q (F0 mi 606 ls []) := by
  obtain ⟨hx, hb, hml, hown, hts, hK, hXE, hNC, hX, hbl, hbA, hL, hRf, hRl⟩ := hC
  have hl : lv_has ls 7 [(4, .int (nI i)), (0, .ref b), (1, .ref x), (2, .ref m), (3, .ref o)] := hl
  refine lv_aload_n hx hb dL_law_606 rfl (lv_at hl 2 rfl) ?_
  refine lw_arg hx hb hX hbl hbA hS hi (show 1 < 5 by decide) hL hl (k0 := 1) (k4 := 0) rfl rfl dL_law_607 dL_law_608 (fj := nI 1) rfl ci_1 dL_law_610 dL_law_611 dL_law_612 ?_
  refine lv_aload_n hx hb dL_law_613 rfl (lv_at hl 4 rfl) ?_
  refine wcS hW ⟨hx, hb, hml, hown, hts⟩ hK hXE hNC gL_law_L_isConnected rfl hd_L_isConnected ⟨by omega, by omega⟩ rfl hl.1 rfl (Nat.le_of_ble_eq_true rfl) dL_law_614 ⟨by omega, by omega⟩ hS (fun r1 w1 H1 locs hp1 hP hD hS => ?_)
  obtain ⟨rfl, hp1⟩ := hp1
  refine lv_istore (lv' := [(5, .int (nI kc)), (4, .int (nI i)), (0, .ref b), (1, .ref x), (2, .ref m), (3, .ref o)]) hx hb dL_law_617 hl (by decide) rfl (fun ls hl => ?_)
  refine lv_aload_n hx hb dL_law_619 rfl (lv_at hl 4 rfl) ?_
  refine lw_arg hx hb hX hbl hbA hS hi (show 1 < 5 by decide) hL hl (k0 := 2) (k4 := 1) rfl rfl dL_law_620 dL_law_621 (fj := nI 1) rfl ci_1 dL_law_623 dL_law_624 dL_law_625 ?_
  obtain ⟨⟨fs5, e19⟩, fr5, lo5, hfr5, hlo5, hM⟩ := h2 w1 H1 hp1 hP hD
  refine mcV hM ⟨hx, hb, hml, hown, hts⟩ hK gL_law_X5_isConnected rfl hd_X5_isConnected ⟨by omega, by omega⟩ (va_recv hK hP (ci := 5) (q0 := 19) rfl e19) rfl hl.1 rfl (Nat.le_of_ble_eq_true rfl) dL_law_626 ⟨by omega, by omega⟩ hS (fun r2 w2 H2 locs hp2 hP hD hS => ?_)
  refine lv_istore (lv' := [(6, .int r2), (5, .int (nI kc)), (4, .int (nI i)), (0, .ref b), (1, .ref x), (2, .ref m), (3, .ref o)]) hx hb dL_law_629 hl (by decide) rfl (fun ls hl => ?_)
  refine lv_aload_n hx hb dL_law_631 rfl (lv_at hl 5 rfl) ?_
  obtain ⟨n9, T9, C9, Hd9, b9, q9, J9, bg9, pu9, bu9, cl9, mo9, K9, z1, z2, z3, z4, z5, hmd⟩ := ht r2 w2 hp2
  have e19 := hmd
  obtain ⟨m1, m2, m3, m4, m5, m6, m7, m8, m9, m10, g19, -⟩ := id hmd
  refine pcV (c_X5_thrown hP hmd) ⟨hx, hb, hml, hown, hts⟩ hK gL_law_X5_thrown rfl hd_X5_thrown ⟨by omega, by omega⟩ (va_recv hK hP (ci := 5) (q0 := 19) rfl g19) rfl hl.1 rfl (Nat.le_of_ble_eq_true rfl) dL_law_632 ⟨by omega, by omega⟩ hS (fun locs hS => ?_)
  refine lv_iload hx hb dL_law_635 (lv_at hl 1 rfl) ?_
  refine lv_icmp_eq (tgt := 642) hx hb dL_law_637 (by decide) (fun _ => ?_) (fun cz => absurd rfl cz)
  refine lv_iload hx hb dL_law_642 (lv_at hl 1 rfl) ?_
  refine sn_if_ne (tgt := 666) hx hb dL_law_644 (by decide) (by omega) (fun cz => ?_) (fun cz => ?_)
  · refine lv_goto (tgt := 1701) hx hb dL_law_666 (by decide) ?_
    refine lv_iinc (v := nI (i + 5)) hx hb dL_law_1701 hl (k := 2) rfl (nI_5 i) (by decide) rfl (fun ls hl => ?_)
    refine lv_goto (tgt := 23) hx hb dL_law_1704 (by decide) ?_
    exact kk _ w2 H2 locs ls hp2 hP hD hS (lv_sub hl [0, 3, 4, 5, 6] rfl)
  · have ho := hz r2 w2 hp2 cz
    obtain ⟨v, g9, rfl, eo, hg9⟩ := ho
    refine lv_aload_n hx hb dL_law_647 rfl (lv_at hl 6 rfl) ?_
    refine lv_iconst (v := nI 0) hx hb dL_law_648 ci_0 ?_
    refine sv_lald hx hb hK hP eo dL_law_649 ?_
    rw [hg9]
    refine lv_iload hx hb dL_law_650 (lv_at hl 0 rfl) ?_
    refine lw_nel hx hb dL_law_652 dL_law_655 dL_law_656 dL_law_659 ?_
    refine W.lcmp hx hb dL_law_660 ?_
    rw [lg_cmp_s]
    refine lv_if_eq (tgt := 666) hx hb dL_law_661 (by decide) (fun _ => ?_) (fun cz => absurd rfl cz)
    refine lv_goto (tgt := 1701) hx hb dL_law_666 (by decide) ?_
    refine lv_iinc (v := nI (i + 5)) hx hb dL_law_1701 hl (k := 2) rfl (nI_5 i) (by decide) rfl (fun ls hl => ?_)
    refine lv_goto (tgt := 23) hx hb dL_law_1704 (by decide) ?_
    exact kk _ w2 H2 locs ls hp2 hP hD hS (lv_sub hl [0, 3, 4, 5, 6] rfl)
set_option maxHeartbeats 4000000 in
set_option maxRecDepth 100000 in
theorem lk_isSteady {p : Program} {l : Launch} {e : Env} {R : Room} {s : State} {mi : MethodId} {av : Array Value} {below : List Frame} {meth : Method} {c : Code} {Q : State → Prop} {D : va_G} {ky : kT} {A : Nat → Prop} {b L : Nat} {xs : Nat → Int32} (hC : LC p s mi av c R D ky A b L xs) {ws : va_W} {H : Heap} {locs : List Loc} {cells slots : Nat} (hP : va_P D CL ws H) (hD : va_D A ws) (hS : va_S A s.heap H locs) (hc : cells + 1 ≤ R.cells) (hs : slots + 6 ≤ R.slots) {x m o i : Nat} (hi : i + 5 ≤ L) {P1 : va_W → Prop} {P2 : Int32 → va_W → Prop} {kc : Nat} (hkc : kc < 3) (hW : WU l yL_isSteady wsL_isSteady 8 124 D ky A H [.ref x, .int (xs (i + 1)), .ref o] (fun k w => k = nI kc ∧ P1 w)) (h2 : ∀ (w : va_W) (H1 : Heap), P1 w → va_P D CL w H1 → va_D A w → (∃ fs : List Value, w[19]? = some (m, .inr (5, fs))) ∧ ∃ fr lo : Nat, fr ≤ 2 ∧ lo ≤ 41 ∧ MU l yX5_isSteady wsX5_isSteady fr lo 0 0 D ky A H1 [.ref m, .int (xs (i + 1))] P2) (ht : ∀ r w, P2 r w → THR ky w m kc) (hz : ∀ r w, P2 r w → kc = 0 → ∃ (v : Bool) (g : Nat → Int64), r = bI v ∧ isOut ky w o g ∧ g 0 = if v then 1 else 0)
    (kk : ∀ (r : Int32) (w : va_W) (H1 : Heap) (locs1 : List Loc) (ls1 : Array Slot), P2 r w → va_P D CL w H1 → va_D A w → va_S A s.heap H1 locs1 → lv_has ls1 7 (hdl b x m o (i + 5)) → W p l e R s mi av below meth c H1 locs1 (cells + 1) (slots + 6) Q (F0 mi 23 ls1 [])) (ls : Array Slot) (hl : lv_has ls 7 (hdl b x m o i)) : W p l e R s mi av below meth c H locs cells slots Q (F0 mi 669 ls []) := by
  obtain ⟨hx, hb, hml, hown, hts, hK, hXE, hNC, hX, hbl, hbA, hL, hRf, hRl⟩ := hC
  have hl : lv_has ls 7 [(4, .int (nI i)), (0, .ref b), (1, .ref x), (2, .ref m), (3, .ref o)] := hl
  refine lv_aload_n hx hb dL_law_669 rfl (lv_at hl 2 rfl) ?_
  refine lw_arg hx hb hX hbl hbA hS hi (show 1 < 5 by decide) hL hl (k0 := 1) (k4 := 0) rfl rfl dL_law_670 dL_law_671 (fj := nI 1) rfl ci_1 dL_law_673 dL_law_674 dL_law_675 ?_
  refine lv_aload_n hx hb dL_law_676 rfl (lv_at hl 4 rfl) ?_
  refine wcS hW ⟨hx, hb, hml, hown, hts⟩ hK hXE hNC gL_law_L_isSteady rfl hd_L_isSteady ⟨by omega, by omega⟩ rfl hl.1 rfl (Nat.le_of_ble_eq_true rfl) dL_law_677 ⟨by omega, by omega⟩ hS (fun r1 w1 H1 locs hp1 hP hD hS => ?_)
  obtain ⟨rfl, hp1⟩ := hp1
  refine lv_istore (lv' := [(5, .int (nI kc)), (4, .int (nI i)), (0, .ref b), (1, .ref x), (2, .ref m), (3, .ref o)]) hx hb dL_law_680 hl (by decide) rfl (fun ls hl => ?_)
  refine lv_aload_n hx hb dL_law_682 rfl (lv_at hl 4 rfl) ?_
  refine lw_arg hx hb hX hbl hbA hS hi (show 1 < 5 by decide) hL hl (k0 := 2) (k4 := 1) rfl rfl dL_law_683 dL_law_684 (fj := nI 1) rfl ci_1 dL_law_686 dL_law_687 dL_law_688 ?_
  obtain ⟨⟨fs5, e19⟩, fr5, lo5, hfr5, hlo5, hM⟩ := h2 w1 H1 hp1 hP hD
  refine mcV hM ⟨hx, hb, hml, hown, hts⟩ hK gL_law_X5_isSteady rfl hd_X5_isSteady ⟨by omega, by omega⟩ (va_recv hK hP (ci := 5) (q0 := 19) rfl e19) rfl hl.1 rfl (Nat.le_of_ble_eq_true rfl) dL_law_689 ⟨by omega, by omega⟩ hS (fun r2 w2 H2 locs hp2 hP hD hS => ?_)
  refine lv_istore (lv' := [(6, .int r2), (5, .int (nI kc)), (4, .int (nI i)), (0, .ref b), (1, .ref x), (2, .ref m), (3, .ref o)]) hx hb dL_law_692 hl (by decide) rfl (fun ls hl => ?_)
  refine lv_aload_n hx hb dL_law_694 rfl (lv_at hl 5 rfl) ?_
  obtain ⟨n9, T9, C9, Hd9, b9, q9, J9, bg9, pu9, bu9, cl9, mo9, K9, z1, z2, z3, z4, z5, hmd⟩ := ht r2 w2 hp2
  have e19 := hmd
  obtain ⟨m1, m2, m3, m4, m5, m6, m7, m8, m9, m10, g19, -⟩ := id hmd
  refine pcV (c_X5_thrown hP hmd) ⟨hx, hb, hml, hown, hts⟩ hK gL_law_X5_thrown rfl hd_X5_thrown ⟨by omega, by omega⟩ (va_recv hK hP (ci := 5) (q0 := 19) rfl g19) rfl hl.1 rfl (Nat.le_of_ble_eq_true rfl) dL_law_695 ⟨by omega, by omega⟩ hS (fun locs hS => ?_)
  refine lv_iload hx hb dL_law_698 (lv_at hl 1 rfl) ?_
  refine lv_icmp_eq (tgt := 705) hx hb dL_law_700 (by decide) (fun _ => ?_) (fun cz => absurd rfl cz)
  refine lv_iload hx hb dL_law_705 (lv_at hl 1 rfl) ?_
  refine sn_if_ne (tgt := 729) hx hb dL_law_707 (by decide) (by omega) (fun cz => ?_) (fun cz => ?_)
  · refine lv_goto (tgt := 1701) hx hb dL_law_729 (by decide) ?_
    refine lv_iinc (v := nI (i + 5)) hx hb dL_law_1701 hl (k := 2) rfl (nI_5 i) (by decide) rfl (fun ls hl => ?_)
    refine lv_goto (tgt := 23) hx hb dL_law_1704 (by decide) ?_
    exact kk _ w2 H2 locs ls hp2 hP hD hS (lv_sub hl [0, 3, 4, 5, 6] rfl)
  · have ho := hz r2 w2 hp2 cz
    obtain ⟨v, g9, rfl, eo, hg9⟩ := ho
    refine lv_aload_n hx hb dL_law_710 rfl (lv_at hl 6 rfl) ?_
    refine lv_iconst (v := nI 0) hx hb dL_law_711 ci_0 ?_
    refine sv_lald hx hb hK hP eo dL_law_712 ?_
    rw [hg9]
    refine lv_iload hx hb dL_law_713 (lv_at hl 0 rfl) ?_
    refine lw_nel hx hb dL_law_715 dL_law_718 dL_law_719 dL_law_722 ?_
    refine W.lcmp hx hb dL_law_723 ?_
    rw [lg_cmp_s]
    refine lv_if_eq (tgt := 729) hx hb dL_law_724 (by decide) (fun _ => ?_) (fun cz => absurd rfl cz)
    refine lv_goto (tgt := 1701) hx hb dL_law_729 (by decide) ?_
    refine lv_iinc (v := nI (i + 5)) hx hb dL_law_1701 hl (k := 2) rfl (nI_5 i) (by decide) rfl (fun ls hl => ?_)
    refine lv_goto (tgt := 23) hx hb dL_law_1704 (by decide) ?_
    exact kk _ w2 H2 locs ls hp2 hP hD hS (lv_sub hl [0, 3, 4, 5, 6] rfl)
set_option maxHeartbeats 4000000 in
set_option maxRecDepth 100000 in
theorem lk_free {p : Program} {l : Launch} {e : Env} {R : Room} {s : State} {mi : MethodId} {av : Array Value} {below : List Frame} {meth : Method} {c : Code} {Q : State → Prop} {D : va_G} {ky : kT} {A : Nat → Prop} {b L : Nat} {xs : Nat → Int32} (hC : LC p s mi av c R D ky A b L xs) {ws : va_W} {H : Heap} {locs : List Loc} {cells slots : Nat} (hP : va_P D CL ws H) (hD : va_D A ws) (hS : va_S A s.heap H locs) (hc : cells + 1 ≤ R.cells) (hs : slots + 6 ≤ R.slots) {x m o i : Nat} (hi : i + 5 ≤ L) {P1 : va_W → Prop} {P2 : Int32 → va_W → Prop} {kc : Nat} (hkc : kc < 3) (hW : WU l yL_free wsL_free 9 147 D ky A H [.ref x, .int (xs (i + 1)), .int (xs (i + 2)), .ref o] (fun k w => k = nI kc ∧ P1 w)) (h2 : ∀ (w : va_W) (H1 : Heap), P1 w → va_P D CL w H1 → va_D A w → (∃ fs : List Value, w[19]? = some (m, .inr (5, fs))) ∧ ∃ fr lo : Nat, fr ≤ 3 ∧ lo ≤ 63 ∧ MU l yX5_free wsX5_free fr lo 0 0 D ky A H1 [.ref m, .int (xs (i + 1)), .int (xs (i + 2))] P2) (ht : ∀ r w, P2 r w → THR ky w m kc) (hz : ∀ r w, P2 r w → kc = 0 → ∃ g : Nat → Int64, isOut ky w o g ∧ g 0 = r.toInt64)
    (kk : ∀ (r : Int32) (w : va_W) (H1 : Heap) (locs1 : List Loc) (ls1 : Array Slot), P2 r w → va_P D CL w H1 → va_D A w → va_S A s.heap H1 locs1 → lv_has ls1 7 (hdl b x m o (i + 5)) → W p l e R s mi av below meth c H1 locs1 (cells + 1) (slots + 6) Q (F0 mi 23 ls1 [])) (ls : Array Slot) (hl : lv_has ls 7 (hdl b x m o i)) : W p l e R s mi av below meth c H locs cells slots Q (F0 mi 732 ls []) := by
  obtain ⟨hx, hb, hml, hown, hts, hK, hXE, hNC, hX, hbl, hbA, hL, hRf, hRl⟩ := hC
  have hl : lv_has ls 7 [(4, .int (nI i)), (0, .ref b), (1, .ref x), (2, .ref m), (3, .ref o)] := hl
  refine lv_aload_n hx hb dL_law_732 rfl (lv_at hl 2 rfl) ?_
  refine lw_arg hx hb hX hbl hbA hS hi (show 1 < 5 by decide) hL hl (k0 := 1) (k4 := 0) rfl rfl dL_law_733 dL_law_734 (fj := nI 1) rfl ci_1 dL_law_736 dL_law_737 dL_law_738 ?_
  refine lw_arg hx hb hX hbl hbA hS hi (show 2 < 5 by decide) hL hl (k0 := 1) (k4 := 0) rfl rfl dL_law_739 dL_law_740 (fj := nI 2) rfl ci_2 dL_law_742 dL_law_743 dL_law_744 ?_
  refine lv_aload_n hx hb dL_law_745 rfl (lv_at hl 4 rfl) ?_
  refine wcS hW ⟨hx, hb, hml, hown, hts⟩ hK hXE hNC gL_law_L_free rfl hd_L_free ⟨by omega, by omega⟩ rfl hl.1 rfl (Nat.le_of_ble_eq_true rfl) dL_law_746 ⟨by omega, by omega⟩ hS (fun r1 w1 H1 locs hp1 hP hD hS => ?_)
  obtain ⟨rfl, hp1⟩ := hp1
  refine lv_istore (lv' := [(5, .int (nI kc)), (4, .int (nI i)), (0, .ref b), (1, .ref x), (2, .ref m), (3, .ref o)]) hx hb dL_law_749 hl (by decide) rfl (fun ls hl => ?_)
  refine lv_aload_n hx hb dL_law_751 rfl (lv_at hl 4 rfl) ?_
  refine lw_arg hx hb hX hbl hbA hS hi (show 1 < 5 by decide) hL hl (k0 := 2) (k4 := 1) rfl rfl dL_law_752 dL_law_753 (fj := nI 1) rfl ci_1 dL_law_755 dL_law_756 dL_law_757 ?_
  refine lw_arg hx hb hX hbl hbA hS hi (show 2 < 5 by decide) hL hl (k0 := 2) (k4 := 1) rfl rfl dL_law_758 dL_law_759 (fj := nI 2) rfl ci_2 dL_law_761 dL_law_762 dL_law_763 ?_
  obtain ⟨⟨fs5, e19⟩, fr5, lo5, hfr5, hlo5, hM⟩ := h2 w1 H1 hp1 hP hD
  refine mcV hM ⟨hx, hb, hml, hown, hts⟩ hK gL_law_X5_free rfl hd_X5_free ⟨by omega, by omega⟩ (va_recv hK hP (ci := 5) (q0 := 19) rfl e19) rfl hl.1 rfl (Nat.le_of_ble_eq_true rfl) dL_law_764 ⟨by omega, by omega⟩ hS (fun r2 w2 H2 locs hp2 hP hD hS => ?_)
  refine lv_istore (lv' := [(6, .int r2), (5, .int (nI kc)), (4, .int (nI i)), (0, .ref b), (1, .ref x), (2, .ref m), (3, .ref o)]) hx hb dL_law_767 hl (by decide) rfl (fun ls hl => ?_)
  refine lv_aload_n hx hb dL_law_769 rfl (lv_at hl 5 rfl) ?_
  obtain ⟨n9, T9, C9, Hd9, b9, q9, J9, bg9, pu9, bu9, cl9, mo9, K9, z1, z2, z3, z4, z5, hmd⟩ := ht r2 w2 hp2
  have e19 := hmd
  obtain ⟨m1, m2, m3, m4, m5, m6, m7, m8, m9, m10, g19, -⟩ := id hmd
  refine pcV (c_X5_thrown hP hmd) ⟨hx, hb, hml, hown, hts⟩ hK gL_law_X5_thrown rfl hd_X5_thrown ⟨by omega, by omega⟩ (va_recv hK hP (ci := 5) (q0 := 19) rfl g19) rfl hl.1 rfl (Nat.le_of_ble_eq_true rfl) dL_law_770 ⟨by omega, by omega⟩ hS (fun locs hS => ?_)
  refine lv_iload hx hb dL_law_773 (lv_at hl 1 rfl) ?_
  refine lv_icmp_eq (tgt := 780) hx hb dL_law_775 (by decide) (fun _ => ?_) (fun cz => absurd rfl cz)
  refine lv_iload hx hb dL_law_780 (lv_at hl 1 rfl) ?_
  refine sn_if_ne (tgt := 797) hx hb dL_law_782 (by decide) (by omega) (fun cz => ?_) (fun cz => ?_)
  · refine lv_goto (tgt := 1701) hx hb dL_law_797 (by decide) ?_
    refine lv_iinc (v := nI (i + 5)) hx hb dL_law_1701 hl (k := 2) rfl (nI_5 i) (by decide) rfl (fun ls hl => ?_)
    refine lv_goto (tgt := 23) hx hb dL_law_1704 (by decide) ?_
    exact kk _ w2 H2 locs ls hp2 hP hD hS (lv_sub hl [0, 3, 4, 5, 6] rfl)
  · have ho := hz r2 w2 hp2 cz
    obtain ⟨g9, eo, hg9⟩ := ho
    refine lv_aload_n hx hb dL_law_785 rfl (lv_at hl 6 rfl) ?_
    refine lv_iconst (v := nI 0) hx hb dL_law_786 ci_0 ?_
    refine sv_lald hx hb hK hP eo dL_law_787 ?_
    rw [hg9]
    refine lv_iload hx hb dL_law_788 (lv_at hl 0 rfl) ?_
    refine lv_i2l (v := r2.toInt64) hx hb dL_law_790 rfl ?_
    refine W.lcmp hx hb dL_law_791 ?_
    rw [lg_cmp_s]
    refine lv_if_eq (tgt := 797) hx hb dL_law_792 (by decide) (fun _ => ?_) (fun cz => absurd rfl cz)
    refine lv_goto (tgt := 1701) hx hb dL_law_797 (by decide) ?_
    refine lv_iinc (v := nI (i + 5)) hx hb dL_law_1701 hl (k := 2) rfl (nI_5 i) (by decide) rfl (fun ls hl => ?_)
    refine lv_goto (tgt := 23) hx hb dL_law_1704 (by decide) ?_
    exact kk _ w2 H2 locs ls hp2 hP hD hS (lv_sub hl [0, 3, 4, 5, 6] rfl)
set_option maxHeartbeats 4000000 in
set_option maxRecDepth 100000 in
theorem lk_canTake {p : Program} {l : Launch} {e : Env} {R : Room} {s : State} {mi : MethodId} {av : Array Value} {below : List Frame} {meth : Method} {c : Code} {Q : State → Prop} {D : va_G} {ky : kT} {A : Nat → Prop} {b L : Nat} {xs : Nat → Int32} (hC : LC p s mi av c R D ky A b L xs) {ws : va_W} {H : Heap} {locs : List Loc} {cells slots : Nat} (hP : va_P D CL ws H) (hD : va_D A ws) (hS : va_S A s.heap H locs) (hc : cells + 1 ≤ R.cells) (hs : slots + 6 ≤ R.slots) {x m o i : Nat} (hi : i + 5 ≤ L) {P1 : va_W → Prop} {P2 : Int32 → va_W → Prop} {kc : Nat} (hkc : kc < 3) (hW : WU l yL_canTake wsL_canTake 9 147 D ky A H [.ref x, .int (xs (i + 1)), .int (xs (i + 2)), .ref o] (fun k w => k = nI kc ∧ P1 w)) (h2 : ∀ (w : va_W) (H1 : Heap), P1 w → va_P D CL w H1 → va_D A w → (∃ fs : List Value, w[19]? = some (m, .inr (5, fs))) ∧ ∃ fr lo : Nat, fr ≤ 3 ∧ lo ≤ 67 ∧ MU l yX5_canTake wsX5_canTake fr lo 0 0 D ky A H1 [.ref m, .int (xs (i + 1)), .int (xs (i + 2))] P2) (ht : ∀ r w, P2 r w → THR ky w m kc) (hz : ∀ r w, P2 r w → kc = 0 → ∃ (v : Bool) (g : Nat → Int64), r = bI v ∧ isOut ky w o g ∧ g 0 = if v then 1 else 0)
    (kk : ∀ (r : Int32) (w : va_W) (H1 : Heap) (locs1 : List Loc) (ls1 : Array Slot), P2 r w → va_P D CL w H1 → va_D A w → va_S A s.heap H1 locs1 → lv_has ls1 7 (hdl b x m o (i + 5)) → W p l e R s mi av below meth c H1 locs1 (cells + 1) (slots + 6) Q (F0 mi 23 ls1 [])) (ls : Array Slot) (hl : lv_has ls 7 (hdl b x m o i)) : W p l e R s mi av below meth c H locs cells slots Q (F0 mi 800 ls []) := by
  obtain ⟨hx, hb, hml, hown, hts, hK, hXE, hNC, hX, hbl, hbA, hL, hRf, hRl⟩ := hC
  have hl : lv_has ls 7 [(4, .int (nI i)), (0, .ref b), (1, .ref x), (2, .ref m), (3, .ref o)] := hl
  refine lv_aload_n hx hb dL_law_800 rfl (lv_at hl 2 rfl) ?_
  refine lw_arg hx hb hX hbl hbA hS hi (show 1 < 5 by decide) hL hl (k0 := 1) (k4 := 0) rfl rfl dL_law_801 dL_law_802 (fj := nI 1) rfl ci_1 dL_law_804 dL_law_805 dL_law_806 ?_
  refine lw_arg hx hb hX hbl hbA hS hi (show 2 < 5 by decide) hL hl (k0 := 1) (k4 := 0) rfl rfl dL_law_807 dL_law_808 (fj := nI 2) rfl ci_2 dL_law_810 dL_law_811 dL_law_812 ?_
  refine lv_aload_n hx hb dL_law_813 rfl (lv_at hl 4 rfl) ?_
  refine wcS hW ⟨hx, hb, hml, hown, hts⟩ hK hXE hNC gL_law_L_canTake rfl hd_L_canTake ⟨by omega, by omega⟩ rfl hl.1 rfl (Nat.le_of_ble_eq_true rfl) dL_law_814 ⟨by omega, by omega⟩ hS (fun r1 w1 H1 locs hp1 hP hD hS => ?_)
  obtain ⟨rfl, hp1⟩ := hp1
  refine lv_istore (lv' := [(5, .int (nI kc)), (4, .int (nI i)), (0, .ref b), (1, .ref x), (2, .ref m), (3, .ref o)]) hx hb dL_law_817 hl (by decide) rfl (fun ls hl => ?_)
  refine lv_aload_n hx hb dL_law_819 rfl (lv_at hl 4 rfl) ?_
  refine lw_arg hx hb hX hbl hbA hS hi (show 1 < 5 by decide) hL hl (k0 := 2) (k4 := 1) rfl rfl dL_law_820 dL_law_821 (fj := nI 1) rfl ci_1 dL_law_823 dL_law_824 dL_law_825 ?_
  refine lw_arg hx hb hX hbl hbA hS hi (show 2 < 5 by decide) hL hl (k0 := 2) (k4 := 1) rfl rfl dL_law_826 dL_law_827 (fj := nI 2) rfl ci_2 dL_law_829 dL_law_830 dL_law_831 ?_
  obtain ⟨⟨fs5, e19⟩, fr5, lo5, hfr5, hlo5, hM⟩ := h2 w1 H1 hp1 hP hD
  refine mcV hM ⟨hx, hb, hml, hown, hts⟩ hK gL_law_X5_canTake rfl hd_X5_canTake ⟨by omega, by omega⟩ (va_recv hK hP (ci := 5) (q0 := 19) rfl e19) rfl hl.1 rfl (Nat.le_of_ble_eq_true rfl) dL_law_832 ⟨by omega, by omega⟩ hS (fun r2 w2 H2 locs hp2 hP hD hS => ?_)
  refine lv_istore (lv' := [(6, .int r2), (5, .int (nI kc)), (4, .int (nI i)), (0, .ref b), (1, .ref x), (2, .ref m), (3, .ref o)]) hx hb dL_law_835 hl (by decide) rfl (fun ls hl => ?_)
  refine lv_aload_n hx hb dL_law_837 rfl (lv_at hl 5 rfl) ?_
  obtain ⟨n9, T9, C9, Hd9, b9, q9, J9, bg9, pu9, bu9, cl9, mo9, K9, z1, z2, z3, z4, z5, hmd⟩ := ht r2 w2 hp2
  have e19 := hmd
  obtain ⟨m1, m2, m3, m4, m5, m6, m7, m8, m9, m10, g19, -⟩ := id hmd
  refine pcV (c_X5_thrown hP hmd) ⟨hx, hb, hml, hown, hts⟩ hK gL_law_X5_thrown rfl hd_X5_thrown ⟨by omega, by omega⟩ (va_recv hK hP (ci := 5) (q0 := 19) rfl g19) rfl hl.1 rfl (Nat.le_of_ble_eq_true rfl) dL_law_838 ⟨by omega, by omega⟩ hS (fun locs hS => ?_)
  refine lv_iload hx hb dL_law_841 (lv_at hl 1 rfl) ?_
  refine lv_icmp_eq (tgt := 848) hx hb dL_law_843 (by decide) (fun _ => ?_) (fun cz => absurd rfl cz)
  refine lv_iload hx hb dL_law_848 (lv_at hl 1 rfl) ?_
  refine sn_if_ne (tgt := 872) hx hb dL_law_850 (by decide) (by omega) (fun cz => ?_) (fun cz => ?_)
  · refine lv_goto (tgt := 1701) hx hb dL_law_872 (by decide) ?_
    refine lv_iinc (v := nI (i + 5)) hx hb dL_law_1701 hl (k := 2) rfl (nI_5 i) (by decide) rfl (fun ls hl => ?_)
    refine lv_goto (tgt := 23) hx hb dL_law_1704 (by decide) ?_
    exact kk _ w2 H2 locs ls hp2 hP hD hS (lv_sub hl [0, 3, 4, 5, 6] rfl)
  · have ho := hz r2 w2 hp2 cz
    obtain ⟨v, g9, rfl, eo, hg9⟩ := ho
    refine lv_aload_n hx hb dL_law_853 rfl (lv_at hl 6 rfl) ?_
    refine lv_iconst (v := nI 0) hx hb dL_law_854 ci_0 ?_
    refine sv_lald hx hb hK hP eo dL_law_855 ?_
    rw [hg9]
    refine lv_iload hx hb dL_law_856 (lv_at hl 0 rfl) ?_
    refine lw_nel hx hb dL_law_858 dL_law_861 dL_law_862 dL_law_865 ?_
    refine W.lcmp hx hb dL_law_866 ?_
    rw [lg_cmp_s]
    refine lv_if_eq (tgt := 872) hx hb dL_law_867 (by decide) (fun _ => ?_) (fun cz => absurd rfl cz)
    refine lv_goto (tgt := 1701) hx hb dL_law_872 (by decide) ?_
    refine lv_iinc (v := nI (i + 5)) hx hb dL_law_1701 hl (k := 2) rfl (nI_5 i) (by decide) rfl (fun ls hl => ?_)
    refine lv_goto (tgt := 23) hx hb dL_law_1704 (by decide) ?_
    exact kk _ w2 H2 locs ls hp2 hP hD hS (lv_sub hl [0, 3, 4, 5, 6] rfl)
set_option maxHeartbeats 4000000 in
set_option maxRecDepth 100000 in
theorem lk_movesWith {p : Program} {l : Launch} {e : Env} {R : Room} {s : State} {mi : MethodId} {av : Array Value} {below : List Frame} {meth : Method} {c : Code} {Q : State → Prop} {D : va_G} {ky : kT} {A : Nat → Prop} {b L : Nat} {xs : Nat → Int32} (hC : LC p s mi av c R D ky A b L xs) {ws : va_W} {H : Heap} {locs : List Loc} {cells slots : Nat} (hP : va_P D CL ws H) (hD : va_D A ws) (hS : va_S A s.heap H locs) (hc : cells + 1 ≤ R.cells) (hs : slots + 6 ≤ R.slots) {x m o i : Nat} (hi : i + 5 ≤ L) {P1 : va_W → Prop} {P2 : Int32 → va_W → Prop} {kc : Nat} (hkc : kc < 3) (hW : WU l yL_movesWith wsL_movesWith 8 125 D ky A H [.ref x, .int (xs (i + 1)), .int (xs (i + 2)), .ref o] (fun k w => k = nI kc ∧ P1 w)) (h2 : ∀ (w : va_W) (H1 : Heap), P1 w → va_P D CL w H1 → va_D A w → (∃ fs : List Value, w[19]? = some (m, .inr (5, fs))) ∧ ∃ fr lo : Nat, fr ≤ 1 ∧ lo ≤ 25 ∧ MU l yX5_movesWith wsX5_movesWith fr lo 0 0 D ky A H1 [.ref m, .int (xs (i + 1)), .int (xs (i + 2))] P2) (ht : ∀ r w, P2 r w → THR ky w m kc) (hz : ∀ r w, P2 r w → kc = 0 → ∃ g : Nat → Int64, isOut ky w o g ∧ g 0 = r.toInt64)
    (kk : ∀ (r : Int32) (w : va_W) (H1 : Heap) (locs1 : List Loc) (ls1 : Array Slot), P2 r w → va_P D CL w H1 → va_D A w → va_S A s.heap H1 locs1 → lv_has ls1 7 (hdl b x m o (i + 5)) → W p l e R s mi av below meth c H1 locs1 (cells + 1) (slots + 6) Q (F0 mi 23 ls1 [])) (ls : Array Slot) (hl : lv_has ls 7 (hdl b x m o i)) : W p l e R s mi av below meth c H locs cells slots Q (F0 mi 875 ls []) := by
  obtain ⟨hx, hb, hml, hown, hts, hK, hXE, hNC, hX, hbl, hbA, hL, hRf, hRl⟩ := hC
  have hl : lv_has ls 7 [(4, .int (nI i)), (0, .ref b), (1, .ref x), (2, .ref m), (3, .ref o)] := hl
  refine lv_aload_n hx hb dL_law_875 rfl (lv_at hl 2 rfl) ?_
  refine lw_arg hx hb hX hbl hbA hS hi (show 1 < 5 by decide) hL hl (k0 := 1) (k4 := 0) rfl rfl dL_law_876 dL_law_877 (fj := nI 1) rfl ci_1 dL_law_879 dL_law_880 dL_law_881 ?_
  refine lw_arg hx hb hX hbl hbA hS hi (show 2 < 5 by decide) hL hl (k0 := 1) (k4 := 0) rfl rfl dL_law_882 dL_law_883 (fj := nI 2) rfl ci_2 dL_law_885 dL_law_886 dL_law_887 ?_
  refine lv_aload_n hx hb dL_law_888 rfl (lv_at hl 4 rfl) ?_
  refine wcS hW ⟨hx, hb, hml, hown, hts⟩ hK hXE hNC gL_law_L_movesWith rfl hd_L_movesWith ⟨by omega, by omega⟩ rfl hl.1 rfl (Nat.le_of_ble_eq_true rfl) dL_law_889 ⟨by omega, by omega⟩ hS (fun r1 w1 H1 locs hp1 hP hD hS => ?_)
  obtain ⟨rfl, hp1⟩ := hp1
  refine lv_istore (lv' := [(5, .int (nI kc)), (4, .int (nI i)), (0, .ref b), (1, .ref x), (2, .ref m), (3, .ref o)]) hx hb dL_law_892 hl (by decide) rfl (fun ls hl => ?_)
  refine lv_aload_n hx hb dL_law_894 rfl (lv_at hl 4 rfl) ?_
  refine lw_arg hx hb hX hbl hbA hS hi (show 1 < 5 by decide) hL hl (k0 := 2) (k4 := 1) rfl rfl dL_law_895 dL_law_896 (fj := nI 1) rfl ci_1 dL_law_898 dL_law_899 dL_law_900 ?_
  refine lw_arg hx hb hX hbl hbA hS hi (show 2 < 5 by decide) hL hl (k0 := 2) (k4 := 1) rfl rfl dL_law_901 dL_law_902 (fj := nI 2) rfl ci_2 dL_law_904 dL_law_905 dL_law_906 ?_
  obtain ⟨⟨fs5, e19⟩, fr5, lo5, hfr5, hlo5, hM⟩ := h2 w1 H1 hp1 hP hD
  refine mcV hM ⟨hx, hb, hml, hown, hts⟩ hK gL_law_X5_movesWith rfl hd_X5_movesWith ⟨by omega, by omega⟩ (va_recv hK hP (ci := 5) (q0 := 19) rfl e19) rfl hl.1 rfl (Nat.le_of_ble_eq_true rfl) dL_law_907 ⟨by omega, by omega⟩ hS (fun r2 w2 H2 locs hp2 hP hD hS => ?_)
  refine lv_istore (lv' := [(6, .int r2), (5, .int (nI kc)), (4, .int (nI i)), (0, .ref b), (1, .ref x), (2, .ref m), (3, .ref o)]) hx hb dL_law_910 hl (by decide) rfl (fun ls hl => ?_)
  refine lv_aload_n hx hb dL_law_912 rfl (lv_at hl 5 rfl) ?_
  obtain ⟨n9, T9, C9, Hd9, b9, q9, J9, bg9, pu9, bu9, cl9, mo9, K9, z1, z2, z3, z4, z5, hmd⟩ := ht r2 w2 hp2
  have e19 := hmd
  obtain ⟨m1, m2, m3, m4, m5, m6, m7, m8, m9, m10, g19, -⟩ := id hmd
  refine pcV (c_X5_thrown hP hmd) ⟨hx, hb, hml, hown, hts⟩ hK gL_law_X5_thrown rfl hd_X5_thrown ⟨by omega, by omega⟩ (va_recv hK hP (ci := 5) (q0 := 19) rfl g19) rfl hl.1 rfl (Nat.le_of_ble_eq_true rfl) dL_law_913 ⟨by omega, by omega⟩ hS (fun locs hS => ?_)
  refine lv_iload hx hb dL_law_916 (lv_at hl 1 rfl) ?_
  refine lv_icmp_eq (tgt := 923) hx hb dL_law_918 (by decide) (fun _ => ?_) (fun cz => absurd rfl cz)
  refine lv_iload hx hb dL_law_923 (lv_at hl 1 rfl) ?_
  refine sn_if_ne (tgt := 940) hx hb dL_law_925 (by decide) (by omega) (fun cz => ?_) (fun cz => ?_)
  · refine lv_goto (tgt := 1701) hx hb dL_law_940 (by decide) ?_
    refine lv_iinc (v := nI (i + 5)) hx hb dL_law_1701 hl (k := 2) rfl (nI_5 i) (by decide) rfl (fun ls hl => ?_)
    refine lv_goto (tgt := 23) hx hb dL_law_1704 (by decide) ?_
    exact kk _ w2 H2 locs ls hp2 hP hD hS (lv_sub hl [0, 3, 4, 5, 6] rfl)
  · have ho := hz r2 w2 hp2 cz
    obtain ⟨g9, eo, hg9⟩ := ho
    refine lv_aload_n hx hb dL_law_928 rfl (lv_at hl 6 rfl) ?_
    refine lv_iconst (v := nI 0) hx hb dL_law_929 ci_0 ?_
    refine sv_lald hx hb hK hP eo dL_law_930 ?_
    rw [hg9]
    refine lv_iload hx hb dL_law_931 (lv_at hl 0 rfl) ?_
    refine lv_i2l (v := r2.toInt64) hx hb dL_law_933 rfl ?_
    refine W.lcmp hx hb dL_law_934 ?_
    rw [lg_cmp_s]
    refine lv_if_eq (tgt := 940) hx hb dL_law_935 (by decide) (fun _ => ?_) (fun cz => absurd rfl cz)
    refine lv_goto (tgt := 1701) hx hb dL_law_940 (by decide) ?_
    refine lv_iinc (v := nI (i + 5)) hx hb dL_law_1701 hl (k := 2) rfl (nI_5 i) (by decide) rfl (fun ls hl => ?_)
    refine lv_goto (tgt := 23) hx hb dL_law_1704 (by decide) ?_
    exact kk _ w2 H2 locs ls hp2 hP hD hS (lv_sub hl [0, 3, 4, 5, 6] rfl)
set_option maxHeartbeats 4000000 in
set_option maxRecDepth 100000 in
theorem lk_boundTo {p : Program} {l : Launch} {e : Env} {R : Room} {s : State} {mi : MethodId} {av : Array Value} {below : List Frame} {meth : Method} {c : Code} {Q : State → Prop} {D : va_G} {ky : kT} {A : Nat → Prop} {b L : Nat} {xs : Nat → Int32} (hC : LC p s mi av c R D ky A b L xs) {ws : va_W} {H : Heap} {locs : List Loc} {cells slots : Nat} (hP : va_P D CL ws H) (hD : va_D A ws) (hS : va_S A s.heap H locs) (hc : cells + 1 ≤ R.cells) (hs : slots + 6 ≤ R.slots) {x m o i : Nat} (hi : i + 5 ≤ L) {P1 : va_W → Prop} {P2 : Int32 → va_W → Prop} {kc : Nat} (hkc : kc < 3) (hW : WU l yL_boundTo wsL_boundTo 8 125 D ky A H [.ref x, .int (xs (i + 1)), .int (xs (i + 2)), .ref o] (fun k w => k = nI kc ∧ P1 w)) (h2 : ∀ (w : va_W) (H1 : Heap), P1 w → va_P D CL w H1 → va_D A w → (∃ fs : List Value, w[19]? = some (m, .inr (5, fs))) ∧ ∃ fr lo : Nat, fr ≤ 2 ∧ lo ≤ 51 ∧ MU l yX5_boundTo wsX5_boundTo fr lo 0 0 D ky A H1 [.ref m, .int (xs (i + 1)), .int (xs (i + 2))] P2) (ht : ∀ r w, P2 r w → THR ky w m kc) (hz : ∀ r w, P2 r w → kc = 0 → ∃ g : Nat → Int64, isOut ky w o g ∧ g 0 = r.toInt64)
    (kk : ∀ (r : Int32) (w : va_W) (H1 : Heap) (locs1 : List Loc) (ls1 : Array Slot), P2 r w → va_P D CL w H1 → va_D A w → va_S A s.heap H1 locs1 → lv_has ls1 7 (hdl b x m o (i + 5)) → W p l e R s mi av below meth c H1 locs1 (cells + 1) (slots + 6) Q (F0 mi 23 ls1 [])) (ls : Array Slot) (hl : lv_has ls 7 (hdl b x m o i)) : W p l e R s mi av below meth c H locs cells slots Q (F0 mi 943 ls []) := by
  obtain ⟨hx, hb, hml, hown, hts, hK, hXE, hNC, hX, hbl, hbA, hL, hRf, hRl⟩ := hC
  have hl : lv_has ls 7 [(4, .int (nI i)), (0, .ref b), (1, .ref x), (2, .ref m), (3, .ref o)] := hl
  refine lv_aload_n hx hb dL_law_943 rfl (lv_at hl 2 rfl) ?_
  refine lw_arg hx hb hX hbl hbA hS hi (show 1 < 5 by decide) hL hl (k0 := 1) (k4 := 0) rfl rfl dL_law_944 dL_law_945 (fj := nI 1) rfl ci_1 dL_law_947 dL_law_948 dL_law_949 ?_
  refine lw_arg hx hb hX hbl hbA hS hi (show 2 < 5 by decide) hL hl (k0 := 1) (k4 := 0) rfl rfl dL_law_950 dL_law_951 (fj := nI 2) rfl ci_2 dL_law_953 dL_law_954 dL_law_955 ?_
  refine lv_aload_n hx hb dL_law_956 rfl (lv_at hl 4 rfl) ?_
  refine wcS hW ⟨hx, hb, hml, hown, hts⟩ hK hXE hNC gL_law_L_boundTo rfl hd_L_boundTo ⟨by omega, by omega⟩ rfl hl.1 rfl (Nat.le_of_ble_eq_true rfl) dL_law_957 ⟨by omega, by omega⟩ hS (fun r1 w1 H1 locs hp1 hP hD hS => ?_)
  obtain ⟨rfl, hp1⟩ := hp1
  refine lv_istore (lv' := [(5, .int (nI kc)), (4, .int (nI i)), (0, .ref b), (1, .ref x), (2, .ref m), (3, .ref o)]) hx hb dL_law_960 hl (by decide) rfl (fun ls hl => ?_)
  refine lv_aload_n hx hb dL_law_962 rfl (lv_at hl 4 rfl) ?_
  refine lw_arg hx hb hX hbl hbA hS hi (show 1 < 5 by decide) hL hl (k0 := 2) (k4 := 1) rfl rfl dL_law_963 dL_law_964 (fj := nI 1) rfl ci_1 dL_law_966 dL_law_967 dL_law_968 ?_
  refine lw_arg hx hb hX hbl hbA hS hi (show 2 < 5 by decide) hL hl (k0 := 2) (k4 := 1) rfl rfl dL_law_969 dL_law_970 (fj := nI 2) rfl ci_2 dL_law_972 dL_law_973 dL_law_974 ?_
  obtain ⟨⟨fs5, e19⟩, fr5, lo5, hfr5, hlo5, hM⟩ := h2 w1 H1 hp1 hP hD
  refine mcV hM ⟨hx, hb, hml, hown, hts⟩ hK gL_law_X5_boundTo rfl hd_X5_boundTo ⟨by omega, by omega⟩ (va_recv hK hP (ci := 5) (q0 := 19) rfl e19) rfl hl.1 rfl (Nat.le_of_ble_eq_true rfl) dL_law_975 ⟨by omega, by omega⟩ hS (fun r2 w2 H2 locs hp2 hP hD hS => ?_)
  refine lv_istore (lv' := [(6, .int r2), (5, .int (nI kc)), (4, .int (nI i)), (0, .ref b), (1, .ref x), (2, .ref m), (3, .ref o)]) hx hb dL_law_978 hl (by decide) rfl (fun ls hl => ?_)
  refine lv_aload_n hx hb dL_law_980 rfl (lv_at hl 5 rfl) ?_
  obtain ⟨n9, T9, C9, Hd9, b9, q9, J9, bg9, pu9, bu9, cl9, mo9, K9, z1, z2, z3, z4, z5, hmd⟩ := ht r2 w2 hp2
  have e19 := hmd
  obtain ⟨m1, m2, m3, m4, m5, m6, m7, m8, m9, m10, g19, -⟩ := id hmd
  refine pcV (c_X5_thrown hP hmd) ⟨hx, hb, hml, hown, hts⟩ hK gL_law_X5_thrown rfl hd_X5_thrown ⟨by omega, by omega⟩ (va_recv hK hP (ci := 5) (q0 := 19) rfl g19) rfl hl.1 rfl (Nat.le_of_ble_eq_true rfl) dL_law_981 ⟨by omega, by omega⟩ hS (fun locs hS => ?_)
  refine lv_iload hx hb dL_law_984 (lv_at hl 1 rfl) ?_
  refine lv_icmp_eq (tgt := 991) hx hb dL_law_986 (by decide) (fun _ => ?_) (fun cz => absurd rfl cz)
  refine lv_iload hx hb dL_law_991 (lv_at hl 1 rfl) ?_
  refine sn_if_ne (tgt := 1008) hx hb dL_law_993 (by decide) (by omega) (fun cz => ?_) (fun cz => ?_)
  · refine lv_goto (tgt := 1701) hx hb dL_law_1008 (by decide) ?_
    refine lv_iinc (v := nI (i + 5)) hx hb dL_law_1701 hl (k := 2) rfl (nI_5 i) (by decide) rfl (fun ls hl => ?_)
    refine lv_goto (tgt := 23) hx hb dL_law_1704 (by decide) ?_
    exact kk _ w2 H2 locs ls hp2 hP hD hS (lv_sub hl [0, 3, 4, 5, 6] rfl)
  · have ho := hz r2 w2 hp2 cz
    obtain ⟨g9, eo, hg9⟩ := ho
    refine lv_aload_n hx hb dL_law_996 rfl (lv_at hl 6 rfl) ?_
    refine lv_iconst (v := nI 0) hx hb dL_law_997 ci_0 ?_
    refine sv_lald hx hb hK hP eo dL_law_998 ?_
    rw [hg9]
    refine lv_iload hx hb dL_law_999 (lv_at hl 0 rfl) ?_
    refine lv_i2l (v := r2.toInt64) hx hb dL_law_1001 rfl ?_
    refine W.lcmp hx hb dL_law_1002 ?_
    rw [lg_cmp_s]
    refine lv_if_eq (tgt := 1008) hx hb dL_law_1003 (by decide) (fun _ => ?_) (fun cz => absurd rfl cz)
    refine lv_goto (tgt := 1701) hx hb dL_law_1008 (by decide) ?_
    refine lv_iinc (v := nI (i + 5)) hx hb dL_law_1701 hl (k := 2) rfl (nI_5 i) (by decide) rfl (fun ls hl => ?_)
    refine lv_goto (tgt := 23) hx hb dL_law_1704 (by decide) ?_
    exact kk _ w2 H2 locs ls hp2 hP hD hS (lv_sub hl [0, 3, 4, 5, 6] rfl)
set_option maxHeartbeats 4000000 in
set_option maxRecDepth 100000 in
theorem lk_groups {p : Program} {l : Launch} {e : Env} {R : Room} {s : State} {mi : MethodId} {av : Array Value} {below : List Frame} {meth : Method} {c : Code} {Q : State → Prop} {D : va_G} {ky : kT} {A : Nat → Prop} {b L : Nat} {xs : Nat → Int32} (hC : LC p s mi av c R D ky A b L xs) {ws : va_W} {H : Heap} {locs : List Loc} {cells slots : Nat} (hP : va_P D CL ws H) (hD : va_D A ws) (hS : va_S A s.heap H locs) (hc : cells + 1 ≤ R.cells) (hs : slots + 6 ≤ R.slots) {x m o i : Nat} (hi : i + 5 ≤ L) {P1 : va_W → Prop} {P2 : Int32 → va_W → Prop} {kc : Nat} (hkc : kc < 3) (hW : WU l yL_groups wsL_groups 8 124 D ky A H [.ref x, .int (xs (i + 1)), .ref o] (fun k w => k = nI kc ∧ P1 w)) (h2 : ∀ (w : va_W) (H1 : Heap), P1 w → va_P D CL w H1 → va_D A w → (∃ fs : List Value, w[19]? = some (m, .inr (5, fs))) ∧ ∃ fr lo : Nat, fr ≤ 2 ∧ lo ≤ 51 ∧ MU l yX5_groups wsX5_groups fr lo 0 0 D ky A H1 [.ref m, .int (xs (i + 1))] P2) (ht : ∀ r w, P2 r w → THR ky w m kc) (hz : ∀ r w, P2 r w → kc = 0 → ∃ g : Nat → Int64, isOut ky w o g ∧ g 0 = r.toInt64)
    (kk : ∀ (r : Int32) (w : va_W) (H1 : Heap) (locs1 : List Loc) (ls1 : Array Slot), P2 r w → va_P D CL w H1 → va_D A w → va_S A s.heap H1 locs1 → lv_has ls1 7 (hdl b x m o (i + 5)) → W p l e R s mi av below meth c H1 locs1 (cells + 1) (slots + 6) Q (F0 mi 23 ls1 [])) (ls : Array Slot) (hl : lv_has ls 7 (hdl b x m o i)) : W p l e R s mi av below meth c H locs cells slots Q (F0 mi 1011 ls []) := by
  obtain ⟨hx, hb, hml, hown, hts, hK, hXE, hNC, hX, hbl, hbA, hL, hRf, hRl⟩ := hC
  have hl : lv_has ls 7 [(4, .int (nI i)), (0, .ref b), (1, .ref x), (2, .ref m), (3, .ref o)] := hl
  refine lv_aload_n hx hb dL_law_1011 rfl (lv_at hl 2 rfl) ?_
  refine lw_arg hx hb hX hbl hbA hS hi (show 1 < 5 by decide) hL hl (k0 := 1) (k4 := 0) rfl rfl dL_law_1012 dL_law_1013 (fj := nI 1) rfl ci_1 dL_law_1015 dL_law_1016 dL_law_1017 ?_
  refine lv_aload_n hx hb dL_law_1018 rfl (lv_at hl 4 rfl) ?_
  refine wcS hW ⟨hx, hb, hml, hown, hts⟩ hK hXE hNC gL_law_L_groups rfl hd_L_groups ⟨by omega, by omega⟩ rfl hl.1 rfl (Nat.le_of_ble_eq_true rfl) dL_law_1019 ⟨by omega, by omega⟩ hS (fun r1 w1 H1 locs hp1 hP hD hS => ?_)
  obtain ⟨rfl, hp1⟩ := hp1
  refine lv_istore (lv' := [(5, .int (nI kc)), (4, .int (nI i)), (0, .ref b), (1, .ref x), (2, .ref m), (3, .ref o)]) hx hb dL_law_1022 hl (by decide) rfl (fun ls hl => ?_)
  refine lv_aload_n hx hb dL_law_1024 rfl (lv_at hl 4 rfl) ?_
  refine lw_arg hx hb hX hbl hbA hS hi (show 1 < 5 by decide) hL hl (k0 := 2) (k4 := 1) rfl rfl dL_law_1025 dL_law_1026 (fj := nI 1) rfl ci_1 dL_law_1028 dL_law_1029 dL_law_1030 ?_
  obtain ⟨⟨fs5, e19⟩, fr5, lo5, hfr5, hlo5, hM⟩ := h2 w1 H1 hp1 hP hD
  refine mcV hM ⟨hx, hb, hml, hown, hts⟩ hK gL_law_X5_groups rfl hd_X5_groups ⟨by omega, by omega⟩ (va_recv hK hP (ci := 5) (q0 := 19) rfl e19) rfl hl.1 rfl (Nat.le_of_ble_eq_true rfl) dL_law_1031 ⟨by omega, by omega⟩ hS (fun r2 w2 H2 locs hp2 hP hD hS => ?_)
  refine lv_istore (lv' := [(6, .int r2), (5, .int (nI kc)), (4, .int (nI i)), (0, .ref b), (1, .ref x), (2, .ref m), (3, .ref o)]) hx hb dL_law_1034 hl (by decide) rfl (fun ls hl => ?_)
  refine lv_aload_n hx hb dL_law_1036 rfl (lv_at hl 5 rfl) ?_
  obtain ⟨n9, T9, C9, Hd9, b9, q9, J9, bg9, pu9, bu9, cl9, mo9, K9, z1, z2, z3, z4, z5, hmd⟩ := ht r2 w2 hp2
  have e19 := hmd
  obtain ⟨m1, m2, m3, m4, m5, m6, m7, m8, m9, m10, g19, -⟩ := id hmd
  refine pcV (c_X5_thrown hP hmd) ⟨hx, hb, hml, hown, hts⟩ hK gL_law_X5_thrown rfl hd_X5_thrown ⟨by omega, by omega⟩ (va_recv hK hP (ci := 5) (q0 := 19) rfl g19) rfl hl.1 rfl (Nat.le_of_ble_eq_true rfl) dL_law_1037 ⟨by omega, by omega⟩ hS (fun locs hS => ?_)
  refine lv_iload hx hb dL_law_1040 (lv_at hl 1 rfl) ?_
  refine lv_icmp_eq (tgt := 1047) hx hb dL_law_1042 (by decide) (fun _ => ?_) (fun cz => absurd rfl cz)
  refine lv_iload hx hb dL_law_1047 (lv_at hl 1 rfl) ?_
  refine sn_if_ne (tgt := 1064) hx hb dL_law_1049 (by decide) (by omega) (fun cz => ?_) (fun cz => ?_)
  · refine lv_goto (tgt := 1701) hx hb dL_law_1064 (by decide) ?_
    refine lv_iinc (v := nI (i + 5)) hx hb dL_law_1701 hl (k := 2) rfl (nI_5 i) (by decide) rfl (fun ls hl => ?_)
    refine lv_goto (tgt := 23) hx hb dL_law_1704 (by decide) ?_
    exact kk _ w2 H2 locs ls hp2 hP hD hS (lv_sub hl [0, 3, 4, 5, 6] rfl)
  · have ho := hz r2 w2 hp2 cz
    obtain ⟨g9, eo, hg9⟩ := ho
    refine lv_aload_n hx hb dL_law_1052 rfl (lv_at hl 6 rfl) ?_
    refine lv_iconst (v := nI 0) hx hb dL_law_1053 ci_0 ?_
    refine sv_lald hx hb hK hP eo dL_law_1054 ?_
    rw [hg9]
    refine lv_iload hx hb dL_law_1055 (lv_at hl 0 rfl) ?_
    refine lv_i2l (v := r2.toInt64) hx hb dL_law_1057 rfl ?_
    refine W.lcmp hx hb dL_law_1058 ?_
    rw [lg_cmp_s]
    refine lv_if_eq (tgt := 1064) hx hb dL_law_1059 (by decide) (fun _ => ?_) (fun cz => absurd rfl cz)
    refine lv_goto (tgt := 1701) hx hb dL_law_1064 (by decide) ?_
    refine lv_iinc (v := nI (i + 5)) hx hb dL_law_1701 hl (k := 2) rfl (nI_5 i) (by decide) rfl (fun ls hl => ?_)
    refine lv_goto (tgt := 23) hx hb dL_law_1704 (by decide) ?_
    exact kk _ w2 H2 locs ls hp2 hP hD hS (lv_sub hl [0, 3, 4, 5, 6] rfl)
set_option maxHeartbeats 4000000 in
set_option maxRecDepth 100000 in
theorem lk_splits {p : Program} {l : Launch} {e : Env} {R : Room} {s : State} {mi : MethodId} {av : Array Value} {below : List Frame} {meth : Method} {c : Code} {Q : State → Prop} {D : va_G} {ky : kT} {A : Nat → Prop} {b L : Nat} {xs : Nat → Int32} (hC : LC p s mi av c R D ky A b L xs) {ws : va_W} {H : Heap} {locs : List Loc} {cells slots : Nat} (hP : va_P D CL ws H) (hD : va_D A ws) (hS : va_S A s.heap H locs) (hc : cells + 1 ≤ R.cells) (hs : slots + 6 ≤ R.slots) {x m o i : Nat} (hi : i + 5 ≤ L) {P1 : va_W → Prop} {P2 : Int32 → va_W → Prop} {kc : Nat} (hkc : kc < 3) (hW : WU l yL_splits wsL_splits 8 155 D ky A H [.ref x, .int (xs (i + 1)), .ref o] (fun k w => k = nI kc ∧ P1 w)) (h2 : ∀ (w : va_W) (H1 : Heap), P1 w → va_P D CL w H1 → va_D A w → (∃ fs : List Value, w[19]? = some (m, .inr (5, fs))) ∧ ∃ fr lo : Nat, fr ≤ 3 ∧ lo ≤ 70 ∧ MU l yX5_splits wsX5_splits fr lo 0 0 D ky A H1 [.ref m, .int (xs (i + 1))] P2) (ht : ∀ r w, P2 r w → THR ky w m kc) (hz : ∀ r w, P2 r w → kc = 0 → ∃ g : Nat → Int64, isOut ky w o g ∧ g 0 = r.toInt64)
    (kk : ∀ (r : Int32) (w : va_W) (H1 : Heap) (locs1 : List Loc) (ls1 : Array Slot), P2 r w → va_P D CL w H1 → va_D A w → va_S A s.heap H1 locs1 → lv_has ls1 7 (hdl b x m o (i + 5)) → W p l e R s mi av below meth c H1 locs1 (cells + 1) (slots + 6) Q (F0 mi 23 ls1 [])) (ls : Array Slot) (hl : lv_has ls 7 (hdl b x m o i)) : W p l e R s mi av below meth c H locs cells slots Q (F0 mi 1067 ls []) := by
  obtain ⟨hx, hb, hml, hown, hts, hK, hXE, hNC, hX, hbl, hbA, hL, hRf, hRl⟩ := hC
  have hl : lv_has ls 7 [(4, .int (nI i)), (0, .ref b), (1, .ref x), (2, .ref m), (3, .ref o)] := hl
  refine lv_aload_n hx hb dL_law_1067 rfl (lv_at hl 2 rfl) ?_
  refine lw_arg hx hb hX hbl hbA hS hi (show 1 < 5 by decide) hL hl (k0 := 1) (k4 := 0) rfl rfl dL_law_1068 dL_law_1069 (fj := nI 1) rfl ci_1 dL_law_1071 dL_law_1072 dL_law_1073 ?_
  refine lv_aload_n hx hb dL_law_1074 rfl (lv_at hl 4 rfl) ?_
  refine wcS hW ⟨hx, hb, hml, hown, hts⟩ hK hXE hNC gL_law_L_splits rfl hd_L_splits ⟨by omega, by omega⟩ rfl hl.1 rfl (Nat.le_of_ble_eq_true rfl) dL_law_1075 ⟨by omega, by omega⟩ hS (fun r1 w1 H1 locs hp1 hP hD hS => ?_)
  obtain ⟨rfl, hp1⟩ := hp1
  refine lv_istore (lv' := [(5, .int (nI kc)), (4, .int (nI i)), (0, .ref b), (1, .ref x), (2, .ref m), (3, .ref o)]) hx hb dL_law_1078 hl (by decide) rfl (fun ls hl => ?_)
  refine lv_aload_n hx hb dL_law_1080 rfl (lv_at hl 4 rfl) ?_
  refine lw_arg hx hb hX hbl hbA hS hi (show 1 < 5 by decide) hL hl (k0 := 2) (k4 := 1) rfl rfl dL_law_1081 dL_law_1082 (fj := nI 1) rfl ci_1 dL_law_1084 dL_law_1085 dL_law_1086 ?_
  obtain ⟨⟨fs5, e19⟩, fr5, lo5, hfr5, hlo5, hM⟩ := h2 w1 H1 hp1 hP hD
  refine mcV hM ⟨hx, hb, hml, hown, hts⟩ hK gL_law_X5_splits rfl hd_X5_splits ⟨by omega, by omega⟩ (va_recv hK hP (ci := 5) (q0 := 19) rfl e19) rfl hl.1 rfl (Nat.le_of_ble_eq_true rfl) dL_law_1087 ⟨by omega, by omega⟩ hS (fun r2 w2 H2 locs hp2 hP hD hS => ?_)
  refine lv_istore (lv' := [(6, .int r2), (5, .int (nI kc)), (4, .int (nI i)), (0, .ref b), (1, .ref x), (2, .ref m), (3, .ref o)]) hx hb dL_law_1090 hl (by decide) rfl (fun ls hl => ?_)
  refine lv_aload_n hx hb dL_law_1092 rfl (lv_at hl 5 rfl) ?_
  obtain ⟨n9, T9, C9, Hd9, b9, q9, J9, bg9, pu9, bu9, cl9, mo9, K9, z1, z2, z3, z4, z5, hmd⟩ := ht r2 w2 hp2
  have e19 := hmd
  obtain ⟨m1, m2, m3, m4, m5, m6, m7, m8, m9, m10, g19, -⟩ := id hmd
  refine pcV (c_X5_thrown hP hmd) ⟨hx, hb, hml, hown, hts⟩ hK gL_law_X5_thrown rfl hd_X5_thrown ⟨by omega, by omega⟩ (va_recv hK hP (ci := 5) (q0 := 19) rfl g19) rfl hl.1 rfl (Nat.le_of_ble_eq_true rfl) dL_law_1093 ⟨by omega, by omega⟩ hS (fun locs hS => ?_)
  refine lv_iload hx hb dL_law_1096 (lv_at hl 1 rfl) ?_
  refine lv_icmp_eq (tgt := 1103) hx hb dL_law_1098 (by decide) (fun _ => ?_) (fun cz => absurd rfl cz)
  refine lv_iload hx hb dL_law_1103 (lv_at hl 1 rfl) ?_
  refine sn_if_ne (tgt := 1120) hx hb dL_law_1105 (by decide) (by omega) (fun cz => ?_) (fun cz => ?_)
  · refine lv_goto (tgt := 1701) hx hb dL_law_1120 (by decide) ?_
    refine lv_iinc (v := nI (i + 5)) hx hb dL_law_1701 hl (k := 2) rfl (nI_5 i) (by decide) rfl (fun ls hl => ?_)
    refine lv_goto (tgt := 23) hx hb dL_law_1704 (by decide) ?_
    exact kk _ w2 H2 locs ls hp2 hP hD hS (lv_sub hl [0, 3, 4, 5, 6] rfl)
  · have ho := hz r2 w2 hp2 cz
    obtain ⟨g9, eo, hg9⟩ := ho
    refine lv_aload_n hx hb dL_law_1108 rfl (lv_at hl 6 rfl) ?_
    refine lv_iconst (v := nI 0) hx hb dL_law_1109 ci_0 ?_
    refine sv_lald hx hb hK hP eo dL_law_1110 ?_
    rw [hg9]
    refine lv_iload hx hb dL_law_1111 (lv_at hl 0 rfl) ?_
    refine lv_i2l (v := r2.toInt64) hx hb dL_law_1113 rfl ?_
    refine W.lcmp hx hb dL_law_1114 ?_
    rw [lg_cmp_s]
    refine lv_if_eq (tgt := 1120) hx hb dL_law_1115 (by decide) (fun _ => ?_) (fun cz => absurd rfl cz)
    refine lv_goto (tgt := 1701) hx hb dL_law_1120 (by decide) ?_
    refine lv_iinc (v := nI (i + 5)) hx hb dL_law_1701 hl (k := 2) rfl (nI_5 i) (by decide) rfl (fun ls hl => ?_)
    refine lv_goto (tgt := 23) hx hb dL_law_1704 (by decide) ?_
    exact kk _ w2 H2 locs ls hp2 hP hD hS (lv_sub hl [0, 3, 4, 5, 6] rfl)
set_option maxHeartbeats 4000000 in
set_option maxRecDepth 100000 in
theorem lk_ways {p : Program} {l : Launch} {e : Env} {R : Room} {s : State} {mi : MethodId} {av : Array Value} {below : List Frame} {meth : Method} {c : Code} {Q : State → Prop} {D : va_G} {ky : kT} {A : Nat → Prop} {b L : Nat} {xs : Nat → Int32} (hC : LC p s mi av c R D ky A b L xs) {ws : va_W} {H : Heap} {locs : List Loc} {cells slots : Nat} (hP : va_P D CL ws H) (hD : va_D A ws) (hS : va_S A s.heap H locs) (hc : cells + 1 ≤ R.cells) (hs : slots + 6 ≤ R.slots) {x m o i : Nat} (hi : i + 5 ≤ L) {P1 : va_W → Prop} {P2 : Int32 → va_W → Prop} {kc : Nat} (hkc : kc < 3) (hW : WU l yL_ways wsL_ways 8 154 D ky A H [.ref x, .ref o] (fun k w => k = nI kc ∧ P1 w)) (h2 : ∀ (w : va_W) (H1 : Heap), P1 w → va_P D CL w H1 → va_D A w → (∃ fs : List Value, w[19]? = some (m, .inr (5, fs))) ∧ ∃ fr lo : Nat, fr ≤ 4 ∧ lo ≤ 95 ∧ MU l yX5_ways wsX5_ways fr lo 0 0 D ky A H1 [.ref m] P2) (ht : ∀ r w, P2 r w → THR ky w m kc) (hz : ∀ r w, P2 r w → kc = 0 → ∃ g : Nat → Int64, isOut ky w o g ∧ g 0 = r.toInt64)
    (kk : ∀ (r : Int32) (w : va_W) (H1 : Heap) (locs1 : List Loc) (ls1 : Array Slot), P2 r w → va_P D CL w H1 → va_D A w → va_S A s.heap H1 locs1 → lv_has ls1 7 (hdl b x m o (i + 5)) → W p l e R s mi av below meth c H1 locs1 (cells + 1) (slots + 6) Q (F0 mi 23 ls1 [])) (ls : Array Slot) (hl : lv_has ls 7 (hdl b x m o i)) : W p l e R s mi av below meth c H locs cells slots Q (F0 mi 1123 ls []) := by
  obtain ⟨hx, hb, hml, hown, hts, hK, hXE, hNC, hX, hbl, hbA, hL, hRf, hRl⟩ := hC
  have hl : lv_has ls 7 [(4, .int (nI i)), (0, .ref b), (1, .ref x), (2, .ref m), (3, .ref o)] := hl
  refine lv_aload_n hx hb dL_law_1123 rfl (lv_at hl 2 rfl) ?_
  refine lv_aload_n hx hb dL_law_1124 rfl (lv_at hl 4 rfl) ?_
  refine wcS hW ⟨hx, hb, hml, hown, hts⟩ hK hXE hNC gL_law_L_ways rfl hd_L_ways ⟨by omega, by omega⟩ rfl hl.1 rfl (Nat.le_of_ble_eq_true rfl) dL_law_1125 ⟨by omega, by omega⟩ hS (fun r1 w1 H1 locs hp1 hP hD hS => ?_)
  obtain ⟨rfl, hp1⟩ := hp1
  refine lv_istore (lv' := [(5, .int (nI kc)), (4, .int (nI i)), (0, .ref b), (1, .ref x), (2, .ref m), (3, .ref o)]) hx hb dL_law_1128 hl (by decide) rfl (fun ls hl => ?_)
  refine lv_aload_n hx hb dL_law_1130 rfl (lv_at hl 4 rfl) ?_
  obtain ⟨⟨fs5, e19⟩, fr5, lo5, hfr5, hlo5, hM⟩ := h2 w1 H1 hp1 hP hD
  refine mcV hM ⟨hx, hb, hml, hown, hts⟩ hK gL_law_X5_ways rfl hd_X5_ways ⟨by omega, by omega⟩ (va_recv hK hP (ci := 5) (q0 := 19) rfl e19) rfl hl.1 rfl (Nat.le_of_ble_eq_true rfl) dL_law_1131 ⟨by omega, by omega⟩ hS (fun r2 w2 H2 locs hp2 hP hD hS => ?_)
  refine lv_istore (lv' := [(6, .int r2), (5, .int (nI kc)), (4, .int (nI i)), (0, .ref b), (1, .ref x), (2, .ref m), (3, .ref o)]) hx hb dL_law_1134 hl (by decide) rfl (fun ls hl => ?_)
  refine lv_aload_n hx hb dL_law_1136 rfl (lv_at hl 5 rfl) ?_
  obtain ⟨n9, T9, C9, Hd9, b9, q9, J9, bg9, pu9, bu9, cl9, mo9, K9, z1, z2, z3, z4, z5, hmd⟩ := ht r2 w2 hp2
  have e19 := hmd
  obtain ⟨m1, m2, m3, m4, m5, m6, m7, m8, m9, m10, g19, -⟩ := id hmd
  refine pcV (c_X5_thrown hP hmd) ⟨hx, hb, hml, hown, hts⟩ hK gL_law_X5_thrown rfl hd_X5_thrown ⟨by omega, by omega⟩ (va_recv hK hP (ci := 5) (q0 := 19) rfl g19) rfl hl.1 rfl (Nat.le_of_ble_eq_true rfl) dL_law_1137 ⟨by omega, by omega⟩ hS (fun locs hS => ?_)
  refine lv_iload hx hb dL_law_1140 (lv_at hl 1 rfl) ?_
  refine lv_icmp_eq (tgt := 1147) hx hb dL_law_1142 (by decide) (fun _ => ?_) (fun cz => absurd rfl cz)
  refine lv_iload hx hb dL_law_1147 (lv_at hl 1 rfl) ?_
  refine sn_if_ne (tgt := 1164) hx hb dL_law_1149 (by decide) (by omega) (fun cz => ?_) (fun cz => ?_)
  · refine lv_goto (tgt := 1701) hx hb dL_law_1164 (by decide) ?_
    refine lv_iinc (v := nI (i + 5)) hx hb dL_law_1701 hl (k := 2) rfl (nI_5 i) (by decide) rfl (fun ls hl => ?_)
    refine lv_goto (tgt := 23) hx hb dL_law_1704 (by decide) ?_
    exact kk _ w2 H2 locs ls hp2 hP hD hS (lv_sub hl [0, 3, 4, 5, 6] rfl)
  · have ho := hz r2 w2 hp2 cz
    obtain ⟨g9, eo, hg9⟩ := ho
    refine lv_aload_n hx hb dL_law_1152 rfl (lv_at hl 6 rfl) ?_
    refine lv_iconst (v := nI 0) hx hb dL_law_1153 ci_0 ?_
    refine sv_lald hx hb hK hP eo dL_law_1154 ?_
    rw [hg9]
    refine lv_iload hx hb dL_law_1155 (lv_at hl 0 rfl) ?_
    refine lv_i2l (v := r2.toInt64) hx hb dL_law_1157 rfl ?_
    refine W.lcmp hx hb dL_law_1158 ?_
    rw [lg_cmp_s]
    refine lv_if_eq (tgt := 1164) hx hb dL_law_1159 (by decide) (fun _ => ?_) (fun cz => absurd rfl cz)
    refine lv_goto (tgt := 1701) hx hb dL_law_1164 (by decide) ?_
    refine lv_iinc (v := nI (i + 5)) hx hb dL_law_1701 hl (k := 2) rfl (nI_5 i) (by decide) rfl (fun ls hl => ?_)
    refine lv_goto (tgt := 23) hx hb dL_law_1704 (by decide) ?_
    exact kk _ w2 H2 locs ls hp2 hP hD hS (lv_sub hl [0, 3, 4, 5, 6] rfl)
set_option maxHeartbeats 4000000 in
set_option maxRecDepth 100000 in
theorem lk_leastDepth {p : Program} {l : Launch} {e : Env} {R : Room} {s : State} {mi : MethodId} {av : Array Value} {below : List Frame} {meth : Method} {c : Code} {Q : State → Prop} {D : va_G} {ky : kT} {A : Nat → Prop} {b L : Nat} {xs : Nat → Int32} (hC : LC p s mi av c R D ky A b L xs) {ws : va_W} {H : Heap} {locs : List Loc} {cells slots : Nat} (hP : va_P D CL ws H) (hD : va_D A ws) (hS : va_S A s.heap H locs) (hc : cells + 1 ≤ R.cells) (hs : slots + 6 ≤ R.slots) {x m o i : Nat} (hi : i + 5 ≤ L) {P1 : va_W → Prop} {P2 : Int32 → va_W → Prop} {kc : Nat} (hkc : kc < 3) (hW : WU l yL_leastDepth wsL_leastDepth 8 154 D ky A H [.ref x, .ref o] (fun k w => k = nI kc ∧ P1 w)) (h2 : ∀ (w : va_W) (H1 : Heap), P1 w → va_P D CL w H1 → va_D A w → (∃ fs : List Value, w[19]? = some (m, .inr (5, fs))) ∧ ∃ fr lo : Nat, fr ≤ 4 ∧ lo ≤ 95 ∧ MU l yX5_leastDepth wsX5_leastDepth fr lo 0 0 D ky A H1 [.ref m] P2) (ht : ∀ r w, P2 r w → THR ky w m kc) (hz : ∀ r w, P2 r w → kc = 0 → ∃ g : Nat → Int64, isOut ky w o g ∧ g 0 = r.toInt64)
    (kk : ∀ (r : Int32) (w : va_W) (H1 : Heap) (locs1 : List Loc) (ls1 : Array Slot), P2 r w → va_P D CL w H1 → va_D A w → va_S A s.heap H1 locs1 → lv_has ls1 7 (hdl b x m o (i + 5)) → W p l e R s mi av below meth c H1 locs1 (cells + 1) (slots + 6) Q (F0 mi 23 ls1 [])) (ls : Array Slot) (hl : lv_has ls 7 (hdl b x m o i)) : W p l e R s mi av below meth c H locs cells slots Q (F0 mi 1167 ls []) := by
  obtain ⟨hx, hb, hml, hown, hts, hK, hXE, hNC, hX, hbl, hbA, hL, hRf, hRl⟩ := hC
  have hl : lv_has ls 7 [(4, .int (nI i)), (0, .ref b), (1, .ref x), (2, .ref m), (3, .ref o)] := hl
  refine lv_aload_n hx hb dL_law_1167 rfl (lv_at hl 2 rfl) ?_
  refine lv_aload_n hx hb dL_law_1168 rfl (lv_at hl 4 rfl) ?_
  refine wcS hW ⟨hx, hb, hml, hown, hts⟩ hK hXE hNC gL_law_L_leastDepth rfl hd_L_leastDepth ⟨by omega, by omega⟩ rfl hl.1 rfl (Nat.le_of_ble_eq_true rfl) dL_law_1169 ⟨by omega, by omega⟩ hS (fun r1 w1 H1 locs hp1 hP hD hS => ?_)
  obtain ⟨rfl, hp1⟩ := hp1
  refine lv_istore (lv' := [(5, .int (nI kc)), (4, .int (nI i)), (0, .ref b), (1, .ref x), (2, .ref m), (3, .ref o)]) hx hb dL_law_1172 hl (by decide) rfl (fun ls hl => ?_)
  refine lv_aload_n hx hb dL_law_1174 rfl (lv_at hl 4 rfl) ?_
  obtain ⟨⟨fs5, e19⟩, fr5, lo5, hfr5, hlo5, hM⟩ := h2 w1 H1 hp1 hP hD
  refine mcV hM ⟨hx, hb, hml, hown, hts⟩ hK gL_law_X5_leastDepth rfl hd_X5_leastDepth ⟨by omega, by omega⟩ (va_recv hK hP (ci := 5) (q0 := 19) rfl e19) rfl hl.1 rfl (Nat.le_of_ble_eq_true rfl) dL_law_1175 ⟨by omega, by omega⟩ hS (fun r2 w2 H2 locs hp2 hP hD hS => ?_)
  refine lv_istore (lv' := [(6, .int r2), (5, .int (nI kc)), (4, .int (nI i)), (0, .ref b), (1, .ref x), (2, .ref m), (3, .ref o)]) hx hb dL_law_1178 hl (by decide) rfl (fun ls hl => ?_)
  refine lv_aload_n hx hb dL_law_1180 rfl (lv_at hl 5 rfl) ?_
  obtain ⟨n9, T9, C9, Hd9, b9, q9, J9, bg9, pu9, bu9, cl9, mo9, K9, z1, z2, z3, z4, z5, hmd⟩ := ht r2 w2 hp2
  have e19 := hmd
  obtain ⟨m1, m2, m3, m4, m5, m6, m7, m8, m9, m10, g19, -⟩ := id hmd
  refine pcV (c_X5_thrown hP hmd) ⟨hx, hb, hml, hown, hts⟩ hK gL_law_X5_thrown rfl hd_X5_thrown ⟨by omega, by omega⟩ (va_recv hK hP (ci := 5) (q0 := 19) rfl g19) rfl hl.1 rfl (Nat.le_of_ble_eq_true rfl) dL_law_1181 ⟨by omega, by omega⟩ hS (fun locs hS => ?_)
  refine lv_iload hx hb dL_law_1184 (lv_at hl 1 rfl) ?_
  refine lv_icmp_eq (tgt := 1191) hx hb dL_law_1186 (by decide) (fun _ => ?_) (fun cz => absurd rfl cz)
  refine lv_iload hx hb dL_law_1191 (lv_at hl 1 rfl) ?_
  refine sn_if_ne (tgt := 1208) hx hb dL_law_1193 (by decide) (by omega) (fun cz => ?_) (fun cz => ?_)
  · refine lv_goto (tgt := 1701) hx hb dL_law_1208 (by decide) ?_
    refine lv_iinc (v := nI (i + 5)) hx hb dL_law_1701 hl (k := 2) rfl (nI_5 i) (by decide) rfl (fun ls hl => ?_)
    refine lv_goto (tgt := 23) hx hb dL_law_1704 (by decide) ?_
    exact kk _ w2 H2 locs ls hp2 hP hD hS (lv_sub hl [0, 3, 4, 5, 6] rfl)
  · have ho := hz r2 w2 hp2 cz
    obtain ⟨g9, eo, hg9⟩ := ho
    refine lv_aload_n hx hb dL_law_1196 rfl (lv_at hl 6 rfl) ?_
    refine lv_iconst (v := nI 0) hx hb dL_law_1197 ci_0 ?_
    refine sv_lald hx hb hK hP eo dL_law_1198 ?_
    rw [hg9]
    refine lv_iload hx hb dL_law_1199 (lv_at hl 0 rfl) ?_
    refine lv_i2l (v := r2.toInt64) hx hb dL_law_1201 rfl ?_
    refine W.lcmp hx hb dL_law_1202 ?_
    rw [lg_cmp_s]
    refine lv_if_eq (tgt := 1208) hx hb dL_law_1203 (by decide) (fun _ => ?_) (fun cz => absurd rfl cz)
    refine lv_goto (tgt := 1701) hx hb dL_law_1208 (by decide) ?_
    refine lv_iinc (v := nI (i + 5)) hx hb dL_law_1701 hl (k := 2) rfl (nI_5 i) (by decide) rfl (fun ls hl => ?_)
    refine lv_goto (tgt := 23) hx hb dL_law_1704 (by decide) ?_
    exact kk _ w2 H2 locs ls hp2 hP hD hS (lv_sub hl [0, 3, 4, 5, 6] rfl)
set_option maxHeartbeats 4000000 in
set_option maxRecDepth 100000 in
theorem lk_orders {p : Program} {l : Launch} {e : Env} {R : Room} {s : State} {mi : MethodId} {av : Array Value} {below : List Frame} {meth : Method} {c : Code} {Q : State → Prop} {D : va_G} {ky : kT} {A : Nat → Prop} {b L : Nat} {xs : Nat → Int32} (hC : LC p s mi av c R D ky A b L xs) {ws : va_W} {H : Heap} {locs : List Loc} {cells slots : Nat} (hP : va_P D CL ws H) (hD : va_D A ws) (hS : va_S A s.heap H locs) (hc : cells + 1 ≤ R.cells) (hs : slots + 6 ≤ R.slots) {x m o i : Nat} (hi : i + 5 ≤ L) {P1 : va_W → Prop} {P2 : Int32 → va_W → Prop} {kc : Nat} (hkc : kc < 3) (hW : WU l yL_orders wsL_orders 8 156 D ky A H [.ref x, .ref o] (fun k w => k = nI kc ∧ P1 w)) (h2 : ∀ (w : va_W) (H1 : Heap), P1 w → va_P D CL w H1 → va_D A w → (∃ fs : List Value, w[19]? = some (m, .inr (5, fs))) ∧ ∃ fr lo : Nat, fr ≤ 4 ∧ lo ≤ 90 ∧ MU l yX5_orders wsX5_orders fr lo 0 0 D ky A H1 [.ref m] P2) (ht : ∀ r w, P2 r w → THR ky w m kc) (hz : ∀ r w, P2 r w → kc = 0 → ∃ g : Nat → Int64, isOut ky w o g ∧ g 0 = r.toInt64)
    (kk : ∀ (r : Int32) (w : va_W) (H1 : Heap) (locs1 : List Loc) (ls1 : Array Slot), P2 r w → va_P D CL w H1 → va_D A w → va_S A s.heap H1 locs1 → lv_has ls1 7 (hdl b x m o (i + 5)) → W p l e R s mi av below meth c H1 locs1 (cells + 1) (slots + 6) Q (F0 mi 23 ls1 [])) (ls : Array Slot) (hl : lv_has ls 7 (hdl b x m o i)) : W p l e R s mi av below meth c H locs cells slots Q (F0 mi 1211 ls []) := by
  obtain ⟨hx, hb, hml, hown, hts, hK, hXE, hNC, hX, hbl, hbA, hL, hRf, hRl⟩ := hC
  have hl : lv_has ls 7 [(4, .int (nI i)), (0, .ref b), (1, .ref x), (2, .ref m), (3, .ref o)] := hl
  refine lv_aload_n hx hb dL_law_1211 rfl (lv_at hl 2 rfl) ?_
  refine lv_aload_n hx hb dL_law_1212 rfl (lv_at hl 4 rfl) ?_
  refine wcS hW ⟨hx, hb, hml, hown, hts⟩ hK hXE hNC gL_law_L_orders rfl hd_L_orders ⟨by omega, by omega⟩ rfl hl.1 rfl (Nat.le_of_ble_eq_true rfl) dL_law_1213 ⟨by omega, by omega⟩ hS (fun r1 w1 H1 locs hp1 hP hD hS => ?_)
  obtain ⟨rfl, hp1⟩ := hp1
  refine lv_istore (lv' := [(5, .int (nI kc)), (4, .int (nI i)), (0, .ref b), (1, .ref x), (2, .ref m), (3, .ref o)]) hx hb dL_law_1216 hl (by decide) rfl (fun ls hl => ?_)
  refine lv_aload_n hx hb dL_law_1218 rfl (lv_at hl 4 rfl) ?_
  obtain ⟨⟨fs5, e19⟩, fr5, lo5, hfr5, hlo5, hM⟩ := h2 w1 H1 hp1 hP hD
  refine mcV hM ⟨hx, hb, hml, hown, hts⟩ hK gL_law_X5_orders rfl hd_X5_orders ⟨by omega, by omega⟩ (va_recv hK hP (ci := 5) (q0 := 19) rfl e19) rfl hl.1 rfl (Nat.le_of_ble_eq_true rfl) dL_law_1219 ⟨by omega, by omega⟩ hS (fun r2 w2 H2 locs hp2 hP hD hS => ?_)
  refine lv_istore (lv' := [(6, .int r2), (5, .int (nI kc)), (4, .int (nI i)), (0, .ref b), (1, .ref x), (2, .ref m), (3, .ref o)]) hx hb dL_law_1222 hl (by decide) rfl (fun ls hl => ?_)
  refine lv_aload_n hx hb dL_law_1224 rfl (lv_at hl 5 rfl) ?_
  obtain ⟨n9, T9, C9, Hd9, b9, q9, J9, bg9, pu9, bu9, cl9, mo9, K9, z1, z2, z3, z4, z5, hmd⟩ := ht r2 w2 hp2
  have e19 := hmd
  obtain ⟨m1, m2, m3, m4, m5, m6, m7, m8, m9, m10, g19, -⟩ := id hmd
  refine pcV (c_X5_thrown hP hmd) ⟨hx, hb, hml, hown, hts⟩ hK gL_law_X5_thrown rfl hd_X5_thrown ⟨by omega, by omega⟩ (va_recv hK hP (ci := 5) (q0 := 19) rfl g19) rfl hl.1 rfl (Nat.le_of_ble_eq_true rfl) dL_law_1225 ⟨by omega, by omega⟩ hS (fun locs hS => ?_)
  refine lv_iload hx hb dL_law_1228 (lv_at hl 1 rfl) ?_
  refine lv_icmp_eq (tgt := 1235) hx hb dL_law_1230 (by decide) (fun _ => ?_) (fun cz => absurd rfl cz)
  refine lv_iload hx hb dL_law_1235 (lv_at hl 1 rfl) ?_
  refine sn_if_ne (tgt := 1252) hx hb dL_law_1237 (by decide) (by omega) (fun cz => ?_) (fun cz => ?_)
  · refine lv_goto (tgt := 1701) hx hb dL_law_1252 (by decide) ?_
    refine lv_iinc (v := nI (i + 5)) hx hb dL_law_1701 hl (k := 2) rfl (nI_5 i) (by decide) rfl (fun ls hl => ?_)
    refine lv_goto (tgt := 23) hx hb dL_law_1704 (by decide) ?_
    exact kk _ w2 H2 locs ls hp2 hP hD hS (lv_sub hl [0, 3, 4, 5, 6] rfl)
  · have ho := hz r2 w2 hp2 cz
    obtain ⟨g9, eo, hg9⟩ := ho
    refine lv_aload_n hx hb dL_law_1240 rfl (lv_at hl 6 rfl) ?_
    refine lv_iconst (v := nI 0) hx hb dL_law_1241 ci_0 ?_
    refine sv_lald hx hb hK hP eo dL_law_1242 ?_
    rw [hg9]
    refine lv_iload hx hb dL_law_1243 (lv_at hl 0 rfl) ?_
    refine lv_i2l (v := r2.toInt64) hx hb dL_law_1245 rfl ?_
    refine W.lcmp hx hb dL_law_1246 ?_
    rw [lg_cmp_s]
    refine lv_if_eq (tgt := 1252) hx hb dL_law_1247 (by decide) (fun _ => ?_) (fun cz => absurd rfl cz)
    refine lv_goto (tgt := 1701) hx hb dL_law_1252 (by decide) ?_
    refine lv_iinc (v := nI (i + 5)) hx hb dL_law_1701 hl (k := 2) rfl (nI_5 i) (by decide) rfl (fun ls hl => ?_)
    refine lv_goto (tgt := 23) hx hb dL_law_1704 (by decide) ?_
    exact kk _ w2 H2 locs ls hp2 hP hD hS (lv_sub hl [0, 3, 4, 5, 6] rfl)
set_option maxHeartbeats 4000000 in
set_option maxRecDepth 100000 in
theorem lk_fewestChanges {p : Program} {l : Launch} {e : Env} {R : Room} {s : State} {mi : MethodId} {av : Array Value} {below : List Frame} {meth : Method} {c : Code} {Q : State → Prop} {D : va_G} {ky : kT} {A : Nat → Prop} {b L : Nat} {xs : Nat → Int32} (hC : LC p s mi av c R D ky A b L xs) {ws : va_W} {H : Heap} {locs : List Loc} {cells slots : Nat} (hP : va_P D CL ws H) (hD : va_D A ws) (hS : va_S A s.heap H locs) (hc : cells + 1 ≤ R.cells) (hs : slots + 6 ≤ R.slots) {x m o i : Nat} (hi : i + 5 ≤ L) {P1 : va_W → Prop} {P2 : Int32 → va_W → Prop} {kc : Nat} (hkc : kc < 3) (hW : WU l yL_fewestChanges wsL_fewestChanges 8 156 D ky A H [.ref x, .ref o] (fun k w => k = nI kc ∧ P1 w)) (h2 : ∀ (w : va_W) (H1 : Heap), P1 w → va_P D CL w H1 → va_D A w → (∃ fs : List Value, w[19]? = some (m, .inr (5, fs))) ∧ ∃ fr lo : Nat, fr ≤ 6 ∧ lo ≤ 143 ∧ MU l yX5_fewestChanges wsX5_fewestChanges fr lo 0 0 D ky A H1 [.ref m] P2) (ht : ∀ r w, P2 r w → THR ky w m kc) (hz : ∀ r w, P2 r w → kc = 0 → ∃ g : Nat → Int64, isOut ky w o g ∧ g 0 = r.toInt64)
    (kk : ∀ (r : Int32) (w : va_W) (H1 : Heap) (locs1 : List Loc) (ls1 : Array Slot), P2 r w → va_P D CL w H1 → va_D A w → va_S A s.heap H1 locs1 → lv_has ls1 7 (hdl b x m o (i + 5)) → W p l e R s mi av below meth c H1 locs1 (cells + 1) (slots + 6) Q (F0 mi 23 ls1 [])) (ls : Array Slot) (hl : lv_has ls 7 (hdl b x m o i)) : W p l e R s mi av below meth c H locs cells slots Q (F0 mi 1255 ls []) := by
  obtain ⟨hx, hb, hml, hown, hts, hK, hXE, hNC, hX, hbl, hbA, hL, hRf, hRl⟩ := hC
  have hl : lv_has ls 7 [(4, .int (nI i)), (0, .ref b), (1, .ref x), (2, .ref m), (3, .ref o)] := hl
  refine lv_aload_n hx hb dL_law_1255 rfl (lv_at hl 2 rfl) ?_
  refine lv_aload_n hx hb dL_law_1256 rfl (lv_at hl 4 rfl) ?_
  refine wcS hW ⟨hx, hb, hml, hown, hts⟩ hK hXE hNC gL_law_L_fewestChanges rfl hd_L_fewestChanges ⟨by omega, by omega⟩ rfl hl.1 rfl (Nat.le_of_ble_eq_true rfl) dL_law_1257 ⟨by omega, by omega⟩ hS (fun r1 w1 H1 locs hp1 hP hD hS => ?_)
  obtain ⟨rfl, hp1⟩ := hp1
  refine lv_istore (lv' := [(5, .int (nI kc)), (4, .int (nI i)), (0, .ref b), (1, .ref x), (2, .ref m), (3, .ref o)]) hx hb dL_law_1260 hl (by decide) rfl (fun ls hl => ?_)
  refine lv_aload_n hx hb dL_law_1262 rfl (lv_at hl 4 rfl) ?_
  obtain ⟨⟨fs5, e19⟩, fr5, lo5, hfr5, hlo5, hM⟩ := h2 w1 H1 hp1 hP hD
  refine mcV hM ⟨hx, hb, hml, hown, hts⟩ hK gL_law_X5_fewestChanges rfl hd_X5_fewestChanges ⟨by omega, by omega⟩ (va_recv hK hP (ci := 5) (q0 := 19) rfl e19) rfl hl.1 rfl (Nat.le_of_ble_eq_true rfl) dL_law_1263 ⟨by omega, by omega⟩ hS (fun r2 w2 H2 locs hp2 hP hD hS => ?_)
  refine lv_istore (lv' := [(6, .int r2), (5, .int (nI kc)), (4, .int (nI i)), (0, .ref b), (1, .ref x), (2, .ref m), (3, .ref o)]) hx hb dL_law_1266 hl (by decide) rfl (fun ls hl => ?_)
  refine lv_aload_n hx hb dL_law_1268 rfl (lv_at hl 5 rfl) ?_
  obtain ⟨n9, T9, C9, Hd9, b9, q9, J9, bg9, pu9, bu9, cl9, mo9, K9, z1, z2, z3, z4, z5, hmd⟩ := ht r2 w2 hp2
  have e19 := hmd
  obtain ⟨m1, m2, m3, m4, m5, m6, m7, m8, m9, m10, g19, -⟩ := id hmd
  refine pcV (c_X5_thrown hP hmd) ⟨hx, hb, hml, hown, hts⟩ hK gL_law_X5_thrown rfl hd_X5_thrown ⟨by omega, by omega⟩ (va_recv hK hP (ci := 5) (q0 := 19) rfl g19) rfl hl.1 rfl (Nat.le_of_ble_eq_true rfl) dL_law_1269 ⟨by omega, by omega⟩ hS (fun locs hS => ?_)
  refine lv_iload hx hb dL_law_1272 (lv_at hl 1 rfl) ?_
  refine lv_icmp_eq (tgt := 1279) hx hb dL_law_1274 (by decide) (fun _ => ?_) (fun cz => absurd rfl cz)
  refine lv_iload hx hb dL_law_1279 (lv_at hl 1 rfl) ?_
  refine sn_if_ne (tgt := 1296) hx hb dL_law_1281 (by decide) (by omega) (fun cz => ?_) (fun cz => ?_)
  · refine lv_goto (tgt := 1701) hx hb dL_law_1296 (by decide) ?_
    refine lv_iinc (v := nI (i + 5)) hx hb dL_law_1701 hl (k := 2) rfl (nI_5 i) (by decide) rfl (fun ls hl => ?_)
    refine lv_goto (tgt := 23) hx hb dL_law_1704 (by decide) ?_
    exact kk _ w2 H2 locs ls hp2 hP hD hS (lv_sub hl [0, 3, 4, 5, 6] rfl)
  · have ho := hz r2 w2 hp2 cz
    obtain ⟨g9, eo, hg9⟩ := ho
    refine lv_aload_n hx hb dL_law_1284 rfl (lv_at hl 6 rfl) ?_
    refine lv_iconst (v := nI 0) hx hb dL_law_1285 ci_0 ?_
    refine sv_lald hx hb hK hP eo dL_law_1286 ?_
    rw [hg9]
    refine lv_iload hx hb dL_law_1287 (lv_at hl 0 rfl) ?_
    refine lv_i2l (v := r2.toInt64) hx hb dL_law_1289 rfl ?_
    refine W.lcmp hx hb dL_law_1290 ?_
    rw [lg_cmp_s]
    refine lv_if_eq (tgt := 1296) hx hb dL_law_1291 (by decide) (fun _ => ?_) (fun cz => absurd rfl cz)
    refine lv_goto (tgt := 1701) hx hb dL_law_1296 (by decide) ?_
    refine lv_iinc (v := nI (i + 5)) hx hb dL_law_1701 hl (k := 2) rfl (nI_5 i) (by decide) rfl (fun ls hl => ?_)
    refine lv_goto (tgt := 23) hx hb dL_law_1704 (by decide) ?_
    exact kk _ w2 H2 locs ls hp2 hP hD hS (lv_sub hl [0, 3, 4, 5, 6] rfl)
set_option maxHeartbeats 4000000 in
set_option maxRecDepth 100000 in
theorem lk_fewestByListing {p : Program} {l : Launch} {e : Env} {R : Room} {s : State} {mi : MethodId} {av : Array Value} {below : List Frame} {meth : Method} {c : Code} {Q : State → Prop} {D : va_G} {ky : kT} {A : Nat → Prop} {b L : Nat} {xs : Nat → Int32} (hC : LC p s mi av c R D ky A b L xs) {ws : va_W} {H : Heap} {locs : List Loc} {cells slots : Nat} (hP : va_P D CL ws H) (hD : va_D A ws) (hS : va_S A s.heap H locs) (hc : cells + 1 ≤ R.cells) (hs : slots + 6 ≤ R.slots) {x m o i : Nat} (hi : i + 5 ≤ L) {P1 : va_W → Prop} {P2 : Int32 → va_W → Prop} {kc : Nat} (hkc : kc < 3) (hW : WU l yL_fewestByListing wsL_fewestByListing 11 277 D ky A H [.ref x, .ref o] (fun k w => k = nI kc ∧ P1 w)) (h2 : ∀ (w : va_W) (H1 : Heap), P1 w → va_P D CL w H1 → va_D A w → (∃ fs : List Value, w[19]? = some (m, .inr (5, fs))) ∧ ∃ fr lo : Nat, fr ≤ 6 ∧ lo ≤ 143 ∧ MU l yX5_fewestByListing wsX5_fewestByListing fr lo 0 0 D ky A H1 [.ref m] P2) (ht : ∀ r w, P2 r w → THR ky w m kc) (hz : ∀ r w, P2 r w → kc = 0 → ∃ g : Nat → Int64, isOut ky w o g ∧ g 0 = r.toInt64)
    (kk : ∀ (r : Int32) (w : va_W) (H1 : Heap) (locs1 : List Loc) (ls1 : Array Slot), P2 r w → va_P D CL w H1 → va_D A w → va_S A s.heap H1 locs1 → lv_has ls1 7 (hdl b x m o (i + 5)) → W p l e R s mi av below meth c H1 locs1 (cells + 1) (slots + 6) Q (F0 mi 23 ls1 [])) (ls : Array Slot) (hl : lv_has ls 7 (hdl b x m o i)) : W p l e R s mi av below meth c H locs cells slots Q (F0 mi 1299 ls []) := by
  obtain ⟨hx, hb, hml, hown, hts, hK, hXE, hNC, hX, hbl, hbA, hL, hRf, hRl⟩ := hC
  have hl : lv_has ls 7 [(4, .int (nI i)), (0, .ref b), (1, .ref x), (2, .ref m), (3, .ref o)] := hl
  refine lv_aload_n hx hb dL_law_1299 rfl (lv_at hl 2 rfl) ?_
  refine lv_aload_n hx hb dL_law_1300 rfl (lv_at hl 4 rfl) ?_
  refine wcS hW ⟨hx, hb, hml, hown, hts⟩ hK hXE hNC gL_law_L_fewestByListing rfl hd_L_fewestByListing ⟨by omega, by omega⟩ rfl hl.1 rfl (Nat.le_of_ble_eq_true rfl) dL_law_1301 ⟨by omega, by omega⟩ hS (fun r1 w1 H1 locs hp1 hP hD hS => ?_)
  obtain ⟨rfl, hp1⟩ := hp1
  refine lv_istore (lv' := [(5, .int (nI kc)), (4, .int (nI i)), (0, .ref b), (1, .ref x), (2, .ref m), (3, .ref o)]) hx hb dL_law_1304 hl (by decide) rfl (fun ls hl => ?_)
  refine lv_aload_n hx hb dL_law_1306 rfl (lv_at hl 4 rfl) ?_
  obtain ⟨⟨fs5, e19⟩, fr5, lo5, hfr5, hlo5, hM⟩ := h2 w1 H1 hp1 hP hD
  refine mcV hM ⟨hx, hb, hml, hown, hts⟩ hK gL_law_X5_fewestByListing rfl hd_X5_fewestByListing ⟨by omega, by omega⟩ (va_recv hK hP (ci := 5) (q0 := 19) rfl e19) rfl hl.1 rfl (Nat.le_of_ble_eq_true rfl) dL_law_1307 ⟨by omega, by omega⟩ hS (fun r2 w2 H2 locs hp2 hP hD hS => ?_)
  refine lv_istore (lv' := [(6, .int r2), (5, .int (nI kc)), (4, .int (nI i)), (0, .ref b), (1, .ref x), (2, .ref m), (3, .ref o)]) hx hb dL_law_1310 hl (by decide) rfl (fun ls hl => ?_)
  refine lv_aload_n hx hb dL_law_1312 rfl (lv_at hl 5 rfl) ?_
  obtain ⟨n9, T9, C9, Hd9, b9, q9, J9, bg9, pu9, bu9, cl9, mo9, K9, z1, z2, z3, z4, z5, hmd⟩ := ht r2 w2 hp2
  have e19 := hmd
  obtain ⟨m1, m2, m3, m4, m5, m6, m7, m8, m9, m10, g19, -⟩ := id hmd
  refine pcV (c_X5_thrown hP hmd) ⟨hx, hb, hml, hown, hts⟩ hK gL_law_X5_thrown rfl hd_X5_thrown ⟨by omega, by omega⟩ (va_recv hK hP (ci := 5) (q0 := 19) rfl g19) rfl hl.1 rfl (Nat.le_of_ble_eq_true rfl) dL_law_1313 ⟨by omega, by omega⟩ hS (fun locs hS => ?_)
  refine lv_iload hx hb dL_law_1316 (lv_at hl 1 rfl) ?_
  refine lv_icmp_eq (tgt := 1323) hx hb dL_law_1318 (by decide) (fun _ => ?_) (fun cz => absurd rfl cz)
  refine lv_iload hx hb dL_law_1323 (lv_at hl 1 rfl) ?_
  refine sn_if_ne (tgt := 1340) hx hb dL_law_1325 (by decide) (by omega) (fun cz => ?_) (fun cz => ?_)
  · refine lv_goto (tgt := 1701) hx hb dL_law_1340 (by decide) ?_
    refine lv_iinc (v := nI (i + 5)) hx hb dL_law_1701 hl (k := 2) rfl (nI_5 i) (by decide) rfl (fun ls hl => ?_)
    refine lv_goto (tgt := 23) hx hb dL_law_1704 (by decide) ?_
    exact kk _ w2 H2 locs ls hp2 hP hD hS (lv_sub hl [0, 3, 4, 5, 6] rfl)
  · have ho := hz r2 w2 hp2 cz
    obtain ⟨g9, eo, hg9⟩ := ho
    refine lv_aload_n hx hb dL_law_1328 rfl (lv_at hl 6 rfl) ?_
    refine lv_iconst (v := nI 0) hx hb dL_law_1329 ci_0 ?_
    refine sv_lald hx hb hK hP eo dL_law_1330 ?_
    rw [hg9]
    refine lv_iload hx hb dL_law_1331 (lv_at hl 0 rfl) ?_
    refine lv_i2l (v := r2.toInt64) hx hb dL_law_1333 rfl ?_
    refine W.lcmp hx hb dL_law_1334 ?_
    rw [lg_cmp_s]
    refine lv_if_eq (tgt := 1340) hx hb dL_law_1335 (by decide) (fun _ => ?_) (fun cz => absurd rfl cz)
    refine lv_goto (tgt := 1701) hx hb dL_law_1340 (by decide) ?_
    refine lv_iinc (v := nI (i + 5)) hx hb dL_law_1701 hl (k := 2) rfl (nI_5 i) (by decide) rfl (fun ls hl => ?_)
    refine lv_goto (tgt := 23) hx hb dL_law_1704 (by decide) ?_
    exact kk _ w2 H2 locs ls hp2 hP hD hS (lv_sub hl [0, 3, 4, 5, 6] rfl)
set_option maxHeartbeats 4000000 in
set_option maxRecDepth 100000 in
theorem lk_orderAt {p : Program} {l : Launch} {e : Env} {R : Room} {s : State} {mi : MethodId} {av : Array Value} {below : List Frame} {meth : Method} {c : Code} {Q : State → Prop} {D : va_G} {ky : kT} {A : Nat → Prop} {b L : Nat} {xs : Nat → Int32} (hC : LC p s mi av c R D ky A b L xs) {ws : va_W} {H : Heap} {locs : List Loc} {cells slots : Nat} (hP : va_P D CL ws H) (hD : va_D A ws) (hS : va_S A s.heap H locs) (hc : cells + 1 ≤ R.cells) (hs : slots + 6 ≤ R.slots) {x m o i : Nat} (hi : i + 5 ≤ L) {P1 : va_W → Prop} {P2 : Int32 → va_W → Prop} {kc : Nat} (hkc : kc < 3) (hW : WU l yL_orderAt wsL_orderAt 7 159 D ky A H [.ref x, .int (xs (i + 1)), .ref o] (fun k w => k = nI kc ∧ P1 w)) (h2 : ∀ (w : va_W) (H1 : Heap), P1 w → va_P D CL w H1 → va_D A w → (∃ fs : List Value, w[19]? = some (m, .inr (5, fs))) ∧ ∃ fr lo : Nat, fr ≤ 6 ∧ lo ≤ 143 ∧ MU l yX5_orderAt wsX5_orderAt fr lo 0 0 D ky A H1 [.ref m, .int (xs (i + 1))] P2) (ht : ∀ r w, P2 r w → THR ky w m kc) (hz : ∀ r w, P2 r w → kc = 0 → ∃ g : Nat → Int64, isOut ky w o g ∧ g 0 = r.toInt64)
    (kk : ∀ (r : Int32) (w : va_W) (H1 : Heap) (locs1 : List Loc) (ls1 : Array Slot), P2 r w → va_P D CL w H1 → va_D A w → va_S A s.heap H1 locs1 → lv_has ls1 7 (hdl b x m o (i + 5)) → W p l e R s mi av below meth c H1 locs1 (cells + 1) (slots + 6) Q (F0 mi 23 ls1 [])) (ls : Array Slot) (hl : lv_has ls 7 (hdl b x m o i)) : W p l e R s mi av below meth c H locs cells slots Q (F0 mi 1343 ls []) := by
  obtain ⟨hx, hb, hml, hown, hts, hK, hXE, hNC, hX, hbl, hbA, hL, hRf, hRl⟩ := hC
  have hl : lv_has ls 7 [(4, .int (nI i)), (0, .ref b), (1, .ref x), (2, .ref m), (3, .ref o)] := hl
  refine lv_aload_n hx hb dL_law_1343 rfl (lv_at hl 2 rfl) ?_
  refine lw_arg hx hb hX hbl hbA hS hi (show 1 < 5 by decide) hL hl (k0 := 1) (k4 := 0) rfl rfl dL_law_1344 dL_law_1345 (fj := nI 1) rfl ci_1 dL_law_1347 dL_law_1348 dL_law_1349 ?_
  refine lv_aload_n hx hb dL_law_1350 rfl (lv_at hl 4 rfl) ?_
  refine wcS hW ⟨hx, hb, hml, hown, hts⟩ hK hXE hNC gL_law_L_orderAt rfl hd_L_orderAt ⟨by omega, by omega⟩ rfl hl.1 rfl (Nat.le_of_ble_eq_true rfl) dL_law_1351 ⟨by omega, by omega⟩ hS (fun r1 w1 H1 locs hp1 hP hD hS => ?_)
  obtain ⟨rfl, hp1⟩ := hp1
  refine lv_istore (lv' := [(5, .int (nI kc)), (4, .int (nI i)), (0, .ref b), (1, .ref x), (2, .ref m), (3, .ref o)]) hx hb dL_law_1354 hl (by decide) rfl (fun ls hl => ?_)
  refine lv_aload_n hx hb dL_law_1356 rfl (lv_at hl 4 rfl) ?_
  refine lw_arg hx hb hX hbl hbA hS hi (show 1 < 5 by decide) hL hl (k0 := 2) (k4 := 1) rfl rfl dL_law_1357 dL_law_1358 (fj := nI 1) rfl ci_1 dL_law_1360 dL_law_1361 dL_law_1362 ?_
  obtain ⟨⟨fs5, e19⟩, fr5, lo5, hfr5, hlo5, hM⟩ := h2 w1 H1 hp1 hP hD
  refine mcV hM ⟨hx, hb, hml, hown, hts⟩ hK gL_law_X5_orderAt rfl hd_X5_orderAt ⟨by omega, by omega⟩ (va_recv hK hP (ci := 5) (q0 := 19) rfl e19) rfl hl.1 rfl (Nat.le_of_ble_eq_true rfl) dL_law_1363 ⟨by omega, by omega⟩ hS (fun r2 w2 H2 locs hp2 hP hD hS => ?_)
  refine lv_istore (lv' := [(6, .int r2), (5, .int (nI kc)), (4, .int (nI i)), (0, .ref b), (1, .ref x), (2, .ref m), (3, .ref o)]) hx hb dL_law_1366 hl (by decide) rfl (fun ls hl => ?_)
  refine lv_aload_n hx hb dL_law_1368 rfl (lv_at hl 5 rfl) ?_
  obtain ⟨n9, T9, C9, Hd9, b9, q9, J9, bg9, pu9, bu9, cl9, mo9, K9, z1, z2, z3, z4, z5, hmd⟩ := ht r2 w2 hp2
  have e19 := hmd
  obtain ⟨m1, m2, m3, m4, m5, m6, m7, m8, m9, m10, g19, -⟩ := id hmd
  refine pcV (c_X5_thrown hP hmd) ⟨hx, hb, hml, hown, hts⟩ hK gL_law_X5_thrown rfl hd_X5_thrown ⟨by omega, by omega⟩ (va_recv hK hP (ci := 5) (q0 := 19) rfl g19) rfl hl.1 rfl (Nat.le_of_ble_eq_true rfl) dL_law_1369 ⟨by omega, by omega⟩ hS (fun locs hS => ?_)
  refine lv_iload hx hb dL_law_1372 (lv_at hl 1 rfl) ?_
  refine lv_icmp_eq (tgt := 1379) hx hb dL_law_1374 (by decide) (fun _ => ?_) (fun cz => absurd rfl cz)
  refine lv_iload hx hb dL_law_1379 (lv_at hl 1 rfl) ?_
  refine sn_if_ne (tgt := 1396) hx hb dL_law_1381 (by decide) (by omega) (fun cz => ?_) (fun cz => ?_)
  · refine lv_goto (tgt := 1701) hx hb dL_law_1396 (by decide) ?_
    refine lv_iinc (v := nI (i + 5)) hx hb dL_law_1701 hl (k := 2) rfl (nI_5 i) (by decide) rfl (fun ls hl => ?_)
    refine lv_goto (tgt := 23) hx hb dL_law_1704 (by decide) ?_
    exact kk _ w2 H2 locs ls hp2 hP hD hS (lv_sub hl [0, 3, 4, 5, 6] rfl)
  · have ho := hz r2 w2 hp2 cz
    obtain ⟨g9, eo, hg9⟩ := ho
    refine lv_aload_n hx hb dL_law_1384 rfl (lv_at hl 6 rfl) ?_
    refine lv_iconst (v := nI 0) hx hb dL_law_1385 ci_0 ?_
    refine sv_lald hx hb hK hP eo dL_law_1386 ?_
    rw [hg9]
    refine lv_iload hx hb dL_law_1387 (lv_at hl 0 rfl) ?_
    refine lv_i2l (v := r2.toInt64) hx hb dL_law_1389 rfl ?_
    refine W.lcmp hx hb dL_law_1390 ?_
    rw [lg_cmp_s]
    refine lv_if_eq (tgt := 1396) hx hb dL_law_1391 (by decide) (fun _ => ?_) (fun cz => absurd rfl cz)
    refine lv_goto (tgt := 1701) hx hb dL_law_1396 (by decide) ?_
    refine lv_iinc (v := nI (i + 5)) hx hb dL_law_1701 hl (k := 2) rfl (nI_5 i) (by decide) rfl (fun ls hl => ?_)
    refine lv_goto (tgt := 23) hx hb dL_law_1704 (by decide) ?_
    exact kk _ w2 H2 locs ls hp2 hP hD hS (lv_sub hl [0, 3, 4, 5, 6] rfl)
set_option maxHeartbeats 4000000 in
set_option maxRecDepth 100000 in
theorem lk_setJams {p : Program} {l : Launch} {e : Env} {R : Room} {s : State} {mi : MethodId} {av : Array Value} {below : List Frame} {meth : Method} {c : Code} {Q : State → Prop} {D : va_G} {ky : kT} {A : Nat → Prop} {b L : Nat} {xs : Nat → Int32} (hC : LC p s mi av c R D ky A b L xs) {ws : va_W} {H : Heap} {locs : List Loc} {cells slots : Nat} (hP : va_P D CL ws H) (hD : va_D A ws) (hS : va_S A s.heap H locs) (hc : cells + 1 ≤ R.cells) (hs : slots + 6 ≤ R.slots) {x m o i : Nat} (hi : i + 5 ≤ L) {P1 : va_W → Prop} {P2 : Int32 → va_W → Prop} {kc : Nat} (hkc : kc < 3) (hW : WU l yL_setJams wsL_setJams 8 125 D ky A H [.ref x, .int (xs (i + 1)), .int (xs (i + 2)), .ref o] (fun k w => k = nI kc ∧ P1 w)) (h2 : ∀ (w : va_W) (H1 : Heap), P1 w → va_P D CL w H1 → va_D A w → (∃ fs : List Value, w[19]? = some (m, .inr (5, fs))) ∧ ∃ fr lo : Nat, fr ≤ 1 ∧ lo ≤ 21 ∧ MU l yX5_setJams wsX5_setJams fr lo 0 0 D ky A H1 [.ref m, .int (xs (i + 1)), .int (xs (i + 2))] P2) (ht : ∀ r w, P2 r w → THR ky w m kc) (hz : ∀ r w, P2 r w → kc = 0 → ∃ g : Nat → Int64, isOut ky w o g ∧ g 0 = r.toInt64)
    (kk : ∀ (r : Int32) (w : va_W) (H1 : Heap) (locs1 : List Loc) (ls1 : Array Slot), P2 r w → va_P D CL w H1 → va_D A w → va_S A s.heap H1 locs1 → lv_has ls1 7 (hdl b x m o (i + 5)) → W p l e R s mi av below meth c H1 locs1 (cells + 1) (slots + 6) Q (F0 mi 23 ls1 [])) (ls : Array Slot) (hl : lv_has ls 7 (hdl b x m o i)) : W p l e R s mi av below meth c H locs cells slots Q (F0 mi 1399 ls []) := by
  obtain ⟨hx, hb, hml, hown, hts, hK, hXE, hNC, hX, hbl, hbA, hL, hRf, hRl⟩ := hC
  have hl : lv_has ls 7 [(4, .int (nI i)), (0, .ref b), (1, .ref x), (2, .ref m), (3, .ref o)] := hl
  refine lv_aload_n hx hb dL_law_1399 rfl (lv_at hl 2 rfl) ?_
  refine lw_arg hx hb hX hbl hbA hS hi (show 1 < 5 by decide) hL hl (k0 := 1) (k4 := 0) rfl rfl dL_law_1400 dL_law_1401 (fj := nI 1) rfl ci_1 dL_law_1403 dL_law_1404 dL_law_1405 ?_
  refine lw_arg hx hb hX hbl hbA hS hi (show 2 < 5 by decide) hL hl (k0 := 1) (k4 := 0) rfl rfl dL_law_1406 dL_law_1407 (fj := nI 2) rfl ci_2 dL_law_1409 dL_law_1410 dL_law_1411 ?_
  refine lv_aload_n hx hb dL_law_1412 rfl (lv_at hl 4 rfl) ?_
  refine wcS hW ⟨hx, hb, hml, hown, hts⟩ hK hXE hNC gL_law_L_setJams rfl hd_L_setJams ⟨by omega, by omega⟩ rfl hl.1 rfl (Nat.le_of_ble_eq_true rfl) dL_law_1413 ⟨by omega, by omega⟩ hS (fun r1 w1 H1 locs hp1 hP hD hS => ?_)
  obtain ⟨rfl, hp1⟩ := hp1
  refine lv_istore (lv' := [(5, .int (nI kc)), (4, .int (nI i)), (0, .ref b), (1, .ref x), (2, .ref m), (3, .ref o)]) hx hb dL_law_1416 hl (by decide) rfl (fun ls hl => ?_)
  refine lv_aload_n hx hb dL_law_1418 rfl (lv_at hl 4 rfl) ?_
  refine lw_arg hx hb hX hbl hbA hS hi (show 1 < 5 by decide) hL hl (k0 := 2) (k4 := 1) rfl rfl dL_law_1419 dL_law_1420 (fj := nI 1) rfl ci_1 dL_law_1422 dL_law_1423 dL_law_1424 ?_
  refine lw_arg hx hb hX hbl hbA hS hi (show 2 < 5 by decide) hL hl (k0 := 2) (k4 := 1) rfl rfl dL_law_1425 dL_law_1426 (fj := nI 2) rfl ci_2 dL_law_1428 dL_law_1429 dL_law_1430 ?_
  obtain ⟨⟨fs5, e19⟩, fr5, lo5, hfr5, hlo5, hM⟩ := h2 w1 H1 hp1 hP hD
  refine mcV hM ⟨hx, hb, hml, hown, hts⟩ hK gL_law_X5_setJams rfl hd_X5_setJams ⟨by omega, by omega⟩ (va_recv hK hP (ci := 5) (q0 := 19) rfl e19) rfl hl.1 rfl (Nat.le_of_ble_eq_true rfl) dL_law_1431 ⟨by omega, by omega⟩ hS (fun r2 w2 H2 locs hp2 hP hD hS => ?_)
  refine lv_istore (lv' := [(6, .int r2), (5, .int (nI kc)), (4, .int (nI i)), (0, .ref b), (1, .ref x), (2, .ref m), (3, .ref o)]) hx hb dL_law_1434 hl (by decide) rfl (fun ls hl => ?_)
  refine lv_aload_n hx hb dL_law_1436 rfl (lv_at hl 5 rfl) ?_
  obtain ⟨n9, T9, C9, Hd9, b9, q9, J9, bg9, pu9, bu9, cl9, mo9, K9, z1, z2, z3, z4, z5, hmd⟩ := ht r2 w2 hp2
  have e19 := hmd
  obtain ⟨m1, m2, m3, m4, m5, m6, m7, m8, m9, m10, g19, -⟩ := id hmd
  refine pcV (c_X5_thrown hP hmd) ⟨hx, hb, hml, hown, hts⟩ hK gL_law_X5_thrown rfl hd_X5_thrown ⟨by omega, by omega⟩ (va_recv hK hP (ci := 5) (q0 := 19) rfl g19) rfl hl.1 rfl (Nat.le_of_ble_eq_true rfl) dL_law_1437 ⟨by omega, by omega⟩ hS (fun locs hS => ?_)
  refine lv_iload hx hb dL_law_1440 (lv_at hl 1 rfl) ?_
  refine lv_icmp_eq (tgt := 1447) hx hb dL_law_1442 (by decide) (fun _ => ?_) (fun cz => absurd rfl cz)
  refine lv_iload hx hb dL_law_1447 (lv_at hl 1 rfl) ?_
  refine sn_if_ne (tgt := 1464) hx hb dL_law_1449 (by decide) (by omega) (fun cz => ?_) (fun cz => ?_)
  · refine lv_goto (tgt := 1701) hx hb dL_law_1464 (by decide) ?_
    refine lv_iinc (v := nI (i + 5)) hx hb dL_law_1701 hl (k := 2) rfl (nI_5 i) (by decide) rfl (fun ls hl => ?_)
    refine lv_goto (tgt := 23) hx hb dL_law_1704 (by decide) ?_
    exact kk _ w2 H2 locs ls hp2 hP hD hS (lv_sub hl [0, 3, 4, 5, 6] rfl)
  · have ho := hz r2 w2 hp2 cz
    obtain ⟨g9, eo, hg9⟩ := ho
    refine lv_aload_n hx hb dL_law_1452 rfl (lv_at hl 6 rfl) ?_
    refine lv_iconst (v := nI 0) hx hb dL_law_1453 ci_0 ?_
    refine sv_lald hx hb hK hP eo dL_law_1454 ?_
    rw [hg9]
    refine lv_iload hx hb dL_law_1455 (lv_at hl 0 rfl) ?_
    refine lv_i2l (v := r2.toInt64) hx hb dL_law_1457 rfl ?_
    refine W.lcmp hx hb dL_law_1458 ?_
    rw [lg_cmp_s]
    refine lv_if_eq (tgt := 1464) hx hb dL_law_1459 (by decide) (fun _ => ?_) (fun cz => absurd rfl cz)
    refine lv_goto (tgt := 1701) hx hb dL_law_1464 (by decide) ?_
    refine lv_iinc (v := nI (i + 5)) hx hb dL_law_1701 hl (k := 2) rfl (nI_5 i) (by decide) rfl (fun ls hl => ?_)
    refine lv_goto (tgt := 23) hx hb dL_law_1704 (by decide) ?_
    exact kk _ w2 H2 locs ls hp2 hP hD hS (lv_sub hl [0, 3, 4, 5, 6] rfl)
set_option maxHeartbeats 4000000 in
set_option maxRecDepth 100000 in
theorem lk_begin {p : Program} {l : Launch} {e : Env} {R : Room} {s : State} {mi : MethodId} {av : Array Value} {below : List Frame} {meth : Method} {c : Code} {Q : State → Prop} {D : va_G} {ky : kT} {A : Nat → Prop} {b L : Nat} {xs : Nat → Int32} (hC : LC p s mi av c R D ky A b L xs) {ws : va_W} {H : Heap} {locs : List Loc} {cells slots : Nat} (hP : va_P D CL ws H) (hD : va_D A ws) (hS : va_S A s.heap H locs) (hc : cells + 1 ≤ R.cells) (hs : slots + 6 ≤ R.slots) {x m o i : Nat} (hi : i + 5 ≤ L) {P1 : va_W → Prop} {P2 : Int32 → va_W → Prop} {kc : Nat} (hkc : kc < 3) (hW : WU l yL_begin wsL_begin 8 156 D ky A H [.ref x, .ref o] (fun k w => k = nI kc ∧ P1 w)) (h2 : ∀ (w : va_W) (H1 : Heap), P1 w → va_P D CL w H1 → va_D A w → (∃ fs : List Value, w[19]? = some (m, .inr (5, fs))) ∧ ∃ fr lo : Nat, fr ≤ 6 ∧ lo ≤ 143 ∧ MU l yX5_begin wsX5_begin fr lo 0 0 D ky A H1 [.ref m] P2) (ht : ∀ r w, P2 r w → THR ky w m kc) (hz : ∀ r w, P2 r w → kc = 0 → ∃ g : Nat → Int64, isOut ky w o g ∧ g 0 = r.toInt64)
    (kk : ∀ (r : Int32) (w : va_W) (H1 : Heap) (locs1 : List Loc) (ls1 : Array Slot), P2 r w → va_P D CL w H1 → va_D A w → va_S A s.heap H1 locs1 → lv_has ls1 7 (hdl b x m o (i + 5)) → W p l e R s mi av below meth c H1 locs1 (cells + 1) (slots + 6) Q (F0 mi 23 ls1 [])) (ls : Array Slot) (hl : lv_has ls 7 (hdl b x m o i)) : W p l e R s mi av below meth c H locs cells slots Q (F0 mi 1467 ls []) := by
  obtain ⟨hx, hb, hml, hown, hts, hK, hXE, hNC, hX, hbl, hbA, hL, hRf, hRl⟩ := hC
  have hl : lv_has ls 7 [(4, .int (nI i)), (0, .ref b), (1, .ref x), (2, .ref m), (3, .ref o)] := hl
  refine lv_aload_n hx hb dL_law_1467 rfl (lv_at hl 2 rfl) ?_
  refine lv_aload_n hx hb dL_law_1468 rfl (lv_at hl 4 rfl) ?_
  refine wcS hW ⟨hx, hb, hml, hown, hts⟩ hK hXE hNC gL_law_L_begin rfl hd_L_begin ⟨by omega, by omega⟩ rfl hl.1 rfl (Nat.le_of_ble_eq_true rfl) dL_law_1469 ⟨by omega, by omega⟩ hS (fun r1 w1 H1 locs hp1 hP hD hS => ?_)
  obtain ⟨rfl, hp1⟩ := hp1
  refine lv_istore (lv' := [(5, .int (nI kc)), (4, .int (nI i)), (0, .ref b), (1, .ref x), (2, .ref m), (3, .ref o)]) hx hb dL_law_1472 hl (by decide) rfl (fun ls hl => ?_)
  refine lv_aload_n hx hb dL_law_1474 rfl (lv_at hl 4 rfl) ?_
  obtain ⟨⟨fs5, e19⟩, fr5, lo5, hfr5, hlo5, hM⟩ := h2 w1 H1 hp1 hP hD
  refine mcV hM ⟨hx, hb, hml, hown, hts⟩ hK gL_law_X5_begin rfl hd_X5_begin ⟨by omega, by omega⟩ (va_recv hK hP (ci := 5) (q0 := 19) rfl e19) rfl hl.1 rfl (Nat.le_of_ble_eq_true rfl) dL_law_1475 ⟨by omega, by omega⟩ hS (fun r2 w2 H2 locs hp2 hP hD hS => ?_)
  refine lv_istore (lv' := [(6, .int r2), (5, .int (nI kc)), (4, .int (nI i)), (0, .ref b), (1, .ref x), (2, .ref m), (3, .ref o)]) hx hb dL_law_1478 hl (by decide) rfl (fun ls hl => ?_)
  refine lv_aload_n hx hb dL_law_1480 rfl (lv_at hl 5 rfl) ?_
  obtain ⟨n9, T9, C9, Hd9, b9, q9, J9, bg9, pu9, bu9, cl9, mo9, K9, z1, z2, z3, z4, z5, hmd⟩ := ht r2 w2 hp2
  have e19 := hmd
  obtain ⟨m1, m2, m3, m4, m5, m6, m7, m8, m9, m10, g19, -⟩ := id hmd
  refine pcV (c_X5_thrown hP hmd) ⟨hx, hb, hml, hown, hts⟩ hK gL_law_X5_thrown rfl hd_X5_thrown ⟨by omega, by omega⟩ (va_recv hK hP (ci := 5) (q0 := 19) rfl g19) rfl hl.1 rfl (Nat.le_of_ble_eq_true rfl) dL_law_1481 ⟨by omega, by omega⟩ hS (fun locs hS => ?_)
  refine lv_iload hx hb dL_law_1484 (lv_at hl 1 rfl) ?_
  refine lv_icmp_eq (tgt := 1491) hx hb dL_law_1486 (by decide) (fun _ => ?_) (fun cz => absurd rfl cz)
  refine lv_iload hx hb dL_law_1491 (lv_at hl 1 rfl) ?_
  refine sn_if_ne (tgt := 1508) hx hb dL_law_1493 (by decide) (by omega) (fun cz => ?_) (fun cz => ?_)
  · refine lv_goto (tgt := 1701) hx hb dL_law_1508 (by decide) ?_
    refine lv_iinc (v := nI (i + 5)) hx hb dL_law_1701 hl (k := 2) rfl (nI_5 i) (by decide) rfl (fun ls hl => ?_)
    refine lv_goto (tgt := 23) hx hb dL_law_1704 (by decide) ?_
    exact kk _ w2 H2 locs ls hp2 hP hD hS (lv_sub hl [0, 3, 4, 5, 6] rfl)
  · have ho := hz r2 w2 hp2 cz
    obtain ⟨g9, eo, hg9⟩ := ho
    refine lv_aload_n hx hb dL_law_1496 rfl (lv_at hl 6 rfl) ?_
    refine lv_iconst (v := nI 0) hx hb dL_law_1497 ci_0 ?_
    refine sv_lald hx hb hK hP eo dL_law_1498 ?_
    rw [hg9]
    refine lv_iload hx hb dL_law_1499 (lv_at hl 0 rfl) ?_
    refine lv_i2l (v := r2.toInt64) hx hb dL_law_1501 rfl ?_
    refine W.lcmp hx hb dL_law_1502 ?_
    rw [lg_cmp_s]
    refine lv_if_eq (tgt := 1508) hx hb dL_law_1503 (by decide) (fun _ => ?_) (fun cz => absurd rfl cz)
    refine lv_goto (tgt := 1701) hx hb dL_law_1508 (by decide) ?_
    refine lv_iinc (v := nI (i + 5)) hx hb dL_law_1701 hl (k := 2) rfl (nI_5 i) (by decide) rfl (fun ls hl => ?_)
    refine lv_goto (tgt := 23) hx hb dL_law_1704 (by decide) ?_
    exact kk _ w2 H2 locs ls hp2 hP hD hS (lv_sub hl [0, 3, 4, 5, 6] rfl)
set_option maxHeartbeats 4000000 in
set_option maxRecDepth 100000 in
theorem lk_step {p : Program} {l : Launch} {e : Env} {R : Room} {s : State} {mi : MethodId} {av : Array Value} {below : List Frame} {meth : Method} {c : Code} {Q : State → Prop} {D : va_G} {ky : kT} {A : Nat → Prop} {b L : Nat} {xs : Nat → Int32} (hC : LC p s mi av c R D ky A b L xs) {ws : va_W} {H : Heap} {locs : List Loc} {cells slots : Nat} (hP : va_P D CL ws H) (hD : va_D A ws) (hS : va_S A s.heap H locs) (hc : cells + 1 ≤ R.cells) (hs : slots + 6 ≤ R.slots) {x m o i : Nat} (hi : i + 5 ≤ L) {P1 : va_W → Prop} {P2 : Int32 → va_W → Prop} {kc : Nat} (hkc : kc < 3) (hW : WU l yL_step wsL_step 7 158 D ky A H [.ref x, .ref o] (fun k w => k = nI kc ∧ P1 w)) (h2 : ∀ (w : va_W) (H1 : Heap), P1 w → va_P D CL w H1 → va_D A w → (∃ fs : List Value, w[19]? = some (m, .inr (5, fs))) ∧ ∃ fr lo : Nat, fr ≤ 6 ∧ lo ≤ 143 ∧ MU l yX5_step wsX5_step fr lo 0 0 D ky A H1 [.ref m] P2) (ht : ∀ r w, P2 r w → THR ky w m kc) (hz : ∀ r w, P2 r w → kc = 0 → ∃ g : Nat → Int64, isOut ky w o g ∧ g 0 = r.toInt64)
    (kk : ∀ (r : Int32) (w : va_W) (H1 : Heap) (locs1 : List Loc) (ls1 : Array Slot), P2 r w → va_P D CL w H1 → va_D A w → va_S A s.heap H1 locs1 → lv_has ls1 7 (hdl b x m o (i + 5)) → W p l e R s mi av below meth c H1 locs1 (cells + 1) (slots + 6) Q (F0 mi 23 ls1 [])) (ls : Array Slot) (hl : lv_has ls 7 (hdl b x m o i)) : W p l e R s mi av below meth c H locs cells slots Q (F0 mi 1511 ls []) := by
  obtain ⟨hx, hb, hml, hown, hts, hK, hXE, hNC, hX, hbl, hbA, hL, hRf, hRl⟩ := hC
  have hl : lv_has ls 7 [(4, .int (nI i)), (0, .ref b), (1, .ref x), (2, .ref m), (3, .ref o)] := hl
  refine lv_aload_n hx hb dL_law_1511 rfl (lv_at hl 2 rfl) ?_
  refine lv_aload_n hx hb dL_law_1512 rfl (lv_at hl 4 rfl) ?_
  refine wcS hW ⟨hx, hb, hml, hown, hts⟩ hK hXE hNC gL_law_L_step rfl hd_L_step ⟨by omega, by omega⟩ rfl hl.1 rfl (Nat.le_of_ble_eq_true rfl) dL_law_1513 ⟨by omega, by omega⟩ hS (fun r1 w1 H1 locs hp1 hP hD hS => ?_)
  obtain ⟨rfl, hp1⟩ := hp1
  refine lv_istore (lv' := [(5, .int (nI kc)), (4, .int (nI i)), (0, .ref b), (1, .ref x), (2, .ref m), (3, .ref o)]) hx hb dL_law_1516 hl (by decide) rfl (fun ls hl => ?_)
  refine lv_aload_n hx hb dL_law_1518 rfl (lv_at hl 4 rfl) ?_
  obtain ⟨⟨fs5, e19⟩, fr5, lo5, hfr5, hlo5, hM⟩ := h2 w1 H1 hp1 hP hD
  refine mcV hM ⟨hx, hb, hml, hown, hts⟩ hK gL_law_X5_step rfl hd_X5_step ⟨by omega, by omega⟩ (va_recv hK hP (ci := 5) (q0 := 19) rfl e19) rfl hl.1 rfl (Nat.le_of_ble_eq_true rfl) dL_law_1519 ⟨by omega, by omega⟩ hS (fun r2 w2 H2 locs hp2 hP hD hS => ?_)
  refine lv_istore (lv' := [(6, .int r2), (5, .int (nI kc)), (4, .int (nI i)), (0, .ref b), (1, .ref x), (2, .ref m), (3, .ref o)]) hx hb dL_law_1522 hl (by decide) rfl (fun ls hl => ?_)
  refine lv_aload_n hx hb dL_law_1524 rfl (lv_at hl 5 rfl) ?_
  obtain ⟨n9, T9, C9, Hd9, b9, q9, J9, bg9, pu9, bu9, cl9, mo9, K9, z1, z2, z3, z4, z5, hmd⟩ := ht r2 w2 hp2
  have e19 := hmd
  obtain ⟨m1, m2, m3, m4, m5, m6, m7, m8, m9, m10, g19, -⟩ := id hmd
  refine pcV (c_X5_thrown hP hmd) ⟨hx, hb, hml, hown, hts⟩ hK gL_law_X5_thrown rfl hd_X5_thrown ⟨by omega, by omega⟩ (va_recv hK hP (ci := 5) (q0 := 19) rfl g19) rfl hl.1 rfl (Nat.le_of_ble_eq_true rfl) dL_law_1525 ⟨by omega, by omega⟩ hS (fun locs hS => ?_)
  refine lv_iload hx hb dL_law_1528 (lv_at hl 1 rfl) ?_
  refine lv_icmp_eq (tgt := 1535) hx hb dL_law_1530 (by decide) (fun _ => ?_) (fun cz => absurd rfl cz)
  refine lv_iload hx hb dL_law_1535 (lv_at hl 1 rfl) ?_
  refine sn_if_ne (tgt := 1552) hx hb dL_law_1537 (by decide) (by omega) (fun cz => ?_) (fun cz => ?_)
  · refine lv_goto (tgt := 1701) hx hb dL_law_1552 (by decide) ?_
    refine lv_iinc (v := nI (i + 5)) hx hb dL_law_1701 hl (k := 2) rfl (nI_5 i) (by decide) rfl (fun ls hl => ?_)
    refine lv_goto (tgt := 23) hx hb dL_law_1704 (by decide) ?_
    exact kk _ w2 H2 locs ls hp2 hP hD hS (lv_sub hl [0, 3, 4, 5, 6] rfl)
  · have ho := hz r2 w2 hp2 cz
    obtain ⟨g9, eo, hg9⟩ := ho
    refine lv_aload_n hx hb dL_law_1540 rfl (lv_at hl 6 rfl) ?_
    refine lv_iconst (v := nI 0) hx hb dL_law_1541 ci_0 ?_
    refine sv_lald hx hb hK hP eo dL_law_1542 ?_
    rw [hg9]
    refine lv_iload hx hb dL_law_1543 (lv_at hl 0 rfl) ?_
    refine lv_i2l (v := r2.toInt64) hx hb dL_law_1545 rfl ?_
    refine W.lcmp hx hb dL_law_1546 ?_
    rw [lg_cmp_s]
    refine lv_if_eq (tgt := 1552) hx hb dL_law_1547 (by decide) (fun _ => ?_) (fun cz => absurd rfl cz)
    refine lv_goto (tgt := 1701) hx hb dL_law_1552 (by decide) ?_
    refine lv_iinc (v := nI (i + 5)) hx hb dL_law_1701 hl (k := 2) rfl (nI_5 i) (by decide) rfl (fun ls hl => ?_)
    refine lv_goto (tgt := 23) hx hb dL_law_1704 (by decide) ?_
    exact kk _ w2 H2 locs ls hp2 hP hD hS (lv_sub hl [0, 3, 4, 5, 6] rfl)
set_option maxHeartbeats 4000000 in
set_option maxRecDepth 100000 in
theorem lk_stepBack {p : Program} {l : Launch} {e : Env} {R : Room} {s : State} {mi : MethodId} {av : Array Value} {below : List Frame} {meth : Method} {c : Code} {Q : State → Prop} {D : va_G} {ky : kT} {A : Nat → Prop} {b L : Nat} {xs : Nat → Int32} (hC : LC p s mi av c R D ky A b L xs) {ws : va_W} {H : Heap} {locs : List Loc} {cells slots : Nat} (hP : va_P D CL ws H) (hD : va_D A ws) (hS : va_S A s.heap H locs) (hc : cells + 1 ≤ R.cells) (hs : slots + 6 ≤ R.slots) {x m o i : Nat} (hi : i + 5 ≤ L) {P1 : va_W → Prop} {P2 : Int32 → va_W → Prop} {kc : Nat} (hkc : kc < 3) (hW : WU l yL_stepBack wsL_stepBack 7 158 D ky A H [.ref x, .ref o] (fun k w => k = nI kc ∧ P1 w)) (h2 : ∀ (w : va_W) (H1 : Heap), P1 w → va_P D CL w H1 → va_D A w → (∃ fs : List Value, w[19]? = some (m, .inr (5, fs))) ∧ ∃ fr lo : Nat, fr ≤ 6 ∧ lo ≤ 143 ∧ MU l yX5_stepBack wsX5_stepBack fr lo 0 0 D ky A H1 [.ref m] P2) (ht : ∀ r w, P2 r w → THR ky w m kc) (hz : ∀ r w, P2 r w → kc = 0 → ∃ g : Nat → Int64, isOut ky w o g ∧ g 0 = r.toInt64)
    (kk : ∀ (r : Int32) (w : va_W) (H1 : Heap) (locs1 : List Loc) (ls1 : Array Slot), P2 r w → va_P D CL w H1 → va_D A w → va_S A s.heap H1 locs1 → lv_has ls1 7 (hdl b x m o (i + 5)) → W p l e R s mi av below meth c H1 locs1 (cells + 1) (slots + 6) Q (F0 mi 23 ls1 [])) (ls : Array Slot) (hl : lv_has ls 7 (hdl b x m o i)) : W p l e R s mi av below meth c H locs cells slots Q (F0 mi 1555 ls []) := by
  obtain ⟨hx, hb, hml, hown, hts, hK, hXE, hNC, hX, hbl, hbA, hL, hRf, hRl⟩ := hC
  have hl : lv_has ls 7 [(4, .int (nI i)), (0, .ref b), (1, .ref x), (2, .ref m), (3, .ref o)] := hl
  refine lv_aload_n hx hb dL_law_1555 rfl (lv_at hl 2 rfl) ?_
  refine lv_aload_n hx hb dL_law_1556 rfl (lv_at hl 4 rfl) ?_
  refine wcS hW ⟨hx, hb, hml, hown, hts⟩ hK hXE hNC gL_law_L_stepBack rfl hd_L_stepBack ⟨by omega, by omega⟩ rfl hl.1 rfl (Nat.le_of_ble_eq_true rfl) dL_law_1557 ⟨by omega, by omega⟩ hS (fun r1 w1 H1 locs hp1 hP hD hS => ?_)
  obtain ⟨rfl, hp1⟩ := hp1
  refine lv_istore (lv' := [(5, .int (nI kc)), (4, .int (nI i)), (0, .ref b), (1, .ref x), (2, .ref m), (3, .ref o)]) hx hb dL_law_1560 hl (by decide) rfl (fun ls hl => ?_)
  refine lv_aload_n hx hb dL_law_1562 rfl (lv_at hl 4 rfl) ?_
  obtain ⟨⟨fs5, e19⟩, fr5, lo5, hfr5, hlo5, hM⟩ := h2 w1 H1 hp1 hP hD
  refine mcV hM ⟨hx, hb, hml, hown, hts⟩ hK gL_law_X5_stepBack rfl hd_X5_stepBack ⟨by omega, by omega⟩ (va_recv hK hP (ci := 5) (q0 := 19) rfl e19) rfl hl.1 rfl (Nat.le_of_ble_eq_true rfl) dL_law_1563 ⟨by omega, by omega⟩ hS (fun r2 w2 H2 locs hp2 hP hD hS => ?_)
  refine lv_istore (lv' := [(6, .int r2), (5, .int (nI kc)), (4, .int (nI i)), (0, .ref b), (1, .ref x), (2, .ref m), (3, .ref o)]) hx hb dL_law_1566 hl (by decide) rfl (fun ls hl => ?_)
  refine lv_aload_n hx hb dL_law_1568 rfl (lv_at hl 5 rfl) ?_
  obtain ⟨n9, T9, C9, Hd9, b9, q9, J9, bg9, pu9, bu9, cl9, mo9, K9, z1, z2, z3, z4, z5, hmd⟩ := ht r2 w2 hp2
  have e19 := hmd
  obtain ⟨m1, m2, m3, m4, m5, m6, m7, m8, m9, m10, g19, -⟩ := id hmd
  refine pcV (c_X5_thrown hP hmd) ⟨hx, hb, hml, hown, hts⟩ hK gL_law_X5_thrown rfl hd_X5_thrown ⟨by omega, by omega⟩ (va_recv hK hP (ci := 5) (q0 := 19) rfl g19) rfl hl.1 rfl (Nat.le_of_ble_eq_true rfl) dL_law_1569 ⟨by omega, by omega⟩ hS (fun locs hS => ?_)
  refine lv_iload hx hb dL_law_1572 (lv_at hl 1 rfl) ?_
  refine lv_icmp_eq (tgt := 1579) hx hb dL_law_1574 (by decide) (fun _ => ?_) (fun cz => absurd rfl cz)
  refine lv_iload hx hb dL_law_1579 (lv_at hl 1 rfl) ?_
  refine sn_if_ne (tgt := 1596) hx hb dL_law_1581 (by decide) (by omega) (fun cz => ?_) (fun cz => ?_)
  · refine lv_goto (tgt := 1701) hx hb dL_law_1596 (by decide) ?_
    refine lv_iinc (v := nI (i + 5)) hx hb dL_law_1701 hl (k := 2) rfl (nI_5 i) (by decide) rfl (fun ls hl => ?_)
    refine lv_goto (tgt := 23) hx hb dL_law_1704 (by decide) ?_
    exact kk _ w2 H2 locs ls hp2 hP hD hS (lv_sub hl [0, 3, 4, 5, 6] rfl)
  · have ho := hz r2 w2 hp2 cz
    obtain ⟨g9, eo, hg9⟩ := ho
    refine lv_aload_n hx hb dL_law_1584 rfl (lv_at hl 6 rfl) ?_
    refine lv_iconst (v := nI 0) hx hb dL_law_1585 ci_0 ?_
    refine sv_lald hx hb hK hP eo dL_law_1586 ?_
    rw [hg9]
    refine lv_iload hx hb dL_law_1587 (lv_at hl 0 rfl) ?_
    refine lv_i2l (v := r2.toInt64) hx hb dL_law_1589 rfl ?_
    refine W.lcmp hx hb dL_law_1590 ?_
    rw [lg_cmp_s]
    refine lv_if_eq (tgt := 1596) hx hb dL_law_1591 (by decide) (fun _ => ?_) (fun cz => absurd rfl cz)
    refine lv_goto (tgt := 1701) hx hb dL_law_1596 (by decide) ?_
    refine lv_iinc (v := nI (i + 5)) hx hb dL_law_1701 hl (k := 2) rfl (nI_5 i) (by decide) rfl (fun ls hl => ?_)
    refine lv_goto (tgt := 23) hx hb dL_law_1704 (by decide) ?_
    exact kk _ w2 H2 locs ls hp2 hP hD hS (lv_sub hl [0, 3, 4, 5, 6] rfl)
set_option maxHeartbeats 4000000 in
set_option maxRecDepth 100000 in
theorem lk_built {p : Program} {l : Launch} {e : Env} {R : Room} {s : State} {mi : MethodId} {av : Array Value} {below : List Frame} {meth : Method} {c : Code} {Q : State → Prop} {D : va_G} {ky : kT} {A : Nat → Prop} {b L : Nat} {xs : Nat → Int32} (hC : LC p s mi av c R D ky A b L xs) {ws : va_W} {H : Heap} {locs : List Loc} {cells slots : Nat} (hP : va_P D CL ws H) (hD : va_D A ws) (hS : va_S A s.heap H locs) (hc : cells + 0 ≤ R.cells) (hs : slots + 0 ≤ R.slots) {x m o i : Nat} (hi : i + 5 ≤ L) {P1 : va_W → Prop} {P2 : Int32 → va_W → Prop} {fs0 : List Value} (e0 : ws[0]? = some (x, .inr (4, fs0))) {v9 : Int32} {fr0 lo0 : Nat} (hf0 : fr0 ≤ 1) (hl0 : lo0 ≤ 20) (hW : MU l yX4_built wsX4_built fr0 lo0 0 0 D ky A H [.ref x] (fun r w => r = v9 ∧ P1 w)) (h2 : ∀ (w : va_W) (H1 : Heap), P1 w → va_P D CL w H1 → va_D A w → (∃ fs : List Value, w[19]? = some (m, .inr (5, fs))) ∧ ∃ fr lo : Nat, fr ≤ 0 ∧ lo ≤ 0 ∧ MU l yX5_built wsX5_built fr lo 0 0 D ky A H1 [.ref m] P2) (hv : ∀ r w, P2 r w → r = v9)
    (kk : ∀ (r : Int32) (w : va_W) (H1 : Heap) (locs1 : List Loc) (ls1 : Array Slot), P2 r w → va_P D CL w H1 → va_D A w → va_S A s.heap H1 locs1 → lv_has ls1 7 (hdl b x m o (i + 5)) → W p l e R s mi av below meth c H1 locs1 cells slots Q (F0 mi 23 ls1 [])) (ls : Array Slot) (hl : lv_has ls 7 (hdl b x m o i)) : W p l e R s mi av below meth c H locs cells slots Q (F0 mi 1599 ls []) := by
  obtain ⟨hx, hb, hml, hown, hts, hK, hXE, hNC, hX, hbl, hbA, hL, hRf, hRl⟩ := hC
  have hl : lv_has ls 7 [(4, .int (nI i)), (0, .ref b), (1, .ref x), (2, .ref m), (3, .ref o)] := hl
  refine lv_aload_n hx hb dL_law_1599 rfl (lv_at hl 2 rfl) ?_
  refine mcV hW ⟨hx, hb, hml, hown, hts⟩ hK gL_law_X4_built rfl hd_X4_built ⟨by omega, by omega⟩ (va_recv hK hP (ci := 4) (q0 := 0) rfl e0) rfl hl.1 rfl (Nat.le_of_ble_eq_true rfl) dL_law_1600 ⟨by omega, by omega⟩ hS (fun r1 w1 H1 locs hp1 hP hD hS => ?_)
  obtain ⟨rfl, hp1⟩ := hp1
  refine lv_aload_n hx hb dL_law_1603 rfl (lv_at hl 3 rfl) ?_
  obtain ⟨⟨fs5, e19⟩, fr5, lo5, hfr5, hlo5, hM⟩ := h2 w1 H1 hp1 hP hD
  refine mcV hM ⟨hx, hb, hml, hown, hts⟩ hK gL_law_X5_built rfl hd_X5_built ⟨by omega, by omega⟩ (va_recv hK hP (ci := 5) (q0 := 19) rfl e19) rfl hl.1 rfl (Nat.le_of_ble_eq_true rfl) dL_law_1604 ⟨by omega, by omega⟩ hS (fun r2 w2 H2 locs hp2 hP hD hS => ?_)
  obtain rfl := hv r2 w2 hp2
  refine lv_icmp_eq (tgt := 1701) hx hb dL_law_1607 (by decide) (fun _ => ?_) (fun cz => absurd rfl cz)
  refine lv_iinc (v := nI (i + 5)) hx hb dL_law_1701 hl (k := 0) rfl (nI_5 i) (by decide) rfl (fun ls hl => ?_)
  refine lv_goto (tgt := 23) hx hb dL_law_1704 (by decide) ?_
  exact kk _ w2 H2 locs ls hp2 hP hD hS (lv_sub hl [0, 1, 2, 3, 4] rfl)
set_option maxHeartbeats 4000000 in
set_option maxRecDepth 100000 in
theorem lk_clock {p : Program} {l : Launch} {e : Env} {R : Room} {s : State} {mi : MethodId} {av : Array Value} {below : List Frame} {meth : Method} {c : Code} {Q : State → Prop} {D : va_G} {ky : kT} {A : Nat → Prop} {b L : Nat} {xs : Nat → Int32} (hC : LC p s mi av c R D ky A b L xs) {ws : va_W} {H : Heap} {locs : List Loc} {cells slots : Nat} (hP : va_P D CL ws H) (hD : va_D A ws) (hS : va_S A s.heap H locs) (hc : cells + 0 ≤ R.cells) (hs : slots + 0 ≤ R.slots) {x m o i : Nat} (hi : i + 5 ≤ L) {P1 : va_W → Prop} {P2 : Int32 → va_W → Prop} {fs0 : List Value} (e0 : ws[0]? = some (x, .inr (4, fs0))) {v9 : Int32} {fr0 lo0 : Nat} (hf0 : fr0 ≤ 1) (hl0 : lo0 ≤ 20) (hW : MU l yX4_clock wsX4_clock fr0 lo0 0 0 D ky A H [.ref x] (fun r w => r = v9 ∧ P1 w)) (h2 : ∀ (w : va_W) (H1 : Heap), P1 w → va_P D CL w H1 → va_D A w → (∃ fs : List Value, w[19]? = some (m, .inr (5, fs))) ∧ ∃ fr lo : Nat, fr ≤ 0 ∧ lo ≤ 0 ∧ MU l yX5_clock wsX5_clock fr lo 0 0 D ky A H1 [.ref m] P2) (hv : ∀ r w, P2 r w → r = v9)
    (kk : ∀ (r : Int32) (w : va_W) (H1 : Heap) (locs1 : List Loc) (ls1 : Array Slot), P2 r w → va_P D CL w H1 → va_D A w → va_S A s.heap H1 locs1 → lv_has ls1 7 (hdl b x m o (i + 5)) → W p l e R s mi av below meth c H1 locs1 cells slots Q (F0 mi 23 ls1 [])) (ls : Array Slot) (hl : lv_has ls 7 (hdl b x m o i)) : W p l e R s mi av below meth c H locs cells slots Q (F0 mi 1612 ls []) := by
  obtain ⟨hx, hb, hml, hown, hts, hK, hXE, hNC, hX, hbl, hbA, hL, hRf, hRl⟩ := hC
  have hl : lv_has ls 7 [(4, .int (nI i)), (0, .ref b), (1, .ref x), (2, .ref m), (3, .ref o)] := hl
  refine lv_aload_n hx hb dL_law_1612 rfl (lv_at hl 2 rfl) ?_
  refine mcV hW ⟨hx, hb, hml, hown, hts⟩ hK gL_law_X4_clock rfl hd_X4_clock ⟨by omega, by omega⟩ (va_recv hK hP (ci := 4) (q0 := 0) rfl e0) rfl hl.1 rfl (Nat.le_of_ble_eq_true rfl) dL_law_1613 ⟨by omega, by omega⟩ hS (fun r1 w1 H1 locs hp1 hP hD hS => ?_)
  obtain ⟨rfl, hp1⟩ := hp1
  refine lv_aload_n hx hb dL_law_1616 rfl (lv_at hl 3 rfl) ?_
  obtain ⟨⟨fs5, e19⟩, fr5, lo5, hfr5, hlo5, hM⟩ := h2 w1 H1 hp1 hP hD
  refine mcV hM ⟨hx, hb, hml, hown, hts⟩ hK gL_law_X5_clock rfl hd_X5_clock ⟨by omega, by omega⟩ (va_recv hK hP (ci := 5) (q0 := 19) rfl e19) rfl hl.1 rfl (Nat.le_of_ble_eq_true rfl) dL_law_1617 ⟨by omega, by omega⟩ hS (fun r2 w2 H2 locs hp2 hP hD hS => ?_)
  obtain rfl := hv r2 w2 hp2
  refine lv_icmp_eq (tgt := 1701) hx hb dL_law_1620 (by decide) (fun _ => ?_) (fun cz => absurd rfl cz)
  refine lv_iinc (v := nI (i + 5)) hx hb dL_law_1701 hl (k := 0) rfl (nI_5 i) (by decide) rfl (fun ls hl => ?_)
  refine lv_goto (tgt := 23) hx hb dL_law_1704 (by decide) ?_
  exact kk _ w2 H2 locs ls hp2 hP hD hS (lv_sub hl [0, 1, 2, 3, 4] rfl)
set_option maxHeartbeats 4000000 in
set_option maxRecDepth 100000 in
theorem lk_mounted {p : Program} {l : Launch} {e : Env} {R : Room} {s : State} {mi : MethodId} {av : Array Value} {below : List Frame} {meth : Method} {c : Code} {Q : State → Prop} {D : va_G} {ky : kT} {A : Nat → Prop} {b L : Nat} {xs : Nat → Int32} (hC : LC p s mi av c R D ky A b L xs) {ws : va_W} {H : Heap} {locs : List Loc} {cells slots : Nat} (hP : va_P D CL ws H) (hD : va_D A ws) (hS : va_S A s.heap H locs) (hc : cells + 0 ≤ R.cells) (hs : slots + 0 ≤ R.slots) {x m o i : Nat} (hi : i + 5 ≤ L) {P1 : va_W → Prop} {P2 : Int32 → va_W → Prop} {fs0 : List Value} (e0 : ws[0]? = some (x, .inr (4, fs0))) {v9 : Int32} {fr0 lo0 : Nat} (hf0 : fr0 ≤ 1) (hl0 : lo0 ≤ 20) (hW : MU l yX4_mounted wsX4_mounted fr0 lo0 0 0 D ky A H [.ref x] (fun r w => r = v9 ∧ P1 w)) (h2 : ∀ (w : va_W) (H1 : Heap), P1 w → va_P D CL w H1 → va_D A w → (∃ fs : List Value, w[19]? = some (m, .inr (5, fs))) ∧ ∃ fr lo : Nat, fr ≤ 0 ∧ lo ≤ 0 ∧ MU l yX5_mounted wsX5_mounted fr lo 0 0 D ky A H1 [.ref m] P2) (hv : ∀ r w, P2 r w → r = v9)
    (kk : ∀ (r : Int32) (w : va_W) (H1 : Heap) (locs1 : List Loc) (ls1 : Array Slot), P2 r w → va_P D CL w H1 → va_D A w → va_S A s.heap H1 locs1 → lv_has ls1 7 (hdl b x m o (i + 5)) → W p l e R s mi av below meth c H1 locs1 cells slots Q (F0 mi 23 ls1 [])) (ls : Array Slot) (hl : lv_has ls 7 (hdl b x m o i)) : W p l e R s mi av below meth c H locs cells slots Q (F0 mi 1625 ls []) := by
  obtain ⟨hx, hb, hml, hown, hts, hK, hXE, hNC, hX, hbl, hbA, hL, hRf, hRl⟩ := hC
  have hl : lv_has ls 7 [(4, .int (nI i)), (0, .ref b), (1, .ref x), (2, .ref m), (3, .ref o)] := hl
  refine lv_aload_n hx hb dL_law_1625 rfl (lv_at hl 2 rfl) ?_
  refine mcV hW ⟨hx, hb, hml, hown, hts⟩ hK gL_law_X4_mounted rfl hd_X4_mounted ⟨by omega, by omega⟩ (va_recv hK hP (ci := 4) (q0 := 0) rfl e0) rfl hl.1 rfl (Nat.le_of_ble_eq_true rfl) dL_law_1626 ⟨by omega, by omega⟩ hS (fun r1 w1 H1 locs hp1 hP hD hS => ?_)
  obtain ⟨rfl, hp1⟩ := hp1
  refine lv_aload_n hx hb dL_law_1629 rfl (lv_at hl 3 rfl) ?_
  obtain ⟨⟨fs5, e19⟩, fr5, lo5, hfr5, hlo5, hM⟩ := h2 w1 H1 hp1 hP hD
  refine mcV hM ⟨hx, hb, hml, hown, hts⟩ hK gL_law_X5_mounted rfl hd_X5_mounted ⟨by omega, by omega⟩ (va_recv hK hP (ci := 5) (q0 := 19) rfl e19) rfl hl.1 rfl (Nat.le_of_ble_eq_true rfl) dL_law_1630 ⟨by omega, by omega⟩ hS (fun r2 w2 H2 locs hp2 hP hD hS => ?_)
  obtain rfl := hv r2 w2 hp2
  refine lv_icmp_eq (tgt := 1701) hx hb dL_law_1633 (by decide) (fun _ => ?_) (fun cz => absurd rfl cz)
  refine lv_iinc (v := nI (i + 5)) hx hb dL_law_1701 hl (k := 0) rfl (nI_5 i) (by decide) rfl (fun ls hl => ?_)
  refine lv_goto (tgt := 23) hx hb dL_law_1704 (by decide) ?_
  exact kk _ w2 H2 locs ls hp2 hP hD hS (lv_sub hl [0, 1, 2, 3, 4] rfl)
set_option maxHeartbeats 4000000 in
set_option maxRecDepth 100000 in
theorem lk_isBypassed {p : Program} {l : Launch} {e : Env} {R : Room} {s : State} {mi : MethodId} {av : Array Value} {below : List Frame} {meth : Method} {c : Code} {Q : State → Prop} {D : va_G} {ky : kT} {A : Nat → Prop} {b L : Nat} {xs : Nat → Int32} (hC : LC p s mi av c R D ky A b L xs) {ws : va_W} {H : Heap} {locs : List Loc} {cells slots : Nat} (hP : va_P D CL ws H) (hD : va_D A ws) (hS : va_S A s.heap H locs) (hc : cells + 1 ≤ R.cells) (hs : slots + 6 ≤ R.slots) {x m o i : Nat} (hi : i + 5 ≤ L) {P1 : va_W → Prop} {P2 : Int32 → va_W → Prop} {kc : Nat} (hkc : kc < 3) (hW : WU l yL_isBypassed wsL_isBypassed 8 124 D ky A H [.ref x, .int (xs (i + 1)), .ref o] (fun k w => k = nI kc ∧ P1 w)) (h2 : ∀ (w : va_W) (H1 : Heap), P1 w → va_P D CL w H1 → va_D A w → (∃ fs : List Value, w[19]? = some (m, .inr (5, fs))) ∧ ∃ fr lo : Nat, fr ≤ 1 ∧ lo ≤ 21 ∧ MU l yX5_isBypassed wsX5_isBypassed fr lo 0 0 D ky A H1 [.ref m, .int (xs (i + 1))] P2) (ht : ∀ r w, P2 r w → THR ky w m kc) (hz : ∀ r w, P2 r w → kc = 0 → ∃ (v : Bool) (g : Nat → Int64), r = bI v ∧ isOut ky w o g ∧ g 0 = if v then 1 else 0)
    (kk : ∀ (r : Int32) (w : va_W) (H1 : Heap) (locs1 : List Loc) (ls1 : Array Slot), P2 r w → va_P D CL w H1 → va_D A w → va_S A s.heap H1 locs1 → lv_has ls1 7 (hdl b x m o (i + 5)) → W p l e R s mi av below meth c H1 locs1 (cells + 1) (slots + 6) Q (F0 mi 23 ls1 [])) (ls : Array Slot) (hl : lv_has ls 7 (hdl b x m o i)) : W p l e R s mi av below meth c H locs cells slots Q (F0 mi 1638 ls []) := by
  obtain ⟨hx, hb, hml, hown, hts, hK, hXE, hNC, hX, hbl, hbA, hL, hRf, hRl⟩ := hC
  have hl : lv_has ls 7 [(4, .int (nI i)), (0, .ref b), (1, .ref x), (2, .ref m), (3, .ref o)] := hl
  refine lv_aload_n hx hb dL_law_1638 rfl (lv_at hl 2 rfl) ?_
  refine lw_arg hx hb hX hbl hbA hS hi (show 1 < 5 by decide) hL hl (k0 := 1) (k4 := 0) rfl rfl dL_law_1639 dL_law_1640 (fj := nI 1) rfl ci_1 dL_law_1642 dL_law_1643 dL_law_1644 ?_
  refine lv_aload_n hx hb dL_law_1645 rfl (lv_at hl 4 rfl) ?_
  refine wcS hW ⟨hx, hb, hml, hown, hts⟩ hK hXE hNC gL_law_L_isBypassed rfl hd_L_isBypassed ⟨by omega, by omega⟩ rfl hl.1 rfl (Nat.le_of_ble_eq_true rfl) dL_law_1646 ⟨by omega, by omega⟩ hS (fun r1 w1 H1 locs hp1 hP hD hS => ?_)
  obtain ⟨rfl, hp1⟩ := hp1
  refine lv_istore (lv' := [(5, .int (nI kc)), (4, .int (nI i)), (0, .ref b), (1, .ref x), (2, .ref m), (3, .ref o)]) hx hb dL_law_1649 hl (by decide) rfl (fun ls hl => ?_)
  refine lv_aload_n hx hb dL_law_1651 rfl (lv_at hl 4 rfl) ?_
  refine lw_arg hx hb hX hbl hbA hS hi (show 1 < 5 by decide) hL hl (k0 := 2) (k4 := 1) rfl rfl dL_law_1652 dL_law_1653 (fj := nI 1) rfl ci_1 dL_law_1655 dL_law_1656 dL_law_1657 ?_
  obtain ⟨⟨fs5, e19⟩, fr5, lo5, hfr5, hlo5, hM⟩ := h2 w1 H1 hp1 hP hD
  refine mcV hM ⟨hx, hb, hml, hown, hts⟩ hK gL_law_X5_isBypassed rfl hd_X5_isBypassed ⟨by omega, by omega⟩ (va_recv hK hP (ci := 5) (q0 := 19) rfl e19) rfl hl.1 rfl (Nat.le_of_ble_eq_true rfl) dL_law_1658 ⟨by omega, by omega⟩ hS (fun r2 w2 H2 locs hp2 hP hD hS => ?_)
  refine lv_istore (lv' := [(6, .int r2), (5, .int (nI kc)), (4, .int (nI i)), (0, .ref b), (1, .ref x), (2, .ref m), (3, .ref o)]) hx hb dL_law_1661 hl (by decide) rfl (fun ls hl => ?_)
  refine lv_aload_n hx hb dL_law_1663 rfl (lv_at hl 5 rfl) ?_
  obtain ⟨n9, T9, C9, Hd9, b9, q9, J9, bg9, pu9, bu9, cl9, mo9, K9, z1, z2, z3, z4, z5, hmd⟩ := ht r2 w2 hp2
  have e19 := hmd
  obtain ⟨m1, m2, m3, m4, m5, m6, m7, m8, m9, m10, g19, -⟩ := id hmd
  refine pcV (c_X5_thrown hP hmd) ⟨hx, hb, hml, hown, hts⟩ hK gL_law_X5_thrown rfl hd_X5_thrown ⟨by omega, by omega⟩ (va_recv hK hP (ci := 5) (q0 := 19) rfl g19) rfl hl.1 rfl (Nat.le_of_ble_eq_true rfl) dL_law_1664 ⟨by omega, by omega⟩ hS (fun locs hS => ?_)
  refine lv_iload hx hb dL_law_1667 (lv_at hl 1 rfl) ?_
  refine lv_icmp_eq (tgt := 1674) hx hb dL_law_1669 (by decide) (fun _ => ?_) (fun cz => absurd rfl cz)
  refine lv_iload hx hb dL_law_1674 (lv_at hl 1 rfl) ?_
  refine sn_if_ne (tgt := 1698) hx hb dL_law_1676 (by decide) (by omega) (fun cz => ?_) (fun cz => ?_)
  · refine lv_goto (tgt := 1701) hx hb dL_law_1698 (by decide) ?_
    refine lv_iinc (v := nI (i + 5)) hx hb dL_law_1701 hl (k := 2) rfl (nI_5 i) (by decide) rfl (fun ls hl => ?_)
    refine lv_goto (tgt := 23) hx hb dL_law_1704 (by decide) ?_
    exact kk _ w2 H2 locs ls hp2 hP hD hS (lv_sub hl [0, 3, 4, 5, 6] rfl)
  · have ho := hz r2 w2 hp2 cz
    obtain ⟨v, g9, rfl, eo, hg9⟩ := ho
    refine lv_aload_n hx hb dL_law_1679 rfl (lv_at hl 6 rfl) ?_
    refine lv_iconst (v := nI 0) hx hb dL_law_1680 ci_0 ?_
    refine sv_lald hx hb hK hP eo dL_law_1681 ?_
    rw [hg9]
    refine lv_iload hx hb dL_law_1682 (lv_at hl 0 rfl) ?_
    refine lw_nel hx hb dL_law_1684 dL_law_1687 dL_law_1688 dL_law_1691 ?_
    refine W.lcmp hx hb dL_law_1692 ?_
    rw [lg_cmp_s]
    refine lv_if_eq (tgt := 1698) hx hb dL_law_1693 (by decide) (fun _ => ?_) (fun cz => absurd rfl cz)
    refine lv_goto (tgt := 1701) hx hb dL_law_1698 (by decide) ?_
    refine lv_iinc (v := nI (i + 5)) hx hb dL_law_1701 hl (k := 2) rfl (nI_5 i) (by decide) rfl (fun ls hl => ?_)
    refine lv_goto (tgt := 23) hx hb dL_law_1704 (by decide) ?_
    exact kk _ w2 H2 locs ls hp2 hP hD hS (lv_sub hl [0, 3, 4, 5, 6] rfl)
