theorem hd_L_addPart : yL_addPart.cls ≠ "java/lang/invoke/MethodHandle" ∧ yL_addPart.cls ≠ "java/lang/invoke/VarHandle" ∧ (parseMethodDescriptor yL_addPart.desc).map (fun d => d.parameters.length) = some 3 := by decide +kernel
theorem hd_L_begin : yL_begin.cls ≠ "java/lang/invoke/MethodHandle" ∧ yL_begin.cls ≠ "java/lang/invoke/VarHandle" ∧ (parseMethodDescriptor yL_begin.desc).map (fun d => d.parameters.length) = some 2 := by decide +kernel
theorem hd_L_boundTo : yL_boundTo.cls ≠ "java/lang/invoke/MethodHandle" ∧ yL_boundTo.cls ≠ "java/lang/invoke/VarHandle" ∧ (parseMethodDescriptor yL_boundTo.desc).map (fun d => d.parameters.length) = some 4 := by decide +kernel
theorem hd_L_canTake : yL_canTake.cls ≠ "java/lang/invoke/MethodHandle" ∧ yL_canTake.cls ≠ "java/lang/invoke/VarHandle" ∧ (parseMethodDescriptor yL_canTake.desc).map (fun d => d.parameters.length) = some 4 := by decide +kernel
theorem hd_L_contact : yL_contact.cls ≠ "java/lang/invoke/MethodHandle" ∧ yL_contact.cls ≠ "java/lang/invoke/VarHandle" ∧ (parseMethodDescriptor yL_contact.desc).map (fun d => d.parameters.length) = some 5 := by decide +kernel
theorem hd_L_fewestByListing : yL_fewestByListing.cls ≠ "java/lang/invoke/MethodHandle" ∧ yL_fewestByListing.cls ≠ "java/lang/invoke/VarHandle" ∧ (parseMethodDescriptor yL_fewestByListing.desc).map (fun d => d.parameters.length) = some 2 := by decide +kernel
theorem hd_L_fewestChanges : yL_fewestChanges.cls ≠ "java/lang/invoke/MethodHandle" ∧ yL_fewestChanges.cls ≠ "java/lang/invoke/VarHandle" ∧ (parseMethodDescriptor yL_fewestChanges.desc).map (fun d => d.parameters.length) = some 2 := by decide +kernel
theorem hd_L_free : yL_free.cls ≠ "java/lang/invoke/MethodHandle" ∧ yL_free.cls ≠ "java/lang/invoke/VarHandle" ∧ (parseMethodDescriptor yL_free.desc).map (fun d => d.parameters.length) = some 4 := by decide +kernel
theorem hd_L_groups : yL_groups.cls ≠ "java/lang/invoke/MethodHandle" ∧ yL_groups.cls ≠ "java/lang/invoke/VarHandle" ∧ (parseMethodDescriptor yL_groups.desc).map (fun d => d.parameters.length) = some 3 := by decide +kernel
theorem hd_L_hinder : yL_hinder.cls ≠ "java/lang/invoke/MethodHandle" ∧ yL_hinder.cls ≠ "java/lang/invoke/VarHandle" ∧ (parseMethodDescriptor yL_hinder.desc).map (fun d => d.parameters.length) = some 6 := by decide +kernel
theorem hd_L_isBypassed : yL_isBypassed.cls ≠ "java/lang/invoke/MethodHandle" ∧ yL_isBypassed.cls ≠ "java/lang/invoke/VarHandle" ∧ (parseMethodDescriptor yL_isBypassed.desc).map (fun d => d.parameters.length) = some 3 := by decide +kernel
theorem hd_L_isConnected : yL_isConnected.cls ≠ "java/lang/invoke/MethodHandle" ∧ yL_isConnected.cls ≠ "java/lang/invoke/VarHandle" ∧ (parseMethodDescriptor yL_isConnected.desc).map (fun d => d.parameters.length) = some 3 := by decide +kernel
theorem hd_L_isSteady : yL_isSteady.cls ≠ "java/lang/invoke/MethodHandle" ∧ yL_isSteady.cls ≠ "java/lang/invoke/VarHandle" ∧ (parseMethodDescriptor yL_isSteady.desc).map (fun d => d.parameters.length) = some 3 := by decide +kernel
theorem hd_L_leastDepth : yL_leastDepth.cls ≠ "java/lang/invoke/MethodHandle" ∧ yL_leastDepth.cls ≠ "java/lang/invoke/VarHandle" ∧ (parseMethodDescriptor yL_leastDepth.desc).map (fun d => d.parameters.length) = some 2 := by decide +kernel
theorem hd_L_movesWith : yL_movesWith.cls ≠ "java/lang/invoke/MethodHandle" ∧ yL_movesWith.cls ≠ "java/lang/invoke/VarHandle" ∧ (parseMethodDescriptor yL_movesWith.desc).map (fun d => d.parameters.length) = some 4 := by decide +kernel
theorem hd_L_orderAt : yL_orderAt.cls ≠ "java/lang/invoke/MethodHandle" ∧ yL_orderAt.cls ≠ "java/lang/invoke/VarHandle" ∧ (parseMethodDescriptor yL_orderAt.desc).map (fun d => d.parameters.length) = some 3 := by decide +kernel
theorem hd_L_orders : yL_orders.cls ≠ "java/lang/invoke/MethodHandle" ∧ yL_orders.cls ≠ "java/lang/invoke/VarHandle" ∧ (parseMethodDescriptor yL_orders.desc).map (fun d => d.parameters.length) = some 2 := by decide +kernel
theorem hd_L_setBase : yL_setBase.cls ≠ "java/lang/invoke/MethodHandle" ∧ yL_setBase.cls ≠ "java/lang/invoke/VarHandle" ∧ (parseMethodDescriptor yL_setBase.desc).map (fun d => d.parameters.length) = some 3 := by decide +kernel
theorem hd_L_setJams : yL_setJams.cls ≠ "java/lang/invoke/MethodHandle" ∧ yL_setJams.cls ≠ "java/lang/invoke/VarHandle" ∧ (parseMethodDescriptor yL_setJams.desc).map (fun d => d.parameters.length) = some 4 := by decide +kernel
theorem hd_L_setTool : yL_setTool.cls ≠ "java/lang/invoke/MethodHandle" ∧ yL_setTool.cls ≠ "java/lang/invoke/VarHandle" ∧ (parseMethodDescriptor yL_setTool.desc).map (fun d => d.parameters.length) = some 4 := by decide +kernel
theorem hd_L_splits : yL_splits.cls ≠ "java/lang/invoke/MethodHandle" ∧ yL_splits.cls ≠ "java/lang/invoke/VarHandle" ∧ (parseMethodDescriptor yL_splits.desc).map (fun d => d.parameters.length) = some 3 := by decide +kernel
theorem hd_L_step : yL_step.cls ≠ "java/lang/invoke/MethodHandle" ∧ yL_step.cls ≠ "java/lang/invoke/VarHandle" ∧ (parseMethodDescriptor yL_step.desc).map (fun d => d.parameters.length) = some 2 := by decide +kernel
theorem hd_L_stepBack : yL_stepBack.cls ≠ "java/lang/invoke/MethodHandle" ∧ yL_stepBack.cls ≠ "java/lang/invoke/VarHandle" ∧ (parseMethodDescriptor yL_stepBack.desc).map (fun d => d.parameters.length) = some 2 := by decide +kernel
theorem hd_L_ways : yL_ways.cls ≠ "java/lang/invoke/MethodHandle" ∧ yL_ways.cls ≠ "java/lang/invoke/VarHandle" ∧ (parseMethodDescriptor yL_ways.desc).map (fun d => d.parameters.length) = some 2 := by decide +kernel
theorem hd_X4_addPart : yX4_addPart.cls = RX4 ∧ yX4_addPart.cls ≠ "java/lang/invoke/MethodHandle" ∧ yX4_addPart.cls ≠ "java/lang/invoke/VarHandle" ∧ (parseMethodDescriptor yX4_addPart.desc).map (fun d => d.parameters.length) = some 1 := by decide +kernel
theorem hd_X4_begin : yX4_begin.cls = RX4 ∧ yX4_begin.cls ≠ "java/lang/invoke/MethodHandle" ∧ yX4_begin.cls ≠ "java/lang/invoke/VarHandle" ∧ (parseMethodDescriptor yX4_begin.desc).map (fun d => d.parameters.length) = some 0 := by decide +kernel
theorem hd_X4_boundTo : yX4_boundTo.cls = RX4 ∧ yX4_boundTo.cls ≠ "java/lang/invoke/MethodHandle" ∧ yX4_boundTo.cls ≠ "java/lang/invoke/VarHandle" ∧ (parseMethodDescriptor yX4_boundTo.desc).map (fun d => d.parameters.length) = some 2 := by decide +kernel
theorem hd_X4_canTake : yX4_canTake.cls = RX4 ∧ yX4_canTake.cls ≠ "java/lang/invoke/MethodHandle" ∧ yX4_canTake.cls ≠ "java/lang/invoke/VarHandle" ∧ (parseMethodDescriptor yX4_canTake.desc).map (fun d => d.parameters.length) = some 2 := by decide +kernel
theorem hd_X4_contact : yX4_contact.cls = RX4 ∧ yX4_contact.cls ≠ "java/lang/invoke/MethodHandle" ∧ yX4_contact.cls ≠ "java/lang/invoke/VarHandle" ∧ (parseMethodDescriptor yX4_contact.desc).map (fun d => d.parameters.length) = some 3 := by decide +kernel
theorem hd_X4_fewestByListing : yX4_fewestByListing.cls = RX4 ∧ yX4_fewestByListing.cls ≠ "java/lang/invoke/MethodHandle" ∧ yX4_fewestByListing.cls ≠ "java/lang/invoke/VarHandle" ∧ (parseMethodDescriptor yX4_fewestByListing.desc).map (fun d => d.parameters.length) = some 0 := by decide +kernel
theorem hd_X4_fewestChanges : yX4_fewestChanges.cls = RX4 ∧ yX4_fewestChanges.cls ≠ "java/lang/invoke/MethodHandle" ∧ yX4_fewestChanges.cls ≠ "java/lang/invoke/VarHandle" ∧ (parseMethodDescriptor yX4_fewestChanges.desc).map (fun d => d.parameters.length) = some 0 := by decide +kernel
theorem hd_X4_free : yX4_free.cls = RX4 ∧ yX4_free.cls ≠ "java/lang/invoke/MethodHandle" ∧ yX4_free.cls ≠ "java/lang/invoke/VarHandle" ∧ (parseMethodDescriptor yX4_free.desc).map (fun d => d.parameters.length) = some 2 := by decide +kernel
theorem hd_X4_groups : yX4_groups.cls = RX4 ∧ yX4_groups.cls ≠ "java/lang/invoke/MethodHandle" ∧ yX4_groups.cls ≠ "java/lang/invoke/VarHandle" ∧ (parseMethodDescriptor yX4_groups.desc).map (fun d => d.parameters.length) = some 1 := by decide +kernel
theorem hd_X4_hinder : yX4_hinder.cls = RX4 ∧ yX4_hinder.cls ≠ "java/lang/invoke/MethodHandle" ∧ yX4_hinder.cls ≠ "java/lang/invoke/VarHandle" ∧ (parseMethodDescriptor yX4_hinder.desc).map (fun d => d.parameters.length) = some 4 := by decide +kernel
theorem hd_X4_isBypassed : yX4_isBypassed.cls = RX4 ∧ yX4_isBypassed.cls ≠ "java/lang/invoke/MethodHandle" ∧ yX4_isBypassed.cls ≠ "java/lang/invoke/VarHandle" ∧ (parseMethodDescriptor yX4_isBypassed.desc).map (fun d => d.parameters.length) = some 1 := by decide +kernel
theorem hd_X4_isConnected : yX4_isConnected.cls = RX4 ∧ yX4_isConnected.cls ≠ "java/lang/invoke/MethodHandle" ∧ yX4_isConnected.cls ≠ "java/lang/invoke/VarHandle" ∧ (parseMethodDescriptor yX4_isConnected.desc).map (fun d => d.parameters.length) = some 1 := by decide +kernel
theorem hd_X4_isSteady : yX4_isSteady.cls = RX4 ∧ yX4_isSteady.cls ≠ "java/lang/invoke/MethodHandle" ∧ yX4_isSteady.cls ≠ "java/lang/invoke/VarHandle" ∧ (parseMethodDescriptor yX4_isSteady.desc).map (fun d => d.parameters.length) = some 1 := by decide +kernel
theorem hd_X4_leastDepth : yX4_leastDepth.cls = RX4 ∧ yX4_leastDepth.cls ≠ "java/lang/invoke/MethodHandle" ∧ yX4_leastDepth.cls ≠ "java/lang/invoke/VarHandle" ∧ (parseMethodDescriptor yX4_leastDepth.desc).map (fun d => d.parameters.length) = some 0 := by decide +kernel
theorem hd_X4_movesWith : yX4_movesWith.cls = RX4 ∧ yX4_movesWith.cls ≠ "java/lang/invoke/MethodHandle" ∧ yX4_movesWith.cls ≠ "java/lang/invoke/VarHandle" ∧ (parseMethodDescriptor yX4_movesWith.desc).map (fun d => d.parameters.length) = some 2 := by decide +kernel
theorem hd_X4_orderAt : yX4_orderAt.cls = RX4 ∧ yX4_orderAt.cls ≠ "java/lang/invoke/MethodHandle" ∧ yX4_orderAt.cls ≠ "java/lang/invoke/VarHandle" ∧ (parseMethodDescriptor yX4_orderAt.desc).map (fun d => d.parameters.length) = some 1 := by decide +kernel
theorem hd_X4_orders : yX4_orders.cls = RX4 ∧ yX4_orders.cls ≠ "java/lang/invoke/MethodHandle" ∧ yX4_orders.cls ≠ "java/lang/invoke/VarHandle" ∧ (parseMethodDescriptor yX4_orders.desc).map (fun d => d.parameters.length) = some 0 := by decide +kernel
theorem hd_X4_setBase : yX4_setBase.cls = RX4 ∧ yX4_setBase.cls ≠ "java/lang/invoke/MethodHandle" ∧ yX4_setBase.cls ≠ "java/lang/invoke/VarHandle" ∧ (parseMethodDescriptor yX4_setBase.desc).map (fun d => d.parameters.length) = some 1 := by decide +kernel
theorem hd_X4_setJams : yX4_setJams.cls = RX4 ∧ yX4_setJams.cls ≠ "java/lang/invoke/MethodHandle" ∧ yX4_setJams.cls ≠ "java/lang/invoke/VarHandle" ∧ (parseMethodDescriptor yX4_setJams.desc).map (fun d => d.parameters.length) = some 2 := by decide +kernel
theorem hd_X4_setTool : yX4_setTool.cls = RX4 ∧ yX4_setTool.cls ≠ "java/lang/invoke/MethodHandle" ∧ yX4_setTool.cls ≠ "java/lang/invoke/VarHandle" ∧ (parseMethodDescriptor yX4_setTool.desc).map (fun d => d.parameters.length) = some 2 := by decide +kernel
theorem hd_X4_splits : yX4_splits.cls = RX4 ∧ yX4_splits.cls ≠ "java/lang/invoke/MethodHandle" ∧ yX4_splits.cls ≠ "java/lang/invoke/VarHandle" ∧ (parseMethodDescriptor yX4_splits.desc).map (fun d => d.parameters.length) = some 1 := by decide +kernel
theorem hd_X4_step : yX4_step.cls = RX4 ∧ yX4_step.cls ≠ "java/lang/invoke/MethodHandle" ∧ yX4_step.cls ≠ "java/lang/invoke/VarHandle" ∧ (parseMethodDescriptor yX4_step.desc).map (fun d => d.parameters.length) = some 0 := by decide +kernel
theorem hd_X4_stepBack : yX4_stepBack.cls = RX4 ∧ yX4_stepBack.cls ≠ "java/lang/invoke/MethodHandle" ∧ yX4_stepBack.cls ≠ "java/lang/invoke/VarHandle" ∧ (parseMethodDescriptor yX4_stepBack.desc).map (fun d => d.parameters.length) = some 0 := by decide +kernel
theorem hd_X4_ways : yX4_ways.cls = RX4 ∧ yX4_ways.cls ≠ "java/lang/invoke/MethodHandle" ∧ yX4_ways.cls ≠ "java/lang/invoke/VarHandle" ∧ (parseMethodDescriptor yX4_ways.desc).map (fun d => d.parameters.length) = some 0 := by decide +kernel
set_option maxHeartbeats 4000000 in
set_option maxRecDepth 100000 in
theorem wk_addPart {l : Launch} {D : va_G} {ky : kT} {A : Nat → Prop} {Hs : Heap} {ws : va_W} (hP : va_P D CL ws Hs) (hD : va_D A ws) {h o : Nat} {fs : List Value} {f : Nat → Int64} (e0 : ws[0]? = some (h, .inr (4, fs))) (eo : isOut ky ws o f) {x : Int32} {fr0 lo0 : Nat} (hf0 : fr0 ≤ 7) (hl0 : lo0 ≤ 103) {post : Int32 → va_W → Prop} (hfr : ∀ r w, post r w → fr ws w 0 18) (hM : MU l yX4_addPart wsX4_addPart fr0 lo0 0 0 D ky A Hs [.ref h, .int x] post) : WU l yL_addPart wsL_addPart 8 124 D ky A Hs [.ref h, .int x, .ref o] (fun k w => k = nI 0 ∧ ∃ (r : Int32) (w1 : va_W), post r w1 ∧ fr w1 w 30 30 ∧ ∃ g : Nat → Int64, isOut ky w o g ∧ g 0 = r.toInt64) := by
  refine WU.of (cc := cL_addPart) (maxL := 4) (hh := [(0, 9, 12, 13), (0, 9, 15, 15)]) (by decide) rfl (Nat.le_of_ble_eq_true rfl) ?_
  intro pg en Rm sg mi av below meth co Qo hRf hRl hRc hRs hx hb hml hown hts hK hXE hNC htab hret ls hl
  have hl : lv_has ls 4 [(0, .ref h), (1, .int x), (2, .ref o)] := hl
  have hS : va_S A Hs Hs [] := va_S.rf
  generalize ([] : List Loc) = locs at hS ⊢
  refine lv_aload_n hx hb dL_addPart_0 rfl (lv_at hl 2 rfl) ?_
  refine lv_iconst (v := nI 0) hx hb dL_addPart_1 ci_0 ?_
  refine lv_aload_n hx hb dL_addPart_2 rfl (lv_at hl 0 rfl) ?_
  refine lv_iload_n hx hb dL_addPart_3 rfl (lv_at hl 1 rfl) ?_
  refine mcV hM ⟨hx, hb, hml, hown, hts⟩ hK gL_addPart_X4_addPart rfl hd_X4_addPart ⟨by omega, by omega⟩ (va_recv hK hP (ci := 4) (q0 := 0) rfl e0) rfl hl.1 rfl (Nat.le_of_ble_eq_true rfl) dL_addPart_4 ⟨Nat.zero_le _, Nat.zero_le _⟩ hS (fun r w1 H locs hp1 hP hD hS => ?_)
  have eo1 : isOut ky w1 o f := (hfr r w1 hp1 30 (Or.inr (by decide))).trans eo
  refine lv_i2l (v := r.toInt64) hx hb dL_addPart_7 rfl ?_
  refine sv_last hx hb hK hP hD hS eo1 dL_addPart_8 (fun w2 H locs g2 hP hD hS eo2 hg2 fr2 => ?_)
  refine lv_goto (tgt := 18) hx hb dL_addPart_9 (by decide) ?_
  refine lv_iconst (v := nI 0) hx hb dL_addPart_18 ci_0 ?_
  exact hret 19 ls _ _ locs _ _ _ (Nat.zero_le _) (Nat.zero_le _) dL_addPart_19 hP hD hS ⟨rfl, r, w1, hp1, fr2, g2, eo2, hg2⟩
set_option maxHeartbeats 4000000 in
set_option maxRecDepth 100000 in
theorem wxA_addPart {l : Launch} {D : va_G} {ky : kT} {A : Nat → Prop} {Hs : Heap} {ws : va_W} (hP : va_P D CL ws Hs) (hD : va_D A ws) {h o : Nat} {fs : List Value} {f : Nat → Int64} (e0 : ws[0]? = some (h, .inr (4, fs))) (eo : isOut ky ws o f) {x : Int32} {fr0 lo0 : Nat} (hf0 : fr0 ≤ 7) (hl0 : lo0 ≤ 103) {post : va_W → Prop} (hM : XU l yX4_addPart wsX4_addPart fr0 lo0 D ky A Hs [.ref h, .int x] EXA post) : WU l yL_addPart wsL_addPart 8 124 D ky A Hs [.ref h, .int x, .ref o] (fun k w => k = nI 1 ∧ post w) := by
  refine WU.of (cc := cL_addPart) (maxL := 4) (hh := [(0, 9, 12, 13), (0, 9, 15, 15)]) (by decide) rfl (Nat.le_of_ble_eq_true rfl) ?_
  intro pg en Rm sg mi av below meth co Qo hRf hRl hRc hRs hx hb hml hown hts hK hXE hNC htab hret ls hl
  have hl : lv_has ls 4 [(0, .ref h), (1, .int x), (2, .ref o)] := hl
  have hS : va_S A Hs Hs [] := va_S.rf
  generalize ([] : List Loc) = locs at hS ⊢
  refine lv_aload_n hx hb dL_addPart_0 rfl (lv_at hl 2 rfl) ?_
  refine lv_iconst (v := nI 0) hx hb dL_addPart_1 ci_0 ?_
  refine lv_aload_n hx hb dL_addPart_2 rfl (lv_at hl 0 rfl) ?_
  refine lv_iload_n hx hb dL_addPart_3 rfl (lv_at hl 1 rfl) ?_
  refine xcV hM ⟨hx, hb, hml, hown, hts⟩ hK hXE gL_addPart_X4_addPart rfl hd_X4_addPart ⟨by omega, by omega⟩ (va_recv hK hP (ci := 4) (q0 := 0) rfl e0) rfl hl.1 rfl (Nat.le_of_ble_eq_true rfl) dL_addPart_4 ⟨by omega, by omega⟩ hS (fun w1 H locs q9 ce9 hp1 hP hD hS hq9 hv9 hc9 => ?_)
  refine vx_catch (own := RL) (name := EXA) hown [] ⟨0, 9, 12, 13⟩ [⟨0, 9, 15, 15⟩] htab (fun z hz => nomatch hz) (by decide) (by decide) (hts (.classLink RL 13 EXA) (by decide +kernel)) (va_Nw.use rfl hXE.1.1) hq9 hv9 hc9 ?_
  refine W.eq (g2 := F0 mi 12 ls [.ref q9]) rfl ?_
  refine lv_astore_n (lv' := [(3, .ref q9), (0, .ref h), (1, .int x), (2, .ref o)]) hx hb dL_addPart_12 rfl hl (by decide) rfl (fun ls hl => ?_)
  refine lv_iconst (v := nI 1) hx hb dL_addPart_13 ci_1 ?_
  exact hret 14 ls _ _ locs _ _ _ (Nat.le_refl _) (Nat.le_refl _) dL_addPart_14 hP hD hS ⟨rfl, hp1⟩
set_option maxHeartbeats 4000000 in
set_option maxRecDepth 100000 in
theorem wxS_addPart {l : Launch} {D : va_G} {ky : kT} {A : Nat → Prop} {Hs : Heap} {ws : va_W} (hP : va_P D CL ws Hs) (hD : va_D A ws) {h o : Nat} {fs : List Value} {f : Nat → Int64} (e0 : ws[0]? = some (h, .inr (4, fs))) (eo : isOut ky ws o f) {x : Int32} {fr0 lo0 : Nat} (hf0 : fr0 ≤ 7) (hl0 : lo0 ≤ 103) {post : va_W → Prop} (hM : XU l yX4_addPart wsX4_addPart fr0 lo0 D ky A Hs [.ref h, .int x] EXS post) : WU l yL_addPart wsL_addPart 8 124 D ky A Hs [.ref h, .int x, .ref o] (fun k w => k = nI 2 ∧ post w) := by
  refine WU.of (cc := cL_addPart) (maxL := 4) (hh := [(0, 9, 12, 13), (0, 9, 15, 15)]) (by decide) rfl (Nat.le_of_ble_eq_true rfl) ?_
  intro pg en Rm sg mi av below meth co Qo hRf hRl hRc hRs hx hb hml hown hts hK hXE hNC htab hret ls hl
  have hl : lv_has ls 4 [(0, .ref h), (1, .int x), (2, .ref o)] := hl
  have hS : va_S A Hs Hs [] := va_S.rf
  generalize ([] : List Loc) = locs at hS ⊢
  refine lv_aload_n hx hb dL_addPart_0 rfl (lv_at hl 2 rfl) ?_
  refine lv_iconst (v := nI 0) hx hb dL_addPart_1 ci_0 ?_
  refine lv_aload_n hx hb dL_addPart_2 rfl (lv_at hl 0 rfl) ?_
  refine lv_iload_n hx hb dL_addPart_3 rfl (lv_at hl 1 rfl) ?_
  refine xcV hM ⟨hx, hb, hml, hown, hts⟩ hK hXE gL_addPart_X4_addPart rfl hd_X4_addPart ⟨by omega, by omega⟩ (va_recv hK hP (ci := 4) (q0 := 0) rfl e0) rfl hl.1 rfl (Nat.le_of_ble_eq_true rfl) dL_addPart_4 ⟨by omega, by omega⟩ hS (fun w1 H locs q9 ce9 hp1 hP hD hS hq9 hv9 hc9 => ?_)
  refine vx_catch (own := RL) (name := EXS) hown [⟨0, 9, 12, 13⟩] ⟨0, 9, 15, 15⟩ [] htab (fun z hz => by rw [List.mem_singleton.mp hz]; exact Or.inr ⟨by decide, EXA, hts (.classLink RL 13 EXA) (by decide +kernel), hNC.1⟩) (by decide) (by decide) (hts (.classLink RL 15 EXS) (by decide +kernel)) (va_Nw.use rfl hXE.1.2.1) hq9 hv9 hc9 ?_
  refine W.eq (g2 := F0 mi 15 ls [.ref q9]) rfl ?_
  refine lv_astore_n (lv' := [(3, .ref q9), (0, .ref h), (1, .int x), (2, .ref o)]) hx hb dL_addPart_15 rfl hl (by decide) rfl (fun ls hl => ?_)
  refine lv_iconst (v := nI 2) hx hb dL_addPart_16 ci_2 ?_
  exact hret 17 ls _ _ locs _ _ _ (Nat.le_refl _) (Nat.le_refl _) dL_addPart_17 hP hD hS ⟨rfl, hp1⟩
set_option maxHeartbeats 4000000 in
set_option maxRecDepth 100000 in
theorem wk_setTool {l : Launch} {D : va_G} {ky : kT} {A : Nat → Prop} {Hs : Heap} {ws : va_W} (hP : va_P D CL ws Hs) (hD : va_D A ws) {h o : Nat} {fs : List Value} {f : Nat → Int64} (e0 : ws[0]? = some (h, .inr (4, fs))) (eo : isOut ky ws o f) {x y : Int32} {fr0 lo0 : Nat} (hf0 : fr0 ≤ 7) (hl0 : lo0 ≤ 103) {post : Int32 → va_W → Prop} (hfr : ∀ r w, post r w → fr ws w 0 18) (hM : MU l yX4_setTool wsX4_setTool fr0 lo0 0 0 D ky A Hs [.ref h, .int x, .int y] post) : WU l yL_setTool wsL_setTool 8 125 D ky A Hs [.ref h, .int x, .int y, .ref o] (fun k w => k = nI 0 ∧ ∃ (r : Int32) (w1 : va_W), post r w1 ∧ fr w1 w 30 30 ∧ ∃ g : Nat → Int64, isOut ky w o g ∧ g 0 = r.toInt64) := by
  refine WU.of (cc := cL_setTool) (maxL := 5) (hh := [(0, 10, 13, 21), (0, 10, 17, 13)]) (by decide) rfl (Nat.le_of_ble_eq_true rfl) ?_
  intro pg en Rm sg mi av below meth co Qo hRf hRl hRc hRs hx hb hml hown hts hK hXE hNC htab hret ls hl
  have hl : lv_has ls 5 [(0, .ref h), (1, .int x), (2, .int y), (3, .ref o)] := hl
  have hS : va_S A Hs Hs [] := va_S.rf
  generalize ([] : List Loc) = locs at hS ⊢
  refine lv_aload_n hx hb dL_setTool_0 rfl (lv_at hl 3 rfl) ?_
  refine lv_iconst (v := nI 0) hx hb dL_setTool_1 ci_0 ?_
  refine lv_aload_n hx hb dL_setTool_2 rfl (lv_at hl 0 rfl) ?_
  refine lv_iload_n hx hb dL_setTool_3 rfl (lv_at hl 1 rfl) ?_
  refine lv_iload_n hx hb dL_setTool_4 rfl (lv_at hl 2 rfl) ?_
  refine mcV hM ⟨hx, hb, hml, hown, hts⟩ hK gL_setTool_X4_setTool rfl hd_X4_setTool ⟨by omega, by omega⟩ (va_recv hK hP (ci := 4) (q0 := 0) rfl e0) rfl hl.1 rfl (Nat.le_of_ble_eq_true rfl) dL_setTool_5 ⟨Nat.zero_le _, Nat.zero_le _⟩ hS (fun r w1 H locs hp1 hP hD hS => ?_)
  have eo1 : isOut ky w1 o f := (hfr r w1 hp1 30 (Or.inr (by decide))).trans eo
  refine lv_i2l (v := r.toInt64) hx hb dL_setTool_8 rfl ?_
  refine sv_last hx hb hK hP hD hS eo1 dL_setTool_9 (fun w2 H locs g2 hP hD hS eo2 hg2 fr2 => ?_)
  refine lv_goto (tgt := 21) hx hb dL_setTool_10 (by decide) ?_
  refine lv_iconst (v := nI 0) hx hb dL_setTool_21 ci_0 ?_
  exact hret 22 ls _ _ locs _ _ _ (Nat.zero_le _) (Nat.zero_le _) dL_setTool_22 hP hD hS ⟨rfl, r, w1, hp1, fr2, g2, eo2, hg2⟩
set_option maxHeartbeats 4000000 in
set_option maxRecDepth 100000 in
theorem wxI_setTool {l : Launch} {D : va_G} {ky : kT} {A : Nat → Prop} {Hs : Heap} {ws : va_W} (hP : va_P D CL ws Hs) (hD : va_D A ws) {h o : Nat} {fs : List Value} {f : Nat → Int64} (e0 : ws[0]? = some (h, .inr (4, fs))) (eo : isOut ky ws o f) {x y : Int32} {fr0 lo0 : Nat} (hf0 : fr0 ≤ 7) (hl0 : lo0 ≤ 103) {post : va_W → Prop} (hM : XU l yX4_setTool wsX4_setTool fr0 lo0 D ky A Hs [.ref h, .int x, .int y] EXI post) : WU l yL_setTool wsL_setTool 8 125 D ky A Hs [.ref h, .int x, .int y, .ref o] (fun k w => k = nI 1 ∧ post w) := by
  refine WU.of (cc := cL_setTool) (maxL := 5) (hh := [(0, 10, 13, 21), (0, 10, 17, 13)]) (by decide) rfl (Nat.le_of_ble_eq_true rfl) ?_
  intro pg en Rm sg mi av below meth co Qo hRf hRl hRc hRs hx hb hml hown hts hK hXE hNC htab hret ls hl
  have hl : lv_has ls 5 [(0, .ref h), (1, .int x), (2, .int y), (3, .ref o)] := hl
  have hS : va_S A Hs Hs [] := va_S.rf
  generalize ([] : List Loc) = locs at hS ⊢
  refine lv_aload_n hx hb dL_setTool_0 rfl (lv_at hl 3 rfl) ?_
  refine lv_iconst (v := nI 0) hx hb dL_setTool_1 ci_0 ?_
  refine lv_aload_n hx hb dL_setTool_2 rfl (lv_at hl 0 rfl) ?_
  refine lv_iload_n hx hb dL_setTool_3 rfl (lv_at hl 1 rfl) ?_
  refine lv_iload_n hx hb dL_setTool_4 rfl (lv_at hl 2 rfl) ?_
  refine xcV hM ⟨hx, hb, hml, hown, hts⟩ hK hXE gL_setTool_X4_setTool rfl hd_X4_setTool ⟨by omega, by omega⟩ (va_recv hK hP (ci := 4) (q0 := 0) rfl e0) rfl hl.1 rfl (Nat.le_of_ble_eq_true rfl) dL_setTool_5 ⟨by omega, by omega⟩ hS (fun w1 H locs q9 ce9 hp1 hP hD hS hq9 hv9 hc9 => ?_)
  refine vx_catch (own := RL) (name := EXI) hown [] ⟨0, 10, 13, 21⟩ [⟨0, 10, 17, 13⟩] htab (fun z hz => nomatch hz) (by decide) (by decide) (hts (.classLink RL 21 EXI) (by decide +kernel)) (va_Nw.use rfl hXE.1.2.2) hq9 hv9 hc9 ?_
  refine W.eq (g2 := F0 mi 13 ls [.ref q9]) rfl ?_
  refine lv_astore (lv' := [(4, .ref q9), (0, .ref h), (1, .int x), (2, .int y), (3, .ref o)]) hx hb dL_setTool_13 hl (by decide) rfl (fun ls hl => ?_)
  refine lv_iconst (v := nI 1) hx hb dL_setTool_15 ci_1 ?_
  exact hret 16 ls _ _ locs _ _ _ (Nat.le_refl _) (Nat.le_refl _) dL_setTool_16 hP hD hS ⟨rfl, hp1⟩
set_option maxHeartbeats 4000000 in
set_option maxRecDepth 100000 in
theorem wxA_setTool {l : Launch} {D : va_G} {ky : kT} {A : Nat → Prop} {Hs : Heap} {ws : va_W} (hP : va_P D CL ws Hs) (hD : va_D A ws) {h o : Nat} {fs : List Value} {f : Nat → Int64} (e0 : ws[0]? = some (h, .inr (4, fs))) (eo : isOut ky ws o f) {x y : Int32} {fr0 lo0 : Nat} (hf0 : fr0 ≤ 7) (hl0 : lo0 ≤ 103) {post : va_W → Prop} (hM : XU l yX4_setTool wsX4_setTool fr0 lo0 D ky A Hs [.ref h, .int x, .int y] EXA post) : WU l yL_setTool wsL_setTool 8 125 D ky A Hs [.ref h, .int x, .int y, .ref o] (fun k w => k = nI 2 ∧ post w) := by
  refine WU.of (cc := cL_setTool) (maxL := 5) (hh := [(0, 10, 13, 21), (0, 10, 17, 13)]) (by decide) rfl (Nat.le_of_ble_eq_true rfl) ?_
  intro pg en Rm sg mi av below meth co Qo hRf hRl hRc hRs hx hb hml hown hts hK hXE hNC htab hret ls hl
  have hl : lv_has ls 5 [(0, .ref h), (1, .int x), (2, .int y), (3, .ref o)] := hl
  have hS : va_S A Hs Hs [] := va_S.rf
  generalize ([] : List Loc) = locs at hS ⊢
  refine lv_aload_n hx hb dL_setTool_0 rfl (lv_at hl 3 rfl) ?_
  refine lv_iconst (v := nI 0) hx hb dL_setTool_1 ci_0 ?_
  refine lv_aload_n hx hb dL_setTool_2 rfl (lv_at hl 0 rfl) ?_
  refine lv_iload_n hx hb dL_setTool_3 rfl (lv_at hl 1 rfl) ?_
  refine lv_iload_n hx hb dL_setTool_4 rfl (lv_at hl 2 rfl) ?_
  refine xcV hM ⟨hx, hb, hml, hown, hts⟩ hK hXE gL_setTool_X4_setTool rfl hd_X4_setTool ⟨by omega, by omega⟩ (va_recv hK hP (ci := 4) (q0 := 0) rfl e0) rfl hl.1 rfl (Nat.le_of_ble_eq_true rfl) dL_setTool_5 ⟨by omega, by omega⟩ hS (fun w1 H locs q9 ce9 hp1 hP hD hS hq9 hv9 hc9 => ?_)
  refine vx_catch (own := RL) (name := EXA) hown [⟨0, 10, 13, 21⟩] ⟨0, 10, 17, 13⟩ [] htab (fun z hz => by rw [List.mem_singleton.mp hz]; exact Or.inr ⟨by decide, EXI, hts (.classLink RL 21 EXI) (by decide +kernel), hNC.2⟩) (by decide) (by decide) (hts (.classLink RL 13 EXA) (by decide +kernel)) (va_Nw.use rfl hXE.1.1) hq9 hv9 hc9 ?_
  refine W.eq (g2 := F0 mi 17 ls [.ref q9]) rfl ?_
  refine lv_astore (lv' := [(4, .ref q9), (0, .ref h), (1, .int x), (2, .int y), (3, .ref o)]) hx hb dL_setTool_17 hl (by decide) rfl (fun ls hl => ?_)
  refine lv_iconst (v := nI 2) hx hb dL_setTool_19 ci_2 ?_
  exact hret 20 ls _ _ locs _ _ _ (Nat.le_refl _) (Nat.le_refl _) dL_setTool_20 hP hD hS ⟨rfl, hp1⟩
set_option maxHeartbeats 4000000 in
set_option maxRecDepth 100000 in
theorem wk_contact {l : Launch} {D : va_G} {ky : kT} {A : Nat → Prop} {Hs : Heap} {ws : va_W} (hP : va_P D CL ws Hs) (hD : va_D A ws) {h o : Nat} {fs : List Value} {f : Nat → Int64} (e0 : ws[0]? = some (h, .inr (4, fs))) (eo : isOut ky ws o f) {x y z : Int32} {fr0 lo0 : Nat} (hf0 : fr0 ≤ 7) (hl0 : lo0 ≤ 104) {post : Int32 → va_W → Prop} (hfr : ∀ r w, post r w → fr ws w 0 18) (hM : MU l yX4_contact wsX4_contact fr0 lo0 0 0 D ky A Hs [.ref h, .int x, .int y, .int z] post) : WU l yL_contact wsL_contact 8 127 D ky A Hs [.ref h, .int x, .int y, .int z, .ref o] (fun k w => k = nI 0 ∧ ∃ (r : Int32) (w1 : va_W), post r w1 ∧ fr w1 w 30 30 ∧ ∃ g : Nat → Int64, isOut ky w o g ∧ g 0 = r.toInt64) := by
  refine WU.of (cc := cL_contact) (maxL := 6) (hh := [(0, 12, 15, 21), (0, 12, 19, 13)]) (by decide) rfl (Nat.le_of_ble_eq_true rfl) ?_
  intro pg en Rm sg mi av below meth co Qo hRf hRl hRc hRs hx hb hml hown hts hK hXE hNC htab hret ls hl
  have hl : lv_has ls 6 [(0, .ref h), (1, .int x), (2, .int y), (3, .int z), (4, .ref o)] := hl
  have hS : va_S A Hs Hs [] := va_S.rf
  generalize ([] : List Loc) = locs at hS ⊢
  refine lv_aload hx hb dL_contact_0 (lv_at hl 4 rfl) ?_
  refine lv_iconst (v := nI 0) hx hb dL_contact_2 ci_0 ?_
  refine lv_aload_n hx hb dL_contact_3 rfl (lv_at hl 0 rfl) ?_
  refine lv_iload_n hx hb dL_contact_4 rfl (lv_at hl 1 rfl) ?_
  refine lv_iload_n hx hb dL_contact_5 rfl (lv_at hl 2 rfl) ?_
  refine lv_iload_n hx hb dL_contact_6 rfl (lv_at hl 3 rfl) ?_
  refine mcV hM ⟨hx, hb, hml, hown, hts⟩ hK gL_contact_X4_contact rfl hd_X4_contact ⟨by omega, by omega⟩ (va_recv hK hP (ci := 4) (q0 := 0) rfl e0) rfl hl.1 rfl (Nat.le_of_ble_eq_true rfl) dL_contact_7 ⟨Nat.zero_le _, Nat.zero_le _⟩ hS (fun r w1 H locs hp1 hP hD hS => ?_)
  have eo1 : isOut ky w1 o f := (hfr r w1 hp1 30 (Or.inr (by decide))).trans eo
  refine lv_i2l (v := r.toInt64) hx hb dL_contact_10 rfl ?_
  refine sv_last hx hb hK hP hD hS eo1 dL_contact_11 (fun w2 H locs g2 hP hD hS eo2 hg2 fr2 => ?_)
  refine lv_goto (tgt := 23) hx hb dL_contact_12 (by decide) ?_
  refine lv_iconst (v := nI 0) hx hb dL_contact_23 ci_0 ?_
  exact hret 24 ls _ _ locs _ _ _ (Nat.zero_le _) (Nat.zero_le _) dL_contact_24 hP hD hS ⟨rfl, r, w1, hp1, fr2, g2, eo2, hg2⟩
set_option maxHeartbeats 4000000 in
set_option maxRecDepth 100000 in
theorem wxI_contact {l : Launch} {D : va_G} {ky : kT} {A : Nat → Prop} {Hs : Heap} {ws : va_W} (hP : va_P D CL ws Hs) (hD : va_D A ws) {h o : Nat} {fs : List Value} {f : Nat → Int64} (e0 : ws[0]? = some (h, .inr (4, fs))) (eo : isOut ky ws o f) {x y z : Int32} {fr0 lo0 : Nat} (hf0 : fr0 ≤ 7) (hl0 : lo0 ≤ 104) {post : va_W → Prop} (hM : XU l yX4_contact wsX4_contact fr0 lo0 D ky A Hs [.ref h, .int x, .int y, .int z] EXI post) : WU l yL_contact wsL_contact 8 127 D ky A Hs [.ref h, .int x, .int y, .int z, .ref o] (fun k w => k = nI 1 ∧ post w) := by
  refine WU.of (cc := cL_contact) (maxL := 6) (hh := [(0, 12, 15, 21), (0, 12, 19, 13)]) (by decide) rfl (Nat.le_of_ble_eq_true rfl) ?_
  intro pg en Rm sg mi av below meth co Qo hRf hRl hRc hRs hx hb hml hown hts hK hXE hNC htab hret ls hl
  have hl : lv_has ls 6 [(0, .ref h), (1, .int x), (2, .int y), (3, .int z), (4, .ref o)] := hl
  have hS : va_S A Hs Hs [] := va_S.rf
  generalize ([] : List Loc) = locs at hS ⊢
  refine lv_aload hx hb dL_contact_0 (lv_at hl 4 rfl) ?_
  refine lv_iconst (v := nI 0) hx hb dL_contact_2 ci_0 ?_
  refine lv_aload_n hx hb dL_contact_3 rfl (lv_at hl 0 rfl) ?_
  refine lv_iload_n hx hb dL_contact_4 rfl (lv_at hl 1 rfl) ?_
  refine lv_iload_n hx hb dL_contact_5 rfl (lv_at hl 2 rfl) ?_
  refine lv_iload_n hx hb dL_contact_6 rfl (lv_at hl 3 rfl) ?_
  refine xcV hM ⟨hx, hb, hml, hown, hts⟩ hK hXE gL_contact_X4_contact rfl hd_X4_contact ⟨by omega, by omega⟩ (va_recv hK hP (ci := 4) (q0 := 0) rfl e0) rfl hl.1 rfl (Nat.le_of_ble_eq_true rfl) dL_contact_7 ⟨by omega, by omega⟩ hS (fun w1 H locs q9 ce9 hp1 hP hD hS hq9 hv9 hc9 => ?_)
  refine vx_catch (own := RL) (name := EXI) hown [] ⟨0, 12, 15, 21⟩ [⟨0, 12, 19, 13⟩] htab (fun z hz => nomatch hz) (by decide) (by decide) (hts (.classLink RL 21 EXI) (by decide +kernel)) (va_Nw.use rfl hXE.1.2.2) hq9 hv9 hc9 ?_
  refine W.eq (g2 := F0 mi 15 ls [.ref q9]) rfl ?_
  refine lv_astore (lv' := [(5, .ref q9), (0, .ref h), (1, .int x), (2, .int y), (3, .int z), (4, .ref o)]) hx hb dL_contact_15 hl (by decide) rfl (fun ls hl => ?_)
  refine lv_iconst (v := nI 1) hx hb dL_contact_17 ci_1 ?_
  exact hret 18 ls _ _ locs _ _ _ (Nat.le_refl _) (Nat.le_refl _) dL_contact_18 hP hD hS ⟨rfl, hp1⟩
set_option maxHeartbeats 4000000 in
set_option maxRecDepth 100000 in
theorem wxA_contact {l : Launch} {D : va_G} {ky : kT} {A : Nat → Prop} {Hs : Heap} {ws : va_W} (hP : va_P D CL ws Hs) (hD : va_D A ws) {h o : Nat} {fs : List Value} {f : Nat → Int64} (e0 : ws[0]? = some (h, .inr (4, fs))) (eo : isOut ky ws o f) {x y z : Int32} {fr0 lo0 : Nat} (hf0 : fr0 ≤ 7) (hl0 : lo0 ≤ 104) {post : va_W → Prop} (hM : XU l yX4_contact wsX4_contact fr0 lo0 D ky A Hs [.ref h, .int x, .int y, .int z] EXA post) : WU l yL_contact wsL_contact 8 127 D ky A Hs [.ref h, .int x, .int y, .int z, .ref o] (fun k w => k = nI 2 ∧ post w) := by
  refine WU.of (cc := cL_contact) (maxL := 6) (hh := [(0, 12, 15, 21), (0, 12, 19, 13)]) (by decide) rfl (Nat.le_of_ble_eq_true rfl) ?_
  intro pg en Rm sg mi av below meth co Qo hRf hRl hRc hRs hx hb hml hown hts hK hXE hNC htab hret ls hl
  have hl : lv_has ls 6 [(0, .ref h), (1, .int x), (2, .int y), (3, .int z), (4, .ref o)] := hl
  have hS : va_S A Hs Hs [] := va_S.rf
  generalize ([] : List Loc) = locs at hS ⊢
  refine lv_aload hx hb dL_contact_0 (lv_at hl 4 rfl) ?_
  refine lv_iconst (v := nI 0) hx hb dL_contact_2 ci_0 ?_
  refine lv_aload_n hx hb dL_contact_3 rfl (lv_at hl 0 rfl) ?_
  refine lv_iload_n hx hb dL_contact_4 rfl (lv_at hl 1 rfl) ?_
  refine lv_iload_n hx hb dL_contact_5 rfl (lv_at hl 2 rfl) ?_
  refine lv_iload_n hx hb dL_contact_6 rfl (lv_at hl 3 rfl) ?_
  refine xcV hM ⟨hx, hb, hml, hown, hts⟩ hK hXE gL_contact_X4_contact rfl hd_X4_contact ⟨by omega, by omega⟩ (va_recv hK hP (ci := 4) (q0 := 0) rfl e0) rfl hl.1 rfl (Nat.le_of_ble_eq_true rfl) dL_contact_7 ⟨by omega, by omega⟩ hS (fun w1 H locs q9 ce9 hp1 hP hD hS hq9 hv9 hc9 => ?_)
  refine vx_catch (own := RL) (name := EXA) hown [⟨0, 12, 15, 21⟩] ⟨0, 12, 19, 13⟩ [] htab (fun z hz => by rw [List.mem_singleton.mp hz]; exact Or.inr ⟨by decide, EXI, hts (.classLink RL 21 EXI) (by decide +kernel), hNC.2⟩) (by decide) (by decide) (hts (.classLink RL 13 EXA) (by decide +kernel)) (va_Nw.use rfl hXE.1.1) hq9 hv9 hc9 ?_
  refine W.eq (g2 := F0 mi 19 ls [.ref q9]) rfl ?_
  refine lv_astore (lv' := [(5, .ref q9), (0, .ref h), (1, .int x), (2, .int y), (3, .int z), (4, .ref o)]) hx hb dL_contact_19 hl (by decide) rfl (fun ls hl => ?_)
  refine lv_iconst (v := nI 2) hx hb dL_contact_21 ci_2 ?_
  exact hret 22 ls _ _ locs _ _ _ (Nat.le_refl _) (Nat.le_refl _) dL_contact_22 hP hD hS ⟨rfl, hp1⟩
set_option maxHeartbeats 4000000 in
set_option maxRecDepth 100000 in
theorem wk_hinder {l : Launch} {D : va_G} {ky : kT} {A : Nat → Prop} {Hs : Heap} {ws : va_W} (hP : va_P D CL ws Hs) (hD : va_D A ws) {h o : Nat} {fs : List Value} {f : Nat → Int64} (e0 : ws[0]? = some (h, .inr (4, fs))) (eo : isOut ky ws o f) {x y z u : Int32} {fr0 lo0 : Nat} (hf0 : fr0 ≤ 7) (hl0 : lo0 ≤ 104) {post : Int32 → va_W → Prop} (hfr : ∀ r w, post r w → fr ws w 0 18) (hM : MU l yX4_hinder wsX4_hinder fr0 lo0 0 0 D ky A Hs [.ref h, .int x, .int y, .int z, .int u] post) : WU l yL_hinder wsL_hinder 8 128 D ky A Hs [.ref h, .int x, .int y, .int z, .int u, .ref o] (fun k w => k = nI 0 ∧ ∃ (r : Int32) (w1 : va_W), post r w1 ∧ fr w1 w 30 30 ∧ ∃ g : Nat → Int64, isOut ky w o g ∧ g 0 = r.toInt64) := by
  refine WU.of (cc := cL_hinder) (maxL := 7) (hh := [(0, 14, 17, 21), (0, 14, 21, 13)]) (by decide) rfl (Nat.le_of_ble_eq_true rfl) ?_
  intro pg en Rm sg mi av below meth co Qo hRf hRl hRc hRs hx hb hml hown hts hK hXE hNC htab hret ls hl
  have hl : lv_has ls 7 [(0, .ref h), (1, .int x), (2, .int y), (3, .int z), (4, .int u), (5, .ref o)] := hl
  have hS : va_S A Hs Hs [] := va_S.rf
  generalize ([] : List Loc) = locs at hS ⊢
  refine lv_aload hx hb dL_hinder_0 (lv_at hl 5 rfl) ?_
  refine lv_iconst (v := nI 0) hx hb dL_hinder_2 ci_0 ?_
  refine lv_aload_n hx hb dL_hinder_3 rfl (lv_at hl 0 rfl) ?_
  refine lv_iload_n hx hb dL_hinder_4 rfl (lv_at hl 1 rfl) ?_
  refine lv_iload_n hx hb dL_hinder_5 rfl (lv_at hl 2 rfl) ?_
  refine lv_iload_n hx hb dL_hinder_6 rfl (lv_at hl 3 rfl) ?_
  refine lv_iload hx hb dL_hinder_7 (lv_at hl 4 rfl) ?_
  refine mcV hM ⟨hx, hb, hml, hown, hts⟩ hK gL_hinder_X4_hinder rfl hd_X4_hinder ⟨by omega, by omega⟩ (va_recv hK hP (ci := 4) (q0 := 0) rfl e0) rfl hl.1 rfl (Nat.le_of_ble_eq_true rfl) dL_hinder_9 ⟨Nat.zero_le _, Nat.zero_le _⟩ hS (fun r w1 H locs hp1 hP hD hS => ?_)
  have eo1 : isOut ky w1 o f := (hfr r w1 hp1 30 (Or.inr (by decide))).trans eo
  refine lv_i2l (v := r.toInt64) hx hb dL_hinder_12 rfl ?_
  refine sv_last hx hb hK hP hD hS eo1 dL_hinder_13 (fun w2 H locs g2 hP hD hS eo2 hg2 fr2 => ?_)
  refine lv_goto (tgt := 25) hx hb dL_hinder_14 (by decide) ?_
  refine lv_iconst (v := nI 0) hx hb dL_hinder_25 ci_0 ?_
  exact hret 26 ls _ _ locs _ _ _ (Nat.zero_le _) (Nat.zero_le _) dL_hinder_26 hP hD hS ⟨rfl, r, w1, hp1, fr2, g2, eo2, hg2⟩
set_option maxHeartbeats 4000000 in
set_option maxRecDepth 100000 in
theorem wxI_hinder {l : Launch} {D : va_G} {ky : kT} {A : Nat → Prop} {Hs : Heap} {ws : va_W} (hP : va_P D CL ws Hs) (hD : va_D A ws) {h o : Nat} {fs : List Value} {f : Nat → Int64} (e0 : ws[0]? = some (h, .inr (4, fs))) (eo : isOut ky ws o f) {x y z u : Int32} {fr0 lo0 : Nat} (hf0 : fr0 ≤ 7) (hl0 : lo0 ≤ 104) {post : va_W → Prop} (hM : XU l yX4_hinder wsX4_hinder fr0 lo0 D ky A Hs [.ref h, .int x, .int y, .int z, .int u] EXI post) : WU l yL_hinder wsL_hinder 8 128 D ky A Hs [.ref h, .int x, .int y, .int z, .int u, .ref o] (fun k w => k = nI 1 ∧ post w) := by
  refine WU.of (cc := cL_hinder) (maxL := 7) (hh := [(0, 14, 17, 21), (0, 14, 21, 13)]) (by decide) rfl (Nat.le_of_ble_eq_true rfl) ?_
  intro pg en Rm sg mi av below meth co Qo hRf hRl hRc hRs hx hb hml hown hts hK hXE hNC htab hret ls hl
  have hl : lv_has ls 7 [(0, .ref h), (1, .int x), (2, .int y), (3, .int z), (4, .int u), (5, .ref o)] := hl
  have hS : va_S A Hs Hs [] := va_S.rf
  generalize ([] : List Loc) = locs at hS ⊢
  refine lv_aload hx hb dL_hinder_0 (lv_at hl 5 rfl) ?_
  refine lv_iconst (v := nI 0) hx hb dL_hinder_2 ci_0 ?_
  refine lv_aload_n hx hb dL_hinder_3 rfl (lv_at hl 0 rfl) ?_
  refine lv_iload_n hx hb dL_hinder_4 rfl (lv_at hl 1 rfl) ?_
  refine lv_iload_n hx hb dL_hinder_5 rfl (lv_at hl 2 rfl) ?_
  refine lv_iload_n hx hb dL_hinder_6 rfl (lv_at hl 3 rfl) ?_
  refine lv_iload hx hb dL_hinder_7 (lv_at hl 4 rfl) ?_
  refine xcV hM ⟨hx, hb, hml, hown, hts⟩ hK hXE gL_hinder_X4_hinder rfl hd_X4_hinder ⟨by omega, by omega⟩ (va_recv hK hP (ci := 4) (q0 := 0) rfl e0) rfl hl.1 rfl (Nat.le_of_ble_eq_true rfl) dL_hinder_9 ⟨by omega, by omega⟩ hS (fun w1 H locs q9 ce9 hp1 hP hD hS hq9 hv9 hc9 => ?_)
  refine vx_catch (own := RL) (name := EXI) hown [] ⟨0, 14, 17, 21⟩ [⟨0, 14, 21, 13⟩] htab (fun z hz => nomatch hz) (by decide) (by decide) (hts (.classLink RL 21 EXI) (by decide +kernel)) (va_Nw.use rfl hXE.1.2.2) hq9 hv9 hc9 ?_
  refine W.eq (g2 := F0 mi 17 ls [.ref q9]) rfl ?_
  refine lv_astore (lv' := [(6, .ref q9), (0, .ref h), (1, .int x), (2, .int y), (3, .int z), (4, .int u), (5, .ref o)]) hx hb dL_hinder_17 hl (by decide) rfl (fun ls hl => ?_)
  refine lv_iconst (v := nI 1) hx hb dL_hinder_19 ci_1 ?_
  exact hret 20 ls _ _ locs _ _ _ (Nat.le_refl _) (Nat.le_refl _) dL_hinder_20 hP hD hS ⟨rfl, hp1⟩
set_option maxHeartbeats 4000000 in
set_option maxRecDepth 100000 in
theorem wxA_hinder {l : Launch} {D : va_G} {ky : kT} {A : Nat → Prop} {Hs : Heap} {ws : va_W} (hP : va_P D CL ws Hs) (hD : va_D A ws) {h o : Nat} {fs : List Value} {f : Nat → Int64} (e0 : ws[0]? = some (h, .inr (4, fs))) (eo : isOut ky ws o f) {x y z u : Int32} {fr0 lo0 : Nat} (hf0 : fr0 ≤ 7) (hl0 : lo0 ≤ 104) {post : va_W → Prop} (hM : XU l yX4_hinder wsX4_hinder fr0 lo0 D ky A Hs [.ref h, .int x, .int y, .int z, .int u] EXA post) : WU l yL_hinder wsL_hinder 8 128 D ky A Hs [.ref h, .int x, .int y, .int z, .int u, .ref o] (fun k w => k = nI 2 ∧ post w) := by
  refine WU.of (cc := cL_hinder) (maxL := 7) (hh := [(0, 14, 17, 21), (0, 14, 21, 13)]) (by decide) rfl (Nat.le_of_ble_eq_true rfl) ?_
  intro pg en Rm sg mi av below meth co Qo hRf hRl hRc hRs hx hb hml hown hts hK hXE hNC htab hret ls hl
  have hl : lv_has ls 7 [(0, .ref h), (1, .int x), (2, .int y), (3, .int z), (4, .int u), (5, .ref o)] := hl
  have hS : va_S A Hs Hs [] := va_S.rf
  generalize ([] : List Loc) = locs at hS ⊢
  refine lv_aload hx hb dL_hinder_0 (lv_at hl 5 rfl) ?_
  refine lv_iconst (v := nI 0) hx hb dL_hinder_2 ci_0 ?_
  refine lv_aload_n hx hb dL_hinder_3 rfl (lv_at hl 0 rfl) ?_
  refine lv_iload_n hx hb dL_hinder_4 rfl (lv_at hl 1 rfl) ?_
  refine lv_iload_n hx hb dL_hinder_5 rfl (lv_at hl 2 rfl) ?_
  refine lv_iload_n hx hb dL_hinder_6 rfl (lv_at hl 3 rfl) ?_
  refine lv_iload hx hb dL_hinder_7 (lv_at hl 4 rfl) ?_
  refine xcV hM ⟨hx, hb, hml, hown, hts⟩ hK hXE gL_hinder_X4_hinder rfl hd_X4_hinder ⟨by omega, by omega⟩ (va_recv hK hP (ci := 4) (q0 := 0) rfl e0) rfl hl.1 rfl (Nat.le_of_ble_eq_true rfl) dL_hinder_9 ⟨by omega, by omega⟩ hS (fun w1 H locs q9 ce9 hp1 hP hD hS hq9 hv9 hc9 => ?_)
  refine vx_catch (own := RL) (name := EXA) hown [⟨0, 14, 17, 21⟩] ⟨0, 14, 21, 13⟩ [] htab (fun z hz => by rw [List.mem_singleton.mp hz]; exact Or.inr ⟨by decide, EXI, hts (.classLink RL 21 EXI) (by decide +kernel), hNC.2⟩) (by decide) (by decide) (hts (.classLink RL 13 EXA) (by decide +kernel)) (va_Nw.use rfl hXE.1.1) hq9 hv9 hc9 ?_
  refine W.eq (g2 := F0 mi 21 ls [.ref q9]) rfl ?_
  refine lv_astore (lv' := [(6, .ref q9), (0, .ref h), (1, .int x), (2, .int y), (3, .int z), (4, .int u), (5, .ref o)]) hx hb dL_hinder_21 hl (by decide) rfl (fun ls hl => ?_)
  refine lv_iconst (v := nI 2) hx hb dL_hinder_23 ci_2 ?_
  exact hret 24 ls _ _ locs _ _ _ (Nat.le_refl _) (Nat.le_refl _) dL_hinder_24 hP hD hS ⟨rfl, hp1⟩
set_option maxHeartbeats 4000000 in
set_option maxRecDepth 100000 in
theorem wk_setBase {l : Launch} {D : va_G} {ky : kT} {A : Nat → Prop} {Hs : Heap} {ws : va_W} (hP : va_P D CL ws Hs) (hD : va_D A ws) {h o : Nat} {fs : List Value} {f : Nat → Int64} (e0 : ws[0]? = some (h, .inr (4, fs))) (eo : isOut ky ws o f) {x : Int32} {fr0 lo0 : Nat} (hf0 : fr0 ≤ 7) (hl0 : lo0 ≤ 103) {post : Int32 → va_W → Prop} (hfr : ∀ r w, post r w → fr ws w 0 18) (hM : MU l yX4_setBase wsX4_setBase fr0 lo0 0 0 D ky A Hs [.ref h, .int x] post) : WU l yL_setBase wsL_setBase 8 124 D ky A Hs [.ref h, .int x, .ref o] (fun k w => k = nI 0 ∧ ∃ (r : Int32) (w1 : va_W), post r w1 ∧ fr w1 w 30 30 ∧ ∃ g : Nat → Int64, isOut ky w o g ∧ g 0 = r.toInt64) := by
  refine WU.of (cc := cL_setBase) (maxL := 4) (hh := [(0, 9, 12, 21)]) (by decide) rfl (Nat.le_of_ble_eq_true rfl) ?_
  intro pg en Rm sg mi av below meth co Qo hRf hRl hRc hRs hx hb hml hown hts hK hXE hNC htab hret ls hl
  have hl : lv_has ls 4 [(0, .ref h), (1, .int x), (2, .ref o)] := hl
  have hS : va_S A Hs Hs [] := va_S.rf
  generalize ([] : List Loc) = locs at hS ⊢
  refine lv_aload_n hx hb dL_setBase_0 rfl (lv_at hl 2 rfl) ?_
  refine lv_iconst (v := nI 0) hx hb dL_setBase_1 ci_0 ?_
  refine lv_aload_n hx hb dL_setBase_2 rfl (lv_at hl 0 rfl) ?_
  refine lv_iload_n hx hb dL_setBase_3 rfl (lv_at hl 1 rfl) ?_
  refine mcV hM ⟨hx, hb, hml, hown, hts⟩ hK gL_setBase_X4_setBase rfl hd_X4_setBase ⟨by omega, by omega⟩ (va_recv hK hP (ci := 4) (q0 := 0) rfl e0) rfl hl.1 rfl (Nat.le_of_ble_eq_true rfl) dL_setBase_4 ⟨Nat.zero_le _, Nat.zero_le _⟩ hS (fun r w1 H locs hp1 hP hD hS => ?_)
  have eo1 : isOut ky w1 o f := (hfr r w1 hp1 30 (Or.inr (by decide))).trans eo
  refine lv_i2l (v := r.toInt64) hx hb dL_setBase_7 rfl ?_
  refine sv_last hx hb hK hP hD hS eo1 dL_setBase_8 (fun w2 H locs g2 hP hD hS eo2 hg2 fr2 => ?_)
  refine lv_goto (tgt := 15) hx hb dL_setBase_9 (by decide) ?_
  refine lv_iconst (v := nI 0) hx hb dL_setBase_15 ci_0 ?_
  exact hret 16 ls _ _ locs _ _ _ (Nat.zero_le _) (Nat.zero_le _) dL_setBase_16 hP hD hS ⟨rfl, r, w1, hp1, fr2, g2, eo2, hg2⟩
set_option maxHeartbeats 4000000 in
set_option maxRecDepth 100000 in
theorem wxI_setBase {l : Launch} {D : va_G} {ky : kT} {A : Nat → Prop} {Hs : Heap} {ws : va_W} (hP : va_P D CL ws Hs) (hD : va_D A ws) {h o : Nat} {fs : List Value} {f : Nat → Int64} (e0 : ws[0]? = some (h, .inr (4, fs))) (eo : isOut ky ws o f) {x : Int32} {fr0 lo0 : Nat} (hf0 : fr0 ≤ 7) (hl0 : lo0 ≤ 103) {post : va_W → Prop} (hM : XU l yX4_setBase wsX4_setBase fr0 lo0 D ky A Hs [.ref h, .int x] EXI post) : WU l yL_setBase wsL_setBase 8 124 D ky A Hs [.ref h, .int x, .ref o] (fun k w => k = nI 1 ∧ post w) := by
  refine WU.of (cc := cL_setBase) (maxL := 4) (hh := [(0, 9, 12, 21)]) (by decide) rfl (Nat.le_of_ble_eq_true rfl) ?_
  intro pg en Rm sg mi av below meth co Qo hRf hRl hRc hRs hx hb hml hown hts hK hXE hNC htab hret ls hl
  have hl : lv_has ls 4 [(0, .ref h), (1, .int x), (2, .ref o)] := hl
  have hS : va_S A Hs Hs [] := va_S.rf
  generalize ([] : List Loc) = locs at hS ⊢
  refine lv_aload_n hx hb dL_setBase_0 rfl (lv_at hl 2 rfl) ?_
  refine lv_iconst (v := nI 0) hx hb dL_setBase_1 ci_0 ?_
  refine lv_aload_n hx hb dL_setBase_2 rfl (lv_at hl 0 rfl) ?_
  refine lv_iload_n hx hb dL_setBase_3 rfl (lv_at hl 1 rfl) ?_
  refine xcV hM ⟨hx, hb, hml, hown, hts⟩ hK hXE gL_setBase_X4_setBase rfl hd_X4_setBase ⟨by omega, by omega⟩ (va_recv hK hP (ci := 4) (q0 := 0) rfl e0) rfl hl.1 rfl (Nat.le_of_ble_eq_true rfl) dL_setBase_4 ⟨by omega, by omega⟩ hS (fun w1 H locs q9 ce9 hp1 hP hD hS hq9 hv9 hc9 => ?_)
  refine vx_catch (own := RL) (name := EXI) hown [] ⟨0, 9, 12, 21⟩ [] htab (fun z hz => nomatch hz) (by decide) (by decide) (hts (.classLink RL 21 EXI) (by decide +kernel)) (va_Nw.use rfl hXE.1.2.2) hq9 hv9 hc9 ?_
  refine W.eq (g2 := F0 mi 12 ls [.ref q9]) rfl ?_
  refine lv_astore_n (lv' := [(3, .ref q9), (0, .ref h), (1, .int x), (2, .ref o)]) hx hb dL_setBase_12 rfl hl (by decide) rfl (fun ls hl => ?_)
  refine lv_iconst (v := nI 1) hx hb dL_setBase_13 ci_1 ?_
  exact hret 14 ls _ _ locs _ _ _ (Nat.le_refl _) (Nat.le_refl _) dL_setBase_14 hP hD hS ⟨rfl, hp1⟩
set_option maxHeartbeats 4000000 in
set_option maxRecDepth 100000 in
theorem wk_isConnected {l : Launch} {D : va_G} {ky : kT} {A : Nat → Prop} {Hs : Heap} {ws : va_W} (hP : va_P D CL ws Hs) (hD : va_D A ws) {h o : Nat} {fs : List Value} {f : Nat → Int64} (e0 : ws[0]? = some (h, .inr (4, fs))) (eo : isOut ky ws o f) {x : Int32} {fr0 lo0 : Nat} (hf0 : fr0 ≤ 7) (hl0 : lo0 ≤ 103) {post : Int32 → va_W → Prop} (hfr : ∀ r w, post r w → fr ws w 0 18) (hM : MU l yX4_isConnected wsX4_isConnected fr0 lo0 0 0 D ky A Hs [.ref h, .int x] post) : WU l yL_isConnected wsL_isConnected 8 124 D ky A Hs [.ref h, .int x, .ref o] (fun k w => k = nI 0 ∧ ∃ (r : Int32) (w1 : va_W), post r w1 ∧ fr w1 w 30 30 ∧ ∃ g : Nat → Int64, isOut ky w o g ∧ g 0 = (if r = 0 then 0 else 1)) := by
  refine WU.of (cc := cL_isConnected) (maxL := 4) (hh := [(0, 16, 19, 13)]) (by decide) rfl (Nat.le_of_ble_eq_true rfl) ?_
  intro pg en Rm sg mi av below meth co Qo hRf hRl hRc hRs hx hb hml hown hts hK hXE hNC htab hret ls hl
  have hl : lv_has ls 4 [(0, .ref h), (1, .int x), (2, .ref o)] := hl
  have hS : va_S A Hs Hs [] := va_S.rf
  generalize ([] : List Loc) = locs at hS ⊢
  refine lv_aload_n hx hb dL_isConnected_0 rfl (lv_at hl 2 rfl) ?_
  refine lv_iconst (v := nI 0) hx hb dL_isConnected_1 ci_0 ?_
  refine lv_aload_n hx hb dL_isConnected_2 rfl (lv_at hl 0 rfl) ?_
  refine lv_iload_n hx hb dL_isConnected_3 rfl (lv_at hl 1 rfl) ?_
  refine mcV hM ⟨hx, hb, hml, hown, hts⟩ hK gL_isConnected_X4_isConnected rfl hd_X4_isConnected ⟨by omega, by omega⟩ (va_recv hK hP (ci := 4) (q0 := 0) rfl e0) rfl hl.1 rfl (Nat.le_of_ble_eq_true rfl) dL_isConnected_4 ⟨Nat.zero_le _, Nat.zero_le _⟩ hS (fun r w1 H locs hp1 hP hD hS => ?_)
  have eo1 : isOut ky w1 o f := (hfr r w1 hp1 30 (Or.inr (by decide))).trans eo
  refine lv_if_eq (tgt := 14) hx hb dL_isConnected_7 (by decide) (fun cz => ?_) (fun cz => ?_)
  · refine lv_lconst (v := 0) hx hb dL_isConnected_14 rfl ?_
    refine sv_last hx hb hK hP hD hS eo1 dL_isConnected_15 (fun w2 H locs g2 hP hD hS eo2 hg2 fr2 => ?_)
    refine lv_goto (tgt := 22) hx hb dL_isConnected_16 (by decide) ?_
    refine lv_iconst (v := nI 0) hx hb dL_isConnected_22 ci_0 ?_
    exact hret 23 ls _ _ locs _ _ _ (Nat.zero_le _) (Nat.zero_le _) dL_isConnected_23 hP hD hS ⟨rfl, r, w1, hp1, fr2, g2, eo2, hg2.trans (if_pos cz).symm⟩
  · refine lv_lconst (v := 1) hx hb dL_isConnected_10 rfl ?_
    refine lv_goto (tgt := 15) hx hb dL_isConnected_11 (by decide) ?_
    refine sv_last hx hb hK hP hD hS eo1 dL_isConnected_15 (fun w2 H locs g2 hP hD hS eo2 hg2 fr2 => ?_)
    refine lv_goto (tgt := 22) hx hb dL_isConnected_16 (by decide) ?_
    refine lv_iconst (v := nI 0) hx hb dL_isConnected_22 ci_0 ?_
    exact hret 23 ls _ _ locs _ _ _ (Nat.zero_le _) (Nat.zero_le _) dL_isConnected_23 hP hD hS ⟨rfl, r, w1, hp1, fr2, g2, eo2, hg2.trans (if_neg cz).symm⟩
set_option maxHeartbeats 4000000 in
set_option maxRecDepth 100000 in
theorem wxA_isConnected {l : Launch} {D : va_G} {ky : kT} {A : Nat → Prop} {Hs : Heap} {ws : va_W} (hP : va_P D CL ws Hs) (hD : va_D A ws) {h o : Nat} {fs : List Value} {f : Nat → Int64} (e0 : ws[0]? = some (h, .inr (4, fs))) (eo : isOut ky ws o f) {x : Int32} {fr0 lo0 : Nat} (hf0 : fr0 ≤ 7) (hl0 : lo0 ≤ 103) {post : va_W → Prop} (hM : XU l yX4_isConnected wsX4_isConnected fr0 lo0 D ky A Hs [.ref h, .int x] EXA post) : WU l yL_isConnected wsL_isConnected 8 124 D ky A Hs [.ref h, .int x, .ref o] (fun k w => k = nI 1 ∧ post w) := by
  refine WU.of (cc := cL_isConnected) (maxL := 4) (hh := [(0, 16, 19, 13)]) (by decide) rfl (Nat.le_of_ble_eq_true rfl) ?_
  intro pg en Rm sg mi av below meth co Qo hRf hRl hRc hRs hx hb hml hown hts hK hXE hNC htab hret ls hl
  have hl : lv_has ls 4 [(0, .ref h), (1, .int x), (2, .ref o)] := hl
  have hS : va_S A Hs Hs [] := va_S.rf
  generalize ([] : List Loc) = locs at hS ⊢
  refine lv_aload_n hx hb dL_isConnected_0 rfl (lv_at hl 2 rfl) ?_
  refine lv_iconst (v := nI 0) hx hb dL_isConnected_1 ci_0 ?_
  refine lv_aload_n hx hb dL_isConnected_2 rfl (lv_at hl 0 rfl) ?_
  refine lv_iload_n hx hb dL_isConnected_3 rfl (lv_at hl 1 rfl) ?_
  refine xcV hM ⟨hx, hb, hml, hown, hts⟩ hK hXE gL_isConnected_X4_isConnected rfl hd_X4_isConnected ⟨by omega, by omega⟩ (va_recv hK hP (ci := 4) (q0 := 0) rfl e0) rfl hl.1 rfl (Nat.le_of_ble_eq_true rfl) dL_isConnected_4 ⟨by omega, by omega⟩ hS (fun w1 H locs q9 ce9 hp1 hP hD hS hq9 hv9 hc9 => ?_)
  refine vx_catch (own := RL) (name := EXA) hown [] ⟨0, 16, 19, 13⟩ [] htab (fun z hz => nomatch hz) (by decide) (by decide) (hts (.classLink RL 13 EXA) (by decide +kernel)) (va_Nw.use rfl hXE.1.1) hq9 hv9 hc9 ?_
  refine W.eq (g2 := F0 mi 19 ls [.ref q9]) rfl ?_
  refine lv_astore_n (lv' := [(3, .ref q9), (0, .ref h), (1, .int x), (2, .ref o)]) hx hb dL_isConnected_19 rfl hl (by decide) rfl (fun ls hl => ?_)
  refine lv_iconst (v := nI 1) hx hb dL_isConnected_20 ci_1 ?_
  exact hret 21 ls _ _ locs _ _ _ (Nat.le_refl _) (Nat.le_refl _) dL_isConnected_21 hP hD hS ⟨rfl, hp1⟩
set_option maxHeartbeats 4000000 in
set_option maxRecDepth 100000 in
theorem wk_isSteady {l : Launch} {D : va_G} {ky : kT} {A : Nat → Prop} {Hs : Heap} {ws : va_W} (hP : va_P D CL ws Hs) (hD : va_D A ws) {h o : Nat} {fs : List Value} {f : Nat → Int64} (e0 : ws[0]? = some (h, .inr (4, fs))) (eo : isOut ky ws o f) {x : Int32} {fr0 lo0 : Nat} (hf0 : fr0 ≤ 7) (hl0 : lo0 ≤ 103) {post : Int32 → va_W → Prop} (hfr : ∀ r w, post r w → fr ws w 0 18) (hM : MU l yX4_isSteady wsX4_isSteady fr0 lo0 0 0 D ky A Hs [.ref h, .int x] post) : WU l yL_isSteady wsL_isSteady 8 124 D ky A Hs [.ref h, .int x, .ref o] (fun k w => k = nI 0 ∧ ∃ (r : Int32) (w1 : va_W), post r w1 ∧ fr w1 w 30 30 ∧ ∃ g : Nat → Int64, isOut ky w o g ∧ g 0 = (if r = 0 then 0 else 1)) := by
  refine WU.of (cc := cL_isSteady) (maxL := 4) (hh := [(0, 16, 19, 13)]) (by decide) rfl (Nat.le_of_ble_eq_true rfl) ?_
  intro pg en Rm sg mi av below meth co Qo hRf hRl hRc hRs hx hb hml hown hts hK hXE hNC htab hret ls hl
  have hl : lv_has ls 4 [(0, .ref h), (1, .int x), (2, .ref o)] := hl
  have hS : va_S A Hs Hs [] := va_S.rf
  generalize ([] : List Loc) = locs at hS ⊢
  refine lv_aload_n hx hb dL_isSteady_0 rfl (lv_at hl 2 rfl) ?_
  refine lv_iconst (v := nI 0) hx hb dL_isSteady_1 ci_0 ?_
  refine lv_aload_n hx hb dL_isSteady_2 rfl (lv_at hl 0 rfl) ?_
  refine lv_iload_n hx hb dL_isSteady_3 rfl (lv_at hl 1 rfl) ?_
  refine mcV hM ⟨hx, hb, hml, hown, hts⟩ hK gL_isSteady_X4_isSteady rfl hd_X4_isSteady ⟨by omega, by omega⟩ (va_recv hK hP (ci := 4) (q0 := 0) rfl e0) rfl hl.1 rfl (Nat.le_of_ble_eq_true rfl) dL_isSteady_4 ⟨Nat.zero_le _, Nat.zero_le _⟩ hS (fun r w1 H locs hp1 hP hD hS => ?_)
  have eo1 : isOut ky w1 o f := (hfr r w1 hp1 30 (Or.inr (by decide))).trans eo
  refine lv_if_eq (tgt := 14) hx hb dL_isSteady_7 (by decide) (fun cz => ?_) (fun cz => ?_)
  · refine lv_lconst (v := 0) hx hb dL_isSteady_14 rfl ?_
    refine sv_last hx hb hK hP hD hS eo1 dL_isSteady_15 (fun w2 H locs g2 hP hD hS eo2 hg2 fr2 => ?_)
    refine lv_goto (tgt := 22) hx hb dL_isSteady_16 (by decide) ?_
    refine lv_iconst (v := nI 0) hx hb dL_isSteady_22 ci_0 ?_
    exact hret 23 ls _ _ locs _ _ _ (Nat.zero_le _) (Nat.zero_le _) dL_isSteady_23 hP hD hS ⟨rfl, r, w1, hp1, fr2, g2, eo2, hg2.trans (if_pos cz).symm⟩
  · refine lv_lconst (v := 1) hx hb dL_isSteady_10 rfl ?_
    refine lv_goto (tgt := 15) hx hb dL_isSteady_11 (by decide) ?_
    refine sv_last hx hb hK hP hD hS eo1 dL_isSteady_15 (fun w2 H locs g2 hP hD hS eo2 hg2 fr2 => ?_)
    refine lv_goto (tgt := 22) hx hb dL_isSteady_16 (by decide) ?_
    refine lv_iconst (v := nI 0) hx hb dL_isSteady_22 ci_0 ?_
    exact hret 23 ls _ _ locs _ _ _ (Nat.zero_le _) (Nat.zero_le _) dL_isSteady_23 hP hD hS ⟨rfl, r, w1, hp1, fr2, g2, eo2, hg2.trans (if_neg cz).symm⟩
set_option maxHeartbeats 4000000 in
set_option maxRecDepth 100000 in
theorem wxA_isSteady {l : Launch} {D : va_G} {ky : kT} {A : Nat → Prop} {Hs : Heap} {ws : va_W} (hP : va_P D CL ws Hs) (hD : va_D A ws) {h o : Nat} {fs : List Value} {f : Nat → Int64} (e0 : ws[0]? = some (h, .inr (4, fs))) (eo : isOut ky ws o f) {x : Int32} {fr0 lo0 : Nat} (hf0 : fr0 ≤ 7) (hl0 : lo0 ≤ 103) {post : va_W → Prop} (hM : XU l yX4_isSteady wsX4_isSteady fr0 lo0 D ky A Hs [.ref h, .int x] EXA post) : WU l yL_isSteady wsL_isSteady 8 124 D ky A Hs [.ref h, .int x, .ref o] (fun k w => k = nI 1 ∧ post w) := by
  refine WU.of (cc := cL_isSteady) (maxL := 4) (hh := [(0, 16, 19, 13)]) (by decide) rfl (Nat.le_of_ble_eq_true rfl) ?_
  intro pg en Rm sg mi av below meth co Qo hRf hRl hRc hRs hx hb hml hown hts hK hXE hNC htab hret ls hl
  have hl : lv_has ls 4 [(0, .ref h), (1, .int x), (2, .ref o)] := hl
  have hS : va_S A Hs Hs [] := va_S.rf
  generalize ([] : List Loc) = locs at hS ⊢
  refine lv_aload_n hx hb dL_isSteady_0 rfl (lv_at hl 2 rfl) ?_
  refine lv_iconst (v := nI 0) hx hb dL_isSteady_1 ci_0 ?_
  refine lv_aload_n hx hb dL_isSteady_2 rfl (lv_at hl 0 rfl) ?_
  refine lv_iload_n hx hb dL_isSteady_3 rfl (lv_at hl 1 rfl) ?_
  refine xcV hM ⟨hx, hb, hml, hown, hts⟩ hK hXE gL_isSteady_X4_isSteady rfl hd_X4_isSteady ⟨by omega, by omega⟩ (va_recv hK hP (ci := 4) (q0 := 0) rfl e0) rfl hl.1 rfl (Nat.le_of_ble_eq_true rfl) dL_isSteady_4 ⟨by omega, by omega⟩ hS (fun w1 H locs q9 ce9 hp1 hP hD hS hq9 hv9 hc9 => ?_)
  refine vx_catch (own := RL) (name := EXA) hown [] ⟨0, 16, 19, 13⟩ [] htab (fun z hz => nomatch hz) (by decide) (by decide) (hts (.classLink RL 13 EXA) (by decide +kernel)) (va_Nw.use rfl hXE.1.1) hq9 hv9 hc9 ?_
  refine W.eq (g2 := F0 mi 19 ls [.ref q9]) rfl ?_
  refine lv_astore_n (lv' := [(3, .ref q9), (0, .ref h), (1, .int x), (2, .ref o)]) hx hb dL_isSteady_19 rfl hl (by decide) rfl (fun ls hl => ?_)
  refine lv_iconst (v := nI 1) hx hb dL_isSteady_20 ci_1 ?_
  exact hret 21 ls _ _ locs _ _ _ (Nat.le_refl _) (Nat.le_refl _) dL_isSteady_21 hP hD hS ⟨rfl, hp1⟩
set_option maxHeartbeats 4000000 in
set_option maxRecDepth 100000 in
theorem wk_free {l : Launch} {D : va_G} {ky : kT} {A : Nat → Prop} {Hs : Heap} {ws : va_W} (hP : va_P D CL ws Hs) (hD : va_D A ws) {h o : Nat} {fs : List Value} {f : Nat → Int64} (e0 : ws[0]? = some (h, .inr (4, fs))) (eo : isOut ky ws o f) {x y : Int32} {fr0 lo0 : Nat} (hf0 : fr0 ≤ 8) (hl0 : lo0 ≤ 125) {post : Int32 → va_W → Prop} (hfr : ∀ r w, post r w → fr ws w 0 18) (hM : MU l yX4_free wsX4_free fr0 lo0 0 0 D ky A Hs [.ref h, .int x, .int y] post) : WU l yL_free wsL_free 9 147 D ky A Hs [.ref h, .int x, .int y, .ref o] (fun k w => k = nI 0 ∧ ∃ (r : Int32) (w1 : va_W), post r w1 ∧ fr w1 w 30 30 ∧ ∃ g : Nat → Int64, isOut ky w o g ∧ g 0 = r.toInt64) := by
  refine WU.of (cc := cL_free) (maxL := 5) (hh := [(0, 10, 13, 21), (0, 10, 17, 13)]) (by decide) rfl (Nat.le_of_ble_eq_true rfl) ?_
  intro pg en Rm sg mi av below meth co Qo hRf hRl hRc hRs hx hb hml hown hts hK hXE hNC htab hret ls hl
  have hl : lv_has ls 5 [(0, .ref h), (1, .int x), (2, .int y), (3, .ref o)] := hl
  have hS : va_S A Hs Hs [] := va_S.rf
  generalize ([] : List Loc) = locs at hS ⊢
  refine lv_aload_n hx hb dL_free_0 rfl (lv_at hl 3 rfl) ?_
  refine lv_iconst (v := nI 0) hx hb dL_free_1 ci_0 ?_
  refine lv_aload_n hx hb dL_free_2 rfl (lv_at hl 0 rfl) ?_
  refine lv_iload_n hx hb dL_free_3 rfl (lv_at hl 1 rfl) ?_
  refine lv_iload_n hx hb dL_free_4 rfl (lv_at hl 2 rfl) ?_
  refine mcV hM ⟨hx, hb, hml, hown, hts⟩ hK gL_free_X4_free rfl hd_X4_free ⟨by omega, by omega⟩ (va_recv hK hP (ci := 4) (q0 := 0) rfl e0) rfl hl.1 rfl (Nat.le_of_ble_eq_true rfl) dL_free_5 ⟨Nat.zero_le _, Nat.zero_le _⟩ hS (fun r w1 H locs hp1 hP hD hS => ?_)
  have eo1 : isOut ky w1 o f := (hfr r w1 hp1 30 (Or.inr (by decide))).trans eo
  refine lv_i2l (v := r.toInt64) hx hb dL_free_8 rfl ?_
  refine sv_last hx hb hK hP hD hS eo1 dL_free_9 (fun w2 H locs g2 hP hD hS eo2 hg2 fr2 => ?_)
  refine lv_goto (tgt := 21) hx hb dL_free_10 (by decide) ?_
  refine lv_iconst (v := nI 0) hx hb dL_free_21 ci_0 ?_
  exact hret 22 ls _ _ locs _ _ _ (Nat.zero_le _) (Nat.zero_le _) dL_free_22 hP hD hS ⟨rfl, r, w1, hp1, fr2, g2, eo2, hg2⟩
set_option maxHeartbeats 4000000 in
set_option maxRecDepth 100000 in
theorem wxI_free {l : Launch} {D : va_G} {ky : kT} {A : Nat → Prop} {Hs : Heap} {ws : va_W} (hP : va_P D CL ws Hs) (hD : va_D A ws) {h o : Nat} {fs : List Value} {f : Nat → Int64} (e0 : ws[0]? = some (h, .inr (4, fs))) (eo : isOut ky ws o f) {x y : Int32} {fr0 lo0 : Nat} (hf0 : fr0 ≤ 8) (hl0 : lo0 ≤ 125) {post : va_W → Prop} (hM : XU l yX4_free wsX4_free fr0 lo0 D ky A Hs [.ref h, .int x, .int y] EXI post) : WU l yL_free wsL_free 9 147 D ky A Hs [.ref h, .int x, .int y, .ref o] (fun k w => k = nI 1 ∧ post w) := by
  refine WU.of (cc := cL_free) (maxL := 5) (hh := [(0, 10, 13, 21), (0, 10, 17, 13)]) (by decide) rfl (Nat.le_of_ble_eq_true rfl) ?_
  intro pg en Rm sg mi av below meth co Qo hRf hRl hRc hRs hx hb hml hown hts hK hXE hNC htab hret ls hl
  have hl : lv_has ls 5 [(0, .ref h), (1, .int x), (2, .int y), (3, .ref o)] := hl
  have hS : va_S A Hs Hs [] := va_S.rf
  generalize ([] : List Loc) = locs at hS ⊢
  refine lv_aload_n hx hb dL_free_0 rfl (lv_at hl 3 rfl) ?_
  refine lv_iconst (v := nI 0) hx hb dL_free_1 ci_0 ?_
  refine lv_aload_n hx hb dL_free_2 rfl (lv_at hl 0 rfl) ?_
  refine lv_iload_n hx hb dL_free_3 rfl (lv_at hl 1 rfl) ?_
  refine lv_iload_n hx hb dL_free_4 rfl (lv_at hl 2 rfl) ?_
  refine xcV hM ⟨hx, hb, hml, hown, hts⟩ hK hXE gL_free_X4_free rfl hd_X4_free ⟨by omega, by omega⟩ (va_recv hK hP (ci := 4) (q0 := 0) rfl e0) rfl hl.1 rfl (Nat.le_of_ble_eq_true rfl) dL_free_5 ⟨by omega, by omega⟩ hS (fun w1 H locs q9 ce9 hp1 hP hD hS hq9 hv9 hc9 => ?_)
  refine vx_catch (own := RL) (name := EXI) hown [] ⟨0, 10, 13, 21⟩ [⟨0, 10, 17, 13⟩] htab (fun z hz => nomatch hz) (by decide) (by decide) (hts (.classLink RL 21 EXI) (by decide +kernel)) (va_Nw.use rfl hXE.1.2.2) hq9 hv9 hc9 ?_
  refine W.eq (g2 := F0 mi 13 ls [.ref q9]) rfl ?_
  refine lv_astore (lv' := [(4, .ref q9), (0, .ref h), (1, .int x), (2, .int y), (3, .ref o)]) hx hb dL_free_13 hl (by decide) rfl (fun ls hl => ?_)
  refine lv_iconst (v := nI 1) hx hb dL_free_15 ci_1 ?_
  exact hret 16 ls _ _ locs _ _ _ (Nat.le_refl _) (Nat.le_refl _) dL_free_16 hP hD hS ⟨rfl, hp1⟩
set_option maxHeartbeats 4000000 in
set_option maxRecDepth 100000 in
theorem wxA_free {l : Launch} {D : va_G} {ky : kT} {A : Nat → Prop} {Hs : Heap} {ws : va_W} (hP : va_P D CL ws Hs) (hD : va_D A ws) {h o : Nat} {fs : List Value} {f : Nat → Int64} (e0 : ws[0]? = some (h, .inr (4, fs))) (eo : isOut ky ws o f) {x y : Int32} {fr0 lo0 : Nat} (hf0 : fr0 ≤ 8) (hl0 : lo0 ≤ 125) {post : va_W → Prop} (hM : XU l yX4_free wsX4_free fr0 lo0 D ky A Hs [.ref h, .int x, .int y] EXA post) : WU l yL_free wsL_free 9 147 D ky A Hs [.ref h, .int x, .int y, .ref o] (fun k w => k = nI 2 ∧ post w) := by
  refine WU.of (cc := cL_free) (maxL := 5) (hh := [(0, 10, 13, 21), (0, 10, 17, 13)]) (by decide) rfl (Nat.le_of_ble_eq_true rfl) ?_
  intro pg en Rm sg mi av below meth co Qo hRf hRl hRc hRs hx hb hml hown hts hK hXE hNC htab hret ls hl
  have hl : lv_has ls 5 [(0, .ref h), (1, .int x), (2, .int y), (3, .ref o)] := hl
  have hS : va_S A Hs Hs [] := va_S.rf
  generalize ([] : List Loc) = locs at hS ⊢
  refine lv_aload_n hx hb dL_free_0 rfl (lv_at hl 3 rfl) ?_
  refine lv_iconst (v := nI 0) hx hb dL_free_1 ci_0 ?_
  refine lv_aload_n hx hb dL_free_2 rfl (lv_at hl 0 rfl) ?_
  refine lv_iload_n hx hb dL_free_3 rfl (lv_at hl 1 rfl) ?_
  refine lv_iload_n hx hb dL_free_4 rfl (lv_at hl 2 rfl) ?_
  refine xcV hM ⟨hx, hb, hml, hown, hts⟩ hK hXE gL_free_X4_free rfl hd_X4_free ⟨by omega, by omega⟩ (va_recv hK hP (ci := 4) (q0 := 0) rfl e0) rfl hl.1 rfl (Nat.le_of_ble_eq_true rfl) dL_free_5 ⟨by omega, by omega⟩ hS (fun w1 H locs q9 ce9 hp1 hP hD hS hq9 hv9 hc9 => ?_)
  refine vx_catch (own := RL) (name := EXA) hown [⟨0, 10, 13, 21⟩] ⟨0, 10, 17, 13⟩ [] htab (fun z hz => by rw [List.mem_singleton.mp hz]; exact Or.inr ⟨by decide, EXI, hts (.classLink RL 21 EXI) (by decide +kernel), hNC.2⟩) (by decide) (by decide) (hts (.classLink RL 13 EXA) (by decide +kernel)) (va_Nw.use rfl hXE.1.1) hq9 hv9 hc9 ?_
  refine W.eq (g2 := F0 mi 17 ls [.ref q9]) rfl ?_
  refine lv_astore (lv' := [(4, .ref q9), (0, .ref h), (1, .int x), (2, .int y), (3, .ref o)]) hx hb dL_free_17 hl (by decide) rfl (fun ls hl => ?_)
  refine lv_iconst (v := nI 2) hx hb dL_free_19 ci_2 ?_
  exact hret 20 ls _ _ locs _ _ _ (Nat.le_refl _) (Nat.le_refl _) dL_free_20 hP hD hS ⟨rfl, hp1⟩
set_option maxHeartbeats 4000000 in
set_option maxRecDepth 100000 in
theorem wk_canTake {l : Launch} {D : va_G} {ky : kT} {A : Nat → Prop} {Hs : Heap} {ws : va_W} (hP : va_P D CL ws Hs) (hD : va_D A ws) {h o : Nat} {fs : List Value} {f : Nat → Int64} (e0 : ws[0]? = some (h, .inr (4, fs))) (eo : isOut ky ws o f) {x y : Int32} {fr0 lo0 : Nat} (hf0 : fr0 ≤ 8) (hl0 : lo0 ≤ 125) {post : Int32 → va_W → Prop} (hfr : ∀ r w, post r w → fr ws w 0 18) (hM : MU l yX4_canTake wsX4_canTake fr0 lo0 0 0 D ky A Hs [.ref h, .int x, .int y] post) : WU l yL_canTake wsL_canTake 9 147 D ky A Hs [.ref h, .int x, .int y, .ref o] (fun k w => k = nI 0 ∧ ∃ (r : Int32) (w1 : va_W), post r w1 ∧ fr w1 w 30 30 ∧ ∃ g : Nat → Int64, isOut ky w o g ∧ g 0 = (if r = 0 then 0 else 1)) := by
  refine WU.of (cc := cL_canTake) (maxL := 5) (hh := [(0, 17, 20, 21), (0, 17, 24, 13)]) (by decide) rfl (Nat.le_of_ble_eq_true rfl) ?_
  intro pg en Rm sg mi av below meth co Qo hRf hRl hRc hRs hx hb hml hown hts hK hXE hNC htab hret ls hl
  have hl : lv_has ls 5 [(0, .ref h), (1, .int x), (2, .int y), (3, .ref o)] := hl
  have hS : va_S A Hs Hs [] := va_S.rf
  generalize ([] : List Loc) = locs at hS ⊢
  refine lv_aload_n hx hb dL_canTake_0 rfl (lv_at hl 3 rfl) ?_
  refine lv_iconst (v := nI 0) hx hb dL_canTake_1 ci_0 ?_
  refine lv_aload_n hx hb dL_canTake_2 rfl (lv_at hl 0 rfl) ?_
  refine lv_iload_n hx hb dL_canTake_3 rfl (lv_at hl 1 rfl) ?_
  refine lv_iload_n hx hb dL_canTake_4 rfl (lv_at hl 2 rfl) ?_
  refine mcV hM ⟨hx, hb, hml, hown, hts⟩ hK gL_canTake_X4_canTake rfl hd_X4_canTake ⟨by omega, by omega⟩ (va_recv hK hP (ci := 4) (q0 := 0) rfl e0) rfl hl.1 rfl (Nat.le_of_ble_eq_true rfl) dL_canTake_5 ⟨Nat.zero_le _, Nat.zero_le _⟩ hS (fun r w1 H locs hp1 hP hD hS => ?_)
  have eo1 : isOut ky w1 o f := (hfr r w1 hp1 30 (Or.inr (by decide))).trans eo
  refine lv_if_eq (tgt := 15) hx hb dL_canTake_8 (by decide) (fun cz => ?_) (fun cz => ?_)
  · refine lv_lconst (v := 0) hx hb dL_canTake_15 rfl ?_
    refine sv_last hx hb hK hP hD hS eo1 dL_canTake_16 (fun w2 H locs g2 hP hD hS eo2 hg2 fr2 => ?_)
    refine lv_goto (tgt := 28) hx hb dL_canTake_17 (by decide) ?_
    refine lv_iconst (v := nI 0) hx hb dL_canTake_28 ci_0 ?_
    exact hret 29 ls _ _ locs _ _ _ (Nat.zero_le _) (Nat.zero_le _) dL_canTake_29 hP hD hS ⟨rfl, r, w1, hp1, fr2, g2, eo2, hg2.trans (if_pos cz).symm⟩
  · refine lv_lconst (v := 1) hx hb dL_canTake_11 rfl ?_
    refine lv_goto (tgt := 16) hx hb dL_canTake_12 (by decide) ?_
    refine sv_last hx hb hK hP hD hS eo1 dL_canTake_16 (fun w2 H locs g2 hP hD hS eo2 hg2 fr2 => ?_)
    refine lv_goto (tgt := 28) hx hb dL_canTake_17 (by decide) ?_
    refine lv_iconst (v := nI 0) hx hb dL_canTake_28 ci_0 ?_
    exact hret 29 ls _ _ locs _ _ _ (Nat.zero_le _) (Nat.zero_le _) dL_canTake_29 hP hD hS ⟨rfl, r, w1, hp1, fr2, g2, eo2, hg2.trans (if_neg cz).symm⟩
set_option maxHeartbeats 4000000 in
set_option maxRecDepth 100000 in
theorem wxI_canTake {l : Launch} {D : va_G} {ky : kT} {A : Nat → Prop} {Hs : Heap} {ws : va_W} (hP : va_P D CL ws Hs) (hD : va_D A ws) {h o : Nat} {fs : List Value} {f : Nat → Int64} (e0 : ws[0]? = some (h, .inr (4, fs))) (eo : isOut ky ws o f) {x y : Int32} {fr0 lo0 : Nat} (hf0 : fr0 ≤ 8) (hl0 : lo0 ≤ 125) {post : va_W → Prop} (hM : XU l yX4_canTake wsX4_canTake fr0 lo0 D ky A Hs [.ref h, .int x, .int y] EXI post) : WU l yL_canTake wsL_canTake 9 147 D ky A Hs [.ref h, .int x, .int y, .ref o] (fun k w => k = nI 1 ∧ post w) := by
  refine WU.of (cc := cL_canTake) (maxL := 5) (hh := [(0, 17, 20, 21), (0, 17, 24, 13)]) (by decide) rfl (Nat.le_of_ble_eq_true rfl) ?_
  intro pg en Rm sg mi av below meth co Qo hRf hRl hRc hRs hx hb hml hown hts hK hXE hNC htab hret ls hl
  have hl : lv_has ls 5 [(0, .ref h), (1, .int x), (2, .int y), (3, .ref o)] := hl
  have hS : va_S A Hs Hs [] := va_S.rf
  generalize ([] : List Loc) = locs at hS ⊢
  refine lv_aload_n hx hb dL_canTake_0 rfl (lv_at hl 3 rfl) ?_
  refine lv_iconst (v := nI 0) hx hb dL_canTake_1 ci_0 ?_
  refine lv_aload_n hx hb dL_canTake_2 rfl (lv_at hl 0 rfl) ?_
  refine lv_iload_n hx hb dL_canTake_3 rfl (lv_at hl 1 rfl) ?_
  refine lv_iload_n hx hb dL_canTake_4 rfl (lv_at hl 2 rfl) ?_
  refine xcV hM ⟨hx, hb, hml, hown, hts⟩ hK hXE gL_canTake_X4_canTake rfl hd_X4_canTake ⟨by omega, by omega⟩ (va_recv hK hP (ci := 4) (q0 := 0) rfl e0) rfl hl.1 rfl (Nat.le_of_ble_eq_true rfl) dL_canTake_5 ⟨by omega, by omega⟩ hS (fun w1 H locs q9 ce9 hp1 hP hD hS hq9 hv9 hc9 => ?_)
  refine vx_catch (own := RL) (name := EXI) hown [] ⟨0, 17, 20, 21⟩ [⟨0, 17, 24, 13⟩] htab (fun z hz => nomatch hz) (by decide) (by decide) (hts (.classLink RL 21 EXI) (by decide +kernel)) (va_Nw.use rfl hXE.1.2.2) hq9 hv9 hc9 ?_
  refine W.eq (g2 := F0 mi 20 ls [.ref q9]) rfl ?_
  refine lv_astore (lv' := [(4, .ref q9), (0, .ref h), (1, .int x), (2, .int y), (3, .ref o)]) hx hb dL_canTake_20 hl (by decide) rfl (fun ls hl => ?_)
  refine lv_iconst (v := nI 1) hx hb dL_canTake_22 ci_1 ?_
  exact hret 23 ls _ _ locs _ _ _ (Nat.le_refl _) (Nat.le_refl _) dL_canTake_23 hP hD hS ⟨rfl, hp1⟩
set_option maxHeartbeats 4000000 in
set_option maxRecDepth 100000 in
theorem wxA_canTake {l : Launch} {D : va_G} {ky : kT} {A : Nat → Prop} {Hs : Heap} {ws : va_W} (hP : va_P D CL ws Hs) (hD : va_D A ws) {h o : Nat} {fs : List Value} {f : Nat → Int64} (e0 : ws[0]? = some (h, .inr (4, fs))) (eo : isOut ky ws o f) {x y : Int32} {fr0 lo0 : Nat} (hf0 : fr0 ≤ 8) (hl0 : lo0 ≤ 125) {post : va_W → Prop} (hM : XU l yX4_canTake wsX4_canTake fr0 lo0 D ky A Hs [.ref h, .int x, .int y] EXA post) : WU l yL_canTake wsL_canTake 9 147 D ky A Hs [.ref h, .int x, .int y, .ref o] (fun k w => k = nI 2 ∧ post w) := by
  refine WU.of (cc := cL_canTake) (maxL := 5) (hh := [(0, 17, 20, 21), (0, 17, 24, 13)]) (by decide) rfl (Nat.le_of_ble_eq_true rfl) ?_
  intro pg en Rm sg mi av below meth co Qo hRf hRl hRc hRs hx hb hml hown hts hK hXE hNC htab hret ls hl
  have hl : lv_has ls 5 [(0, .ref h), (1, .int x), (2, .int y), (3, .ref o)] := hl
  have hS : va_S A Hs Hs [] := va_S.rf
  generalize ([] : List Loc) = locs at hS ⊢
  refine lv_aload_n hx hb dL_canTake_0 rfl (lv_at hl 3 rfl) ?_
  refine lv_iconst (v := nI 0) hx hb dL_canTake_1 ci_0 ?_
  refine lv_aload_n hx hb dL_canTake_2 rfl (lv_at hl 0 rfl) ?_
  refine lv_iload_n hx hb dL_canTake_3 rfl (lv_at hl 1 rfl) ?_
  refine lv_iload_n hx hb dL_canTake_4 rfl (lv_at hl 2 rfl) ?_
  refine xcV hM ⟨hx, hb, hml, hown, hts⟩ hK hXE gL_canTake_X4_canTake rfl hd_X4_canTake ⟨by omega, by omega⟩ (va_recv hK hP (ci := 4) (q0 := 0) rfl e0) rfl hl.1 rfl (Nat.le_of_ble_eq_true rfl) dL_canTake_5 ⟨by omega, by omega⟩ hS (fun w1 H locs q9 ce9 hp1 hP hD hS hq9 hv9 hc9 => ?_)
  refine vx_catch (own := RL) (name := EXA) hown [⟨0, 17, 20, 21⟩] ⟨0, 17, 24, 13⟩ [] htab (fun z hz => by rw [List.mem_singleton.mp hz]; exact Or.inr ⟨by decide, EXI, hts (.classLink RL 21 EXI) (by decide +kernel), hNC.2⟩) (by decide) (by decide) (hts (.classLink RL 13 EXA) (by decide +kernel)) (va_Nw.use rfl hXE.1.1) hq9 hv9 hc9 ?_
  refine W.eq (g2 := F0 mi 24 ls [.ref q9]) rfl ?_
  refine lv_astore (lv' := [(4, .ref q9), (0, .ref h), (1, .int x), (2, .int y), (3, .ref o)]) hx hb dL_canTake_24 hl (by decide) rfl (fun ls hl => ?_)
  refine lv_iconst (v := nI 2) hx hb dL_canTake_26 ci_2 ?_
  exact hret 27 ls _ _ locs _ _ _ (Nat.le_refl _) (Nat.le_refl _) dL_canTake_27 hP hD hS ⟨rfl, hp1⟩
set_option maxHeartbeats 4000000 in
set_option maxRecDepth 100000 in
theorem wk_movesWith {l : Launch} {D : va_G} {ky : kT} {A : Nat → Prop} {Hs : Heap} {ws : va_W} (hP : va_P D CL ws Hs) (hD : va_D A ws) {h o : Nat} {fs : List Value} {f : Nat → Int64} (e0 : ws[0]? = some (h, .inr (4, fs))) (eo : isOut ky ws o f) {x y : Int32} {fr0 lo0 : Nat} (hf0 : fr0 ≤ 7) (hl0 : lo0 ≤ 103) {post : Int32 → va_W → Prop} (hfr : ∀ r w, post r w → fr ws w 0 18) (hM : MU l yX4_movesWith wsX4_movesWith fr0 lo0 0 0 D ky A Hs [.ref h, .int x, .int y] post) : WU l yL_movesWith wsL_movesWith 8 125 D ky A Hs [.ref h, .int x, .int y, .ref o] (fun k w => k = nI 0 ∧ ∃ (r : Int32) (w1 : va_W), post r w1 ∧ fr w1 w 30 30 ∧ ∃ g : Nat → Int64, isOut ky w o g ∧ g 0 = r.toInt64) := by
  refine WU.of (cc := cL_movesWith) (maxL := 5) (hh := [(0, 10, 13, 21)]) (by decide) rfl (Nat.le_of_ble_eq_true rfl) ?_
  intro pg en Rm sg mi av below meth co Qo hRf hRl hRc hRs hx hb hml hown hts hK hXE hNC htab hret ls hl
  have hl : lv_has ls 5 [(0, .ref h), (1, .int x), (2, .int y), (3, .ref o)] := hl
  have hS : va_S A Hs Hs [] := va_S.rf
  generalize ([] : List Loc) = locs at hS ⊢
  refine lv_aload_n hx hb dL_movesWith_0 rfl (lv_at hl 3 rfl) ?_
  refine lv_iconst (v := nI 0) hx hb dL_movesWith_1 ci_0 ?_
  refine lv_aload_n hx hb dL_movesWith_2 rfl (lv_at hl 0 rfl) ?_
  refine lv_iload_n hx hb dL_movesWith_3 rfl (lv_at hl 1 rfl) ?_
  refine lv_iload_n hx hb dL_movesWith_4 rfl (lv_at hl 2 rfl) ?_
  refine mcV hM ⟨hx, hb, hml, hown, hts⟩ hK gL_movesWith_X4_movesWith rfl hd_X4_movesWith ⟨by omega, by omega⟩ (va_recv hK hP (ci := 4) (q0 := 0) rfl e0) rfl hl.1 rfl (Nat.le_of_ble_eq_true rfl) dL_movesWith_5 ⟨Nat.zero_le _, Nat.zero_le _⟩ hS (fun r w1 H locs hp1 hP hD hS => ?_)
  have eo1 : isOut ky w1 o f := (hfr r w1 hp1 30 (Or.inr (by decide))).trans eo
  refine lv_i2l (v := r.toInt64) hx hb dL_movesWith_8 rfl ?_
  refine sv_last hx hb hK hP hD hS eo1 dL_movesWith_9 (fun w2 H locs g2 hP hD hS eo2 hg2 fr2 => ?_)
  refine lv_goto (tgt := 17) hx hb dL_movesWith_10 (by decide) ?_
  refine lv_iconst (v := nI 0) hx hb dL_movesWith_17 ci_0 ?_
  exact hret 18 ls _ _ locs _ _ _ (Nat.zero_le _) (Nat.zero_le _) dL_movesWith_18 hP hD hS ⟨rfl, r, w1, hp1, fr2, g2, eo2, hg2⟩
set_option maxHeartbeats 4000000 in
set_option maxRecDepth 100000 in
theorem wxI_movesWith {l : Launch} {D : va_G} {ky : kT} {A : Nat → Prop} {Hs : Heap} {ws : va_W} (hP : va_P D CL ws Hs) (hD : va_D A ws) {h o : Nat} {fs : List Value} {f : Nat → Int64} (e0 : ws[0]? = some (h, .inr (4, fs))) (eo : isOut ky ws o f) {x y : Int32} {fr0 lo0 : Nat} (hf0 : fr0 ≤ 7) (hl0 : lo0 ≤ 103) {post : va_W → Prop} (hM : XU l yX4_movesWith wsX4_movesWith fr0 lo0 D ky A Hs [.ref h, .int x, .int y] EXI post) : WU l yL_movesWith wsL_movesWith 8 125 D ky A Hs [.ref h, .int x, .int y, .ref o] (fun k w => k = nI 1 ∧ post w) := by
  refine WU.of (cc := cL_movesWith) (maxL := 5) (hh := [(0, 10, 13, 21)]) (by decide) rfl (Nat.le_of_ble_eq_true rfl) ?_
  intro pg en Rm sg mi av below meth co Qo hRf hRl hRc hRs hx hb hml hown hts hK hXE hNC htab hret ls hl
  have hl : lv_has ls 5 [(0, .ref h), (1, .int x), (2, .int y), (3, .ref o)] := hl
  have hS : va_S A Hs Hs [] := va_S.rf
  generalize ([] : List Loc) = locs at hS ⊢
  refine lv_aload_n hx hb dL_movesWith_0 rfl (lv_at hl 3 rfl) ?_
  refine lv_iconst (v := nI 0) hx hb dL_movesWith_1 ci_0 ?_
  refine lv_aload_n hx hb dL_movesWith_2 rfl (lv_at hl 0 rfl) ?_
  refine lv_iload_n hx hb dL_movesWith_3 rfl (lv_at hl 1 rfl) ?_
  refine lv_iload_n hx hb dL_movesWith_4 rfl (lv_at hl 2 rfl) ?_
  refine xcV hM ⟨hx, hb, hml, hown, hts⟩ hK hXE gL_movesWith_X4_movesWith rfl hd_X4_movesWith ⟨by omega, by omega⟩ (va_recv hK hP (ci := 4) (q0 := 0) rfl e0) rfl hl.1 rfl (Nat.le_of_ble_eq_true rfl) dL_movesWith_5 ⟨by omega, by omega⟩ hS (fun w1 H locs q9 ce9 hp1 hP hD hS hq9 hv9 hc9 => ?_)
  refine vx_catch (own := RL) (name := EXI) hown [] ⟨0, 10, 13, 21⟩ [] htab (fun z hz => nomatch hz) (by decide) (by decide) (hts (.classLink RL 21 EXI) (by decide +kernel)) (va_Nw.use rfl hXE.1.2.2) hq9 hv9 hc9 ?_
  refine W.eq (g2 := F0 mi 13 ls [.ref q9]) rfl ?_
  refine lv_astore (lv' := [(4, .ref q9), (0, .ref h), (1, .int x), (2, .int y), (3, .ref o)]) hx hb dL_movesWith_13 hl (by decide) rfl (fun ls hl => ?_)
  refine lv_iconst (v := nI 1) hx hb dL_movesWith_15 ci_1 ?_
  exact hret 16 ls _ _ locs _ _ _ (Nat.le_refl _) (Nat.le_refl _) dL_movesWith_16 hP hD hS ⟨rfl, hp1⟩
set_option maxHeartbeats 4000000 in
set_option maxRecDepth 100000 in
theorem wk_boundTo {l : Launch} {D : va_G} {ky : kT} {A : Nat → Prop} {Hs : Heap} {ws : va_W} (hP : va_P D CL ws Hs) (hD : va_D A ws) {h o : Nat} {fs : List Value} {f : Nat → Int64} (e0 : ws[0]? = some (h, .inr (4, fs))) (eo : isOut ky ws o f) {x y : Int32} {fr0 lo0 : Nat} (hf0 : fr0 ≤ 7) (hl0 : lo0 ≤ 103) {post : Int32 → va_W → Prop} (hfr : ∀ r w, post r w → fr ws w 0 18) (hM : MU l yX4_boundTo wsX4_boundTo fr0 lo0 0 0 D ky A Hs [.ref h, .int x, .int y] post) : WU l yL_boundTo wsL_boundTo 8 125 D ky A Hs [.ref h, .int x, .int y, .ref o] (fun k w => k = nI 0 ∧ ∃ (r : Int32) (w1 : va_W), post r w1 ∧ fr w1 w 30 30 ∧ ∃ g : Nat → Int64, isOut ky w o g ∧ g 0 = r.toInt64) := by
  refine WU.of (cc := cL_boundTo) (maxL := 5) (hh := [(0, 10, 13, 21)]) (by decide) rfl (Nat.le_of_ble_eq_true rfl) ?_
  intro pg en Rm sg mi av below meth co Qo hRf hRl hRc hRs hx hb hml hown hts hK hXE hNC htab hret ls hl
  have hl : lv_has ls 5 [(0, .ref h), (1, .int x), (2, .int y), (3, .ref o)] := hl
  have hS : va_S A Hs Hs [] := va_S.rf
  generalize ([] : List Loc) = locs at hS ⊢
  refine lv_aload_n hx hb dL_boundTo_0 rfl (lv_at hl 3 rfl) ?_
  refine lv_iconst (v := nI 0) hx hb dL_boundTo_1 ci_0 ?_
  refine lv_aload_n hx hb dL_boundTo_2 rfl (lv_at hl 0 rfl) ?_
  refine lv_iload_n hx hb dL_boundTo_3 rfl (lv_at hl 1 rfl) ?_
  refine lv_iload_n hx hb dL_boundTo_4 rfl (lv_at hl 2 rfl) ?_
  refine mcV hM ⟨hx, hb, hml, hown, hts⟩ hK gL_boundTo_X4_boundTo rfl hd_X4_boundTo ⟨by omega, by omega⟩ (va_recv hK hP (ci := 4) (q0 := 0) rfl e0) rfl hl.1 rfl (Nat.le_of_ble_eq_true rfl) dL_boundTo_5 ⟨Nat.zero_le _, Nat.zero_le _⟩ hS (fun r w1 H locs hp1 hP hD hS => ?_)
  have eo1 : isOut ky w1 o f := (hfr r w1 hp1 30 (Or.inr (by decide))).trans eo
  refine lv_i2l (v := r.toInt64) hx hb dL_boundTo_8 rfl ?_
  refine sv_last hx hb hK hP hD hS eo1 dL_boundTo_9 (fun w2 H locs g2 hP hD hS eo2 hg2 fr2 => ?_)
  refine lv_goto (tgt := 17) hx hb dL_boundTo_10 (by decide) ?_
  refine lv_iconst (v := nI 0) hx hb dL_boundTo_17 ci_0 ?_
  exact hret 18 ls _ _ locs _ _ _ (Nat.zero_le _) (Nat.zero_le _) dL_boundTo_18 hP hD hS ⟨rfl, r, w1, hp1, fr2, g2, eo2, hg2⟩
set_option maxHeartbeats 4000000 in
set_option maxRecDepth 100000 in
theorem wxI_boundTo {l : Launch} {D : va_G} {ky : kT} {A : Nat → Prop} {Hs : Heap} {ws : va_W} (hP : va_P D CL ws Hs) (hD : va_D A ws) {h o : Nat} {fs : List Value} {f : Nat → Int64} (e0 : ws[0]? = some (h, .inr (4, fs))) (eo : isOut ky ws o f) {x y : Int32} {fr0 lo0 : Nat} (hf0 : fr0 ≤ 7) (hl0 : lo0 ≤ 103) {post : va_W → Prop} (hM : XU l yX4_boundTo wsX4_boundTo fr0 lo0 D ky A Hs [.ref h, .int x, .int y] EXI post) : WU l yL_boundTo wsL_boundTo 8 125 D ky A Hs [.ref h, .int x, .int y, .ref o] (fun k w => k = nI 1 ∧ post w) := by
  refine WU.of (cc := cL_boundTo) (maxL := 5) (hh := [(0, 10, 13, 21)]) (by decide) rfl (Nat.le_of_ble_eq_true rfl) ?_
  intro pg en Rm sg mi av below meth co Qo hRf hRl hRc hRs hx hb hml hown hts hK hXE hNC htab hret ls hl
  have hl : lv_has ls 5 [(0, .ref h), (1, .int x), (2, .int y), (3, .ref o)] := hl
  have hS : va_S A Hs Hs [] := va_S.rf
  generalize ([] : List Loc) = locs at hS ⊢
  refine lv_aload_n hx hb dL_boundTo_0 rfl (lv_at hl 3 rfl) ?_
  refine lv_iconst (v := nI 0) hx hb dL_boundTo_1 ci_0 ?_
  refine lv_aload_n hx hb dL_boundTo_2 rfl (lv_at hl 0 rfl) ?_
  refine lv_iload_n hx hb dL_boundTo_3 rfl (lv_at hl 1 rfl) ?_
  refine lv_iload_n hx hb dL_boundTo_4 rfl (lv_at hl 2 rfl) ?_
  refine xcV hM ⟨hx, hb, hml, hown, hts⟩ hK hXE gL_boundTo_X4_boundTo rfl hd_X4_boundTo ⟨by omega, by omega⟩ (va_recv hK hP (ci := 4) (q0 := 0) rfl e0) rfl hl.1 rfl (Nat.le_of_ble_eq_true rfl) dL_boundTo_5 ⟨by omega, by omega⟩ hS (fun w1 H locs q9 ce9 hp1 hP hD hS hq9 hv9 hc9 => ?_)
  refine vx_catch (own := RL) (name := EXI) hown [] ⟨0, 10, 13, 21⟩ [] htab (fun z hz => nomatch hz) (by decide) (by decide) (hts (.classLink RL 21 EXI) (by decide +kernel)) (va_Nw.use rfl hXE.1.2.2) hq9 hv9 hc9 ?_
  refine W.eq (g2 := F0 mi 13 ls [.ref q9]) rfl ?_
  refine lv_astore (lv' := [(4, .ref q9), (0, .ref h), (1, .int x), (2, .int y), (3, .ref o)]) hx hb dL_boundTo_13 hl (by decide) rfl (fun ls hl => ?_)
  refine lv_iconst (v := nI 1) hx hb dL_boundTo_15 ci_1 ?_
  exact hret 16 ls _ _ locs _ _ _ (Nat.le_refl _) (Nat.le_refl _) dL_boundTo_16 hP hD hS ⟨rfl, hp1⟩
set_option maxHeartbeats 4000000 in
set_option maxRecDepth 100000 in
theorem wk_groups {l : Launch} {D : va_G} {ky : kT} {A : Nat → Prop} {Hs : Heap} {ws : va_W} (hP : va_P D CL ws Hs) (hD : va_D A ws) {h o : Nat} {fs : List Value} {f : Nat → Int64} (e0 : ws[0]? = some (h, .inr (4, fs))) (eo : isOut ky ws o f) {x : Int32} {fr0 lo0 : Nat} (hf0 : fr0 ≤ 7) (hl0 : lo0 ≤ 103) {post : Int32 → va_W → Prop} (hfr : ∀ r w, post r w → fr ws w 0 18) (hM : MU l yX4_groups wsX4_groups fr0 lo0 0 0 D ky A Hs [.ref h, .int x] post) : WU l yL_groups wsL_groups 8 124 D ky A Hs [.ref h, .int x, .ref o] (fun k w => k = nI 0 ∧ ∃ (r : Int32) (w1 : va_W), post r w1 ∧ fr w1 w 30 30 ∧ ∃ g : Nat → Int64, isOut ky w o g ∧ g 0 = r.toInt64) := by
  refine WU.of (cc := cL_groups) (maxL := 4) (hh := [(0, 9, 12, 21)]) (by decide) rfl (Nat.le_of_ble_eq_true rfl) ?_
  intro pg en Rm sg mi av below meth co Qo hRf hRl hRc hRs hx hb hml hown hts hK hXE hNC htab hret ls hl
  have hl : lv_has ls 4 [(0, .ref h), (1, .int x), (2, .ref o)] := hl
  have hS : va_S A Hs Hs [] := va_S.rf
  generalize ([] : List Loc) = locs at hS ⊢
  refine lv_aload_n hx hb dL_groups_0 rfl (lv_at hl 2 rfl) ?_
  refine lv_iconst (v := nI 0) hx hb dL_groups_1 ci_0 ?_
  refine lv_aload_n hx hb dL_groups_2 rfl (lv_at hl 0 rfl) ?_
  refine lv_iload_n hx hb dL_groups_3 rfl (lv_at hl 1 rfl) ?_
  refine mcV hM ⟨hx, hb, hml, hown, hts⟩ hK gL_groups_X4_groups rfl hd_X4_groups ⟨by omega, by omega⟩ (va_recv hK hP (ci := 4) (q0 := 0) rfl e0) rfl hl.1 rfl (Nat.le_of_ble_eq_true rfl) dL_groups_4 ⟨Nat.zero_le _, Nat.zero_le _⟩ hS (fun r w1 H locs hp1 hP hD hS => ?_)
  have eo1 : isOut ky w1 o f := (hfr r w1 hp1 30 (Or.inr (by decide))).trans eo
  refine lv_i2l (v := r.toInt64) hx hb dL_groups_7 rfl ?_
  refine sv_last hx hb hK hP hD hS eo1 dL_groups_8 (fun w2 H locs g2 hP hD hS eo2 hg2 fr2 => ?_)
  refine lv_goto (tgt := 15) hx hb dL_groups_9 (by decide) ?_
  refine lv_iconst (v := nI 0) hx hb dL_groups_15 ci_0 ?_
  exact hret 16 ls _ _ locs _ _ _ (Nat.zero_le _) (Nat.zero_le _) dL_groups_16 hP hD hS ⟨rfl, r, w1, hp1, fr2, g2, eo2, hg2⟩
set_option maxHeartbeats 4000000 in
set_option maxRecDepth 100000 in
theorem wxI_groups {l : Launch} {D : va_G} {ky : kT} {A : Nat → Prop} {Hs : Heap} {ws : va_W} (hP : va_P D CL ws Hs) (hD : va_D A ws) {h o : Nat} {fs : List Value} {f : Nat → Int64} (e0 : ws[0]? = some (h, .inr (4, fs))) (eo : isOut ky ws o f) {x : Int32} {fr0 lo0 : Nat} (hf0 : fr0 ≤ 7) (hl0 : lo0 ≤ 103) {post : va_W → Prop} (hM : XU l yX4_groups wsX4_groups fr0 lo0 D ky A Hs [.ref h, .int x] EXI post) : WU l yL_groups wsL_groups 8 124 D ky A Hs [.ref h, .int x, .ref o] (fun k w => k = nI 1 ∧ post w) := by
  refine WU.of (cc := cL_groups) (maxL := 4) (hh := [(0, 9, 12, 21)]) (by decide) rfl (Nat.le_of_ble_eq_true rfl) ?_
  intro pg en Rm sg mi av below meth co Qo hRf hRl hRc hRs hx hb hml hown hts hK hXE hNC htab hret ls hl
  have hl : lv_has ls 4 [(0, .ref h), (1, .int x), (2, .ref o)] := hl
  have hS : va_S A Hs Hs [] := va_S.rf
  generalize ([] : List Loc) = locs at hS ⊢
  refine lv_aload_n hx hb dL_groups_0 rfl (lv_at hl 2 rfl) ?_
  refine lv_iconst (v := nI 0) hx hb dL_groups_1 ci_0 ?_
  refine lv_aload_n hx hb dL_groups_2 rfl (lv_at hl 0 rfl) ?_
  refine lv_iload_n hx hb dL_groups_3 rfl (lv_at hl 1 rfl) ?_
  refine xcV hM ⟨hx, hb, hml, hown, hts⟩ hK hXE gL_groups_X4_groups rfl hd_X4_groups ⟨by omega, by omega⟩ (va_recv hK hP (ci := 4) (q0 := 0) rfl e0) rfl hl.1 rfl (Nat.le_of_ble_eq_true rfl) dL_groups_4 ⟨by omega, by omega⟩ hS (fun w1 H locs q9 ce9 hp1 hP hD hS hq9 hv9 hc9 => ?_)
  refine vx_catch (own := RL) (name := EXI) hown [] ⟨0, 9, 12, 21⟩ [] htab (fun z hz => nomatch hz) (by decide) (by decide) (hts (.classLink RL 21 EXI) (by decide +kernel)) (va_Nw.use rfl hXE.1.2.2) hq9 hv9 hc9 ?_
  refine W.eq (g2 := F0 mi 12 ls [.ref q9]) rfl ?_
  refine lv_astore_n (lv' := [(3, .ref q9), (0, .ref h), (1, .int x), (2, .ref o)]) hx hb dL_groups_12 rfl hl (by decide) rfl (fun ls hl => ?_)
  refine lv_iconst (v := nI 1) hx hb dL_groups_13 ci_1 ?_
  exact hret 14 ls _ _ locs _ _ _ (Nat.le_refl _) (Nat.le_refl _) dL_groups_14 hP hD hS ⟨rfl, hp1⟩
set_option maxHeartbeats 4000000 in
set_option maxRecDepth 100000 in
theorem wk_splits {l : Launch} {D : va_G} {ky : kT} {A : Nat → Prop} {Hs : Heap} {ws : va_W} (hP : va_P D CL ws Hs) (hD : va_D A ws) {h o : Nat} {fs : List Value} {f : Nat → Int64} (e0 : ws[0]? = some (h, .inr (4, fs))) (eo : isOut ky ws o f) {x : Int32} {fr0 lo0 : Nat} (hf0 : fr0 ≤ 7) (hl0 : lo0 ≤ 134) {post : Int32 → va_W → Prop} (hfr : ∀ r w, post r w → fr ws w 0 18) (hM : MU l yX4_splits wsX4_splits fr0 lo0 0 0 D ky A Hs [.ref h, .int x] post) : WU l yL_splits wsL_splits 8 155 D ky A Hs [.ref h, .int x, .ref o] (fun k w => k = nI 0 ∧ ∃ (r : Int32) (w1 : va_W), post r w1 ∧ fr w1 w 30 30 ∧ ∃ g : Nat → Int64, isOut ky w o g ∧ g 0 = r.toInt64) := by
  refine WU.of (cc := cL_splits) (maxL := 4) (hh := [(0, 9, 12, 13)]) (by decide) rfl (Nat.le_of_ble_eq_true rfl) ?_
  intro pg en Rm sg mi av below meth co Qo hRf hRl hRc hRs hx hb hml hown hts hK hXE hNC htab hret ls hl
  have hl : lv_has ls 4 [(0, .ref h), (1, .int x), (2, .ref o)] := hl
  have hS : va_S A Hs Hs [] := va_S.rf
  generalize ([] : List Loc) = locs at hS ⊢
  refine lv_aload_n hx hb dL_splits_0 rfl (lv_at hl 2 rfl) ?_
  refine lv_iconst (v := nI 0) hx hb dL_splits_1 ci_0 ?_
  refine lv_aload_n hx hb dL_splits_2 rfl (lv_at hl 0 rfl) ?_
  refine lv_iload_n hx hb dL_splits_3 rfl (lv_at hl 1 rfl) ?_
  refine mcV hM ⟨hx, hb, hml, hown, hts⟩ hK gL_splits_X4_splits rfl hd_X4_splits ⟨by omega, by omega⟩ (va_recv hK hP (ci := 4) (q0 := 0) rfl e0) rfl hl.1 rfl (Nat.le_of_ble_eq_true rfl) dL_splits_4 ⟨Nat.zero_le _, Nat.zero_le _⟩ hS (fun r w1 H locs hp1 hP hD hS => ?_)
  have eo1 : isOut ky w1 o f := (hfr r w1 hp1 30 (Or.inr (by decide))).trans eo
  refine lv_i2l (v := r.toInt64) hx hb dL_splits_7 rfl ?_
  refine sv_last hx hb hK hP hD hS eo1 dL_splits_8 (fun w2 H locs g2 hP hD hS eo2 hg2 fr2 => ?_)
  refine lv_goto (tgt := 15) hx hb dL_splits_9 (by decide) ?_
  refine lv_iconst (v := nI 0) hx hb dL_splits_15 ci_0 ?_
  exact hret 16 ls _ _ locs _ _ _ (Nat.zero_le _) (Nat.zero_le _) dL_splits_16 hP hD hS ⟨rfl, r, w1, hp1, fr2, g2, eo2, hg2⟩
set_option maxHeartbeats 4000000 in
set_option maxRecDepth 100000 in
theorem wxA_splits {l : Launch} {D : va_G} {ky : kT} {A : Nat → Prop} {Hs : Heap} {ws : va_W} (hP : va_P D CL ws Hs) (hD : va_D A ws) {h o : Nat} {fs : List Value} {f : Nat → Int64} (e0 : ws[0]? = some (h, .inr (4, fs))) (eo : isOut ky ws o f) {x : Int32} {fr0 lo0 : Nat} (hf0 : fr0 ≤ 7) (hl0 : lo0 ≤ 134) {post : va_W → Prop} (hM : XU l yX4_splits wsX4_splits fr0 lo0 D ky A Hs [.ref h, .int x] EXA post) : WU l yL_splits wsL_splits 8 155 D ky A Hs [.ref h, .int x, .ref o] (fun k w => k = nI 1 ∧ post w) := by
  refine WU.of (cc := cL_splits) (maxL := 4) (hh := [(0, 9, 12, 13)]) (by decide) rfl (Nat.le_of_ble_eq_true rfl) ?_
  intro pg en Rm sg mi av below meth co Qo hRf hRl hRc hRs hx hb hml hown hts hK hXE hNC htab hret ls hl
  have hl : lv_has ls 4 [(0, .ref h), (1, .int x), (2, .ref o)] := hl
  have hS : va_S A Hs Hs [] := va_S.rf
  generalize ([] : List Loc) = locs at hS ⊢
  refine lv_aload_n hx hb dL_splits_0 rfl (lv_at hl 2 rfl) ?_
  refine lv_iconst (v := nI 0) hx hb dL_splits_1 ci_0 ?_
  refine lv_aload_n hx hb dL_splits_2 rfl (lv_at hl 0 rfl) ?_
  refine lv_iload_n hx hb dL_splits_3 rfl (lv_at hl 1 rfl) ?_
  refine xcV hM ⟨hx, hb, hml, hown, hts⟩ hK hXE gL_splits_X4_splits rfl hd_X4_splits ⟨by omega, by omega⟩ (va_recv hK hP (ci := 4) (q0 := 0) rfl e0) rfl hl.1 rfl (Nat.le_of_ble_eq_true rfl) dL_splits_4 ⟨by omega, by omega⟩ hS (fun w1 H locs q9 ce9 hp1 hP hD hS hq9 hv9 hc9 => ?_)
  refine vx_catch (own := RL) (name := EXA) hown [] ⟨0, 9, 12, 13⟩ [] htab (fun z hz => nomatch hz) (by decide) (by decide) (hts (.classLink RL 13 EXA) (by decide +kernel)) (va_Nw.use rfl hXE.1.1) hq9 hv9 hc9 ?_
  refine W.eq (g2 := F0 mi 12 ls [.ref q9]) rfl ?_
  refine lv_astore_n (lv' := [(3, .ref q9), (0, .ref h), (1, .int x), (2, .ref o)]) hx hb dL_splits_12 rfl hl (by decide) rfl (fun ls hl => ?_)
  refine lv_iconst (v := nI 1) hx hb dL_splits_13 ci_1 ?_
  exact hret 14 ls _ _ locs _ _ _ (Nat.le_refl _) (Nat.le_refl _) dL_splits_14 hP hD hS ⟨rfl, hp1⟩
set_option maxHeartbeats 4000000 in
set_option maxRecDepth 100000 in
theorem wk_ways {l : Launch} {D : va_G} {ky : kT} {A : Nat → Prop} {Hs : Heap} {ws : va_W} (hP : va_P D CL ws Hs) (hD : va_D A ws) {h o : Nat} {fs : List Value} {f : Nat → Int64} (e0 : ws[0]? = some (h, .inr (4, fs))) (eo : isOut ky ws o f) {fr0 lo0 : Nat} (hf0 : fr0 ≤ 7) (hl0 : lo0 ≤ 134) {post : Int32 → va_W → Prop} (hfr : ∀ r w, post r w → fr ws w 0 18) (hM : MU l yX4_ways wsX4_ways fr0 lo0 0 0 D ky A Hs [.ref h] post) : WU l yL_ways wsL_ways 8 154 D ky A Hs [.ref h, .ref o] (fun k w => k = nI 0 ∧ ∃ (r : Int32) (w1 : va_W), post r w1 ∧ fr w1 w 30 30 ∧ ∃ g : Nat → Int64, isOut ky w o g ∧ g 0 = r.toInt64) := by
  refine WU.of (cc := cL_ways) (maxL := 3) (hh := [(0, 8, 11, 15)]) (by decide) rfl (Nat.le_of_ble_eq_true rfl) ?_
  intro pg en Rm sg mi av below meth co Qo hRf hRl hRc hRs hx hb hml hown hts hK hXE hNC htab hret ls hl
  have hl : lv_has ls 3 [(0, .ref h), (1, .ref o)] := hl
  have hS : va_S A Hs Hs [] := va_S.rf
  generalize ([] : List Loc) = locs at hS ⊢
  refine lv_aload_n hx hb dL_ways_0 rfl (lv_at hl 1 rfl) ?_
  refine lv_iconst (v := nI 0) hx hb dL_ways_1 ci_0 ?_
  refine lv_aload_n hx hb dL_ways_2 rfl (lv_at hl 0 rfl) ?_
  refine mcV hM ⟨hx, hb, hml, hown, hts⟩ hK gL_ways_X4_ways rfl hd_X4_ways ⟨by omega, by omega⟩ (va_recv hK hP (ci := 4) (q0 := 0) rfl e0) rfl hl.1 rfl (Nat.le_of_ble_eq_true rfl) dL_ways_3 ⟨Nat.zero_le _, Nat.zero_le _⟩ hS (fun r w1 H locs hp1 hP hD hS => ?_)
  have eo1 : isOut ky w1 o f := (hfr r w1 hp1 30 (Or.inr (by decide))).trans eo
  refine lv_i2l (v := r.toInt64) hx hb dL_ways_6 rfl ?_
  refine sv_last hx hb hK hP hD hS eo1 dL_ways_7 (fun w2 H locs g2 hP hD hS eo2 hg2 fr2 => ?_)
  refine lv_goto (tgt := 14) hx hb dL_ways_8 (by decide) ?_
  refine lv_iconst (v := nI 0) hx hb dL_ways_14 ci_0 ?_
  exact hret 15 ls _ _ locs _ _ _ (Nat.zero_le _) (Nat.zero_le _) dL_ways_15 hP hD hS ⟨rfl, r, w1, hp1, fr2, g2, eo2, hg2⟩
set_option maxHeartbeats 4000000 in
set_option maxRecDepth 100000 in
theorem wxS_ways {l : Launch} {D : va_G} {ky : kT} {A : Nat → Prop} {Hs : Heap} {ws : va_W} (hP : va_P D CL ws Hs) (hD : va_D A ws) {h o : Nat} {fs : List Value} {f : Nat → Int64} (e0 : ws[0]? = some (h, .inr (4, fs))) (eo : isOut ky ws o f) {fr0 lo0 : Nat} (hf0 : fr0 ≤ 7) (hl0 : lo0 ≤ 134) {post : va_W → Prop} (hM : XU l yX4_ways wsX4_ways fr0 lo0 D ky A Hs [.ref h] EXS post) : WU l yL_ways wsL_ways 8 154 D ky A Hs [.ref h, .ref o] (fun k w => k = nI 1 ∧ post w) := by
  refine WU.of (cc := cL_ways) (maxL := 3) (hh := [(0, 8, 11, 15)]) (by decide) rfl (Nat.le_of_ble_eq_true rfl) ?_
  intro pg en Rm sg mi av below meth co Qo hRf hRl hRc hRs hx hb hml hown hts hK hXE hNC htab hret ls hl
  have hl : lv_has ls 3 [(0, .ref h), (1, .ref o)] := hl
  have hS : va_S A Hs Hs [] := va_S.rf
  generalize ([] : List Loc) = locs at hS ⊢
  refine lv_aload_n hx hb dL_ways_0 rfl (lv_at hl 1 rfl) ?_
  refine lv_iconst (v := nI 0) hx hb dL_ways_1 ci_0 ?_
  refine lv_aload_n hx hb dL_ways_2 rfl (lv_at hl 0 rfl) ?_
  refine xcV hM ⟨hx, hb, hml, hown, hts⟩ hK hXE gL_ways_X4_ways rfl hd_X4_ways ⟨by omega, by omega⟩ (va_recv hK hP (ci := 4) (q0 := 0) rfl e0) rfl hl.1 rfl (Nat.le_of_ble_eq_true rfl) dL_ways_3 ⟨by omega, by omega⟩ hS (fun w1 H locs q9 ce9 hp1 hP hD hS hq9 hv9 hc9 => ?_)
  refine vx_catch (own := RL) (name := EXS) hown [] ⟨0, 8, 11, 15⟩ [] htab (fun z hz => nomatch hz) (by decide) (by decide) (hts (.classLink RL 15 EXS) (by decide +kernel)) (va_Nw.use rfl hXE.1.2.1) hq9 hv9 hc9 ?_
  refine W.eq (g2 := F0 mi 11 ls [.ref q9]) rfl ?_
  refine lv_astore_n (lv' := [(2, .ref q9), (0, .ref h), (1, .ref o)]) hx hb dL_ways_11 rfl hl (by decide) rfl (fun ls hl => ?_)
  refine lv_iconst (v := nI 1) hx hb dL_ways_12 ci_1 ?_
  exact hret 13 ls _ _ locs _ _ _ (Nat.le_refl _) (Nat.le_refl _) dL_ways_13 hP hD hS ⟨rfl, hp1⟩
set_option maxHeartbeats 4000000 in
set_option maxRecDepth 100000 in
theorem wk_leastDepth {l : Launch} {D : va_G} {ky : kT} {A : Nat → Prop} {Hs : Heap} {ws : va_W} (hP : va_P D CL ws Hs) (hD : va_D A ws) {h o : Nat} {fs : List Value} {f : Nat → Int64} (e0 : ws[0]? = some (h, .inr (4, fs))) (eo : isOut ky ws o f) {fr0 lo0 : Nat} (hf0 : fr0 ≤ 7) (hl0 : lo0 ≤ 134) {post : Int32 → va_W → Prop} (hfr : ∀ r w, post r w → fr ws w 0 18) (hM : MU l yX4_leastDepth wsX4_leastDepth fr0 lo0 0 0 D ky A Hs [.ref h] post) : WU l yL_leastDepth wsL_leastDepth 8 154 D ky A Hs [.ref h, .ref o] (fun k w => k = nI 0 ∧ ∃ (r : Int32) (w1 : va_W), post r w1 ∧ fr w1 w 30 30 ∧ ∃ g : Nat → Int64, isOut ky w o g ∧ g 0 = r.toInt64) := by
  refine WU.of (cc := cL_leastDepth) (maxL := 3) (hh := [(0, 8, 11, 15)]) (by decide) rfl (Nat.le_of_ble_eq_true rfl) ?_
  intro pg en Rm sg mi av below meth co Qo hRf hRl hRc hRs hx hb hml hown hts hK hXE hNC htab hret ls hl
  have hl : lv_has ls 3 [(0, .ref h), (1, .ref o)] := hl
  have hS : va_S A Hs Hs [] := va_S.rf
  generalize ([] : List Loc) = locs at hS ⊢
  refine lv_aload_n hx hb dL_leastDepth_0 rfl (lv_at hl 1 rfl) ?_
  refine lv_iconst (v := nI 0) hx hb dL_leastDepth_1 ci_0 ?_
  refine lv_aload_n hx hb dL_leastDepth_2 rfl (lv_at hl 0 rfl) ?_
  refine mcV hM ⟨hx, hb, hml, hown, hts⟩ hK gL_leastDepth_X4_leastDepth rfl hd_X4_leastDepth ⟨by omega, by omega⟩ (va_recv hK hP (ci := 4) (q0 := 0) rfl e0) rfl hl.1 rfl (Nat.le_of_ble_eq_true rfl) dL_leastDepth_3 ⟨Nat.zero_le _, Nat.zero_le _⟩ hS (fun r w1 H locs hp1 hP hD hS => ?_)
  have eo1 : isOut ky w1 o f := (hfr r w1 hp1 30 (Or.inr (by decide))).trans eo
  refine lv_i2l (v := r.toInt64) hx hb dL_leastDepth_6 rfl ?_
  refine sv_last hx hb hK hP hD hS eo1 dL_leastDepth_7 (fun w2 H locs g2 hP hD hS eo2 hg2 fr2 => ?_)
  refine lv_goto (tgt := 14) hx hb dL_leastDepth_8 (by decide) ?_
  refine lv_iconst (v := nI 0) hx hb dL_leastDepth_14 ci_0 ?_
  exact hret 15 ls _ _ locs _ _ _ (Nat.zero_le _) (Nat.zero_le _) dL_leastDepth_15 hP hD hS ⟨rfl, r, w1, hp1, fr2, g2, eo2, hg2⟩
set_option maxHeartbeats 4000000 in
set_option maxRecDepth 100000 in
theorem wxS_leastDepth {l : Launch} {D : va_G} {ky : kT} {A : Nat → Prop} {Hs : Heap} {ws : va_W} (hP : va_P D CL ws Hs) (hD : va_D A ws) {h o : Nat} {fs : List Value} {f : Nat → Int64} (e0 : ws[0]? = some (h, .inr (4, fs))) (eo : isOut ky ws o f) {fr0 lo0 : Nat} (hf0 : fr0 ≤ 7) (hl0 : lo0 ≤ 134) {post : va_W → Prop} (hM : XU l yX4_leastDepth wsX4_leastDepth fr0 lo0 D ky A Hs [.ref h] EXS post) : WU l yL_leastDepth wsL_leastDepth 8 154 D ky A Hs [.ref h, .ref o] (fun k w => k = nI 1 ∧ post w) := by
  refine WU.of (cc := cL_leastDepth) (maxL := 3) (hh := [(0, 8, 11, 15)]) (by decide) rfl (Nat.le_of_ble_eq_true rfl) ?_
  intro pg en Rm sg mi av below meth co Qo hRf hRl hRc hRs hx hb hml hown hts hK hXE hNC htab hret ls hl
  have hl : lv_has ls 3 [(0, .ref h), (1, .ref o)] := hl
  have hS : va_S A Hs Hs [] := va_S.rf
  generalize ([] : List Loc) = locs at hS ⊢
  refine lv_aload_n hx hb dL_leastDepth_0 rfl (lv_at hl 1 rfl) ?_
  refine lv_iconst (v := nI 0) hx hb dL_leastDepth_1 ci_0 ?_
  refine lv_aload_n hx hb dL_leastDepth_2 rfl (lv_at hl 0 rfl) ?_
  refine xcV hM ⟨hx, hb, hml, hown, hts⟩ hK hXE gL_leastDepth_X4_leastDepth rfl hd_X4_leastDepth ⟨by omega, by omega⟩ (va_recv hK hP (ci := 4) (q0 := 0) rfl e0) rfl hl.1 rfl (Nat.le_of_ble_eq_true rfl) dL_leastDepth_3 ⟨by omega, by omega⟩ hS (fun w1 H locs q9 ce9 hp1 hP hD hS hq9 hv9 hc9 => ?_)
  refine vx_catch (own := RL) (name := EXS) hown [] ⟨0, 8, 11, 15⟩ [] htab (fun z hz => nomatch hz) (by decide) (by decide) (hts (.classLink RL 15 EXS) (by decide +kernel)) (va_Nw.use rfl hXE.1.2.1) hq9 hv9 hc9 ?_
  refine W.eq (g2 := F0 mi 11 ls [.ref q9]) rfl ?_
  refine lv_astore_n (lv' := [(2, .ref q9), (0, .ref h), (1, .ref o)]) hx hb dL_leastDepth_11 rfl hl (by decide) rfl (fun ls hl => ?_)
  refine lv_iconst (v := nI 1) hx hb dL_leastDepth_12 ci_1 ?_
  exact hret 13 ls _ _ locs _ _ _ (Nat.le_refl _) (Nat.le_refl _) dL_leastDepth_13 hP hD hS ⟨rfl, hp1⟩
set_option maxHeartbeats 4000000 in
set_option maxRecDepth 100000 in
theorem wk_orders {l : Launch} {D : va_G} {ky : kT} {A : Nat → Prop} {Hs : Heap} {ws : va_W} (hP : va_P D CL ws Hs) (hD : va_D A ws) {h o : Nat} {fs : List Value} {f : Nat → Int64} (e0 : ws[0]? = some (h, .inr (4, fs))) (eo : isOut ky ws o f) {fr0 lo0 : Nat} (hf0 : fr0 ≤ 7) (hl0 : lo0 ≤ 136) {post : Int32 → va_W → Prop} (hfr : ∀ r w, post r w → fr ws w 0 18) (hM : MU l yX4_orders wsX4_orders fr0 lo0 0 0 D ky A Hs [.ref h] post) : WU l yL_orders wsL_orders 8 156 D ky A Hs [.ref h, .ref o] (fun k w => k = nI 0 ∧ ∃ (r : Int32) (w1 : va_W), post r w1 ∧ fr w1 w 30 30 ∧ ∃ g : Nat → Int64, isOut ky w o g ∧ g 0 = r.toInt64) := by
  refine WU.of (cc := cL_orders) (maxL := 3) (hh := [(0, 8, 11, 15)]) (by decide) rfl (Nat.le_of_ble_eq_true rfl) ?_
  intro pg en Rm sg mi av below meth co Qo hRf hRl hRc hRs hx hb hml hown hts hK hXE hNC htab hret ls hl
  have hl : lv_has ls 3 [(0, .ref h), (1, .ref o)] := hl
  have hS : va_S A Hs Hs [] := va_S.rf
  generalize ([] : List Loc) = locs at hS ⊢
  refine lv_aload_n hx hb dL_orders_0 rfl (lv_at hl 1 rfl) ?_
  refine lv_iconst (v := nI 0) hx hb dL_orders_1 ci_0 ?_
  refine lv_aload_n hx hb dL_orders_2 rfl (lv_at hl 0 rfl) ?_
  refine mcV hM ⟨hx, hb, hml, hown, hts⟩ hK gL_orders_X4_orders rfl hd_X4_orders ⟨by omega, by omega⟩ (va_recv hK hP (ci := 4) (q0 := 0) rfl e0) rfl hl.1 rfl (Nat.le_of_ble_eq_true rfl) dL_orders_3 ⟨Nat.zero_le _, Nat.zero_le _⟩ hS (fun r w1 H locs hp1 hP hD hS => ?_)
  have eo1 : isOut ky w1 o f := (hfr r w1 hp1 30 (Or.inr (by decide))).trans eo
  refine lv_i2l (v := r.toInt64) hx hb dL_orders_6 rfl ?_
  refine sv_last hx hb hK hP hD hS eo1 dL_orders_7 (fun w2 H locs g2 hP hD hS eo2 hg2 fr2 => ?_)
  refine lv_goto (tgt := 14) hx hb dL_orders_8 (by decide) ?_
  refine lv_iconst (v := nI 0) hx hb dL_orders_14 ci_0 ?_
  exact hret 15 ls _ _ locs _ _ _ (Nat.zero_le _) (Nat.zero_le _) dL_orders_15 hP hD hS ⟨rfl, r, w1, hp1, fr2, g2, eo2, hg2⟩
set_option maxHeartbeats 4000000 in
set_option maxRecDepth 100000 in
theorem wxS_orders {l : Launch} {D : va_G} {ky : kT} {A : Nat → Prop} {Hs : Heap} {ws : va_W} (hP : va_P D CL ws Hs) (hD : va_D A ws) {h o : Nat} {fs : List Value} {f : Nat → Int64} (e0 : ws[0]? = some (h, .inr (4, fs))) (eo : isOut ky ws o f) {fr0 lo0 : Nat} (hf0 : fr0 ≤ 7) (hl0 : lo0 ≤ 136) {post : va_W → Prop} (hM : XU l yX4_orders wsX4_orders fr0 lo0 D ky A Hs [.ref h] EXS post) : WU l yL_orders wsL_orders 8 156 D ky A Hs [.ref h, .ref o] (fun k w => k = nI 1 ∧ post w) := by
  refine WU.of (cc := cL_orders) (maxL := 3) (hh := [(0, 8, 11, 15)]) (by decide) rfl (Nat.le_of_ble_eq_true rfl) ?_
  intro pg en Rm sg mi av below meth co Qo hRf hRl hRc hRs hx hb hml hown hts hK hXE hNC htab hret ls hl
  have hl : lv_has ls 3 [(0, .ref h), (1, .ref o)] := hl
  have hS : va_S A Hs Hs [] := va_S.rf
  generalize ([] : List Loc) = locs at hS ⊢
  refine lv_aload_n hx hb dL_orders_0 rfl (lv_at hl 1 rfl) ?_
  refine lv_iconst (v := nI 0) hx hb dL_orders_1 ci_0 ?_
  refine lv_aload_n hx hb dL_orders_2 rfl (lv_at hl 0 rfl) ?_
  refine xcV hM ⟨hx, hb, hml, hown, hts⟩ hK hXE gL_orders_X4_orders rfl hd_X4_orders ⟨by omega, by omega⟩ (va_recv hK hP (ci := 4) (q0 := 0) rfl e0) rfl hl.1 rfl (Nat.le_of_ble_eq_true rfl) dL_orders_3 ⟨by omega, by omega⟩ hS (fun w1 H locs q9 ce9 hp1 hP hD hS hq9 hv9 hc9 => ?_)
  refine vx_catch (own := RL) (name := EXS) hown [] ⟨0, 8, 11, 15⟩ [] htab (fun z hz => nomatch hz) (by decide) (by decide) (hts (.classLink RL 15 EXS) (by decide +kernel)) (va_Nw.use rfl hXE.1.2.1) hq9 hv9 hc9 ?_
  refine W.eq (g2 := F0 mi 11 ls [.ref q9]) rfl ?_
  refine lv_astore_n (lv' := [(2, .ref q9), (0, .ref h), (1, .ref o)]) hx hb dL_orders_11 rfl hl (by decide) rfl (fun ls hl => ?_)
  refine lv_iconst (v := nI 1) hx hb dL_orders_12 ci_1 ?_
  exact hret 13 ls _ _ locs _ _ _ (Nat.le_refl _) (Nat.le_refl _) dL_orders_13 hP hD hS ⟨rfl, hp1⟩
set_option maxHeartbeats 4000000 in
set_option maxRecDepth 100000 in
theorem wk_fewestChanges {l : Launch} {D : va_G} {ky : kT} {A : Nat → Prop} {Hs : Heap} {ws : va_W} (hP : va_P D CL ws Hs) (hD : va_D A ws) {h o : Nat} {fs : List Value} {f : Nat → Int64} (e0 : ws[0]? = some (h, .inr (4, fs))) (eo : isOut ky ws o f) {fr0 lo0 : Nat} (hf0 : fr0 ≤ 7) (hl0 : lo0 ≤ 136) {post : Int32 → va_W → Prop} (hfr : ∀ r w, post r w → fr ws w 0 18) (hM : MU l yX4_fewestChanges wsX4_fewestChanges fr0 lo0 0 0 D ky A Hs [.ref h] post) : WU l yL_fewestChanges wsL_fewestChanges 8 156 D ky A Hs [.ref h, .ref o] (fun k w => k = nI 0 ∧ ∃ (r : Int32) (w1 : va_W), post r w1 ∧ fr w1 w 30 30 ∧ ∃ g : Nat → Int64, isOut ky w o g ∧ g 0 = r.toInt64) := by
  refine WU.of (cc := cL_fewestChanges) (maxL := 3) (hh := [(0, 8, 11, 15)]) (by decide) rfl (Nat.le_of_ble_eq_true rfl) ?_
  intro pg en Rm sg mi av below meth co Qo hRf hRl hRc hRs hx hb hml hown hts hK hXE hNC htab hret ls hl
  have hl : lv_has ls 3 [(0, .ref h), (1, .ref o)] := hl
  have hS : va_S A Hs Hs [] := va_S.rf
  generalize ([] : List Loc) = locs at hS ⊢
  refine lv_aload_n hx hb dL_fewestChanges_0 rfl (lv_at hl 1 rfl) ?_
  refine lv_iconst (v := nI 0) hx hb dL_fewestChanges_1 ci_0 ?_
  refine lv_aload_n hx hb dL_fewestChanges_2 rfl (lv_at hl 0 rfl) ?_
  refine mcV hM ⟨hx, hb, hml, hown, hts⟩ hK gL_fewestChanges_X4_fewestChanges rfl hd_X4_fewestChanges ⟨by omega, by omega⟩ (va_recv hK hP (ci := 4) (q0 := 0) rfl e0) rfl hl.1 rfl (Nat.le_of_ble_eq_true rfl) dL_fewestChanges_3 ⟨Nat.zero_le _, Nat.zero_le _⟩ hS (fun r w1 H locs hp1 hP hD hS => ?_)
  have eo1 : isOut ky w1 o f := (hfr r w1 hp1 30 (Or.inr (by decide))).trans eo
  refine lv_i2l (v := r.toInt64) hx hb dL_fewestChanges_6 rfl ?_
  refine sv_last hx hb hK hP hD hS eo1 dL_fewestChanges_7 (fun w2 H locs g2 hP hD hS eo2 hg2 fr2 => ?_)
  refine lv_goto (tgt := 14) hx hb dL_fewestChanges_8 (by decide) ?_
  refine lv_iconst (v := nI 0) hx hb dL_fewestChanges_14 ci_0 ?_
  exact hret 15 ls _ _ locs _ _ _ (Nat.zero_le _) (Nat.zero_le _) dL_fewestChanges_15 hP hD hS ⟨rfl, r, w1, hp1, fr2, g2, eo2, hg2⟩
set_option maxHeartbeats 4000000 in
set_option maxRecDepth 100000 in
theorem wxS_fewestChanges {l : Launch} {D : va_G} {ky : kT} {A : Nat → Prop} {Hs : Heap} {ws : va_W} (hP : va_P D CL ws Hs) (hD : va_D A ws) {h o : Nat} {fs : List Value} {f : Nat → Int64} (e0 : ws[0]? = some (h, .inr (4, fs))) (eo : isOut ky ws o f) {fr0 lo0 : Nat} (hf0 : fr0 ≤ 7) (hl0 : lo0 ≤ 136) {post : va_W → Prop} (hM : XU l yX4_fewestChanges wsX4_fewestChanges fr0 lo0 D ky A Hs [.ref h] EXS post) : WU l yL_fewestChanges wsL_fewestChanges 8 156 D ky A Hs [.ref h, .ref o] (fun k w => k = nI 1 ∧ post w) := by
  refine WU.of (cc := cL_fewestChanges) (maxL := 3) (hh := [(0, 8, 11, 15)]) (by decide) rfl (Nat.le_of_ble_eq_true rfl) ?_
  intro pg en Rm sg mi av below meth co Qo hRf hRl hRc hRs hx hb hml hown hts hK hXE hNC htab hret ls hl
  have hl : lv_has ls 3 [(0, .ref h), (1, .ref o)] := hl
  have hS : va_S A Hs Hs [] := va_S.rf
  generalize ([] : List Loc) = locs at hS ⊢
  refine lv_aload_n hx hb dL_fewestChanges_0 rfl (lv_at hl 1 rfl) ?_
  refine lv_iconst (v := nI 0) hx hb dL_fewestChanges_1 ci_0 ?_
  refine lv_aload_n hx hb dL_fewestChanges_2 rfl (lv_at hl 0 rfl) ?_
  refine xcV hM ⟨hx, hb, hml, hown, hts⟩ hK hXE gL_fewestChanges_X4_fewestChanges rfl hd_X4_fewestChanges ⟨by omega, by omega⟩ (va_recv hK hP (ci := 4) (q0 := 0) rfl e0) rfl hl.1 rfl (Nat.le_of_ble_eq_true rfl) dL_fewestChanges_3 ⟨by omega, by omega⟩ hS (fun w1 H locs q9 ce9 hp1 hP hD hS hq9 hv9 hc9 => ?_)
  refine vx_catch (own := RL) (name := EXS) hown [] ⟨0, 8, 11, 15⟩ [] htab (fun z hz => nomatch hz) (by decide) (by decide) (hts (.classLink RL 15 EXS) (by decide +kernel)) (va_Nw.use rfl hXE.1.2.1) hq9 hv9 hc9 ?_
  refine W.eq (g2 := F0 mi 11 ls [.ref q9]) rfl ?_
  refine lv_astore_n (lv' := [(2, .ref q9), (0, .ref h), (1, .ref o)]) hx hb dL_fewestChanges_11 rfl hl (by decide) rfl (fun ls hl => ?_)
  refine lv_iconst (v := nI 1) hx hb dL_fewestChanges_12 ci_1 ?_
  exact hret 13 ls _ _ locs _ _ _ (Nat.le_refl _) (Nat.le_refl _) dL_fewestChanges_13 hP hD hS ⟨rfl, hp1⟩
set_option maxHeartbeats 4000000 in
set_option maxRecDepth 100000 in
theorem wk_fewestByListing {l : Launch} {D : va_G} {ky : kT} {A : Nat → Prop} {Hs : Heap} {ws : va_W} (hP : va_P D CL ws Hs) (hD : va_D A ws) {h o : Nat} {fs : List Value} {f : Nat → Int64} (e0 : ws[0]? = some (h, .inr (4, fs))) (eo : isOut ky ws o f) {fr0 lo0 : Nat} (hf0 : fr0 ≤ 10) (hl0 : lo0 ≤ 257) {post : Int32 → va_W → Prop} (hfr : ∀ r w, post r w → fr ws w 0 18) (hM : MU l yX4_fewestByListing wsX4_fewestByListing fr0 lo0 0 0 D ky A Hs [.ref h] post) : WU l yL_fewestByListing wsL_fewestByListing 11 277 D ky A Hs [.ref h, .ref o] (fun k w => k = nI 0 ∧ ∃ (r : Int32) (w1 : va_W), post r w1 ∧ fr w1 w 30 30 ∧ ∃ g : Nat → Int64, isOut ky w o g ∧ g 0 = r.toInt64) := by
  refine WU.of (cc := cL_fewestByListing) (maxL := 3) (hh := [(0, 8, 11, 15)]) (by decide) rfl (Nat.le_of_ble_eq_true rfl) ?_
  intro pg en Rm sg mi av below meth co Qo hRf hRl hRc hRs hx hb hml hown hts hK hXE hNC htab hret ls hl
  have hl : lv_has ls 3 [(0, .ref h), (1, .ref o)] := hl
  have hS : va_S A Hs Hs [] := va_S.rf
  generalize ([] : List Loc) = locs at hS ⊢
  refine lv_aload_n hx hb dL_fewestByListing_0 rfl (lv_at hl 1 rfl) ?_
  refine lv_iconst (v := nI 0) hx hb dL_fewestByListing_1 ci_0 ?_
  refine lv_aload_n hx hb dL_fewestByListing_2 rfl (lv_at hl 0 rfl) ?_
  refine mcV hM ⟨hx, hb, hml, hown, hts⟩ hK gL_fewestByListing_X4_fewestByListing rfl hd_X4_fewestByListing ⟨by omega, by omega⟩ (va_recv hK hP (ci := 4) (q0 := 0) rfl e0) rfl hl.1 rfl (Nat.le_of_ble_eq_true rfl) dL_fewestByListing_3 ⟨Nat.zero_le _, Nat.zero_le _⟩ hS (fun r w1 H locs hp1 hP hD hS => ?_)
  have eo1 : isOut ky w1 o f := (hfr r w1 hp1 30 (Or.inr (by decide))).trans eo
  refine lv_i2l (v := r.toInt64) hx hb dL_fewestByListing_6 rfl ?_
  refine sv_last hx hb hK hP hD hS eo1 dL_fewestByListing_7 (fun w2 H locs g2 hP hD hS eo2 hg2 fr2 => ?_)
  refine lv_goto (tgt := 14) hx hb dL_fewestByListing_8 (by decide) ?_
  refine lv_iconst (v := nI 0) hx hb dL_fewestByListing_14 ci_0 ?_
  exact hret 15 ls _ _ locs _ _ _ (Nat.zero_le _) (Nat.zero_le _) dL_fewestByListing_15 hP hD hS ⟨rfl, r, w1, hp1, fr2, g2, eo2, hg2⟩
set_option maxHeartbeats 4000000 in
set_option maxRecDepth 100000 in
theorem wxS_fewestByListing {l : Launch} {D : va_G} {ky : kT} {A : Nat → Prop} {Hs : Heap} {ws : va_W} (hP : va_P D CL ws Hs) (hD : va_D A ws) {h o : Nat} {fs : List Value} {f : Nat → Int64} (e0 : ws[0]? = some (h, .inr (4, fs))) (eo : isOut ky ws o f) {fr0 lo0 : Nat} (hf0 : fr0 ≤ 10) (hl0 : lo0 ≤ 257) {post : va_W → Prop} (hM : XU l yX4_fewestByListing wsX4_fewestByListing fr0 lo0 D ky A Hs [.ref h] EXS post) : WU l yL_fewestByListing wsL_fewestByListing 11 277 D ky A Hs [.ref h, .ref o] (fun k w => k = nI 1 ∧ post w) := by
  refine WU.of (cc := cL_fewestByListing) (maxL := 3) (hh := [(0, 8, 11, 15)]) (by decide) rfl (Nat.le_of_ble_eq_true rfl) ?_
  intro pg en Rm sg mi av below meth co Qo hRf hRl hRc hRs hx hb hml hown hts hK hXE hNC htab hret ls hl
  have hl : lv_has ls 3 [(0, .ref h), (1, .ref o)] := hl
  have hS : va_S A Hs Hs [] := va_S.rf
  generalize ([] : List Loc) = locs at hS ⊢
  refine lv_aload_n hx hb dL_fewestByListing_0 rfl (lv_at hl 1 rfl) ?_
  refine lv_iconst (v := nI 0) hx hb dL_fewestByListing_1 ci_0 ?_
  refine lv_aload_n hx hb dL_fewestByListing_2 rfl (lv_at hl 0 rfl) ?_
  refine xcV hM ⟨hx, hb, hml, hown, hts⟩ hK hXE gL_fewestByListing_X4_fewestByListing rfl hd_X4_fewestByListing ⟨by omega, by omega⟩ (va_recv hK hP (ci := 4) (q0 := 0) rfl e0) rfl hl.1 rfl (Nat.le_of_ble_eq_true rfl) dL_fewestByListing_3 ⟨by omega, by omega⟩ hS (fun w1 H locs q9 ce9 hp1 hP hD hS hq9 hv9 hc9 => ?_)
  refine vx_catch (own := RL) (name := EXS) hown [] ⟨0, 8, 11, 15⟩ [] htab (fun z hz => nomatch hz) (by decide) (by decide) (hts (.classLink RL 15 EXS) (by decide +kernel)) (va_Nw.use rfl hXE.1.2.1) hq9 hv9 hc9 ?_
  refine W.eq (g2 := F0 mi 11 ls [.ref q9]) rfl ?_
  refine lv_astore_n (lv' := [(2, .ref q9), (0, .ref h), (1, .ref o)]) hx hb dL_fewestByListing_11 rfl hl (by decide) rfl (fun ls hl => ?_)
  refine lv_iconst (v := nI 1) hx hb dL_fewestByListing_12 ci_1 ?_
  exact hret 13 ls _ _ locs _ _ _ (Nat.le_refl _) (Nat.le_refl _) dL_fewestByListing_13 hP hD hS ⟨rfl, hp1⟩
set_option maxHeartbeats 4000000 in
set_option maxRecDepth 100000 in
theorem wk_orderAt {l : Launch} {D : va_G} {ky : kT} {A : Nat → Prop} {Hs : Heap} {ws : va_W} (hP : va_P D CL ws Hs) (hD : va_D A ws) {h o : Nat} {fs : List Value} {f : Nat → Int64} (e0 : ws[0]? = some (h, .inr (4, fs))) (eo : isOut ky ws o f) {x : Int32} {fr0 lo0 : Nat} (hf0 : fr0 ≤ 6) (hl0 : lo0 ≤ 137) {post : Int32 → va_W → Prop} (hfr : ∀ r w, post r w → fr ws w 0 18) (hM : MU l yX4_orderAt wsX4_orderAt fr0 lo0 0 0 D ky A Hs [.ref h, .int x] post) : WU l yL_orderAt wsL_orderAt 7 159 D ky A Hs [.ref h, .int x, .ref o] (fun k w => k = nI 0 ∧ ∃ (r : Int32) (w1 : va_W), post r w1 ∧ fr w1 w 30 30 ∧ ∃ g : Nat → Int64, isOut ky w o g ∧ g 0 = r.toInt64) := by
  refine WU.of (cc := cL_orderAt) (maxL := 4) (hh := [(0, 9, 12, 21)]) (by decide) rfl (Nat.le_of_ble_eq_true rfl) ?_
  intro pg en Rm sg mi av below meth co Qo hRf hRl hRc hRs hx hb hml hown hts hK hXE hNC htab hret ls hl
  have hl : lv_has ls 4 [(0, .ref h), (1, .int x), (2, .ref o)] := hl
  have hS : va_S A Hs Hs [] := va_S.rf
  generalize ([] : List Loc) = locs at hS ⊢
  refine lv_aload_n hx hb dL_orderAt_0 rfl (lv_at hl 2 rfl) ?_
  refine lv_iconst (v := nI 0) hx hb dL_orderAt_1 ci_0 ?_
  refine lv_aload_n hx hb dL_orderAt_2 rfl (lv_at hl 0 rfl) ?_
  refine lv_iload_n hx hb dL_orderAt_3 rfl (lv_at hl 1 rfl) ?_
  refine mcV hM ⟨hx, hb, hml, hown, hts⟩ hK gL_orderAt_X4_orderAt rfl hd_X4_orderAt ⟨by omega, by omega⟩ (va_recv hK hP (ci := 4) (q0 := 0) rfl e0) rfl hl.1 rfl (Nat.le_of_ble_eq_true rfl) dL_orderAt_4 ⟨Nat.zero_le _, Nat.zero_le _⟩ hS (fun r w1 H locs hp1 hP hD hS => ?_)
  have eo1 : isOut ky w1 o f := (hfr r w1 hp1 30 (Or.inr (by decide))).trans eo
  refine lv_i2l (v := r.toInt64) hx hb dL_orderAt_7 rfl ?_
  refine sv_last hx hb hK hP hD hS eo1 dL_orderAt_8 (fun w2 H locs g2 hP hD hS eo2 hg2 fr2 => ?_)
  refine lv_goto (tgt := 15) hx hb dL_orderAt_9 (by decide) ?_
  refine lv_iconst (v := nI 0) hx hb dL_orderAt_15 ci_0 ?_
  exact hret 16 ls _ _ locs _ _ _ (Nat.zero_le _) (Nat.zero_le _) dL_orderAt_16 hP hD hS ⟨rfl, r, w1, hp1, fr2, g2, eo2, hg2⟩
set_option maxHeartbeats 4000000 in
set_option maxRecDepth 100000 in
theorem wxI_orderAt {l : Launch} {D : va_G} {ky : kT} {A : Nat → Prop} {Hs : Heap} {ws : va_W} (hP : va_P D CL ws Hs) (hD : va_D A ws) {h o : Nat} {fs : List Value} {f : Nat → Int64} (e0 : ws[0]? = some (h, .inr (4, fs))) (eo : isOut ky ws o f) {x : Int32} {fr0 lo0 : Nat} (hf0 : fr0 ≤ 6) (hl0 : lo0 ≤ 137) {post : va_W → Prop} (hM : XU l yX4_orderAt wsX4_orderAt fr0 lo0 D ky A Hs [.ref h, .int x] EXI post) : WU l yL_orderAt wsL_orderAt 7 159 D ky A Hs [.ref h, .int x, .ref o] (fun k w => k = nI 1 ∧ post w) := by
  refine WU.of (cc := cL_orderAt) (maxL := 4) (hh := [(0, 9, 12, 21)]) (by decide) rfl (Nat.le_of_ble_eq_true rfl) ?_
  intro pg en Rm sg mi av below meth co Qo hRf hRl hRc hRs hx hb hml hown hts hK hXE hNC htab hret ls hl
  have hl : lv_has ls 4 [(0, .ref h), (1, .int x), (2, .ref o)] := hl
  have hS : va_S A Hs Hs [] := va_S.rf
  generalize ([] : List Loc) = locs at hS ⊢
  refine lv_aload_n hx hb dL_orderAt_0 rfl (lv_at hl 2 rfl) ?_
  refine lv_iconst (v := nI 0) hx hb dL_orderAt_1 ci_0 ?_
  refine lv_aload_n hx hb dL_orderAt_2 rfl (lv_at hl 0 rfl) ?_
  refine lv_iload_n hx hb dL_orderAt_3 rfl (lv_at hl 1 rfl) ?_
  refine xcV hM ⟨hx, hb, hml, hown, hts⟩ hK hXE gL_orderAt_X4_orderAt rfl hd_X4_orderAt ⟨by omega, by omega⟩ (va_recv hK hP (ci := 4) (q0 := 0) rfl e0) rfl hl.1 rfl (Nat.le_of_ble_eq_true rfl) dL_orderAt_4 ⟨by omega, by omega⟩ hS (fun w1 H locs q9 ce9 hp1 hP hD hS hq9 hv9 hc9 => ?_)
  refine vx_catch (own := RL) (name := EXI) hown [] ⟨0, 9, 12, 21⟩ [] htab (fun z hz => nomatch hz) (by decide) (by decide) (hts (.classLink RL 21 EXI) (by decide +kernel)) (va_Nw.use rfl hXE.1.2.2) hq9 hv9 hc9 ?_
  refine W.eq (g2 := F0 mi 12 ls [.ref q9]) rfl ?_
  refine lv_astore_n (lv' := [(3, .ref q9), (0, .ref h), (1, .int x), (2, .ref o)]) hx hb dL_orderAt_12 rfl hl (by decide) rfl (fun ls hl => ?_)
  refine lv_iconst (v := nI 1) hx hb dL_orderAt_13 ci_1 ?_
  exact hret 14 ls _ _ locs _ _ _ (Nat.le_refl _) (Nat.le_refl _) dL_orderAt_14 hP hD hS ⟨rfl, hp1⟩
set_option maxHeartbeats 4000000 in
set_option maxRecDepth 100000 in
theorem wk_setJams {l : Launch} {D : va_G} {ky : kT} {A : Nat → Prop} {Hs : Heap} {ws : va_W} (hP : va_P D CL ws Hs) (hD : va_D A ws) {h o : Nat} {fs : List Value} {f : Nat → Int64} (e0 : ws[0]? = some (h, .inr (4, fs))) (eo : isOut ky ws o f) {x y : Int32} {fr0 lo0 : Nat} (hf0 : fr0 ≤ 7) (hl0 : lo0 ≤ 103) {post : Int32 → va_W → Prop} (hfr : ∀ r w, post r w → fr ws w 0 18) (hM : MU l yX4_setJams wsX4_setJams fr0 lo0 0 0 D ky A Hs [.ref h, .int x, .int y] post) : WU l yL_setJams wsL_setJams 8 125 D ky A Hs [.ref h, .int x, .int y, .ref o] (fun k w => k = nI 0 ∧ ∃ (r : Int32) (w1 : va_W), post r w1 ∧ fr w1 w 30 30 ∧ ∃ g : Nat → Int64, isOut ky w o g ∧ g 0 = r.toInt64) := by
  refine WU.of (cc := cL_setJams) (maxL := 5) (hh := [(0, 10, 13, 21), (0, 10, 17, 13)]) (by decide) rfl (Nat.le_of_ble_eq_true rfl) ?_
  intro pg en Rm sg mi av below meth co Qo hRf hRl hRc hRs hx hb hml hown hts hK hXE hNC htab hret ls hl
  have hl : lv_has ls 5 [(0, .ref h), (1, .int x), (2, .int y), (3, .ref o)] := hl
  have hS : va_S A Hs Hs [] := va_S.rf
  generalize ([] : List Loc) = locs at hS ⊢
  refine lv_aload_n hx hb dL_setJams_0 rfl (lv_at hl 3 rfl) ?_
  refine lv_iconst (v := nI 0) hx hb dL_setJams_1 ci_0 ?_
  refine lv_aload_n hx hb dL_setJams_2 rfl (lv_at hl 0 rfl) ?_
  refine lv_iload_n hx hb dL_setJams_3 rfl (lv_at hl 1 rfl) ?_
  refine lv_iload_n hx hb dL_setJams_4 rfl (lv_at hl 2 rfl) ?_
  refine mcV hM ⟨hx, hb, hml, hown, hts⟩ hK gL_setJams_X4_setJams rfl hd_X4_setJams ⟨by omega, by omega⟩ (va_recv hK hP (ci := 4) (q0 := 0) rfl e0) rfl hl.1 rfl (Nat.le_of_ble_eq_true rfl) dL_setJams_5 ⟨Nat.zero_le _, Nat.zero_le _⟩ hS (fun r w1 H locs hp1 hP hD hS => ?_)
  have eo1 : isOut ky w1 o f := (hfr r w1 hp1 30 (Or.inr (by decide))).trans eo
  refine lv_i2l (v := r.toInt64) hx hb dL_setJams_8 rfl ?_
  refine sv_last hx hb hK hP hD hS eo1 dL_setJams_9 (fun w2 H locs g2 hP hD hS eo2 hg2 fr2 => ?_)
  refine lv_goto (tgt := 21) hx hb dL_setJams_10 (by decide) ?_
  refine lv_iconst (v := nI 0) hx hb dL_setJams_21 ci_0 ?_
  exact hret 22 ls _ _ locs _ _ _ (Nat.zero_le _) (Nat.zero_le _) dL_setJams_22 hP hD hS ⟨rfl, r, w1, hp1, fr2, g2, eo2, hg2⟩
set_option maxHeartbeats 4000000 in
set_option maxRecDepth 100000 in
theorem wxI_setJams {l : Launch} {D : va_G} {ky : kT} {A : Nat → Prop} {Hs : Heap} {ws : va_W} (hP : va_P D CL ws Hs) (hD : va_D A ws) {h o : Nat} {fs : List Value} {f : Nat → Int64} (e0 : ws[0]? = some (h, .inr (4, fs))) (eo : isOut ky ws o f) {x y : Int32} {fr0 lo0 : Nat} (hf0 : fr0 ≤ 7) (hl0 : lo0 ≤ 103) {post : va_W → Prop} (hM : XU l yX4_setJams wsX4_setJams fr0 lo0 D ky A Hs [.ref h, .int x, .int y] EXI post) : WU l yL_setJams wsL_setJams 8 125 D ky A Hs [.ref h, .int x, .int y, .ref o] (fun k w => k = nI 1 ∧ post w) := by
  refine WU.of (cc := cL_setJams) (maxL := 5) (hh := [(0, 10, 13, 21), (0, 10, 17, 13)]) (by decide) rfl (Nat.le_of_ble_eq_true rfl) ?_
  intro pg en Rm sg mi av below meth co Qo hRf hRl hRc hRs hx hb hml hown hts hK hXE hNC htab hret ls hl
  have hl : lv_has ls 5 [(0, .ref h), (1, .int x), (2, .int y), (3, .ref o)] := hl
  have hS : va_S A Hs Hs [] := va_S.rf
  generalize ([] : List Loc) = locs at hS ⊢
  refine lv_aload_n hx hb dL_setJams_0 rfl (lv_at hl 3 rfl) ?_
  refine lv_iconst (v := nI 0) hx hb dL_setJams_1 ci_0 ?_
  refine lv_aload_n hx hb dL_setJams_2 rfl (lv_at hl 0 rfl) ?_
  refine lv_iload_n hx hb dL_setJams_3 rfl (lv_at hl 1 rfl) ?_
  refine lv_iload_n hx hb dL_setJams_4 rfl (lv_at hl 2 rfl) ?_
  refine xcV hM ⟨hx, hb, hml, hown, hts⟩ hK hXE gL_setJams_X4_setJams rfl hd_X4_setJams ⟨by omega, by omega⟩ (va_recv hK hP (ci := 4) (q0 := 0) rfl e0) rfl hl.1 rfl (Nat.le_of_ble_eq_true rfl) dL_setJams_5 ⟨by omega, by omega⟩ hS (fun w1 H locs q9 ce9 hp1 hP hD hS hq9 hv9 hc9 => ?_)
  refine vx_catch (own := RL) (name := EXI) hown [] ⟨0, 10, 13, 21⟩ [⟨0, 10, 17, 13⟩] htab (fun z hz => nomatch hz) (by decide) (by decide) (hts (.classLink RL 21 EXI) (by decide +kernel)) (va_Nw.use rfl hXE.1.2.2) hq9 hv9 hc9 ?_
  refine W.eq (g2 := F0 mi 13 ls [.ref q9]) rfl ?_
  refine lv_astore (lv' := [(4, .ref q9), (0, .ref h), (1, .int x), (2, .int y), (3, .ref o)]) hx hb dL_setJams_13 hl (by decide) rfl (fun ls hl => ?_)
  refine lv_iconst (v := nI 1) hx hb dL_setJams_15 ci_1 ?_
  exact hret 16 ls _ _ locs _ _ _ (Nat.le_refl _) (Nat.le_refl _) dL_setJams_16 hP hD hS ⟨rfl, hp1⟩
set_option maxHeartbeats 4000000 in
set_option maxRecDepth 100000 in
theorem wxA_setJams {l : Launch} {D : va_G} {ky : kT} {A : Nat → Prop} {Hs : Heap} {ws : va_W} (hP : va_P D CL ws Hs) (hD : va_D A ws) {h o : Nat} {fs : List Value} {f : Nat → Int64} (e0 : ws[0]? = some (h, .inr (4, fs))) (eo : isOut ky ws o f) {x y : Int32} {fr0 lo0 : Nat} (hf0 : fr0 ≤ 7) (hl0 : lo0 ≤ 103) {post : va_W → Prop} (hM : XU l yX4_setJams wsX4_setJams fr0 lo0 D ky A Hs [.ref h, .int x, .int y] EXA post) : WU l yL_setJams wsL_setJams 8 125 D ky A Hs [.ref h, .int x, .int y, .ref o] (fun k w => k = nI 2 ∧ post w) := by
  refine WU.of (cc := cL_setJams) (maxL := 5) (hh := [(0, 10, 13, 21), (0, 10, 17, 13)]) (by decide) rfl (Nat.le_of_ble_eq_true rfl) ?_
  intro pg en Rm sg mi av below meth co Qo hRf hRl hRc hRs hx hb hml hown hts hK hXE hNC htab hret ls hl
  have hl : lv_has ls 5 [(0, .ref h), (1, .int x), (2, .int y), (3, .ref o)] := hl
  have hS : va_S A Hs Hs [] := va_S.rf
  generalize ([] : List Loc) = locs at hS ⊢
  refine lv_aload_n hx hb dL_setJams_0 rfl (lv_at hl 3 rfl) ?_
  refine lv_iconst (v := nI 0) hx hb dL_setJams_1 ci_0 ?_
  refine lv_aload_n hx hb dL_setJams_2 rfl (lv_at hl 0 rfl) ?_
  refine lv_iload_n hx hb dL_setJams_3 rfl (lv_at hl 1 rfl) ?_
  refine lv_iload_n hx hb dL_setJams_4 rfl (lv_at hl 2 rfl) ?_
  refine xcV hM ⟨hx, hb, hml, hown, hts⟩ hK hXE gL_setJams_X4_setJams rfl hd_X4_setJams ⟨by omega, by omega⟩ (va_recv hK hP (ci := 4) (q0 := 0) rfl e0) rfl hl.1 rfl (Nat.le_of_ble_eq_true rfl) dL_setJams_5 ⟨by omega, by omega⟩ hS (fun w1 H locs q9 ce9 hp1 hP hD hS hq9 hv9 hc9 => ?_)
  refine vx_catch (own := RL) (name := EXA) hown [⟨0, 10, 13, 21⟩] ⟨0, 10, 17, 13⟩ [] htab (fun z hz => by rw [List.mem_singleton.mp hz]; exact Or.inr ⟨by decide, EXI, hts (.classLink RL 21 EXI) (by decide +kernel), hNC.2⟩) (by decide) (by decide) (hts (.classLink RL 13 EXA) (by decide +kernel)) (va_Nw.use rfl hXE.1.1) hq9 hv9 hc9 ?_
  refine W.eq (g2 := F0 mi 17 ls [.ref q9]) rfl ?_
  refine lv_astore (lv' := [(4, .ref q9), (0, .ref h), (1, .int x), (2, .int y), (3, .ref o)]) hx hb dL_setJams_17 hl (by decide) rfl (fun ls hl => ?_)
  refine lv_iconst (v := nI 2) hx hb dL_setJams_19 ci_2 ?_
  exact hret 20 ls _ _ locs _ _ _ (Nat.le_refl _) (Nat.le_refl _) dL_setJams_20 hP hD hS ⟨rfl, hp1⟩
set_option maxHeartbeats 4000000 in
set_option maxRecDepth 100000 in
theorem wk_begin {l : Launch} {D : va_G} {ky : kT} {A : Nat → Prop} {Hs : Heap} {ws : va_W} (hP : va_P D CL ws Hs) (hD : va_D A ws) {h o : Nat} {fs : List Value} {f : Nat → Int64} (e0 : ws[0]? = some (h, .inr (4, fs))) (eo : isOut ky ws o f) {fr0 lo0 : Nat} (hf0 : fr0 ≤ 7) (hl0 : lo0 ≤ 136) {post : Int32 → va_W → Prop} (hfr : ∀ r w, post r w → fr ws w 0 18) (hM : MU l yX4_begin wsX4_begin fr0 lo0 0 0 D ky A Hs [.ref h] post) : WU l yL_begin wsL_begin 8 156 D ky A Hs [.ref h, .ref o] (fun k w => k = nI 0 ∧ ∃ (r : Int32) (w1 : va_W), post r w1 ∧ fr w1 w 30 30 ∧ ∃ g : Nat → Int64, isOut ky w o g ∧ g 0 = r.toInt64) := by
  refine WU.of (cc := cL_begin) (maxL := 3) (hh := [(0, 8, 11, 15)]) (by decide) rfl (Nat.le_of_ble_eq_true rfl) ?_
  intro pg en Rm sg mi av below meth co Qo hRf hRl hRc hRs hx hb hml hown hts hK hXE hNC htab hret ls hl
  have hl : lv_has ls 3 [(0, .ref h), (1, .ref o)] := hl
  have hS : va_S A Hs Hs [] := va_S.rf
  generalize ([] : List Loc) = locs at hS ⊢
  refine lv_aload_n hx hb dL_begin_0 rfl (lv_at hl 1 rfl) ?_
  refine lv_iconst (v := nI 0) hx hb dL_begin_1 ci_0 ?_
  refine lv_aload_n hx hb dL_begin_2 rfl (lv_at hl 0 rfl) ?_
  refine mcV hM ⟨hx, hb, hml, hown, hts⟩ hK gL_begin_X4_begin rfl hd_X4_begin ⟨by omega, by omega⟩ (va_recv hK hP (ci := 4) (q0 := 0) rfl e0) rfl hl.1 rfl (Nat.le_of_ble_eq_true rfl) dL_begin_3 ⟨Nat.zero_le _, Nat.zero_le _⟩ hS (fun r w1 H locs hp1 hP hD hS => ?_)
  have eo1 : isOut ky w1 o f := (hfr r w1 hp1 30 (Or.inr (by decide))).trans eo
  refine lv_i2l (v := r.toInt64) hx hb dL_begin_6 rfl ?_
  refine sv_last hx hb hK hP hD hS eo1 dL_begin_7 (fun w2 H locs g2 hP hD hS eo2 hg2 fr2 => ?_)
  refine lv_goto (tgt := 14) hx hb dL_begin_8 (by decide) ?_
  refine lv_iconst (v := nI 0) hx hb dL_begin_14 ci_0 ?_
  exact hret 15 ls _ _ locs _ _ _ (Nat.zero_le _) (Nat.zero_le _) dL_begin_15 hP hD hS ⟨rfl, r, w1, hp1, fr2, g2, eo2, hg2⟩
set_option maxHeartbeats 4000000 in
set_option maxRecDepth 100000 in
theorem wxS_begin {l : Launch} {D : va_G} {ky : kT} {A : Nat → Prop} {Hs : Heap} {ws : va_W} (hP : va_P D CL ws Hs) (hD : va_D A ws) {h o : Nat} {fs : List Value} {f : Nat → Int64} (e0 : ws[0]? = some (h, .inr (4, fs))) (eo : isOut ky ws o f) {fr0 lo0 : Nat} (hf0 : fr0 ≤ 7) (hl0 : lo0 ≤ 136) {post : va_W → Prop} (hM : XU l yX4_begin wsX4_begin fr0 lo0 D ky A Hs [.ref h] EXS post) : WU l yL_begin wsL_begin 8 156 D ky A Hs [.ref h, .ref o] (fun k w => k = nI 1 ∧ post w) := by
  refine WU.of (cc := cL_begin) (maxL := 3) (hh := [(0, 8, 11, 15)]) (by decide) rfl (Nat.le_of_ble_eq_true rfl) ?_
  intro pg en Rm sg mi av below meth co Qo hRf hRl hRc hRs hx hb hml hown hts hK hXE hNC htab hret ls hl
  have hl : lv_has ls 3 [(0, .ref h), (1, .ref o)] := hl
  have hS : va_S A Hs Hs [] := va_S.rf
  generalize ([] : List Loc) = locs at hS ⊢
  refine lv_aload_n hx hb dL_begin_0 rfl (lv_at hl 1 rfl) ?_
  refine lv_iconst (v := nI 0) hx hb dL_begin_1 ci_0 ?_
  refine lv_aload_n hx hb dL_begin_2 rfl (lv_at hl 0 rfl) ?_
  refine xcV hM ⟨hx, hb, hml, hown, hts⟩ hK hXE gL_begin_X4_begin rfl hd_X4_begin ⟨by omega, by omega⟩ (va_recv hK hP (ci := 4) (q0 := 0) rfl e0) rfl hl.1 rfl (Nat.le_of_ble_eq_true rfl) dL_begin_3 ⟨by omega, by omega⟩ hS (fun w1 H locs q9 ce9 hp1 hP hD hS hq9 hv9 hc9 => ?_)
  refine vx_catch (own := RL) (name := EXS) hown [] ⟨0, 8, 11, 15⟩ [] htab (fun z hz => nomatch hz) (by decide) (by decide) (hts (.classLink RL 15 EXS) (by decide +kernel)) (va_Nw.use rfl hXE.1.2.1) hq9 hv9 hc9 ?_
  refine W.eq (g2 := F0 mi 11 ls [.ref q9]) rfl ?_
  refine lv_astore_n (lv' := [(2, .ref q9), (0, .ref h), (1, .ref o)]) hx hb dL_begin_11 rfl hl (by decide) rfl (fun ls hl => ?_)
  refine lv_iconst (v := nI 1) hx hb dL_begin_12 ci_1 ?_
  exact hret 13 ls _ _ locs _ _ _ (Nat.le_refl _) (Nat.le_refl _) dL_begin_13 hP hD hS ⟨rfl, hp1⟩
set_option maxHeartbeats 4000000 in
set_option maxRecDepth 100000 in
theorem wk_step {l : Launch} {D : va_G} {ky : kT} {A : Nat → Prop} {Hs : Heap} {ws : va_W} (hP : va_P D CL ws Hs) (hD : va_D A ws) {h o : Nat} {fs : List Value} {f : Nat → Int64} (e0 : ws[0]? = some (h, .inr (4, fs))) (eo : isOut ky ws o f) {fr0 lo0 : Nat} (hf0 : fr0 ≤ 6) (hl0 : lo0 ≤ 137) {post : Int32 → va_W → Prop} (hfr : ∀ r w, post r w → fr ws w 0 18) (hM : MU l yX4_step wsX4_step fr0 lo0 0 0 D ky A Hs [.ref h] post) : WU l yL_step wsL_step 7 158 D ky A Hs [.ref h, .ref o] (fun k w => k = nI 0 ∧ ∃ (r : Int32) (w1 : va_W), post r w1 ∧ fr w1 w 30 30 ∧ ∃ g : Nat → Int64, isOut ky w o g ∧ g 0 = r.toInt64) := by
  refine WU.of (cc := cL_step) (maxL := 3) (hh := [(0, 8, 11, 15)]) (by decide) rfl (Nat.le_of_ble_eq_true rfl) ?_
  intro pg en Rm sg mi av below meth co Qo hRf hRl hRc hRs hx hb hml hown hts hK hXE hNC htab hret ls hl
  have hl : lv_has ls 3 [(0, .ref h), (1, .ref o)] := hl
  have hS : va_S A Hs Hs [] := va_S.rf
  generalize ([] : List Loc) = locs at hS ⊢
  refine lv_aload_n hx hb dL_step_0 rfl (lv_at hl 1 rfl) ?_
  refine lv_iconst (v := nI 0) hx hb dL_step_1 ci_0 ?_
  refine lv_aload_n hx hb dL_step_2 rfl (lv_at hl 0 rfl) ?_
  refine mcV hM ⟨hx, hb, hml, hown, hts⟩ hK gL_step_X4_step rfl hd_X4_step ⟨by omega, by omega⟩ (va_recv hK hP (ci := 4) (q0 := 0) rfl e0) rfl hl.1 rfl (Nat.le_of_ble_eq_true rfl) dL_step_3 ⟨Nat.zero_le _, Nat.zero_le _⟩ hS (fun r w1 H locs hp1 hP hD hS => ?_)
  have eo1 : isOut ky w1 o f := (hfr r w1 hp1 30 (Or.inr (by decide))).trans eo
  refine lv_i2l (v := r.toInt64) hx hb dL_step_6 rfl ?_
  refine sv_last hx hb hK hP hD hS eo1 dL_step_7 (fun w2 H locs g2 hP hD hS eo2 hg2 fr2 => ?_)
  refine lv_goto (tgt := 14) hx hb dL_step_8 (by decide) ?_
  refine lv_iconst (v := nI 0) hx hb dL_step_14 ci_0 ?_
  exact hret 15 ls _ _ locs _ _ _ (Nat.zero_le _) (Nat.zero_le _) dL_step_15 hP hD hS ⟨rfl, r, w1, hp1, fr2, g2, eo2, hg2⟩
set_option maxHeartbeats 4000000 in
set_option maxRecDepth 100000 in
theorem wxS_step {l : Launch} {D : va_G} {ky : kT} {A : Nat → Prop} {Hs : Heap} {ws : va_W} (hP : va_P D CL ws Hs) (hD : va_D A ws) {h o : Nat} {fs : List Value} {f : Nat → Int64} (e0 : ws[0]? = some (h, .inr (4, fs))) (eo : isOut ky ws o f) {fr0 lo0 : Nat} (hf0 : fr0 ≤ 6) (hl0 : lo0 ≤ 137) {post : va_W → Prop} (hM : XU l yX4_step wsX4_step fr0 lo0 D ky A Hs [.ref h] EXS post) : WU l yL_step wsL_step 7 158 D ky A Hs [.ref h, .ref o] (fun k w => k = nI 1 ∧ post w) := by
  refine WU.of (cc := cL_step) (maxL := 3) (hh := [(0, 8, 11, 15)]) (by decide) rfl (Nat.le_of_ble_eq_true rfl) ?_
  intro pg en Rm sg mi av below meth co Qo hRf hRl hRc hRs hx hb hml hown hts hK hXE hNC htab hret ls hl
  have hl : lv_has ls 3 [(0, .ref h), (1, .ref o)] := hl
  have hS : va_S A Hs Hs [] := va_S.rf
  generalize ([] : List Loc) = locs at hS ⊢
  refine lv_aload_n hx hb dL_step_0 rfl (lv_at hl 1 rfl) ?_
  refine lv_iconst (v := nI 0) hx hb dL_step_1 ci_0 ?_
  refine lv_aload_n hx hb dL_step_2 rfl (lv_at hl 0 rfl) ?_
  refine xcV hM ⟨hx, hb, hml, hown, hts⟩ hK hXE gL_step_X4_step rfl hd_X4_step ⟨by omega, by omega⟩ (va_recv hK hP (ci := 4) (q0 := 0) rfl e0) rfl hl.1 rfl (Nat.le_of_ble_eq_true rfl) dL_step_3 ⟨by omega, by omega⟩ hS (fun w1 H locs q9 ce9 hp1 hP hD hS hq9 hv9 hc9 => ?_)
  refine vx_catch (own := RL) (name := EXS) hown [] ⟨0, 8, 11, 15⟩ [] htab (fun z hz => nomatch hz) (by decide) (by decide) (hts (.classLink RL 15 EXS) (by decide +kernel)) (va_Nw.use rfl hXE.1.2.1) hq9 hv9 hc9 ?_
  refine W.eq (g2 := F0 mi 11 ls [.ref q9]) rfl ?_
  refine lv_astore_n (lv' := [(2, .ref q9), (0, .ref h), (1, .ref o)]) hx hb dL_step_11 rfl hl (by decide) rfl (fun ls hl => ?_)
  refine lv_iconst (v := nI 1) hx hb dL_step_12 ci_1 ?_
  exact hret 13 ls _ _ locs _ _ _ (Nat.le_refl _) (Nat.le_refl _) dL_step_13 hP hD hS ⟨rfl, hp1⟩
set_option maxHeartbeats 4000000 in
set_option maxRecDepth 100000 in
theorem wk_stepBack {l : Launch} {D : va_G} {ky : kT} {A : Nat → Prop} {Hs : Heap} {ws : va_W} (hP : va_P D CL ws Hs) (hD : va_D A ws) {h o : Nat} {fs : List Value} {f : Nat → Int64} (e0 : ws[0]? = some (h, .inr (4, fs))) (eo : isOut ky ws o f) {fr0 lo0 : Nat} (hf0 : fr0 ≤ 6) (hl0 : lo0 ≤ 137) {post : Int32 → va_W → Prop} (hfr : ∀ r w, post r w → fr ws w 0 18) (hM : MU l yX4_stepBack wsX4_stepBack fr0 lo0 0 0 D ky A Hs [.ref h] post) : WU l yL_stepBack wsL_stepBack 7 158 D ky A Hs [.ref h, .ref o] (fun k w => k = nI 0 ∧ ∃ (r : Int32) (w1 : va_W), post r w1 ∧ fr w1 w 30 30 ∧ ∃ g : Nat → Int64, isOut ky w o g ∧ g 0 = r.toInt64) := by
  refine WU.of (cc := cL_stepBack) (maxL := 3) (hh := [(0, 8, 11, 15)]) (by decide) rfl (Nat.le_of_ble_eq_true rfl) ?_
  intro pg en Rm sg mi av below meth co Qo hRf hRl hRc hRs hx hb hml hown hts hK hXE hNC htab hret ls hl
  have hl : lv_has ls 3 [(0, .ref h), (1, .ref o)] := hl
  have hS : va_S A Hs Hs [] := va_S.rf
  generalize ([] : List Loc) = locs at hS ⊢
  refine lv_aload_n hx hb dL_stepBack_0 rfl (lv_at hl 1 rfl) ?_
  refine lv_iconst (v := nI 0) hx hb dL_stepBack_1 ci_0 ?_
  refine lv_aload_n hx hb dL_stepBack_2 rfl (lv_at hl 0 rfl) ?_
  refine mcV hM ⟨hx, hb, hml, hown, hts⟩ hK gL_stepBack_X4_stepBack rfl hd_X4_stepBack ⟨by omega, by omega⟩ (va_recv hK hP (ci := 4) (q0 := 0) rfl e0) rfl hl.1 rfl (Nat.le_of_ble_eq_true rfl) dL_stepBack_3 ⟨Nat.zero_le _, Nat.zero_le _⟩ hS (fun r w1 H locs hp1 hP hD hS => ?_)
  have eo1 : isOut ky w1 o f := (hfr r w1 hp1 30 (Or.inr (by decide))).trans eo
  refine lv_i2l (v := r.toInt64) hx hb dL_stepBack_6 rfl ?_
  refine sv_last hx hb hK hP hD hS eo1 dL_stepBack_7 (fun w2 H locs g2 hP hD hS eo2 hg2 fr2 => ?_)
  refine lv_goto (tgt := 14) hx hb dL_stepBack_8 (by decide) ?_
  refine lv_iconst (v := nI 0) hx hb dL_stepBack_14 ci_0 ?_
  exact hret 15 ls _ _ locs _ _ _ (Nat.zero_le _) (Nat.zero_le _) dL_stepBack_15 hP hD hS ⟨rfl, r, w1, hp1, fr2, g2, eo2, hg2⟩
set_option maxHeartbeats 4000000 in
set_option maxRecDepth 100000 in
theorem wxS_stepBack {l : Launch} {D : va_G} {ky : kT} {A : Nat → Prop} {Hs : Heap} {ws : va_W} (hP : va_P D CL ws Hs) (hD : va_D A ws) {h o : Nat} {fs : List Value} {f : Nat → Int64} (e0 : ws[0]? = some (h, .inr (4, fs))) (eo : isOut ky ws o f) {fr0 lo0 : Nat} (hf0 : fr0 ≤ 6) (hl0 : lo0 ≤ 137) {post : va_W → Prop} (hM : XU l yX4_stepBack wsX4_stepBack fr0 lo0 D ky A Hs [.ref h] EXS post) : WU l yL_stepBack wsL_stepBack 7 158 D ky A Hs [.ref h, .ref o] (fun k w => k = nI 1 ∧ post w) := by
  refine WU.of (cc := cL_stepBack) (maxL := 3) (hh := [(0, 8, 11, 15)]) (by decide) rfl (Nat.le_of_ble_eq_true rfl) ?_
  intro pg en Rm sg mi av below meth co Qo hRf hRl hRc hRs hx hb hml hown hts hK hXE hNC htab hret ls hl
  have hl : lv_has ls 3 [(0, .ref h), (1, .ref o)] := hl
  have hS : va_S A Hs Hs [] := va_S.rf
  generalize ([] : List Loc) = locs at hS ⊢
  refine lv_aload_n hx hb dL_stepBack_0 rfl (lv_at hl 1 rfl) ?_
  refine lv_iconst (v := nI 0) hx hb dL_stepBack_1 ci_0 ?_
  refine lv_aload_n hx hb dL_stepBack_2 rfl (lv_at hl 0 rfl) ?_
  refine xcV hM ⟨hx, hb, hml, hown, hts⟩ hK hXE gL_stepBack_X4_stepBack rfl hd_X4_stepBack ⟨by omega, by omega⟩ (va_recv hK hP (ci := 4) (q0 := 0) rfl e0) rfl hl.1 rfl (Nat.le_of_ble_eq_true rfl) dL_stepBack_3 ⟨by omega, by omega⟩ hS (fun w1 H locs q9 ce9 hp1 hP hD hS hq9 hv9 hc9 => ?_)
  refine vx_catch (own := RL) (name := EXS) hown [] ⟨0, 8, 11, 15⟩ [] htab (fun z hz => nomatch hz) (by decide) (by decide) (hts (.classLink RL 15 EXS) (by decide +kernel)) (va_Nw.use rfl hXE.1.2.1) hq9 hv9 hc9 ?_
  refine W.eq (g2 := F0 mi 11 ls [.ref q9]) rfl ?_
  refine lv_astore_n (lv' := [(2, .ref q9), (0, .ref h), (1, .ref o)]) hx hb dL_stepBack_11 rfl hl (by decide) rfl (fun ls hl => ?_)
  refine lv_iconst (v := nI 1) hx hb dL_stepBack_12 ci_1 ?_
  exact hret 13 ls _ _ locs _ _ _ (Nat.le_refl _) (Nat.le_refl _) dL_stepBack_13 hP hD hS ⟨rfl, hp1⟩
set_option maxHeartbeats 4000000 in
set_option maxRecDepth 100000 in
theorem wk_isBypassed {l : Launch} {D : va_G} {ky : kT} {A : Nat → Prop} {Hs : Heap} {ws : va_W} (hP : va_P D CL ws Hs) (hD : va_D A ws) {h o : Nat} {fs : List Value} {f : Nat → Int64} (e0 : ws[0]? = some (h, .inr (4, fs))) (eo : isOut ky ws o f) {x : Int32} {fr0 lo0 : Nat} (hf0 : fr0 ≤ 7) (hl0 : lo0 ≤ 103) {post : Int32 → va_W → Prop} (hfr : ∀ r w, post r w → fr ws w 0 18) (hM : MU l yX4_isBypassed wsX4_isBypassed fr0 lo0 0 0 D ky A Hs [.ref h, .int x] post) : WU l yL_isBypassed wsL_isBypassed 8 124 D ky A Hs [.ref h, .int x, .ref o] (fun k w => k = nI 0 ∧ ∃ (r : Int32) (w1 : va_W), post r w1 ∧ fr w1 w 30 30 ∧ ∃ g : Nat → Int64, isOut ky w o g ∧ g 0 = (if r = 0 then 0 else 1)) := by
  refine WU.of (cc := cL_isBypassed) (maxL := 4) (hh := [(0, 16, 19, 21)]) (by decide) rfl (Nat.le_of_ble_eq_true rfl) ?_
  intro pg en Rm sg mi av below meth co Qo hRf hRl hRc hRs hx hb hml hown hts hK hXE hNC htab hret ls hl
  have hl : lv_has ls 4 [(0, .ref h), (1, .int x), (2, .ref o)] := hl
  have hS : va_S A Hs Hs [] := va_S.rf
  generalize ([] : List Loc) = locs at hS ⊢
  refine lv_aload_n hx hb dL_isBypassed_0 rfl (lv_at hl 2 rfl) ?_
  refine lv_iconst (v := nI 0) hx hb dL_isBypassed_1 ci_0 ?_
  refine lv_aload_n hx hb dL_isBypassed_2 rfl (lv_at hl 0 rfl) ?_
  refine lv_iload_n hx hb dL_isBypassed_3 rfl (lv_at hl 1 rfl) ?_
  refine mcV hM ⟨hx, hb, hml, hown, hts⟩ hK gL_isBypassed_X4_isBypassed rfl hd_X4_isBypassed ⟨by omega, by omega⟩ (va_recv hK hP (ci := 4) (q0 := 0) rfl e0) rfl hl.1 rfl (Nat.le_of_ble_eq_true rfl) dL_isBypassed_4 ⟨Nat.zero_le _, Nat.zero_le _⟩ hS (fun r w1 H locs hp1 hP hD hS => ?_)
  have eo1 : isOut ky w1 o f := (hfr r w1 hp1 30 (Or.inr (by decide))).trans eo
  refine lv_if_eq (tgt := 14) hx hb dL_isBypassed_7 (by decide) (fun cz => ?_) (fun cz => ?_)
  · refine lv_lconst (v := 0) hx hb dL_isBypassed_14 rfl ?_
    refine sv_last hx hb hK hP hD hS eo1 dL_isBypassed_15 (fun w2 H locs g2 hP hD hS eo2 hg2 fr2 => ?_)
    refine lv_goto (tgt := 22) hx hb dL_isBypassed_16 (by decide) ?_
    refine lv_iconst (v := nI 0) hx hb dL_isBypassed_22 ci_0 ?_
    exact hret 23 ls _ _ locs _ _ _ (Nat.zero_le _) (Nat.zero_le _) dL_isBypassed_23 hP hD hS ⟨rfl, r, w1, hp1, fr2, g2, eo2, hg2.trans (if_pos cz).symm⟩
  · refine lv_lconst (v := 1) hx hb dL_isBypassed_10 rfl ?_
    refine lv_goto (tgt := 15) hx hb dL_isBypassed_11 (by decide) ?_
    refine sv_last hx hb hK hP hD hS eo1 dL_isBypassed_15 (fun w2 H locs g2 hP hD hS eo2 hg2 fr2 => ?_)
    refine lv_goto (tgt := 22) hx hb dL_isBypassed_16 (by decide) ?_
    refine lv_iconst (v := nI 0) hx hb dL_isBypassed_22 ci_0 ?_
    exact hret 23 ls _ _ locs _ _ _ (Nat.zero_le _) (Nat.zero_le _) dL_isBypassed_23 hP hD hS ⟨rfl, r, w1, hp1, fr2, g2, eo2, hg2.trans (if_neg cz).symm⟩
set_option maxHeartbeats 4000000 in
set_option maxRecDepth 100000 in
theorem wxI_isBypassed {l : Launch} {D : va_G} {ky : kT} {A : Nat → Prop} {Hs : Heap} {ws : va_W} (hP : va_P D CL ws Hs) (hD : va_D A ws) {h o : Nat} {fs : List Value} {f : Nat → Int64} (e0 : ws[0]? = some (h, .inr (4, fs))) (eo : isOut ky ws o f) {x : Int32} {fr0 lo0 : Nat} (hf0 : fr0 ≤ 7) (hl0 : lo0 ≤ 103) {post : va_W → Prop} (hM : XU l yX4_isBypassed wsX4_isBypassed fr0 lo0 D ky A Hs [.ref h, .int x] EXI post) : WU l yL_isBypassed wsL_isBypassed 8 124 D ky A Hs [.ref h, .int x, .ref o] (fun k w => k = nI 1 ∧ post w) := by
  refine WU.of (cc := cL_isBypassed) (maxL := 4) (hh := [(0, 16, 19, 21)]) (by decide) rfl (Nat.le_of_ble_eq_true rfl) ?_
  intro pg en Rm sg mi av below meth co Qo hRf hRl hRc hRs hx hb hml hown hts hK hXE hNC htab hret ls hl
  have hl : lv_has ls 4 [(0, .ref h), (1, .int x), (2, .ref o)] := hl
  have hS : va_S A Hs Hs [] := va_S.rf
  generalize ([] : List Loc) = locs at hS ⊢
  refine lv_aload_n hx hb dL_isBypassed_0 rfl (lv_at hl 2 rfl) ?_
  refine lv_iconst (v := nI 0) hx hb dL_isBypassed_1 ci_0 ?_
  refine lv_aload_n hx hb dL_isBypassed_2 rfl (lv_at hl 0 rfl) ?_
  refine lv_iload_n hx hb dL_isBypassed_3 rfl (lv_at hl 1 rfl) ?_
  refine xcV hM ⟨hx, hb, hml, hown, hts⟩ hK hXE gL_isBypassed_X4_isBypassed rfl hd_X4_isBypassed ⟨by omega, by omega⟩ (va_recv hK hP (ci := 4) (q0 := 0) rfl e0) rfl hl.1 rfl (Nat.le_of_ble_eq_true rfl) dL_isBypassed_4 ⟨by omega, by omega⟩ hS (fun w1 H locs q9 ce9 hp1 hP hD hS hq9 hv9 hc9 => ?_)
  refine vx_catch (own := RL) (name := EXI) hown [] ⟨0, 16, 19, 21⟩ [] htab (fun z hz => nomatch hz) (by decide) (by decide) (hts (.classLink RL 21 EXI) (by decide +kernel)) (va_Nw.use rfl hXE.1.2.2) hq9 hv9 hc9 ?_
  refine W.eq (g2 := F0 mi 19 ls [.ref q9]) rfl ?_
  refine lv_astore_n (lv' := [(3, .ref q9), (0, .ref h), (1, .int x), (2, .ref o)]) hx hb dL_isBypassed_19 rfl hl (by decide) rfl (fun ls hl => ?_)
  refine lv_iconst (v := nI 1) hx hb dL_isBypassed_20 ci_1 ?_
  exact hret 21 ls _ _ locs _ _ _ (Nat.le_refl _) (Nat.le_refl _) dL_isBypassed_21 hP hD hS ⟨rfl, hp1⟩
