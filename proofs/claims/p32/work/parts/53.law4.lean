theorem bi_10 : (Int8.ofInt 10).toInt32 = nI 10 := by decide +kernel
theorem hd_X4_addPart : yX4_addPart.cls = RX4 ∧ yX4_addPart.cls ≠ "java/lang/invoke/MethodHandle" ∧ yX4_addPart.cls ≠ "java/lang/invoke/VarHandle" ∧ (parseMethodDescriptor yX4_addPart.desc).map (fun d => d.parameters.length) = some 1 := by decide +kernel
theorem hd_X4_askSteady : yX4_askSteady.cls = RX4 ∧ yX4_askSteady.cls ≠ "java/lang/invoke/MethodHandle" ∧ yX4_askSteady.cls ≠ "java/lang/invoke/VarHandle" ∧ (parseMethodDescriptor yX4_askSteady.desc).map (fun d => d.parameters.length) = some 1 := by decide +kernel
theorem hd_X4_built : yX4_built.cls = RX4 ∧ yX4_built.cls ≠ "java/lang/invoke/MethodHandle" ∧ yX4_built.cls ≠ "java/lang/invoke/VarHandle" ∧ (parseMethodDescriptor yX4_built.desc).map (fun d => d.parameters.length) = some 0 := by decide +kernel
theorem hd_X4_contact : yX4_contact.cls = RX4 ∧ yX4_contact.cls ≠ "java/lang/invoke/MethodHandle" ∧ yX4_contact.cls ≠ "java/lang/invoke/VarHandle" ∧ (parseMethodDescriptor yX4_contact.desc).map (fun d => d.parameters.length) = some 3 := by decide +kernel
theorem hd_X4_hinder : yX4_hinder.cls = RX4 ∧ yX4_hinder.cls ≠ "java/lang/invoke/MethodHandle" ∧ yX4_hinder.cls ≠ "java/lang/invoke/VarHandle" ∧ (parseMethodDescriptor yX4_hinder.desc).map (fun d => d.parameters.length) = some 4 := by decide +kernel
theorem hd_X4_mounted : yX4_mounted.cls = RX4 ∧ yX4_mounted.cls ≠ "java/lang/invoke/MethodHandle" ∧ yX4_mounted.cls ≠ "java/lang/invoke/VarHandle" ∧ (parseMethodDescriptor yX4_mounted.desc).map (fun d => d.parameters.length) = some 0 := by decide +kernel
theorem hd_X4_parts : yX4_parts.cls = RX4 ∧ yX4_parts.cls ≠ "java/lang/invoke/MethodHandle" ∧ yX4_parts.cls ≠ "java/lang/invoke/VarHandle" ∧ (parseMethodDescriptor yX4_parts.desc).map (fun d => d.parameters.length) = some 0 := by decide +kernel
theorem hd_X4_setBase : yX4_setBase.cls = RX4 ∧ yX4_setBase.cls ≠ "java/lang/invoke/MethodHandle" ∧ yX4_setBase.cls ≠ "java/lang/invoke/VarHandle" ∧ (parseMethodDescriptor yX4_setBase.desc).map (fun d => d.parameters.length) = some 1 := by decide +kernel
theorem hd_X4_setJams : yX4_setJams.cls = RX4 ∧ yX4_setJams.cls ≠ "java/lang/invoke/MethodHandle" ∧ yX4_setJams.cls ≠ "java/lang/invoke/VarHandle" ∧ (parseMethodDescriptor yX4_setJams.desc).map (fun d => d.parameters.length) = some 2 := by decide +kernel
theorem hd_X4_setTool : yX4_setTool.cls = RX4 ∧ yX4_setTool.cls ≠ "java/lang/invoke/MethodHandle" ∧ yX4_setTool.cls ≠ "java/lang/invoke/VarHandle" ∧ (parseMethodDescriptor yX4_setTool.desc).map (fun d => d.parameters.length) = some 2 := by decide +kernel
def LI (k : kT) (w : va_W) (x o z : Nat) : Prop :=
  ∃ (n : Nat) (T C Hd : Nat → Nat) (b : Nat) (q : Bool) (J : Nat → Nat) (bg : Bool) (pi bu : Nat) (tm tl : Int32) (K f : Nat → Nat),
    AP k w x n T C Hd b q J bg pi bu tm tl K ∧ w[19]? = some (o, .inl (k.1, 59, .inl (fun i => nI (f i)))) ∧ TI n C Hd b q f ∧ LR n T C Hd b J K ∧ z ≤ n
theorem TI.add {n : Nat} {C Hd : Nat → Nat} {b : Nat} {q : Bool} {f : Nat → Nat} (h : TI n C Hd b q f) : TI (n + 1) C Hd b q (upX f 56 (n + 1)) :=
  ⟨fun i hi => by rw [upX_n (by omega)]; exact h.1 i hi, fun i hi => by rw [upX_n (by omega)]; exact h.2.1 i hi, upX_s, by rw [upX_n (by omega)]; exact h.2.2.2.1, by rw [upX_n (by omega)]; exact h.2.2.2.2⟩
theorem TI.base {n : Nat} {C Hd : Nat → Nat} {b p : Nat} {q : Bool} {f : Nat → Nat} (h : TI n C Hd b q f) : TI n C Hd p q (upX f 57 p) :=
  ⟨fun i hi => by rw [upX_n (by omega)]; exact h.1 i hi, fun i hi => by rw [upX_n (by omega)]; exact h.2.1 i hi, by rw [upX_n (by omega)]; exact h.2.2.1, upX_s, by rw [upX_n (by omega)]; exact h.2.2.2.2⟩
theorem TI.ask {n : Nat} {C Hd : Nat → Nat} {b : Nat} {q u : Bool} {f : Nat → Nat} (h : TI n C Hd b q f) : TI n C Hd b u (upX f 58 u.toNat) :=
  ⟨fun i hi => by rw [upX_n (by omega)]; exact h.1 i hi, fun i hi => by rw [upX_n (by omega)]; exact h.2.1 i hi, by rw [upX_n (by omega)]; exact h.2.2.1, by rw [upX_n (by omega)]; exact h.2.2.2.1, upX_s⟩
set_option maxHeartbeats 4000000 in
set_option maxRecDepth 100000 in
theorem c_L_step {l : Launch} {D : va_G} {ky : kT} {A : Nat → Prop} {Hs : Heap} {ws : va_W} (hP : va_P D CL ws Hs) (hD : va_D A ws) {x o9 n : Nat} {T C Hd : Nat → Nat} {b : Nat} {q : Bool} {J : Nat → Nat} {bg : Bool} {pi bu : Nat} {tm tl : Int32} {K : Nat → Nat} {f : Nat → Nat} (hap : AP ky ws x n T C Hd b q J bg pi bu tm tl K) (f19 : ws[19]? = some (o9, .inl (ky.1, 59, .inl (fun i => nI (f i))))) (hTI : TI n C Hd b q f) (hLR : LR n T C Hd b J K) {gw ga gb : Nat} (hgw : gw < 2 ^ 31) (hga : ga < 2 ^ 31) (hgb : gb < 2 ^ 31) : MU l yL_step wsL_step 4 92 0 0 D ky A Hs [.ref x, .ref o9, .int (nI gw), .int (nI ga), .int (nI gb)] (fun r w => r = nI 1 ∧ LI ky w x o9 1 ∧ fr ws w 0 19) := by
  refine MU.of (cc := cL_step) (maxL := 14) (ty := .boolean) (by decide) rfl (Nat.le_of_ble_eq_true rfl) ?_
  intro pg en Rm sg mi av below meth co Qo hRf hRl hRc hRs hx hb hml hown hts hK hret ls hl
  have hl : lv_has ls 14 [(0, .ref x), (1, .ref o9), (2, .int (nI gw)), (3, .int (nI ga)), (4, .int (nI gb))] := hl
  have hS : va_S A Hs Hs [] := va_S.rf
  generalize ([] : List Loc) = locs at hS ⊢
  have hn6 : n ≤ 6 := hLR.2.1
  have hT := hLR.2.2.1
  have hp64 := p2_64 hn6
  have hp1 : 1 ≤ 2 ^ n := Nat.one_le_two_pow
  have hb8 : b < 8 := hLR.1.2.1
  have hTb : ∀ p, T p < 2 ^ 31 := fun p => Nat.lt_of_lt_of_le (hT p) (by decide)
  have hq2 : q.toNat ≤ 1 := tn_1 q
  have hJ := hLR.2.2.2.1
  have hK2 := hLR.2.2.2.2
  refine lv_aload_n hx hb dL_step_0 rfl (lv_at hl 1 rfl) ?_
  refine lv_bipush (v := nI 56) hx hb dL_step_1 bi_56 ?_
  refine sv_iald hx hb hK hP 19 f19 (j := 56) (by omega) (by decide) dL_step_3 ?_
  refine W.eq (g2 := F0 mi 4 ls (.int (nI (f 56)) :: [])) rfl ?_
  refine sv_top (y := nI n) (by rw [hTI.2.2.1]) ?_
  refine lv_istore (lv' := [(5, .int (nI n)), (0, .ref x), (1, .ref o9), (2, .int (nI gw)), (3, .int (nI ga)), (4, .int (nI gb))]) hx hb dL_step_4 hl (by decide) rfl (fun ls hl => ?_)
  have J77 : 0 < n → ∀ (ls : Array Slot) (locs : List Loc), lv_has ls 14 [(0, .ref x), (1, .ref o9), (2, .int (nI gw)), (3, .int (nI ga)), (4, .int (nI gb)), (5, .int (nI n))] → va_S A Hs Hs locs → W pg l en Rm sg mi av below meth co Hs locs 0 0 Qo (F0 mi 77 ls []) := by
    intro hn0 ls locs hl hS
    refine lv_iload_n hx hb dL_step_77 rfl (lv_at hl 3 rfl) ?_
    refine lv_iload hx hb dL_step_78 (lv_at hl 5 rfl) ?_
    refine sn_irem hx hb (by omega) (by omega) (by omega) dL_step_80 ?_
    obtain ⟨p, hpz⟩ : ∃ z : Nat, z = ga % n := ⟨_, rfl⟩
    have hp : p < n := by rw [hpz]; exact Nat.mod_lt _ (by omega)
    refine sv_top (y := nI p) (by rw [hpz]) ?_
    refine lv_istore (lv' := [(6, .int (nI p)), (0, .ref x), (1, .ref o9), (2, .int (nI gw)), (3, .int (nI ga)), (4, .int (nI gb)), (5, .int (nI n))]) hx hb dL_step_81 hl (by decide) rfl (fun ls hl => ?_)
    refine lv_iload hx hb dL_step_83 (lv_at hl 5 rfl) ?_
    refine lv_iload hx hb dL_step_85 (lv_at hl 6 rfl) ?_
    refine sn_irem hx hb (by omega) (by omega) (by omega) dL_step_87 ?_
    obtain ⟨r, hrz⟩ : ∃ z : Nat, z = gb % n := ⟨_, rfl⟩
    have hr : r < n := by rw [hrz]; exact Nat.mod_lt _ (by omega)
    refine sv_top (y := nI r) (by rw [hrz]) ?_
    refine lv_istore (lv' := [(7, .int (nI r)), (6, .int (nI p)), (0, .ref x), (1, .ref o9), (2, .int (nI gw)), (3, .int (nI ga)), (4, .int (nI gb)), (5, .int (nI n))]) hx hb dL_step_88 hl (by decide) rfl (fun ls hl => ?_)
    refine lv_iload_n hx hb dL_step_90 rfl (lv_at hl 4 rfl) ?_
    refine lv_bipush (v := nI 10) hx hb dL_step_91 bi_10 ?_
    refine sn_irem hx hb (by omega) (by decide) (by decide) dL_step_93 ?_
    have J186 : ∀ (ls : Array Slot) (locs : List Loc), lv_has ls 14 [(0, .ref x), (1, .ref o9), (2, .int (nI gw)), (3, .int (nI ga)), (4, .int (nI gb)), (5, .int (nI n)), (6, .int (nI p)), (7, .int (nI r))] → va_S A Hs Hs locs → W pg l en Rm sg mi av below meth co Hs locs 0 0 Qo (F0 mi 186 ls []) := by
      intro  ls locs hl hS
      refine lv_iload hx hb dL_step_186 (lv_at hl 6 rfl) ?_
      refine lv_iload hx hb dL_step_188 (lv_at hl 7 rfl) ?_
      refine sn_icmp_ne (tgt := 217) hx hb dL_step_190 (by decide) (by omega) (by omega) (fun c1 => ?_) (fun c1 => ?_)
      · refine lv_iload_n hx hb dL_step_217 rfl (lv_at hl 3 rfl) ?_
        refine lv_bipush (v := nI 8) hx hb dL_step_218 bi_8 ?_
        refine sn_idiv hx hb (by omega) (by decide) (by decide) dL_step_220 ?_
        refine lv_iconst (v := nI 5) hx hb dL_step_221 ci_5 ?_
        refine sn_irem hx hb (by omega) (by decide) (by decide) dL_step_222 ?_
        refine sn_if_le (tgt := 230) hx hb dL_step_223 (by decide) (Nat.lt_trans (Nat.mod_lt _ (by decide : 5 > 0)) (by decide)) (fun c2 => ?_) (fun c2 => ?_)
        · refine lv_iconst (v := nI 0) hx hb dL_step_230 ci_0 ?_
          refine lv_istore (lv' := [(9, .int (nI 0)), (0, .ref x), (1, .ref o9), (2, .int (nI gw)), (3, .int (nI ga)), (4, .int (nI gb)), (5, .int (nI n)), (6, .int (nI p)), (7, .int (nI r))]) hx hb dL_step_231 hl (by decide) rfl (fun ls hl => ?_)
          refine lv_aload_n hx hb dL_step_233 rfl (lv_at hl 2 rfl) ?_
          refine lv_bipush (v := nI 48) hx hb dL_step_234 bi_48 ?_
          refine lv_iload hx hb dL_step_236 (lv_at hl 7 rfl) ?_
          refine lv_iadd hx hb dL_step_238 ?_
          refine sv_top (y := nI (48 + p)) (nI_add _ _) ?_
          refine lv_aload_n hx hb dL_step_239 rfl (lv_at hl 2 rfl) ?_
          refine lv_bipush (v := nI 48) hx hb dL_step_240 bi_48 ?_
          refine lv_iload hx hb dL_step_242 (lv_at hl 7 rfl) ?_
          refine lv_iadd hx hb dL_step_244 ?_
          refine sv_top (y := nI (48 + p)) (nI_add _ _) ?_
          refine sv_iald hx hb hK hP 19 f19 (j := 48 + p) (by omega) (by decide) dL_step_245 ?_
          refine W.eq (g2 := F0 mi 246 ls (.int (nI (f (48 + p))) :: [.int (nI (48 + p)), .ref o9])) rfl ?_
          refine sv_top (y := nI (C p)) (by rw [hTI.2.1 p (by omega)]) ?_
          refine lv_iconst (v := nI 1) hx hb dL_step_246 ci_1 ?_
          refine lv_iload hx hb dL_step_247 (lv_at hl 8 rfl) ?_
          refine lv_ishl hx hb dL_step_249 ?_
          refine sv_top (y := nI (2 ^ r)) (sh_l1 (by omega)) ?_
          refine lv_iconst (v := -1) hx hb dL_step_250 ci_m1 ?_
          refine lv_ixor hx hb dL_step_251 ?_
          refine lv_iand hx hb dL_step_252 ?_
          refine sv_top (y := nI (clr (C p) (2 ^ r))) (an_not _ _) ?_
          refine lv_iload hx hb dL_step_253 (lv_at hl 0 rfl) ?_
          refine sn_if_eq (tgt := 265) hx hb dL_step_255 (by decide) (by decide) (fun _ => ?_) (fun q => absurd q (by decide))
          refine lv_iconst (v := nI 0) hx hb dL_step_265 ci_0 ?_
          refine lv_ior hx hb dL_step_266 ?_
          refine sv_top (y := nI ((clr (C p) (2 ^ r)) ||| 0)) (an_or _ _) ?_
          refine sv_top (y := nI (chg (C p) r false)) (congrArg nI (lz_chgF _ _)) ?_
          refine sv_iast hx hb hK hP hD hS 19 f19 (j := 48 + p) (by omega) (by decide) dL_step_267 (fun ws5 H locs hP hD hS f19 fr4 => ?_)
          replace hap := hap.fr fr4
          rw [upd_N] at f19
          refine lv_aload_n hx hb dL_step_268 rfl (lv_at hl 2 rfl) ?_
          refine lv_bipush (v := nI 48) hx hb dL_step_269 bi_48 ?_
          refine lv_iload hx hb dL_step_271 (lv_at hl 8 rfl) ?_
          refine lv_iadd hx hb dL_step_273 ?_
          refine sv_top (y := nI (48 + r)) (nI_add _ _) ?_
          refine lv_aload_n hx hb dL_step_274 rfl (lv_at hl 2 rfl) ?_
          refine lv_bipush (v := nI 48) hx hb dL_step_275 bi_48 ?_
          refine lv_iload hx hb dL_step_277 (lv_at hl 8 rfl) ?_
          refine lv_iadd hx hb dL_step_279 ?_
          refine sv_top (y := nI (48 + r)) (nI_add _ _) ?_
          refine sv_iald hx hb hK hP 19 f19 (j := 48 + r) (by omega) (by decide) dL_step_280 ?_
          refine W.eq (g2 := F0 mi 281 ls (.int (nI ((upX f (48 + p) (chg (C p) r false)) (48 + r))) :: [.int (nI (48 + r)), .ref o9])) rfl ?_
          refine sv_top (y := nI (C r)) (by rw [upX_n (by omega), hTI.2.1 r (by omega)]) ?_
          refine lv_iconst (v := nI 1) hx hb dL_step_281 ci_1 ?_
          refine lv_iload hx hb dL_step_282 (lv_at hl 7 rfl) ?_
          refine lv_ishl hx hb dL_step_284 ?_
          refine sv_top (y := nI (2 ^ p)) (sh_l1 (by omega)) ?_
          refine lv_iconst (v := -1) hx hb dL_step_285 ci_m1 ?_
          refine lv_ixor hx hb dL_step_286 ?_
          refine lv_iand hx hb dL_step_287 ?_
          refine sv_top (y := nI (clr (C r) (2 ^ p))) (an_not _ _) ?_
          refine lv_iload hx hb dL_step_288 (lv_at hl 0 rfl) ?_
          refine sn_if_eq (tgt := 300) hx hb dL_step_290 (by decide) (by decide) (fun _ => ?_) (fun q => absurd q (by decide))
          refine lv_iconst (v := nI 0) hx hb dL_step_300 ci_0 ?_
          refine lv_ior hx hb dL_step_301 ?_
          refine sv_top (y := nI ((clr (C r) (2 ^ p)) ||| 0)) (an_or _ _) ?_
          refine sv_top (y := nI (chg (C r) p false)) (congrArg nI (lz_chgF _ _)) ?_
          refine sv_iast hx hb hK hP hD hS 19 f19 (j := 48 + r) (by omega) (by decide) dL_step_302 (fun ws8 H locs hP hD hS f19 fr7 => ?_)
          replace hap := hap.fr fr7
          rw [upd_N] at f19
          refine lv_aload_n hx hb dL_step_303 rfl (lv_at hl 1 rfl) ?_
          refine lv_iload hx hb dL_step_304 (lv_at hl 7 rfl) ?_
          refine lv_iload hx hb dL_step_306 (lv_at hl 8 rfl) ?_
          refine lv_iload hx hb dL_step_308 (lv_at hl 0 rfl) ?_
          refine W.eq (g2 := F0 mi 310 ls [.int (bI false), .int (nI r), .int (nI p), .ref x]) rfl ?_
          obtain ⟨fs0, g0⟩ := hap.at0
          refine mcV (c_X4_contact_0 hP hD hap hLR.1 hp hr (by omega)) ⟨hx, hb, hml, hown, hts⟩ hK gL_step_X4_contact rfl hd_X4_contact ⟨by omega, by omega⟩ (va_recv hK hP (ci := 4) (q0 := 0) rfl g0) rfl hl.1 rfl (Nat.le_of_ble_eq_true rfl) dL_step_310 ⟨Nat.zero_le _, Nat.zero_le _⟩ hS (fun rv ws9 H locs hq11 hP hD hS => ?_)
          obtain ⟨hr12, hap, fr10⟩ := hq11
          replace f19 := (fr10 19 (by decide)).trans f19
          refine sv_top (y := nI (cnt (ctc C p r false p))) hr12 ?_
          refine lv_aload_n hx hb dL_step_313 rfl (lv_at hl 2 rfl) ?_
          refine lv_bipush (v := nI 48) hx hb dL_step_314 bi_48 ?_
          refine lv_iload hx hb dL_step_316 (lv_at hl 7 rfl) ?_
          refine lv_iadd hx hb dL_step_318 ?_
          refine sv_top (y := nI (48 + p)) (nI_add _ _) ?_
          refine sv_iald hx hb hK hP 19 f19 (j := 48 + p) (by omega) (by decide) dL_step_319 ?_
          refine W.eq (g2 := F0 mi 320 ls (.int (nI ((upX (upX f (48 + p) (chg (C p) r false)) (48 + r) (chg (C r) p false)) (48 + p))) :: [.int (nI (cnt (ctc C p r false p)))])) rfl ?_
          refine sv_top (y := nI (chg (C p) r false)) (by rw [upX_n (by omega), upX_s]) ?_
          refine pcS (c_L_ones (lt_31 (chg_lt (hLR.1.2.2.1 _) hr) (by omega))) ⟨hx, hb, hml, hown, hts⟩ hK gL_step_L_ones rfl hd_L_ones ⟨by omega, by omega⟩ rfl hl.1 rfl (Nat.le_of_ble_eq_true rfl) dL_step_320 ⟨Nat.zero_le _, Nat.zero_le _⟩ hS (fun locs hS => ?_)
          refine sn_icmp_ne (tgt := 330) hx hb dL_step_323 (by decide) (lz_cntb _) (lz_cntb _) (fun c13 => absurd (congrArg cnt (lz_ctc (by omega))) c13) (fun c13 => ?_)
          refine lv_iconst (v := nI 1) hx hb dL_step_326 ci_1 ?_
          refine lv_goto (tgt := 331) hx hb dL_step_327 (by decide) ?_
          exact hret 331 ls _ _ locs _ dL_step_331 hP hD hS rfl (⟨rfl, ⟨_, _, _, _, _, _, _, _, _, _, _, _, _, _, hap, f19, hTI.contact (by omega) (by omega) (by omega), ⟨PI0_ctc hLR.1 hp hr, hn6, hT, hJ, lz_zro2 hK2⟩, (by omega)⟩, (((fr.wd fr4 : fr _ _ 0 19).tr fr7).tr fr10)⟩)
        · refine lv_iconst (v := nI 1) hx hb dL_step_226 ci_1 ?_
          refine lv_goto (tgt := 231) hx hb dL_step_227 (by decide) ?_
          refine lv_istore (lv' := [(9, .int (nI 1)), (0, .ref x), (1, .ref o9), (2, .int (nI gw)), (3, .int (nI ga)), (4, .int (nI gb)), (5, .int (nI n)), (6, .int (nI p)), (7, .int (nI r))]) hx hb dL_step_231 hl (by decide) rfl (fun ls hl => ?_)
          refine lv_aload_n hx hb dL_step_233 rfl (lv_at hl 2 rfl) ?_
          refine lv_bipush (v := nI 48) hx hb dL_step_234 bi_48 ?_
          refine lv_iload hx hb dL_step_236 (lv_at hl 7 rfl) ?_
          refine lv_iadd hx hb dL_step_238 ?_
          refine sv_top (y := nI (48 + p)) (nI_add _ _) ?_
          refine lv_aload_n hx hb dL_step_239 rfl (lv_at hl 2 rfl) ?_
          refine lv_bipush (v := nI 48) hx hb dL_step_240 bi_48 ?_
          refine lv_iload hx hb dL_step_242 (lv_at hl 7 rfl) ?_
          refine lv_iadd hx hb dL_step_244 ?_
          refine sv_top (y := nI (48 + p)) (nI_add _ _) ?_
          refine sv_iald hx hb hK hP 19 f19 (j := 48 + p) (by omega) (by decide) dL_step_245 ?_
          refine W.eq (g2 := F0 mi 246 ls (.int (nI (f (48 + p))) :: [.int (nI (48 + p)), .ref o9])) rfl ?_
          refine sv_top (y := nI (C p)) (by rw [hTI.2.1 p (by omega)]) ?_
          refine lv_iconst (v := nI 1) hx hb dL_step_246 ci_1 ?_
          refine lv_iload hx hb dL_step_247 (lv_at hl 8 rfl) ?_
          refine lv_ishl hx hb dL_step_249 ?_
          refine sv_top (y := nI (2 ^ r)) (sh_l1 (by omega)) ?_
          refine lv_iconst (v := -1) hx hb dL_step_250 ci_m1 ?_
          refine lv_ixor hx hb dL_step_251 ?_
          refine lv_iand hx hb dL_step_252 ?_
          refine sv_top (y := nI (clr (C p) (2 ^ r))) (an_not _ _) ?_
          refine lv_iload hx hb dL_step_253 (lv_at hl 0 rfl) ?_
          refine sn_if_eq (tgt := 265) hx hb dL_step_255 (by decide) (by decide) (fun q => absurd q (by decide)) (fun _ => ?_)
          refine lv_iconst (v := nI 1) hx hb dL_step_258 ci_1 ?_
          refine lv_iload hx hb dL_step_259 (lv_at hl 8 rfl) ?_
          refine lv_ishl hx hb dL_step_261 ?_
          refine sv_top (y := nI (2 ^ r)) (sh_l1 (by omega)) ?_
          refine lv_goto (tgt := 266) hx hb dL_step_262 (by decide) ?_
          refine lv_ior hx hb dL_step_266 ?_
          refine sv_top (y := nI ((clr (C p) (2 ^ r)) ||| (2 ^ r))) (an_or _ _) ?_
          refine sv_top (y := nI (chg (C p) r true)) (congrArg nI (lz_chgT _ _)) ?_
          refine sv_iast hx hb hK hP hD hS 19 f19 (j := 48 + p) (by omega) (by decide) dL_step_267 (fun ws16 H locs hP hD hS f19 fr15 => ?_)
          replace hap := hap.fr fr15
          rw [upd_N] at f19
          refine lv_aload_n hx hb dL_step_268 rfl (lv_at hl 2 rfl) ?_
          refine lv_bipush (v := nI 48) hx hb dL_step_269 bi_48 ?_
          refine lv_iload hx hb dL_step_271 (lv_at hl 8 rfl) ?_
          refine lv_iadd hx hb dL_step_273 ?_
          refine sv_top (y := nI (48 + r)) (nI_add _ _) ?_
          refine lv_aload_n hx hb dL_step_274 rfl (lv_at hl 2 rfl) ?_
          refine lv_bipush (v := nI 48) hx hb dL_step_275 bi_48 ?_
          refine lv_iload hx hb dL_step_277 (lv_at hl 8 rfl) ?_
          refine lv_iadd hx hb dL_step_279 ?_
          refine sv_top (y := nI (48 + r)) (nI_add _ _) ?_
          refine sv_iald hx hb hK hP 19 f19 (j := 48 + r) (by omega) (by decide) dL_step_280 ?_
          refine W.eq (g2 := F0 mi 281 ls (.int (nI ((upX f (48 + p) (chg (C p) r true)) (48 + r))) :: [.int (nI (48 + r)), .ref o9])) rfl ?_
          refine sv_top (y := nI (C r)) (by rw [upX_n (by omega), hTI.2.1 r (by omega)]) ?_
          refine lv_iconst (v := nI 1) hx hb dL_step_281 ci_1 ?_
          refine lv_iload hx hb dL_step_282 (lv_at hl 7 rfl) ?_
          refine lv_ishl hx hb dL_step_284 ?_
          refine sv_top (y := nI (2 ^ p)) (sh_l1 (by omega)) ?_
          refine lv_iconst (v := -1) hx hb dL_step_285 ci_m1 ?_
          refine lv_ixor hx hb dL_step_286 ?_
          refine lv_iand hx hb dL_step_287 ?_
          refine sv_top (y := nI (clr (C r) (2 ^ p))) (an_not _ _) ?_
          refine lv_iload hx hb dL_step_288 (lv_at hl 0 rfl) ?_
          refine sn_if_eq (tgt := 300) hx hb dL_step_290 (by decide) (by decide) (fun q => absurd q (by decide)) (fun _ => ?_)
          refine lv_iconst (v := nI 1) hx hb dL_step_293 ci_1 ?_
          refine lv_iload hx hb dL_step_294 (lv_at hl 7 rfl) ?_
          refine lv_ishl hx hb dL_step_296 ?_
          refine sv_top (y := nI (2 ^ p)) (sh_l1 (by omega)) ?_
          refine lv_goto (tgt := 301) hx hb dL_step_297 (by decide) ?_
          refine lv_ior hx hb dL_step_301 ?_
          refine sv_top (y := nI ((clr (C r) (2 ^ p)) ||| (2 ^ p))) (an_or _ _) ?_
          refine sv_top (y := nI (chg (C r) p true)) (congrArg nI (lz_chgT _ _)) ?_
          refine sv_iast hx hb hK hP hD hS 19 f19 (j := 48 + r) (by omega) (by decide) dL_step_302 (fun ws19 H locs hP hD hS f19 fr18 => ?_)
          replace hap := hap.fr fr18
          rw [upd_N] at f19
          refine lv_aload_n hx hb dL_step_303 rfl (lv_at hl 1 rfl) ?_
          refine lv_iload hx hb dL_step_304 (lv_at hl 7 rfl) ?_
          refine lv_iload hx hb dL_step_306 (lv_at hl 8 rfl) ?_
          refine lv_iload hx hb dL_step_308 (lv_at hl 0 rfl) ?_
          refine W.eq (g2 := F0 mi 310 ls [.int (bI true), .int (nI r), .int (nI p), .ref x]) rfl ?_
          obtain ⟨fs0, g0⟩ := hap.at0
          refine mcV (c_X4_contact_0 hP hD hap hLR.1 hp hr (by omega)) ⟨hx, hb, hml, hown, hts⟩ hK gL_step_X4_contact rfl hd_X4_contact ⟨by omega, by omega⟩ (va_recv hK hP (ci := 4) (q0 := 0) rfl g0) rfl hl.1 rfl (Nat.le_of_ble_eq_true rfl) dL_step_310 ⟨Nat.zero_le _, Nat.zero_le _⟩ hS (fun rv ws20 H locs hq22 hP hD hS => ?_)
          obtain ⟨hr23, hap, fr21⟩ := hq22
          replace f19 := (fr21 19 (by decide)).trans f19
          refine sv_top (y := nI (cnt (ctc C p r true p))) hr23 ?_
          refine lv_aload_n hx hb dL_step_313 rfl (lv_at hl 2 rfl) ?_
          refine lv_bipush (v := nI 48) hx hb dL_step_314 bi_48 ?_
          refine lv_iload hx hb dL_step_316 (lv_at hl 7 rfl) ?_
          refine lv_iadd hx hb dL_step_318 ?_
          refine sv_top (y := nI (48 + p)) (nI_add _ _) ?_
          refine sv_iald hx hb hK hP 19 f19 (j := 48 + p) (by omega) (by decide) dL_step_319 ?_
          refine W.eq (g2 := F0 mi 320 ls (.int (nI ((upX (upX f (48 + p) (chg (C p) r true)) (48 + r) (chg (C r) p true)) (48 + p))) :: [.int (nI (cnt (ctc C p r true p)))])) rfl ?_
          refine sv_top (y := nI (chg (C p) r true)) (by rw [upX_n (by omega), upX_s]) ?_
          refine pcS (c_L_ones (lt_31 (chg_lt (hLR.1.2.2.1 _) hr) (by omega))) ⟨hx, hb, hml, hown, hts⟩ hK gL_step_L_ones rfl hd_L_ones ⟨by omega, by omega⟩ rfl hl.1 rfl (Nat.le_of_ble_eq_true rfl) dL_step_320 ⟨Nat.zero_le _, Nat.zero_le _⟩ hS (fun locs hS => ?_)
          refine sn_icmp_ne (tgt := 330) hx hb dL_step_323 (by decide) (lz_cntb _) (lz_cntb _) (fun c24 => absurd (congrArg cnt (lz_ctc (by omega))) c24) (fun c24 => ?_)
          refine lv_iconst (v := nI 1) hx hb dL_step_326 ci_1 ?_
          refine lv_goto (tgt := 331) hx hb dL_step_327 (by decide) ?_
          exact hret 331 ls _ _ locs _ dL_step_331 hP hD hS rfl (⟨rfl, ⟨_, _, _, _, _, _, _, _, _, _, _, _, _, _, hap, f19, hTI.contact (by omega) (by omega) (by omega), ⟨PI0_ctc hLR.1 hp hr, hn6, hT, hJ, lz_zro2 hK2⟩, (by omega)⟩, (((fr.wd fr15 : fr _ _ 0 19).tr fr18).tr fr21)⟩)
      · refine lv_aload_n hx hb dL_step_193 rfl (lv_at hl 0 rfl) ?_
        refine lv_iload hx hb dL_step_194 (lv_at hl 6 rfl) ?_
        refine lv_iload hx hb dL_step_196 (lv_at hl 4 rfl) ?_
        refine lv_bipush (v := nI 6) hx hb dL_step_198 bi_6 ?_
        refine sn_irem hx hb (by omega) (by decide) (by decide) dL_step_200 ?_
        obtain ⟨fs0, g0⟩ := hap.at0
        refine mcV (c_X4_movesWith_0 hP hD hap hLR.1 hp (Nat.mod_lt _ (by decide))) ⟨hx, hb, hml, hown, hts⟩ hK gL_step_X4_movesWith rfl hd_X4_movesWith ⟨by omega, by omega⟩ (va_recv hK hP (ci := 4) (q0 := 0) rfl g0) rfl hl.1 rfl (Nat.le_of_ble_eq_true rfl) dL_step_201 ⟨Nat.zero_le _, Nat.zero_le _⟩ hS (fun rv ws25 H locs hq27 hP hD hS => ?_)
        obtain ⟨hr28, hap, fr26⟩ := hq27
        replace f19 := (fr26 19 (by decide)).trans f19
        refine sv_top (y := nI (mov Hd n p (gb % 6))) hr28 ?_
        refine lv_iconst (v := nI 1) hx hb dL_step_204 ci_1 ?_
        refine lv_iload hx hb dL_step_205 (lv_at hl 6 rfl) ?_
        refine lv_ishl hx hb dL_step_207 ?_
        refine sv_top (y := nI (2 ^ p)) (sh_l1 (by omega)) ?_
        refine sn_icmp_lt (tgt := 215) hx hb dL_step_208 (by decide) (lt_31 (mov_lt hLR.1 hp) (by omega)) (pw_lt (by omega)) (fun c29 => absurd c29 (Nat.not_lt.mpr (sbs_le (sbs_pw (mov_self hLR.1 p _))))) (fun c29 => ?_)
        refine lv_iconst (v := nI 1) hx hb dL_step_211 ci_1 ?_
        refine lv_goto (tgt := 216) hx hb dL_step_212 (by decide) ?_
        exact hret 216 ls _ _ locs _ dL_step_216 hP hD hS rfl (⟨rfl, ⟨_, _, _, _, _, _, _, _, _, _, _, _, _, _, hap, f19, hTI, hLR, (by omega)⟩, (fr.wd fr26 : fr _ _ 0 19)⟩)
    have J332 : ∀ (ls : Array Slot) (locs : List Loc), lv_has ls 14 [(0, .ref x), (1, .ref o9), (2, .int (nI gw)), (3, .int (nI ga)), (4, .int (nI gb)), (5, .int (nI n)), (6, .int (nI p)), (7, .int (nI r))] → va_S A Hs Hs locs → W pg l en Rm sg mi av below meth co Hs locs 0 0 Qo (F0 mi 332 ls []) := by
      intro  ls locs hl hS
      refine lv_iload hx hb dL_step_332 (lv_at hl 6 rfl) ?_
      refine lv_iload hx hb dL_step_334 (lv_at hl 7 rfl) ?_
      refine sn_icmp_ne (tgt := 363) hx hb dL_step_336 (by decide) (by omega) (by omega) (fun c30 => ?_) (fun c30 => ?_)
      · refine lv_iload_n hx hb dL_step_363 rfl (lv_at hl 3 rfl) ?_
        refine lv_bipush (v := nI 8) hx hb dL_step_364 bi_8 ?_
        refine sn_idiv hx hb (by omega) (by decide) (by decide) dL_step_366 ?_
        refine lv_bipush (v := nI 6) hx hb dL_step_367 bi_6 ?_
        refine sn_irem hx hb (by omega) (by decide) (by decide) dL_step_369 ?_
        obtain ⟨d, hdz⟩ : ∃ z : Nat, z = (ga / 8) % 6 := ⟨_, rfl⟩
        have hd : d < 6 := by rw [hdz]; exact Nat.mod_lt _ (by decide)
        refine sv_top (y := nI d) (by rw [hdz]) ?_
        refine lv_istore (lv' := [(10, .int (nI d)), (0, .ref x), (1, .ref o9), (2, .int (nI gw)), (3, .int (nI ga)), (4, .int (nI gb)), (5, .int (nI n)), (6, .int (nI p)), (7, .int (nI r))]) hx hb dL_step_370 hl (by decide) rfl (fun ls hl => ?_)
        refine lv_iload_n hx hb dL_step_372 rfl (lv_at hl 4 rfl) ?_
        refine lv_bipush (v := nI 48) hx hb dL_step_373 bi_48 ?_
        refine sn_idiv hx hb (by omega) (by decide) (by decide) dL_step_375 ?_
        refine lv_iconst (v := nI 4) hx hb dL_step_376 ci_4 ?_
        refine sn_irem hx hb (by omega) (by decide) (by decide) dL_step_377 ?_
        refine sn_if_le (tgt := 385) hx hb dL_step_378 (by decide) (Nat.lt_trans (Nat.mod_lt _ (by decide : 4 > 0)) (by decide)) (fun c31 => ?_) (fun c31 => ?_)
        · refine lv_iconst (v := nI 0) hx hb dL_step_385 ci_0 ?_
          refine lv_istore (lv' := [(11, .int (nI 0)), (10, .int (nI d)), (0, .ref x), (1, .ref o9), (2, .int (nI gw)), (3, .int (nI ga)), (4, .int (nI gb)), (5, .int (nI n)), (6, .int (nI p)), (7, .int (nI r))]) hx hb dL_step_386 hl (by decide) rfl (fun ls hl => ?_)
          refine lv_aload_n hx hb dL_step_388 rfl (lv_at hl 3 rfl) ?_
          refine lv_bipush (v := nI 8) hx hb dL_step_389 bi_8 ?_
          refine lv_iload hx hb dL_step_391 (lv_at hl 1 rfl) ?_
          refine lv_imul hx hb dL_step_393 ?_
          refine sv_top (y := nI (8 * d)) (mul_n _ _) ?_
          refine lv_iload hx hb dL_step_394 (lv_at hl 8 rfl) ?_
          refine lv_iadd hx hb dL_step_396 ?_
          refine sv_top (y := nI (8 * d + p)) (nI_add _ _) ?_
          refine lv_aload_n hx hb dL_step_397 rfl (lv_at hl 3 rfl) ?_
          refine lv_bipush (v := nI 8) hx hb dL_step_398 bi_8 ?_
          refine lv_iload hx hb dL_step_400 (lv_at hl 1 rfl) ?_
          refine lv_imul hx hb dL_step_402 ?_
          refine sv_top (y := nI (8 * d)) (mul_n _ _) ?_
          refine lv_iload hx hb dL_step_403 (lv_at hl 8 rfl) ?_
          refine lv_iadd hx hb dL_step_405 ?_
          refine sv_top (y := nI (8 * d + p)) (nI_add _ _) ?_
          refine sv_iald hx hb hK hP 19 f19 (j := 8 * d + p) (by have := (lz_x1 hd (show p < 8 by omega) (show r < 8 by omega)); omega) (by decide) dL_step_406 ?_
          refine W.eq (g2 := F0 mi 407 ls (.int (nI (f (8 * d + p))) :: [.int (nI (8 * d + p)), .ref o9])) rfl ?_
          refine sv_top (y := nI (Hd (8 * d + p))) (by rw [hTI.1 (8 * d + p) (by omega)]) ?_
          refine lv_iconst (v := nI 1) hx hb dL_step_407 ci_1 ?_
          refine lv_iload hx hb dL_step_408 (lv_at hl 9 rfl) ?_
          refine lv_ishl hx hb dL_step_410 ?_
          refine sv_top (y := nI (2 ^ r)) (sh_l1 (by omega)) ?_
          refine lv_iconst (v := -1) hx hb dL_step_411 ci_m1 ?_
          refine lv_ixor hx hb dL_step_412 ?_
          refine lv_iand hx hb dL_step_413 ?_
          refine sv_top (y := nI (clr (Hd (8 * d + p)) (2 ^ r))) (an_not _ _) ?_
          refine lv_iload hx hb dL_step_414 (lv_at hl 0 rfl) ?_
          refine sn_if_eq (tgt := 426) hx hb dL_step_416 (by decide) (by decide) (fun _ => ?_) (fun q => absurd q (by decide))
          refine lv_iconst (v := nI 0) hx hb dL_step_426 ci_0 ?_
          refine lv_ior hx hb dL_step_427 ?_
          refine sv_top (y := nI ((clr (Hd (8 * d + p)) (2 ^ r)) ||| 0)) (an_or _ _) ?_
          refine sv_top (y := nI (chg (Hd (8 * d + p)) r false)) (congrArg nI (lz_chgF _ _)) ?_
          refine sv_iast hx hb hK hP hD hS 19 f19 (j := 8 * d + p) (by have := (lz_x1 hd (show p < 8 by omega) (show r < 8 by omega)); omega) (by decide) dL_step_428 (fun ws34 H locs hP hD hS f19 fr33 => ?_)
          replace hap := hap.fr fr33
          rw [upd_N] at f19
          refine lv_aload_n hx hb dL_step_429 rfl (lv_at hl 3 rfl) ?_
          refine lv_bipush (v := nI 8) hx hb dL_step_430 bi_8 ?_
          refine lv_iload hx hb dL_step_432 (lv_at hl 1 rfl) ?_
          refine lv_iconst (v := nI 1) hx hb dL_step_434 ci_1 ?_
          refine lv_ixor hx hb dL_step_435 ?_
          refine sv_top (y := nI (d ^^^ 1)) (an_xor _ _) ?_
          refine lv_imul hx hb dL_step_436 ?_
          refine sv_top (y := nI (8 * (d ^^^ 1))) (mul_n _ _) ?_
          refine lv_iload hx hb dL_step_437 (lv_at hl 9 rfl) ?_
          refine lv_iadd hx hb dL_step_439 ?_
          refine sv_top (y := nI ((8 * (d ^^^ 1)) + r)) (nI_add _ _) ?_
          refine lv_aload_n hx hb dL_step_440 rfl (lv_at hl 3 rfl) ?_
          refine lv_bipush (v := nI 8) hx hb dL_step_441 bi_8 ?_
          refine lv_iload hx hb dL_step_443 (lv_at hl 1 rfl) ?_
          refine lv_iconst (v := nI 1) hx hb dL_step_445 ci_1 ?_
          refine lv_ixor hx hb dL_step_446 ?_
          refine sv_top (y := nI (d ^^^ 1)) (an_xor _ _) ?_
          refine lv_imul hx hb dL_step_447 ?_
          refine sv_top (y := nI (8 * (d ^^^ 1))) (mul_n _ _) ?_
          refine lv_iload hx hb dL_step_448 (lv_at hl 9 rfl) ?_
          refine lv_iadd hx hb dL_step_450 ?_
          refine sv_top (y := nI ((8 * (d ^^^ 1)) + r)) (nI_add _ _) ?_
          refine sv_iald hx hb hK hP 19 f19 (j := (8 * (d ^^^ 1)) + r) (by have := (lz_x1 hd (show p < 8 by omega) (show r < 8 by omega)); omega) (by decide) dL_step_451 ?_
          refine W.eq (g2 := F0 mi 452 ls (.int (nI ((upX f (8 * d + p) (chg (Hd (8 * d + p)) r false)) ((8 * (d ^^^ 1)) + r))) :: [.int (nI ((8 * (d ^^^ 1)) + r)), .ref o9])) rfl ?_
          refine sv_top (y := nI (Hd (8 * (d ^^^ 1) + r))) (by rw [upX_n (fun z => (lz_x1 hd (by omega) (by omega)).1 z.symm), hTI.1 (8 * (d ^^^ 1) + r) (lz_x1 hd (by omega) (by omega) (p := p)).2.2]) ?_
          refine lv_iconst (v := nI 1) hx hb dL_step_452 ci_1 ?_
          refine lv_iload hx hb dL_step_453 (lv_at hl 8 rfl) ?_
          refine lv_ishl hx hb dL_step_455 ?_
          refine sv_top (y := nI (2 ^ p)) (sh_l1 (by omega)) ?_
          refine lv_iconst (v := -1) hx hb dL_step_456 ci_m1 ?_
          refine lv_ixor hx hb dL_step_457 ?_
          refine lv_iand hx hb dL_step_458 ?_
          refine sv_top (y := nI (clr (Hd (8 * (d ^^^ 1) + r)) (2 ^ p))) (an_not _ _) ?_
          refine lv_iload hx hb dL_step_459 (lv_at hl 0 rfl) ?_
          refine sn_if_eq (tgt := 471) hx hb dL_step_461 (by decide) (by decide) (fun _ => ?_) (fun q => absurd q (by decide))
          refine lv_iconst (v := nI 0) hx hb dL_step_471 ci_0 ?_
          refine lv_ior hx hb dL_step_472 ?_
          refine sv_top (y := nI ((clr (Hd (8 * (d ^^^ 1) + r)) (2 ^ p)) ||| 0)) (an_or _ _) ?_
          refine sv_top (y := nI (chg (Hd (8 * (d ^^^ 1) + r)) p false)) (congrArg nI (lz_chgF _ _)) ?_
          refine sv_iast hx hb hK hP hD hS 19 f19 (j := (8 * (d ^^^ 1)) + r) (by have := (lz_x1 hd (show p < 8 by omega) (show r < 8 by omega)); omega) (by decide) dL_step_473 (fun ws37 H locs hP hD hS f19 fr36 => ?_)
          replace hap := hap.fr fr36
          rw [upd_N] at f19
          refine lv_aload_n hx hb dL_step_474 rfl (lv_at hl 2 rfl) ?_
          refine lv_iload hx hb dL_step_475 (lv_at hl 8 rfl) ?_
          refine lv_iload hx hb dL_step_477 (lv_at hl 1 rfl) ?_
          refine lv_iload hx hb dL_step_479 (lv_at hl 9 rfl) ?_
          refine lv_iload hx hb dL_step_481 (lv_at hl 0 rfl) ?_
          refine W.eq (g2 := F0 mi 483 ls [.int (bI false), .int (nI r), .int (nI d), .int (nI p), .ref x]) rfl ?_
          obtain ⟨fs0, g0⟩ := hap.at0
          refine mcV (c_X4_hinder_0 hP hD hap hLR.1 hp hd hr (by omega)) ⟨hx, hb, hml, hown, hts⟩ hK gL_step_X4_hinder rfl hd_X4_hinder ⟨by omega, by omega⟩ (va_recv hK hP (ci := 4) (q0 := 0) rfl g0) rfl hl.1 rfl (Nat.le_of_ble_eq_true rfl) dL_step_483 ⟨Nat.zero_le _, Nat.zero_le _⟩ hS (fun rv ws38 H locs hq40 hP hD hS => ?_)
          obtain ⟨hr41, hap, fr39⟩ := hq40
          replace f19 := (fr39 19 (by decide)).trans f19
          refine sv_top (y := nI (cnt (htc Hd p d r false (8 * d + p)))) hr41 ?_
          refine lv_aload_n hx hb dL_step_486 rfl (lv_at hl 3 rfl) ?_
          refine lv_bipush (v := nI 8) hx hb dL_step_487 bi_8 ?_
          refine lv_iload hx hb dL_step_489 (lv_at hl 1 rfl) ?_
          refine lv_imul hx hb dL_step_491 ?_
          refine sv_top (y := nI (8 * d)) (mul_n _ _) ?_
          refine lv_iload hx hb dL_step_492 (lv_at hl 8 rfl) ?_
          refine lv_iadd hx hb dL_step_494 ?_
          refine sv_top (y := nI (8 * d + p)) (nI_add _ _) ?_
          refine sv_iald hx hb hK hP 19 f19 (j := 8 * d + p) (by have := (lz_x1 hd (show p < 8 by omega) (show r < 8 by omega)); omega) (by decide) dL_step_495 ?_
          refine W.eq (g2 := F0 mi 496 ls (.int (nI ((upX (upX f (8 * d + p) (chg (Hd (8 * d + p)) r false)) ((8 * (d ^^^ 1)) + r) (chg (Hd (8 * (d ^^^ 1) + r)) p false)) (8 * d + p))) :: [.int (nI (cnt (htc Hd p d r false (8 * d + p))))])) rfl ?_
          refine sv_top (y := nI (chg (Hd (8 * d + p)) r false)) (by rw [upX_n (lz_x1 hd (by omega) (by omega)).1, upX_s]) ?_
          refine pcS (c_L_ones (lt_31 (chg_lt (hLR.1.2.2.2.1 _) hr) (by omega))) ⟨hx, hb, hml, hown, hts⟩ hK gL_step_L_ones rfl hd_L_ones ⟨by omega, by omega⟩ rfl hl.1 rfl (Nat.le_of_ble_eq_true rfl) dL_step_496 ⟨Nat.zero_le _, Nat.zero_le _⟩ hS (fun locs hS => ?_)
          refine sn_icmp_ne (tgt := 506) hx hb dL_step_499 (by decide) (lz_cntb _) (lz_cntb _) (fun c42 => absurd (congrArg cnt (lz_htc hd (by omega) (by omega))) c42) (fun c42 => ?_)
          refine lv_iconst (v := nI 1) hx hb dL_step_502 ci_1 ?_
          refine lv_goto (tgt := 507) hx hb dL_step_503 (by decide) ?_
          exact hret 507 ls _ _ locs _ dL_step_507 hP hD hS rfl (⟨rfl, ⟨_, _, _, _, _, _, _, _, _, _, _, _, _, _, hap, f19, hTI.hinder hd (by omega) (by omega), ⟨PI0_htc hLR.1 hp hr hd, hn6, hT, hJ, lz_zro2 hK2⟩, (by omega)⟩, (((fr.wd fr33 : fr _ _ 0 19).tr fr36).tr fr39)⟩)
        · refine lv_iconst (v := nI 1) hx hb dL_step_381 ci_1 ?_
          refine lv_goto (tgt := 386) hx hb dL_step_382 (by decide) ?_
          refine lv_istore (lv' := [(11, .int (nI 1)), (10, .int (nI d)), (0, .ref x), (1, .ref o9), (2, .int (nI gw)), (3, .int (nI ga)), (4, .int (nI gb)), (5, .int (nI n)), (6, .int (nI p)), (7, .int (nI r))]) hx hb dL_step_386 hl (by decide) rfl (fun ls hl => ?_)
          refine lv_aload_n hx hb dL_step_388 rfl (lv_at hl 3 rfl) ?_
          refine lv_bipush (v := nI 8) hx hb dL_step_389 bi_8 ?_
          refine lv_iload hx hb dL_step_391 (lv_at hl 1 rfl) ?_
          refine lv_imul hx hb dL_step_393 ?_
          refine sv_top (y := nI (8 * d)) (mul_n _ _) ?_
          refine lv_iload hx hb dL_step_394 (lv_at hl 8 rfl) ?_
          refine lv_iadd hx hb dL_step_396 ?_
          refine sv_top (y := nI (8 * d + p)) (nI_add _ _) ?_
          refine lv_aload_n hx hb dL_step_397 rfl (lv_at hl 3 rfl) ?_
          refine lv_bipush (v := nI 8) hx hb dL_step_398 bi_8 ?_
          refine lv_iload hx hb dL_step_400 (lv_at hl 1 rfl) ?_
          refine lv_imul hx hb dL_step_402 ?_
          refine sv_top (y := nI (8 * d)) (mul_n _ _) ?_
          refine lv_iload hx hb dL_step_403 (lv_at hl 8 rfl) ?_
          refine lv_iadd hx hb dL_step_405 ?_
          refine sv_top (y := nI (8 * d + p)) (nI_add _ _) ?_
          refine sv_iald hx hb hK hP 19 f19 (j := 8 * d + p) (by have := (lz_x1 hd (show p < 8 by omega) (show r < 8 by omega)); omega) (by decide) dL_step_406 ?_
          refine W.eq (g2 := F0 mi 407 ls (.int (nI (f (8 * d + p))) :: [.int (nI (8 * d + p)), .ref o9])) rfl ?_
          refine sv_top (y := nI (Hd (8 * d + p))) (by rw [hTI.1 (8 * d + p) (by omega)]) ?_
          refine lv_iconst (v := nI 1) hx hb dL_step_407 ci_1 ?_
          refine lv_iload hx hb dL_step_408 (lv_at hl 9 rfl) ?_
          refine lv_ishl hx hb dL_step_410 ?_
          refine sv_top (y := nI (2 ^ r)) (sh_l1 (by omega)) ?_
          refine lv_iconst (v := -1) hx hb dL_step_411 ci_m1 ?_
          refine lv_ixor hx hb dL_step_412 ?_
          refine lv_iand hx hb dL_step_413 ?_
          refine sv_top (y := nI (clr (Hd (8 * d + p)) (2 ^ r))) (an_not _ _) ?_
          refine lv_iload hx hb dL_step_414 (lv_at hl 0 rfl) ?_
          refine sn_if_eq (tgt := 426) hx hb dL_step_416 (by decide) (by decide) (fun q => absurd q (by decide)) (fun _ => ?_)
          refine lv_iconst (v := nI 1) hx hb dL_step_419 ci_1 ?_
          refine lv_iload hx hb dL_step_420 (lv_at hl 9 rfl) ?_
          refine lv_ishl hx hb dL_step_422 ?_
          refine sv_top (y := nI (2 ^ r)) (sh_l1 (by omega)) ?_
          refine lv_goto (tgt := 427) hx hb dL_step_423 (by decide) ?_
          refine lv_ior hx hb dL_step_427 ?_
          refine sv_top (y := nI ((clr (Hd (8 * d + p)) (2 ^ r)) ||| (2 ^ r))) (an_or _ _) ?_
          refine sv_top (y := nI (chg (Hd (8 * d + p)) r true)) (congrArg nI (lz_chgT _ _)) ?_
          refine sv_iast hx hb hK hP hD hS 19 f19 (j := 8 * d + p) (by have := (lz_x1 hd (show p < 8 by omega) (show r < 8 by omega)); omega) (by decide) dL_step_428 (fun ws45 H locs hP hD hS f19 fr44 => ?_)
          replace hap := hap.fr fr44
          rw [upd_N] at f19
          refine lv_aload_n hx hb dL_step_429 rfl (lv_at hl 3 rfl) ?_
          refine lv_bipush (v := nI 8) hx hb dL_step_430 bi_8 ?_
          refine lv_iload hx hb dL_step_432 (lv_at hl 1 rfl) ?_
          refine lv_iconst (v := nI 1) hx hb dL_step_434 ci_1 ?_
          refine lv_ixor hx hb dL_step_435 ?_
          refine sv_top (y := nI (d ^^^ 1)) (an_xor _ _) ?_
          refine lv_imul hx hb dL_step_436 ?_
          refine sv_top (y := nI (8 * (d ^^^ 1))) (mul_n _ _) ?_
          refine lv_iload hx hb dL_step_437 (lv_at hl 9 rfl) ?_
          refine lv_iadd hx hb dL_step_439 ?_
          refine sv_top (y := nI ((8 * (d ^^^ 1)) + r)) (nI_add _ _) ?_
          refine lv_aload_n hx hb dL_step_440 rfl (lv_at hl 3 rfl) ?_
          refine lv_bipush (v := nI 8) hx hb dL_step_441 bi_8 ?_
          refine lv_iload hx hb dL_step_443 (lv_at hl 1 rfl) ?_
          refine lv_iconst (v := nI 1) hx hb dL_step_445 ci_1 ?_
          refine lv_ixor hx hb dL_step_446 ?_
          refine sv_top (y := nI (d ^^^ 1)) (an_xor _ _) ?_
          refine lv_imul hx hb dL_step_447 ?_
          refine sv_top (y := nI (8 * (d ^^^ 1))) (mul_n _ _) ?_
          refine lv_iload hx hb dL_step_448 (lv_at hl 9 rfl) ?_
          refine lv_iadd hx hb dL_step_450 ?_
          refine sv_top (y := nI ((8 * (d ^^^ 1)) + r)) (nI_add _ _) ?_
          refine sv_iald hx hb hK hP 19 f19 (j := (8 * (d ^^^ 1)) + r) (by have := (lz_x1 hd (show p < 8 by omega) (show r < 8 by omega)); omega) (by decide) dL_step_451 ?_
          refine W.eq (g2 := F0 mi 452 ls (.int (nI ((upX f (8 * d + p) (chg (Hd (8 * d + p)) r true)) ((8 * (d ^^^ 1)) + r))) :: [.int (nI ((8 * (d ^^^ 1)) + r)), .ref o9])) rfl ?_
          refine sv_top (y := nI (Hd (8 * (d ^^^ 1) + r))) (by rw [upX_n (fun z => (lz_x1 hd (by omega) (by omega)).1 z.symm), hTI.1 (8 * (d ^^^ 1) + r) (lz_x1 hd (by omega) (by omega) (p := p)).2.2]) ?_
          refine lv_iconst (v := nI 1) hx hb dL_step_452 ci_1 ?_
          refine lv_iload hx hb dL_step_453 (lv_at hl 8 rfl) ?_
          refine lv_ishl hx hb dL_step_455 ?_
          refine sv_top (y := nI (2 ^ p)) (sh_l1 (by omega)) ?_
          refine lv_iconst (v := -1) hx hb dL_step_456 ci_m1 ?_
          refine lv_ixor hx hb dL_step_457 ?_
          refine lv_iand hx hb dL_step_458 ?_
          refine sv_top (y := nI (clr (Hd (8 * (d ^^^ 1) + r)) (2 ^ p))) (an_not _ _) ?_
          refine lv_iload hx hb dL_step_459 (lv_at hl 0 rfl) ?_
          refine sn_if_eq (tgt := 471) hx hb dL_step_461 (by decide) (by decide) (fun q => absurd q (by decide)) (fun _ => ?_)
          refine lv_iconst (v := nI 1) hx hb dL_step_464 ci_1 ?_
          refine lv_iload hx hb dL_step_465 (lv_at hl 8 rfl) ?_
          refine lv_ishl hx hb dL_step_467 ?_
          refine sv_top (y := nI (2 ^ p)) (sh_l1 (by omega)) ?_
          refine lv_goto (tgt := 472) hx hb dL_step_468 (by decide) ?_
          refine lv_ior hx hb dL_step_472 ?_
          refine sv_top (y := nI ((clr (Hd (8 * (d ^^^ 1) + r)) (2 ^ p)) ||| (2 ^ p))) (an_or _ _) ?_
          refine sv_top (y := nI (chg (Hd (8 * (d ^^^ 1) + r)) p true)) (congrArg nI (lz_chgT _ _)) ?_
          refine sv_iast hx hb hK hP hD hS 19 f19 (j := (8 * (d ^^^ 1)) + r) (by have := (lz_x1 hd (show p < 8 by omega) (show r < 8 by omega)); omega) (by decide) dL_step_473 (fun ws48 H locs hP hD hS f19 fr47 => ?_)
          replace hap := hap.fr fr47
          rw [upd_N] at f19
          refine lv_aload_n hx hb dL_step_474 rfl (lv_at hl 2 rfl) ?_
          refine lv_iload hx hb dL_step_475 (lv_at hl 8 rfl) ?_
          refine lv_iload hx hb dL_step_477 (lv_at hl 1 rfl) ?_
          refine lv_iload hx hb dL_step_479 (lv_at hl 9 rfl) ?_
          refine lv_iload hx hb dL_step_481 (lv_at hl 0 rfl) ?_
          refine W.eq (g2 := F0 mi 483 ls [.int (bI true), .int (nI r), .int (nI d), .int (nI p), .ref x]) rfl ?_
          obtain ⟨fs0, g0⟩ := hap.at0
          refine mcV (c_X4_hinder_0 hP hD hap hLR.1 hp hd hr (by omega)) ⟨hx, hb, hml, hown, hts⟩ hK gL_step_X4_hinder rfl hd_X4_hinder ⟨by omega, by omega⟩ (va_recv hK hP (ci := 4) (q0 := 0) rfl g0) rfl hl.1 rfl (Nat.le_of_ble_eq_true rfl) dL_step_483 ⟨Nat.zero_le _, Nat.zero_le _⟩ hS (fun rv ws49 H locs hq51 hP hD hS => ?_)
          obtain ⟨hr52, hap, fr50⟩ := hq51
          replace f19 := (fr50 19 (by decide)).trans f19
          refine sv_top (y := nI (cnt (htc Hd p d r true (8 * d + p)))) hr52 ?_
          refine lv_aload_n hx hb dL_step_486 rfl (lv_at hl 3 rfl) ?_
          refine lv_bipush (v := nI 8) hx hb dL_step_487 bi_8 ?_
          refine lv_iload hx hb dL_step_489 (lv_at hl 1 rfl) ?_
          refine lv_imul hx hb dL_step_491 ?_
          refine sv_top (y := nI (8 * d)) (mul_n _ _) ?_
          refine lv_iload hx hb dL_step_492 (lv_at hl 8 rfl) ?_
          refine lv_iadd hx hb dL_step_494 ?_
          refine sv_top (y := nI (8 * d + p)) (nI_add _ _) ?_
          refine sv_iald hx hb hK hP 19 f19 (j := 8 * d + p) (by have := (lz_x1 hd (show p < 8 by omega) (show r < 8 by omega)); omega) (by decide) dL_step_495 ?_
          refine W.eq (g2 := F0 mi 496 ls (.int (nI ((upX (upX f (8 * d + p) (chg (Hd (8 * d + p)) r true)) ((8 * (d ^^^ 1)) + r) (chg (Hd (8 * (d ^^^ 1) + r)) p true)) (8 * d + p))) :: [.int (nI (cnt (htc Hd p d r true (8 * d + p))))])) rfl ?_
          refine sv_top (y := nI (chg (Hd (8 * d + p)) r true)) (by rw [upX_n (lz_x1 hd (by omega) (by omega)).1, upX_s]) ?_
          refine pcS (c_L_ones (lt_31 (chg_lt (hLR.1.2.2.2.1 _) hr) (by omega))) ⟨hx, hb, hml, hown, hts⟩ hK gL_step_L_ones rfl hd_L_ones ⟨by omega, by omega⟩ rfl hl.1 rfl (Nat.le_of_ble_eq_true rfl) dL_step_496 ⟨Nat.zero_le _, Nat.zero_le _⟩ hS (fun locs hS => ?_)
          refine sn_icmp_ne (tgt := 506) hx hb dL_step_499 (by decide) (lz_cntb _) (lz_cntb _) (fun c53 => absurd (congrArg cnt (lz_htc hd (by omega) (by omega))) c53) (fun c53 => ?_)
          refine lv_iconst (v := nI 1) hx hb dL_step_502 ci_1 ?_
          refine lv_goto (tgt := 507) hx hb dL_step_503 (by decide) ?_
          exact hret 507 ls _ _ locs _ dL_step_507 hP hD hS rfl (⟨rfl, ⟨_, _, _, _, _, _, _, _, _, _, _, _, _, _, hap, f19, hTI.hinder hd (by omega) (by omega), ⟨PI0_htc hLR.1 hp hr hd, hn6, hT, hJ, lz_zro2 hK2⟩, (by omega)⟩, (((fr.wd fr44 : fr _ _ 0 19).tr fr47).tr fr50)⟩)
      · refine lv_aload_n hx hb dL_step_339 rfl (lv_at hl 0 rfl) ?_
        refine lv_iload hx hb dL_step_340 (lv_at hl 6 rfl) ?_
        refine lv_iload hx hb dL_step_342 (lv_at hl 4 rfl) ?_
        refine lv_bipush (v := nI 6) hx hb dL_step_344 bi_6 ?_
        refine sn_irem hx hb (by omega) (by decide) (by decide) dL_step_346 ?_
        obtain ⟨fs0, g0⟩ := hap.at0
        refine mcV (c_X4_boundTo_0 hP hD hap hLR.1 hp (Nat.mod_lt _ (by decide))) ⟨hx, hb, hml, hown, hts⟩ hK gL_step_X4_boundTo rfl hd_X4_boundTo ⟨by omega, by omega⟩ (va_recv hK hP (ci := 4) (q0 := 0) rfl g0) rfl hl.1 rfl (Nat.le_of_ble_eq_true rfl) dL_step_347 ⟨Nat.zero_le _, Nat.zero_le _⟩ hS (fun rv ws54 H locs hq56 hP hD hS => ?_)
        obtain ⟨hr57, hap, fr55⟩ := hq56
        replace f19 := (fr55 19 (by decide)).trans f19
        refine sv_top (y := nI (bnd Hd n p (gb % 6))) hr57 ?_
        refine lv_iconst (v := nI 1) hx hb dL_step_350 ci_1 ?_
        refine lv_iload hx hb dL_step_351 (lv_at hl 6 rfl) ?_
        refine lv_ishl hx hb dL_step_353 ?_
        refine sv_top (y := nI (2 ^ p)) (sh_l1 (by omega)) ?_
        refine sn_icmp_lt (tgt := 361) hx hb dL_step_354 (by decide) (lt_31 (bnd_lt hLR.1 hp) (by omega)) (pw_lt (by omega)) (fun c58 => absurd c58 (Nat.not_lt.mpr (sbs_le (sbs_pw (bnd_self hLR.1 p _))))) (fun c58 => ?_)
        refine lv_iconst (v := nI 1) hx hb dL_step_357 ci_1 ?_
        refine lv_goto (tgt := 362) hx hb dL_step_358 (by decide) ?_
        exact hret 362 ls _ _ locs _ dL_step_362 hP hD hS rfl (⟨rfl, ⟨_, _, _, _, _, _, _, _, _, _, _, _, _, _, hap, f19, hTI, hLR, (by omega)⟩, (fr.wd fr55 : fr _ _ 0 19)⟩)
    have J596 : ∀ (ls : Array Slot) (locs : List Loc), lv_has ls 14 [(0, .ref x), (1, .ref o9), (2, .int (nI gw)), (3, .int (nI ga)), (4, .int (nI gb)), (5, .int (nI n)), (6, .int (nI p)), (7, .int (nI r))] → va_S A Hs Hs locs → W pg l en Rm sg mi av below meth co Hs locs 0 0 Qo (F0 mi 596 ls []) := by
      intro  ls locs hl hS
      refine lv_aload_n hx hb dL_step_596 rfl (lv_at hl 0 rfl) ?_
      refine lv_iload hx hb dL_step_597 (lv_at hl 6 rfl) ?_
      refine lv_iload hx hb dL_step_599 (lv_at hl 4 rfl) ?_
      refine lv_bipush (v := nI 6) hx hb dL_step_601 bi_6 ?_
      refine sn_irem hx hb (by omega) (by decide) (by decide) dL_step_603 ?_
      obtain ⟨fs0, g0⟩ := hap.at0
      refine mcV (c_X4_setJams_0 hP hD hap hLR.1 hp (by omega)) ⟨hx, hb, hml, hown, hts⟩ hK gL_step_X4_setJams rfl hd_X4_setJams ⟨by omega, by omega⟩ (va_recv hK hP (ci := 4) (q0 := 0) rfl g0) rfl hl.1 rfl (Nat.le_of_ble_eq_true rfl) dL_step_604 ⟨Nat.zero_le _, Nat.zero_le _⟩ hS (fun rv ws59 H locs hq61 hP hD hS => ?_)
      obtain ⟨hr62, hap, fr60⟩ := hq61
      replace f19 := (fr60 19 (by decide)).trans f19
      refine sv_top (y := nI (J p)) hr62 ?_
      refine lv_if_lt (tgt := 633) hx hb dL_step_607 (by decide) (fun q => absurd q (nI_pos (Nat.lt_of_le_of_lt (hJ _) (by decide)))) (fun _ => ?_)
      refine lv_aload_n hx hb dL_step_610 rfl (lv_at hl 0 rfl) ?_
      refine lv_iload hx hb dL_step_611 (lv_at hl 6 rfl) ?_
      refine lv_iload hx hb dL_step_613 (lv_at hl 4 rfl) ?_
      refine lv_bipush (v := nI 6) hx hb dL_step_615 bi_6 ?_
      refine sn_irem hx hb (by omega) (by decide) (by decide) dL_step_617 ?_
      obtain ⟨fs0, g0⟩ := hap.at0
      refine mcV (c_X4_setJams_0 hP hD hap hLR.1 hp (by omega)) ⟨hx, hb, hml, hown, hts⟩ hK gL_step_X4_setJams rfl hd_X4_setJams ⟨by omega, by omega⟩ (va_recv hK hP (ci := 4) (q0 := 0) rfl g0) rfl hl.1 rfl (Nat.le_of_ble_eq_true rfl) dL_step_618 ⟨Nat.zero_le _, Nat.zero_le _⟩ hS (fun rv ws64 H locs hq66 hP hD hS => ?_)
      obtain ⟨hr67, hap, fr65⟩ := hq66
      replace f19 := (fr65 19 (by decide)).trans f19
      refine sv_top (y := nI (((upX J p (gb % 6))) p)) hr67 ?_
      refine sv_top (y := nI (gb % 6)) (by rw [upX_s]) ?_
      refine lv_iload hx hb dL_step_621 (lv_at hl 4 rfl) ?_
      refine lv_bipush (v := nI 6) hx hb dL_step_623 bi_6 ?_
      refine sn_irem hx hb (by omega) (by decide) (by decide) dL_step_625 ?_
      refine lv_icmp_ne (tgt := 633) hx hb dL_step_626 (by decide) (fun z => absurd rfl z) (fun _ => ?_)
      refine lv_iconst (v := nI 1) hx hb dL_step_629 ci_1 ?_
      refine lv_goto (tgt := 634) hx hb dL_step_630 (by decide) ?_
      exact hret 634 ls _ _ locs _ dL_step_634 hP hD hS rfl (⟨rfl, ⟨_, _, _, _, _, _, _, _, _, _, _, _, _, _, hap, f19, hTI, ⟨hLR.1, hn6, hT, lz_up (lz_up hJ (by omega)) (by omega), hK2⟩, (by omega)⟩, ((fr.wd fr60 : fr _ _ 0 19).tr fr65)⟩)
    obtain ⟨sw, hswz⟩ : ∃ z : Nat, z = gw % 10 := ⟨_, rfl⟩
    have hsw : sw < 10 := by rw [hswz]; exact Nat.mod_lt _ (by decide)
    refine sv_top (y := nI sw) (by rw [hswz]) ?_
    rcases (show sw = 0 ∨ sw = 1 ∨ sw = 2 ∨ sw = 3 ∨ sw = 4 ∨ sw = 5 ∨ sw = 6 ∨ sw = 7 ∨ sw = 8 ∨ sw = 9 by omega) with rfl | rfl | rfl | rfl | rfl | rfl | rfl | rfl | rfl | rfl
    · refine lv_tableOut (x := nI 0) (tgt := 596) hx hb dL_step_94 (Or.inl (by decide +kernel)) (by decide) ?_
      exact J596  ls locs (lv_sub hl [2, 3, 4, 5, 6, 7, 1, 0] rfl) hS
    · refine lv_tableIn (x := nI 1) (off := 46) (tgt := 140) hx hb dL_step_94 (by decide +kernel) (by decide +kernel) (by decide +kernel) (by decide) ?_
      refine lv_aload_n hx hb dL_step_140 rfl (lv_at hl 2 rfl) ?_
      refine lv_iload hx hb dL_step_141 (lv_at hl 1 rfl) ?_
      refine lv_iload hx hb dL_step_143 (lv_at hl 6 rfl) ?_
      refine lv_iconst (v := nI 4) hx hb dL_step_145 ci_4 ?_
      refine sn_irem hx hb (by omega) (by decide) (by decide) dL_step_146 ?_
      obtain ⟨fs0, g0⟩ := hap.at0
      refine mcV (c_X4_setTool_0 hP hD hap hLR.1 hp (Nat.mod_lt _ (by decide))) ⟨hx, hb, hml, hown, hts⟩ hK gL_step_X4_setTool rfl hd_X4_setTool ⟨by omega, by omega⟩ (va_recv hK hP (ci := 4) (q0 := 0) rfl g0) rfl hl.1 rfl (Nat.le_of_ble_eq_true rfl) dL_step_147 ⟨Nat.zero_le _, Nat.zero_le _⟩ hS (fun rv ws68 H locs hq70 hP hD hS => ?_)
      obtain ⟨hr71, hap, fr69⟩ := hq70
      replace f19 := (fr69 19 (by decide)).trans f19
      refine sv_top (y := nI (T p)) hr71 ?_
      refine lv_istore (lv' := [(8, .int (nI (T p))), (7, .int (nI r)), (6, .int (nI p)), (0, .ref x), (1, .ref o9), (2, .int (nI gw)), (3, .int (nI ga)), (4, .int (nI gb)), (5, .int (nI n))]) hx hb dL_step_150 hl (by decide) rfl (fun ls hl => ?_)
      refine lv_iload hx hb dL_step_152 (lv_at hl 0 rfl) ?_
      refine lv_if_lt (tgt := 184) hx hb dL_step_154 (by decide) (fun q => absurd q (nI_pos (hTb _))) (fun _ => ?_)
      refine lv_iload hx hb dL_step_157 (lv_at hl 0 rfl) ?_
      refine lv_iconst (v := nI 3) hx hb dL_step_159 ci_3 ?_
      refine sn_icmp_gt (tgt := 184) hx hb dL_step_160 (by decide) (hTb _) (by decide) (fun c73 => absurd (hT p) (by omega)) (fun c73 => ?_)
      refine lv_aload_n hx hb dL_step_163 rfl (lv_at hl 3 rfl) ?_
      refine lv_iload hx hb dL_step_164 (lv_at hl 2 rfl) ?_
      refine lv_iload hx hb dL_step_166 (lv_at hl 7 rfl) ?_
      refine lv_iconst (v := nI 4) hx hb dL_step_168 ci_4 ?_
      refine sn_irem hx hb (by omega) (by decide) (by decide) dL_step_169 ?_
      obtain ⟨fs0, g0⟩ := hap.at0
      refine mcV (c_X4_setTool_0 hP hD hap hLR.1 hp (Nat.mod_lt _ (by decide))) ⟨hx, hb, hml, hown, hts⟩ hK gL_step_X4_setTool rfl hd_X4_setTool ⟨by omega, by omega⟩ (va_recv hK hP (ci := 4) (q0 := 0) rfl g0) rfl hl.1 rfl (Nat.le_of_ble_eq_true rfl) dL_step_170 ⟨Nat.zero_le _, Nat.zero_le _⟩ hS (fun rv ws74 H locs hq76 hP hD hS => ?_)
      obtain ⟨hr77, hap, fr75⟩ := hq76
      replace f19 := (fr75 19 (by decide)).trans f19
      refine sv_top (y := nI (((upX T p (gb % 4))) p)) hr77 ?_
      refine sv_top (y := nI (gb % 4)) (by rw [upX_s]) ?_
      refine lv_iload hx hb dL_step_173 (lv_at hl 7 rfl) ?_
      refine lv_iconst (v := nI 4) hx hb dL_step_175 ci_4 ?_
      refine sn_irem hx hb (by omega) (by decide) (by decide) dL_step_176 ?_
      refine lv_icmp_ne (tgt := 184) hx hb dL_step_177 (by decide) (fun z => absurd rfl z) (fun _ => ?_)
      refine lv_iconst (v := nI 1) hx hb dL_step_180 ci_1 ?_
      refine lv_goto (tgt := 185) hx hb dL_step_181 (by decide) ?_
      exact hret 185 ls _ _ locs _ dL_step_185 hP hD hS rfl (⟨rfl, ⟨_, _, _, _, _, _, _, _, _, _, _, _, _, _, hap, f19, hTI, ⟨hLR.1, hn6, upX_lt (upX_lt hT (Nat.mod_lt _ (by decide))) (Nat.mod_lt _ (by decide)), hJ, lz_zro2 (lz_zro2 hK2)⟩, (by omega)⟩, ((fr.wd fr69 : fr _ _ 0 19).tr fr75)⟩)
    · refine lv_tableIn (x := nI 2) (off := 92) (tgt := 186) hx hb dL_step_94 (by decide +kernel) (by decide +kernel) (by decide +kernel) (by decide) ?_
      exact J186  ls locs (lv_sub hl [2, 3, 4, 5, 6, 7, 1, 0] rfl) hS
    · refine lv_tableIn (x := nI 3) (off := 92) (tgt := 186) hx hb dL_step_94 (by decide +kernel) (by decide +kernel) (by decide +kernel) (by decide) ?_
      exact J186  ls locs (lv_sub hl [2, 3, 4, 5, 6, 7, 1, 0] rfl) hS
    · refine lv_tableIn (x := nI 4) (off := 92) (tgt := 186) hx hb dL_step_94 (by decide +kernel) (by decide +kernel) (by decide +kernel) (by decide) ?_
      exact J186  ls locs (lv_sub hl [2, 3, 4, 5, 6, 7, 1, 0] rfl) hS
    · refine lv_tableIn (x := nI 5) (off := 238) (tgt := 332) hx hb dL_step_94 (by decide +kernel) (by decide +kernel) (by decide +kernel) (by decide) ?_
      exact J332  ls locs (lv_sub hl [2, 3, 4, 5, 6, 7, 1, 0] rfl) hS
    · refine lv_tableIn (x := nI 6) (off := 238) (tgt := 332) hx hb dL_step_94 (by decide +kernel) (by decide +kernel) (by decide +kernel) (by decide) ?_
      exact J332  ls locs (lv_sub hl [2, 3, 4, 5, 6, 7, 1, 0] rfl) hS
    · refine lv_tableIn (x := nI 7) (off := 414) (tgt := 508) hx hb dL_step_94 (by decide +kernel) (by decide +kernel) (by decide +kernel) (by decide) ?_
      refine lv_aload_n hx hb dL_step_508 rfl (lv_at hl 3 rfl) ?_
      refine lv_bipush (v := nI 57) hx hb dL_step_509 bi_57 ?_
      refine sv_iald hx hb hK hP 19 f19 (j := 57) (by omega) (by decide) dL_step_511 ?_
      refine W.eq (g2 := F0 mi 512 ls (.int (nI (f 57)) :: [])) rfl ?_
      refine sv_top (y := nI b) (by rw [hTI.2.2.2.1]) ?_
      refine lv_istore (lv' := [(12, .int (nI b)), (7, .int (nI r)), (6, .int (nI p)), (0, .ref x), (1, .ref o9), (2, .int (nI gw)), (3, .int (nI ga)), (4, .int (nI gb)), (5, .int (nI n))]) hx hb dL_step_512 hl (by decide) rfl (fun ls hl => ?_)
      refine lv_aload_n hx hb dL_step_514 rfl (lv_at hl 4 rfl) ?_
      refine lv_bipush (v := nI 57) hx hb dL_step_515 bi_57 ?_
      refine lv_iload hx hb dL_step_517 (lv_at hl 2 rfl) ?_
      refine sv_iast hx hb hK hP hD hS 19 f19 (j := 57) (by omega) (by decide) dL_step_519 (fun ws79 H locs hP hD hS f19 fr78 => ?_)
      replace hap := hap.fr fr78
      rw [upd_N] at f19
      refine lv_aload_n hx hb dL_step_520 rfl (lv_at hl 3 rfl) ?_
      refine lv_iload hx hb dL_step_521 (lv_at hl 2 rfl) ?_
      obtain ⟨fs0, g0⟩ := hap.at0
      refine mcV (c_X4_setBase_0 hP hD hap hLR.1 hp) ⟨hx, hb, hml, hown, hts⟩ hK gL_step_X4_setBase rfl hd_X4_setBase ⟨by omega, by omega⟩ (va_recv hK hP (ci := 4) (q0 := 0) rfl g0) rfl hl.1 rfl (Nat.le_of_ble_eq_true rfl) dL_step_523 ⟨Nat.zero_le _, Nat.zero_le _⟩ hS (fun rv ws80 H locs hq82 hP hD hS => ?_)
      obtain ⟨hr83, hap, fr81⟩ := hq82
      replace f19 := (fr81 19 (by decide)).trans f19
      refine sv_top (y := nI b) hr83 ?_
      refine lv_iload hx hb dL_step_526 (lv_at hl 0 rfl) ?_
      refine lv_icmp_ne (tgt := 535) hx hb dL_step_528 (by decide) (fun z => absurd rfl z) (fun _ => ?_)
      refine lv_iconst (v := nI 1) hx hb dL_step_531 ci_1 ?_
      refine lv_goto (tgt := 536) hx hb dL_step_532 (by decide) ?_
      exact hret 536 ls _ _ locs _ dL_step_536 hP hD hS rfl (⟨rfl, ⟨_, _, _, _, _, _, _, _, _, _, _, _, _, _, hap, f19, hTI.base, ⟨PI0_base hLR.1 (by omega), hn6, hT, hJ, lz_zro2 hK2⟩, (by omega)⟩, ((fr.wd fr78 : fr _ _ 0 19).tr fr81)⟩)
    · refine lv_tableIn (x := nI 8) (off := 443) (tgt := 537) hx hb dL_step_94 (by decide +kernel) (by decide +kernel) (by decide +kernel) (by decide) ?_
      refine lv_aload_n hx hb dL_step_537 rfl (lv_at hl 3 rfl) ?_
      refine lv_bipush (v := nI 58) hx hb dL_step_538 bi_58 ?_
      refine sv_iald hx hb hK hP 19 f19 (j := 58) (by omega) (by decide) dL_step_540 ?_
      refine W.eq (g2 := F0 mi 541 ls (.int (nI (f 58)) :: [])) rfl ?_
      refine sv_top (y := nI q.toNat) (by rw [hTI.2.2.2.2]) ?_
      refine lv_iconst (v := nI 1) hx hb dL_step_541 ci_1 ?_
      refine sn_icmp_ne (tgt := 549) hx hb dL_step_542 (by decide) (by omega) (by decide) (fun c84 => ?_) (fun c84 => ?_)
      · refine lv_iconst (v := nI 0) hx hb dL_step_549 ci_0 ?_
        refine lv_istore (lv' := [(13, .int (nI 0)), (7, .int (nI r)), (6, .int (nI p)), (0, .ref x), (1, .ref o9), (2, .int (nI gw)), (3, .int (nI ga)), (4, .int (nI gb)), (5, .int (nI n))]) hx hb dL_step_550 hl (by decide) rfl (fun ls hl => ?_)
        refine lv_aload_n hx hb dL_step_552 rfl (lv_at hl 4 rfl) ?_
        refine lv_bipush (v := nI 58) hx hb dL_step_553 bi_58 ?_
        refine lv_iload hx hb dL_step_555 (lv_at hl 7 rfl) ?_
        refine lv_iconst (v := nI 4) hx hb dL_step_557 ci_4 ?_
        refine sn_irem hx hb (by omega) (by decide) (by decide) dL_step_558 ?_
        refine sn_if_ne (tgt := 566) hx hb dL_step_559 (by decide) (Nat.lt_trans (Nat.mod_lt _ (by decide : 4 > 0)) (by decide)) (fun c85 => ?_) (fun c85 => ?_)
        · refine lv_iconst (v := nI 0) hx hb dL_step_566 ci_0 ?_
          refine sv_iast hx hb hK hP hD hS 19 f19 (j := 58) (by omega) (by decide) dL_step_567 (fun ws87 H locs hP hD hS f19 fr86 => ?_)
          replace hap := hap.fr fr86
          rw [upd_N] at f19
          refine lv_aload_n hx hb dL_step_568 rfl (lv_at hl 3 rfl) ?_
          refine lv_aload_n hx hb dL_step_569 rfl (lv_at hl 4 rfl) ?_
          refine lv_bipush (v := nI 58) hx hb dL_step_570 bi_58 ?_
          refine sv_iald hx hb hK hP 19 f19 (j := 58) (by omega) (by decide) dL_step_572 ?_
          refine W.eq (g2 := F0 mi 573 ls (.int (nI ((upX f 58 0) 58)) :: [.ref x])) rfl ?_
          refine sv_top (y := nI 0) (by rw [upX_s]) ?_
          refine lv_iconst (v := nI 1) hx hb dL_step_573 ci_1 ?_
          refine sn_icmp_ne (tgt := 581) hx hb dL_step_574 (by decide) (by decide) (by decide) (fun _ => ?_) (fun q => absurd q (by decide))
          refine lv_iconst (v := nI 0) hx hb dL_step_581 ci_0 ?_
          refine W.eq (g2 := F0 mi 582 ls [.int (bI false), .ref x]) rfl ?_
          obtain ⟨fs0, g0⟩ := hap.at0
          refine mcV (c_X4_askSteady_0 hP hD hap hLR.1 ) ⟨hx, hb, hml, hown, hts⟩ hK gL_step_X4_askSteady rfl hd_X4_askSteady ⟨by omega, by omega⟩ (va_recv hK hP (ci := 4) (q0 := 0) rfl g0) rfl hl.1 rfl (Nat.le_of_ble_eq_true rfl) dL_step_582 ⟨Nat.zero_le _, Nat.zero_le _⟩ hS (fun rv ws89 H locs hq91 hP hD hS => ?_)
          obtain ⟨hr92, hap, fr90⟩ := hq91
          replace f19 := (fr90 19 (by decide)).trans f19
          refine sv_top (y := nI ((q).toNat)) (hr92.trans (lz_tnI _)) ?_
          refine lv_iload hx hb dL_step_585 (lv_at hl 0 rfl) ?_
          refine sn_icmp_ne (tgt := 594) hx hb dL_step_587 (by decide) (by omega) (by decide) (fun c93 => absurd (show q.toNat = 0 by have := c84; omega) c93) (fun c93 => ?_)
          refine lv_iconst (v := nI 1) hx hb dL_step_590 ci_1 ?_
          refine lv_goto (tgt := 595) hx hb dL_step_591 (by decide) ?_
          exact hret 595 ls _ _ locs _ dL_step_595 hP hD hS rfl (⟨rfl, ⟨_, _, _, _, _, _, _, _, _, _, _, _, _, _, hap, f19, hTI.ask, ⟨hLR.1, hn6, hT, hJ, lz_zro2 hK2⟩, (by omega)⟩, ((fr.wd fr86 : fr _ _ 0 19).tr fr90)⟩)
        · refine lv_iconst (v := nI 1) hx hb dL_step_562 ci_1 ?_
          refine lv_goto (tgt := 567) hx hb dL_step_563 (by decide) ?_
          refine sv_iast hx hb hK hP hD hS 19 f19 (j := 58) (by omega) (by decide) dL_step_567 (fun ws95 H locs hP hD hS f19 fr94 => ?_)
          replace hap := hap.fr fr94
          rw [upd_N] at f19
          refine lv_aload_n hx hb dL_step_568 rfl (lv_at hl 3 rfl) ?_
          refine lv_aload_n hx hb dL_step_569 rfl (lv_at hl 4 rfl) ?_
          refine lv_bipush (v := nI 58) hx hb dL_step_570 bi_58 ?_
          refine sv_iald hx hb hK hP 19 f19 (j := 58) (by omega) (by decide) dL_step_572 ?_
          refine W.eq (g2 := F0 mi 573 ls (.int (nI ((upX f 58 1) 58)) :: [.ref x])) rfl ?_
          refine sv_top (y := nI 1) (by rw [upX_s]) ?_
          refine lv_iconst (v := nI 1) hx hb dL_step_573 ci_1 ?_
          refine lv_icmp_ne (tgt := 581) hx hb dL_step_574 (by decide) (fun z => absurd rfl z) (fun _ => ?_)
          refine lv_iconst (v := nI 1) hx hb dL_step_577 ci_1 ?_
          refine lv_goto (tgt := 582) hx hb dL_step_578 (by decide) ?_
          refine W.eq (g2 := F0 mi 582 ls [.int (bI true), .ref x]) rfl ?_
          obtain ⟨fs0, g0⟩ := hap.at0
          refine mcV (c_X4_askSteady_0 hP hD hap hLR.1 ) ⟨hx, hb, hml, hown, hts⟩ hK gL_step_X4_askSteady rfl hd_X4_askSteady ⟨by omega, by omega⟩ (va_recv hK hP (ci := 4) (q0 := 0) rfl g0) rfl hl.1 rfl (Nat.le_of_ble_eq_true rfl) dL_step_582 ⟨Nat.zero_le _, Nat.zero_le _⟩ hS (fun rv ws96 H locs hq98 hP hD hS => ?_)
          obtain ⟨hr99, hap, fr97⟩ := hq98
          replace f19 := (fr97 19 (by decide)).trans f19
          refine sv_top (y := nI ((q).toNat)) (hr99.trans (lz_tnI _)) ?_
          refine lv_iload hx hb dL_step_585 (lv_at hl 0 rfl) ?_
          refine sn_icmp_ne (tgt := 594) hx hb dL_step_587 (by decide) (by omega) (by decide) (fun c100 => absurd (show q.toNat = 0 by have := c84; omega) c100) (fun c100 => ?_)
          refine lv_iconst (v := nI 1) hx hb dL_step_590 ci_1 ?_
          refine lv_goto (tgt := 595) hx hb dL_step_591 (by decide) ?_
          exact hret 595 ls _ _ locs _ dL_step_595 hP hD hS rfl (⟨rfl, ⟨_, _, _, _, _, _, _, _, _, _, _, _, _, _, hap, f19, hTI.ask, ⟨hLR.1, hn6, hT, hJ, lz_zro2 hK2⟩, (by omega)⟩, ((fr.wd fr94 : fr _ _ 0 19).tr fr97)⟩)
      · refine lv_iconst (v := nI 1) hx hb dL_step_545 ci_1 ?_
        refine lv_goto (tgt := 550) hx hb dL_step_546 (by decide) ?_
        refine lv_istore (lv' := [(13, .int (nI 1)), (7, .int (nI r)), (6, .int (nI p)), (0, .ref x), (1, .ref o9), (2, .int (nI gw)), (3, .int (nI ga)), (4, .int (nI gb)), (5, .int (nI n))]) hx hb dL_step_550 hl (by decide) rfl (fun ls hl => ?_)
        refine lv_aload_n hx hb dL_step_552 rfl (lv_at hl 4 rfl) ?_
        refine lv_bipush (v := nI 58) hx hb dL_step_553 bi_58 ?_
        refine lv_iload hx hb dL_step_555 (lv_at hl 7 rfl) ?_
        refine lv_iconst (v := nI 4) hx hb dL_step_557 ci_4 ?_
        refine sn_irem hx hb (by omega) (by decide) (by decide) dL_step_558 ?_
        refine sn_if_ne (tgt := 566) hx hb dL_step_559 (by decide) (Nat.lt_trans (Nat.mod_lt _ (by decide : 4 > 0)) (by decide)) (fun c101 => ?_) (fun c101 => ?_)
        · refine lv_iconst (v := nI 0) hx hb dL_step_566 ci_0 ?_
          refine sv_iast hx hb hK hP hD hS 19 f19 (j := 58) (by omega) (by decide) dL_step_567 (fun ws103 H locs hP hD hS f19 fr102 => ?_)
          replace hap := hap.fr fr102
          rw [upd_N] at f19
          refine lv_aload_n hx hb dL_step_568 rfl (lv_at hl 3 rfl) ?_
          refine lv_aload_n hx hb dL_step_569 rfl (lv_at hl 4 rfl) ?_
          refine lv_bipush (v := nI 58) hx hb dL_step_570 bi_58 ?_
          refine sv_iald hx hb hK hP 19 f19 (j := 58) (by omega) (by decide) dL_step_572 ?_
          refine W.eq (g2 := F0 mi 573 ls (.int (nI ((upX f 58 0) 58)) :: [.ref x])) rfl ?_
          refine sv_top (y := nI 0) (by rw [upX_s]) ?_
          refine lv_iconst (v := nI 1) hx hb dL_step_573 ci_1 ?_
          refine sn_icmp_ne (tgt := 581) hx hb dL_step_574 (by decide) (by decide) (by decide) (fun _ => ?_) (fun q => absurd q (by decide))
          refine lv_iconst (v := nI 0) hx hb dL_step_581 ci_0 ?_
          refine W.eq (g2 := F0 mi 582 ls [.int (bI false), .ref x]) rfl ?_
          obtain ⟨fs0, g0⟩ := hap.at0
          refine mcV (c_X4_askSteady_0 hP hD hap hLR.1 ) ⟨hx, hb, hml, hown, hts⟩ hK gL_step_X4_askSteady rfl hd_X4_askSteady ⟨by omega, by omega⟩ (va_recv hK hP (ci := 4) (q0 := 0) rfl g0) rfl hl.1 rfl (Nat.le_of_ble_eq_true rfl) dL_step_582 ⟨Nat.zero_le _, Nat.zero_le _⟩ hS (fun rv ws105 H locs hq107 hP hD hS => ?_)
          obtain ⟨hr108, hap, fr106⟩ := hq107
          replace f19 := (fr106 19 (by decide)).trans f19
          refine sv_top (y := nI ((q).toNat)) (hr108.trans (lz_tnI _)) ?_
          refine lv_iload hx hb dL_step_585 (lv_at hl 0 rfl) ?_
          refine sn_icmp_ne (tgt := 594) hx hb dL_step_587 (by decide) (by omega) (by decide) (fun c109 => absurd c84 c109) (fun c109 => ?_)
          refine lv_iconst (v := nI 1) hx hb dL_step_590 ci_1 ?_
          refine lv_goto (tgt := 595) hx hb dL_step_591 (by decide) ?_
          exact hret 595 ls _ _ locs _ dL_step_595 hP hD hS rfl (⟨rfl, ⟨_, _, _, _, _, _, _, _, _, _, _, _, _, _, hap, f19, hTI.ask, ⟨hLR.1, hn6, hT, hJ, lz_zro2 hK2⟩, (by omega)⟩, ((fr.wd fr102 : fr _ _ 0 19).tr fr106)⟩)
        · refine lv_iconst (v := nI 1) hx hb dL_step_562 ci_1 ?_
          refine lv_goto (tgt := 567) hx hb dL_step_563 (by decide) ?_
          refine sv_iast hx hb hK hP hD hS 19 f19 (j := 58) (by omega) (by decide) dL_step_567 (fun ws111 H locs hP hD hS f19 fr110 => ?_)
          replace hap := hap.fr fr110
          rw [upd_N] at f19
          refine lv_aload_n hx hb dL_step_568 rfl (lv_at hl 3 rfl) ?_
          refine lv_aload_n hx hb dL_step_569 rfl (lv_at hl 4 rfl) ?_
          refine lv_bipush (v := nI 58) hx hb dL_step_570 bi_58 ?_
          refine sv_iald hx hb hK hP 19 f19 (j := 58) (by omega) (by decide) dL_step_572 ?_
          refine W.eq (g2 := F0 mi 573 ls (.int (nI ((upX f 58 1) 58)) :: [.ref x])) rfl ?_
          refine sv_top (y := nI 1) (by rw [upX_s]) ?_
          refine lv_iconst (v := nI 1) hx hb dL_step_573 ci_1 ?_
          refine lv_icmp_ne (tgt := 581) hx hb dL_step_574 (by decide) (fun z => absurd rfl z) (fun _ => ?_)
          refine lv_iconst (v := nI 1) hx hb dL_step_577 ci_1 ?_
          refine lv_goto (tgt := 582) hx hb dL_step_578 (by decide) ?_
          refine W.eq (g2 := F0 mi 582 ls [.int (bI true), .ref x]) rfl ?_
          obtain ⟨fs0, g0⟩ := hap.at0
          refine mcV (c_X4_askSteady_0 hP hD hap hLR.1 ) ⟨hx, hb, hml, hown, hts⟩ hK gL_step_X4_askSteady rfl hd_X4_askSteady ⟨by omega, by omega⟩ (va_recv hK hP (ci := 4) (q0 := 0) rfl g0) rfl hl.1 rfl (Nat.le_of_ble_eq_true rfl) dL_step_582 ⟨Nat.zero_le _, Nat.zero_le _⟩ hS (fun rv ws112 H locs hq114 hP hD hS => ?_)
          obtain ⟨hr115, hap, fr113⟩ := hq114
          replace f19 := (fr113 19 (by decide)).trans f19
          refine sv_top (y := nI ((q).toNat)) (hr115.trans (lz_tnI _)) ?_
          refine lv_iload hx hb dL_step_585 (lv_at hl 0 rfl) ?_
          refine sn_icmp_ne (tgt := 594) hx hb dL_step_587 (by decide) (by omega) (by decide) (fun c116 => absurd c84 c116) (fun c116 => ?_)
          refine lv_iconst (v := nI 1) hx hb dL_step_590 ci_1 ?_
          refine lv_goto (tgt := 595) hx hb dL_step_591 (by decide) ?_
          exact hret 595 ls _ _ locs _ dL_step_595 hP hD hS rfl (⟨rfl, ⟨_, _, _, _, _, _, _, _, _, _, _, _, _, _, hap, f19, hTI.ask, ⟨hLR.1, hn6, hT, hJ, lz_zro2 hK2⟩, (by omega)⟩, ((fr.wd fr110 : fr _ _ 0 19).tr fr113)⟩)
    · refine lv_tableOut (x := nI 9) (tgt := 596) hx hb dL_step_94 (Or.inr (by decide +kernel)) (by decide) ?_
      exact J596  ls locs (lv_sub hl [2, 3, 4, 5, 6, 7, 1, 0] rfl) hS
  refine lv_iload hx hb dL_step_6 (lv_at hl 0 rfl) ?_
  refine sn_if_eq (tgt := 25) hx hb dL_step_8 (by decide) (by omega) (fun c117 => ?_) (fun c117 => ?_)
  · refine lv_aload_n hx hb dL_step_25 rfl (lv_at hl 2 rfl) ?_
    refine lv_bipush (v := nI 56) hx hb dL_step_26 bi_56 ?_
    refine lv_dup2_11 hx hb dL_step_28 rfl rfl ?_
    refine sv_iald hx hb hK hP 19 f19 (j := 56) (by omega) (by decide) dL_step_29 ?_
    refine W.eq (g2 := F0 mi 30 ls (.int (nI (f 56)) :: [.int (nI 56), .ref o9])) rfl ?_
    refine sv_top (y := nI n) (by rw [hTI.2.2.1]) ?_
    refine lv_iconst (v := nI 1) hx hb dL_step_30 ci_1 ?_
    refine lv_iadd hx hb dL_step_31 ?_
    refine sv_top (y := nI (n + 1)) (nI_add _ _) ?_
    refine sv_iast hx hb hK hP hD hS 19 f19 (j := 56) (by omega) (by decide) dL_step_32 (fun ws119 H locs hP hD hS f19 fr118 => ?_)
    replace hap := hap.fr fr118
    rw [upd_N] at f19
    refine lv_aload_n hx hb dL_step_33 rfl (lv_at hl 1 rfl) ?_
    refine lv_iload_n hx hb dL_step_34 rfl (lv_at hl 4 rfl) ?_
    refine lv_iconst (v := nI 4) hx hb dL_step_35 ci_4 ?_
    refine sn_irem hx hb (by omega) (by decide) (by decide) dL_step_36 ?_
    obtain ⟨fs0, g0⟩ := hap.at0
    refine mcV (c_X4_addPart_0 hP hD hap hLR.1 (Nat.mod_lt _ (by decide)) (by omega)) ⟨hx, hb, hml, hown, hts⟩ hK gL_step_X4_addPart rfl hd_X4_addPart ⟨by omega, by omega⟩ (va_recv hK hP (ci := 4) (q0 := 0) rfl g0) rfl hl.1 rfl (Nat.le_of_ble_eq_true rfl) dL_step_37 ⟨Nat.zero_le _, Nat.zero_le _⟩ hS (fun rv ws120 H locs hq122 hP hD hS => ?_)
    obtain ⟨hr123, hap, fr121⟩ := hq122
    replace f19 := (fr121 19 (by decide)).trans f19
    refine sv_top (y := nI n) hr123 ?_
    replace hLR : LR (n + 1) (upX T n (ga % 4)) C Hd b J (zro K 8) := ⟨PI0_add hLR.1 (by omega), by omega, upX_lt hT (Nat.mod_lt _ (by decide)), hJ, lz_zro2 hK2⟩
    refine lv_iload hx hb dL_step_40 (lv_at hl 0 rfl) ?_
    refine lv_icmp_ne (tgt := 75) hx hb dL_step_42 (by decide) (fun z => absurd rfl z) (fun _ => ?_)
    refine lv_aload_n hx hb dL_step_45 rfl (lv_at hl 1 rfl) ?_
    obtain ⟨fs0, g0⟩ := hap.at0
    refine mcV (c_X4_parts_0 hP hD hap hLR.1 ) ⟨hx, hb, hml, hown, hts⟩ hK gL_step_X4_parts rfl hd_X4_parts ⟨by omega, by omega⟩ (va_recv hK hP (ci := 4) (q0 := 0) rfl g0) rfl hl.1 rfl (Nat.le_of_ble_eq_true rfl) dL_step_46 ⟨Nat.zero_le _, Nat.zero_le _⟩ hS (fun rv ws124 H locs hq126 hP hD hS => ?_)
    obtain ⟨hr127, hap, fr125⟩ := hq126
    replace f19 := (fr125 19 (by decide)).trans f19
    refine sv_top (y := nI ((n + 1))) hr127 ?_
    refine lv_iload hx hb dL_step_49 (lv_at hl 0 rfl) ?_
    refine lv_iconst (v := nI 1) hx hb dL_step_51 ci_1 ?_
    refine lv_iadd hx hb dL_step_52 ?_
    refine sv_top (y := nI (n + 1)) (nI_add _ _) ?_
    refine sn_icmp_ne (tgt := 75) hx hb dL_step_53 (by decide) (by omega) (by omega) (fun c128 => absurd rfl c128) (fun c128 => ?_)
    refine lv_aload_n hx hb dL_step_56 rfl (lv_at hl 1 rfl) ?_
    obtain ⟨fs0, g0⟩ := hap.at0
    refine mcV (c_X4_built_0 hP hD hap hLR.1 ) ⟨hx, hb, hml, hown, hts⟩ hK gL_step_X4_built rfl hd_X4_built ⟨by omega, by omega⟩ (va_recv hK hP (ci := 4) (q0 := 0) rfl g0) rfl hl.1 rfl (Nat.le_of_ble_eq_true rfl) dL_step_57 ⟨Nat.zero_le _, Nat.zero_le _⟩ hS (fun rv ws129 H locs hq131 hP hD hS => ?_)
    obtain ⟨hr132, hap, fr130⟩ := hq131
    replace f19 := (fr130 19 (by decide)).trans f19
    refine sv_top (y := nI 0) hr132 ?_
    refine sn_if_ne (tgt := 75) hx hb dL_step_60 (by decide) (by decide) (fun q => absurd q (by decide)) (fun _ => ?_)
    refine lv_aload_n hx hb dL_step_63 rfl (lv_at hl 1 rfl) ?_
    obtain ⟨fs0, g0⟩ := hap.at0
    refine mcV (c_X4_mounted_0 hP hD hap hLR.1 ) ⟨hx, hb, hml, hown, hts⟩ hK gL_step_X4_mounted rfl hd_X4_mounted ⟨by omega, by omega⟩ (va_recv hK hP (ci := 4) (q0 := 0) rfl g0) rfl hl.1 rfl (Nat.le_of_ble_eq_true rfl) dL_step_64 ⟨Nat.zero_le _, Nat.zero_le _⟩ hS (fun rv ws134 H locs hq136 hP hD hS => ?_)
    obtain ⟨hr137, hap, fr135⟩ := hq136
    replace f19 := (fr135 19 (by decide)).trans f19
    refine sv_top (y := -1) hr137 ?_
    refine lv_iconst (v := -1) hx hb dL_step_67 ci_m1 ?_
    refine lv_icmp_ne (tgt := 75) hx hb dL_step_68 (by decide) (fun z => absurd rfl z) (fun _ => ?_)
    refine lv_iconst (v := nI 1) hx hb dL_step_71 ci_1 ?_
    refine lv_goto (tgt := 76) hx hb dL_step_72 (by decide) ?_
    exact hret 76 ls _ _ locs _ dL_step_76 hP hD hS rfl (⟨rfl, ⟨_, _, _, _, _, _, _, _, _, _, _, _, _, _, hap, f19, hTI.add, hLR, (by omega)⟩, (((((fr.wd fr118 : fr _ _ 0 19).tr fr121).tr fr125).tr fr130).tr fr135)⟩)
  · refine lv_iload_n hx hb dL_step_11 rfl (lv_at hl 3 rfl) ?_
    refine lv_bipush (v := nI 10) hx hb dL_step_12 bi_10 ?_
    refine sn_irem hx hb (by omega) (by decide) (by decide) dL_step_14 ?_
    refine sn_if_ne (tgt := 77) hx hb dL_step_15 (by decide) (Nat.lt_trans (Nat.mod_lt _ (by decide : 10 > 0)) (by decide)) (fun c138 => ?_) (fun c138 => ?_)
    · exact J77 (by omega) ls locs (lv_sub hl [1, 2, 3, 4, 5, 0] rfl) hS
    · refine lv_iload hx hb dL_step_18 (lv_at hl 0 rfl) ?_
      refine lv_bipush (v := nI 6) hx hb dL_step_20 bi_6 ?_
      refine sn_icmp_ge (tgt := 77) hx hb dL_step_22 (by decide) (by omega) (by decide) (fun c139 => ?_) (fun c139 => ?_)
      · exact J77 (by omega) ls locs (lv_sub hl [1, 2, 3, 4, 5, 0] rfl) hS
      · refine lv_aload_n hx hb dL_step_25 rfl (lv_at hl 2 rfl) ?_
        refine lv_bipush (v := nI 56) hx hb dL_step_26 bi_56 ?_
        refine lv_dup2_11 hx hb dL_step_28 rfl rfl ?_
        refine sv_iald hx hb hK hP 19 f19 (j := 56) (by omega) (by decide) dL_step_29 ?_
        refine W.eq (g2 := F0 mi 30 ls (.int (nI (f 56)) :: [.int (nI 56), .ref o9])) rfl ?_
        refine sv_top (y := nI n) (by rw [hTI.2.2.1]) ?_
        refine lv_iconst (v := nI 1) hx hb dL_step_30 ci_1 ?_
        refine lv_iadd hx hb dL_step_31 ?_
        refine sv_top (y := nI (n + 1)) (nI_add _ _) ?_
        refine sv_iast hx hb hK hP hD hS 19 f19 (j := 56) (by omega) (by decide) dL_step_32 (fun ws141 H locs hP hD hS f19 fr140 => ?_)
        replace hap := hap.fr fr140
        rw [upd_N] at f19
        refine lv_aload_n hx hb dL_step_33 rfl (lv_at hl 1 rfl) ?_
        refine lv_iload_n hx hb dL_step_34 rfl (lv_at hl 4 rfl) ?_
        refine lv_iconst (v := nI 4) hx hb dL_step_35 ci_4 ?_
        refine sn_irem hx hb (by omega) (by decide) (by decide) dL_step_36 ?_
        obtain ⟨fs0, g0⟩ := hap.at0
        refine mcV (c_X4_addPart_0 hP hD hap hLR.1 (Nat.mod_lt _ (by decide)) (by omega)) ⟨hx, hb, hml, hown, hts⟩ hK gL_step_X4_addPart rfl hd_X4_addPart ⟨by omega, by omega⟩ (va_recv hK hP (ci := 4) (q0 := 0) rfl g0) rfl hl.1 rfl (Nat.le_of_ble_eq_true rfl) dL_step_37 ⟨Nat.zero_le _, Nat.zero_le _⟩ hS (fun rv ws142 H locs hq144 hP hD hS => ?_)
        obtain ⟨hr145, hap, fr143⟩ := hq144
        replace f19 := (fr143 19 (by decide)).trans f19
        refine sv_top (y := nI n) hr145 ?_
        replace hLR : LR (n + 1) (upX T n (ga % 4)) C Hd b J (zro K 8) := ⟨PI0_add hLR.1 (by omega), by omega, upX_lt hT (Nat.mod_lt _ (by decide)), hJ, lz_zro2 hK2⟩
        refine lv_iload hx hb dL_step_40 (lv_at hl 0 rfl) ?_
        refine lv_icmp_ne (tgt := 75) hx hb dL_step_42 (by decide) (fun z => absurd rfl z) (fun _ => ?_)
        refine lv_aload_n hx hb dL_step_45 rfl (lv_at hl 1 rfl) ?_
        obtain ⟨fs0, g0⟩ := hap.at0
        refine mcV (c_X4_parts_0 hP hD hap hLR.1 ) ⟨hx, hb, hml, hown, hts⟩ hK gL_step_X4_parts rfl hd_X4_parts ⟨by omega, by omega⟩ (va_recv hK hP (ci := 4) (q0 := 0) rfl g0) rfl hl.1 rfl (Nat.le_of_ble_eq_true rfl) dL_step_46 ⟨Nat.zero_le _, Nat.zero_le _⟩ hS (fun rv ws146 H locs hq148 hP hD hS => ?_)
        obtain ⟨hr149, hap, fr147⟩ := hq148
        replace f19 := (fr147 19 (by decide)).trans f19
        refine sv_top (y := nI ((n + 1))) hr149 ?_
        refine lv_iload hx hb dL_step_49 (lv_at hl 0 rfl) ?_
        refine lv_iconst (v := nI 1) hx hb dL_step_51 ci_1 ?_
        refine lv_iadd hx hb dL_step_52 ?_
        refine sv_top (y := nI (n + 1)) (nI_add _ _) ?_
        refine sn_icmp_ne (tgt := 75) hx hb dL_step_53 (by decide) (by omega) (by omega) (fun c150 => absurd rfl c150) (fun c150 => ?_)
        refine lv_aload_n hx hb dL_step_56 rfl (lv_at hl 1 rfl) ?_
        obtain ⟨fs0, g0⟩ := hap.at0
        refine mcV (c_X4_built_0 hP hD hap hLR.1 ) ⟨hx, hb, hml, hown, hts⟩ hK gL_step_X4_built rfl hd_X4_built ⟨by omega, by omega⟩ (va_recv hK hP (ci := 4) (q0 := 0) rfl g0) rfl hl.1 rfl (Nat.le_of_ble_eq_true rfl) dL_step_57 ⟨Nat.zero_le _, Nat.zero_le _⟩ hS (fun rv ws151 H locs hq153 hP hD hS => ?_)
        obtain ⟨hr154, hap, fr152⟩ := hq153
        replace f19 := (fr152 19 (by decide)).trans f19
        refine sv_top (y := nI 0) hr154 ?_
        refine sn_if_ne (tgt := 75) hx hb dL_step_60 (by decide) (by decide) (fun q => absurd q (by decide)) (fun _ => ?_)
        refine lv_aload_n hx hb dL_step_63 rfl (lv_at hl 1 rfl) ?_
        obtain ⟨fs0, g0⟩ := hap.at0
        refine mcV (c_X4_mounted_0 hP hD hap hLR.1 ) ⟨hx, hb, hml, hown, hts⟩ hK gL_step_X4_mounted rfl hd_X4_mounted ⟨by omega, by omega⟩ (va_recv hK hP (ci := 4) (q0 := 0) rfl g0) rfl hl.1 rfl (Nat.le_of_ble_eq_true rfl) dL_step_64 ⟨Nat.zero_le _, Nat.zero_le _⟩ hS (fun rv ws156 H locs hq158 hP hD hS => ?_)
        obtain ⟨hr159, hap, fr157⟩ := hq158
        replace f19 := (fr157 19 (by decide)).trans f19
        refine sv_top (y := -1) hr159 ?_
        refine lv_iconst (v := -1) hx hb dL_step_67 ci_m1 ?_
        refine lv_icmp_ne (tgt := 75) hx hb dL_step_68 (by decide) (fun z => absurd rfl z) (fun _ => ?_)
        refine lv_iconst (v := nI 1) hx hb dL_step_71 ci_1 ?_
        refine lv_goto (tgt := 76) hx hb dL_step_72 (by decide) ?_
        exact hret 76 ls _ _ locs _ dL_step_76 hP hD hS rfl (⟨rfl, ⟨_, _, _, _, _, _, _, _, _, _, _, _, _, _, hap, f19, hTI.add, hLR, (by omega)⟩, (((((fr.wd fr140 : fr _ _ 0 19).tr fr143).tr fr147).tr fr152).tr fr157)⟩)
