theorem bi_56 : (Int8.ofInt 56).toInt32 = nI 56 := by decide +kernel
theorem bi_57 : (Int8.ofInt 57).toInt32 = nI 57 := by decide +kernel
theorem bi_58 : (Int8.ofInt 58).toInt32 = nI 58 := by decide +kernel
theorem hd_L_isSound : yL_isSound.cls ≠ "java/lang/invoke/MethodHandle" ∧ yL_isSound.cls ≠ "java/lang/invoke/VarHandle" ∧ (parseMethodDescriptor yL_isSound.desc).map (fun d => d.parameters.length) = some 3 := by decide +kernel
theorem hd_L_ones : yL_ones.cls ≠ "java/lang/invoke/MethodHandle" ∧ yL_ones.cls ≠ "java/lang/invoke/VarHandle" ∧ (parseMethodDescriptor yL_ones.desc).map (fun d => d.parameters.length) = some 1 := by decide +kernel
theorem hd_X4_canTake : yX4_canTake.cls = RX4 ∧ yX4_canTake.cls ≠ "java/lang/invoke/MethodHandle" ∧ yX4_canTake.cls ≠ "java/lang/invoke/VarHandle" ∧ (parseMethodDescriptor yX4_canTake.desc).map (fun d => d.parameters.length) = some 2 := by decide +kernel
theorem hd_X4_free : yX4_free.cls = RX4 ∧ yX4_free.cls ≠ "java/lang/invoke/MethodHandle" ∧ yX4_free.cls ≠ "java/lang/invoke/VarHandle" ∧ (parseMethodDescriptor yX4_free.desc).map (fun d => d.parameters.length) = some 2 := by decide +kernel
theorem hd_X4_isConnected : yX4_isConnected.cls = RX4 ∧ yX4_isConnected.cls ≠ "java/lang/invoke/MethodHandle" ∧ yX4_isConnected.cls ≠ "java/lang/invoke/VarHandle" ∧ (parseMethodDescriptor yX4_isConnected.desc).map (fun d => d.parameters.length) = some 1 := by decide +kernel
theorem hd_X4_isSteady : yX4_isSteady.cls = RX4 ∧ yX4_isSteady.cls ≠ "java/lang/invoke/MethodHandle" ∧ yX4_isSteady.cls ≠ "java/lang/invoke/VarHandle" ∧ (parseMethodDescriptor yX4_isSteady.desc).map (fun d => d.parameters.length) = some 1 := by decide +kernel
theorem hd_X4_splits : yX4_splits.cls = RX4 ∧ yX4_splits.cls ≠ "java/lang/invoke/MethodHandle" ∧ yX4_splits.cls ≠ "java/lang/invoke/VarHandle" ∧ (parseMethodDescriptor yX4_splits.desc).map (fun d => d.parameters.length) = some 1 := by decide +kernel
set_option maxHeartbeats 4000000 in
set_option maxRecDepth 100000 in
theorem c_L_isSound {l : Launch} {D : va_G} {ky : kT} {A : Nat → Prop} {Hs : Heap} {ws : va_W} (hP : va_P D CL ws Hs) (hD : va_D A ws) {x o9 n : Nat} {T C Hd : Nat → Nat} {b : Nat} {q : Bool} {J : Nat → Nat} {bg : Bool} {pi bu : Nat} {tm tl : Int32} {K : Nat → Nat} {f : Nat → Nat} (hap : AP ky ws x n T C Hd b q J bg pi bu tm tl K) (f19 : ws[19]? = some (o9, .inl (ky.1, 59, .inl (fun i => nI (f i))))) (hTI : TI n C Hd b q f) (hLR : LR n T C Hd b J K) {S : Nat} (hS2 : S < 2 ^ n) : MU l yL_isSound wsL_isSound 3 69 0 0 D ky A Hs [.ref x, .ref o9, .int (nI S)] (fun r w => r = bI (sou C Hd b q S) ∧ AP ky w x n T C Hd b q J bg pi bu tm tl K ∧ fr ws w 0 18) := by
  refine MU.of (cc := cL_isSound) (maxL := 3) (ty := .boolean) (by decide) rfl (Nat.le_of_ble_eq_true rfl) ?_
  intro pg en Rm sg mi av below meth co Qo hRf hRl hRc hRs hx hb hml hown hts hK hret ls hl
  have hl : lv_has ls 3 [(0, .ref x), (1, .ref o9), (2, .int (nI S))] := hl
  have hS : va_S A Hs Hs [] := va_S.rf
  generalize ([] : List Loc) = locs at hS ⊢
  have hn6 : n ≤ 6 := hLR.2.1
  have hT := hLR.2.2.1
  have hp64 := p2_64 hn6
  have hp1 : 1 ≤ 2 ^ n := Nat.one_le_two_pow
  have hb8 : b < 8 := hLR.1.2.1
  have hTb : ∀ p, T p < 2 ^ 31 := fun p => Nat.lt_of_lt_of_le (hT p) (by decide)
  have hq2 : q.toNat ≤ 1 := tn_1 q
  refine lv_iload_n hx hb dL_isSound_0 rfl (lv_at hl 2 rfl) ?_
  refine sn_if_eq (tgt := 27) hx hb dL_isSound_1 (by decide) (by omega) (fun c1 => ?_) (fun c1 => ?_)
  · refine lv_iconst (v := nI 1) hx hb dL_isSound_27 ci_1 ?_
    refine lv_goto (tgt := 32) hx hb dL_isSound_28 (by decide) ?_
    exact hret 32 ls _ _ locs _ dL_isSound_32 hP hD hS rfl (⟨bI_t (by unfold sou; rw [decide_eq_true c1]; rfl), hap, fr.rf⟩)
  · refine lv_aload_n hx hb dL_isSound_4 rfl (lv_at hl 0 rfl) ?_
    refine lv_iload_n hx hb dL_isSound_5 rfl (lv_at hl 2 rfl) ?_
    obtain ⟨fs0, g0⟩ := hap.at0
    refine mcV (c_X4_isConnected_0 hP hD hap hLR.1 (by omega) hS2) ⟨hx, hb, hml, hown, hts⟩ hK gL_isSound_X4_isConnected rfl hd_X4_isConnected ⟨by omega, by omega⟩ (va_recv hK hP (ci := 4) (q0 := 0) rfl g0) rfl hl.1 rfl (Nat.le_of_ble_eq_true rfl) dL_isSound_6 ⟨Nat.zero_le _, Nat.zero_le _⟩ hS (fun rv ws2 H locs hq4 hP hD hS => ?_)
    obtain ⟨hr5, hap, fr3⟩ := hq4
    replace f19 := (fr3 19 (by decide)).trans f19
    refine sv_top (y := bI (conn C S)) hr5 ?_
    refine sb_if_eq (tgt := 31) hx hb dL_isSound_9 (by decide) (fun c6 => ?_) (fun c6 => ?_)
    · refine lv_iconst (v := nI 0) hx hb dL_isSound_31 ci_0 ?_
      exact hret 32 ls _ _ locs _ dL_isSound_32 hP hD hS rfl (⟨bI_f (by unfold sou; rw [decide_eq_false c1, c6]; rfl), hap, (fr.wd fr3 : fr _ _ 0 18)⟩)
    · refine lv_aload_n hx hb dL_isSound_12 rfl (lv_at hl 1 rfl) ?_
      refine lv_bipush (v := nI 58) hx hb dL_isSound_13 bi_58 ?_
      refine sv_iald hx hb hK hP 19 f19 (j := 58) (by omega) (by decide) dL_isSound_15 ?_
      refine W.eq (g2 := F0 mi 16 ls (.int (nI (f 58)) :: [])) rfl ?_
      refine sv_top (y := nI q.toNat) (by rw [hTI.2.2.2.2]) ?_
      refine sn_if_eq (tgt := 27) hx hb dL_isSound_16 (by decide) (by omega) (fun c7 => ?_) (fun c7 => ?_)
      · refine lv_iconst (v := nI 1) hx hb dL_isSound_27 ci_1 ?_
        refine lv_goto (tgt := 32) hx hb dL_isSound_28 (by decide) ?_
        exact hret 32 ls _ _ locs _ dL_isSound_32 hP hD hS rfl (⟨bI_t (by unfold sou; rw [c6, lz_tn0 c7]; simp), hap, (fr.wd fr3 : fr _ _ 0 18)⟩)
      · refine lv_aload_n hx hb dL_isSound_19 rfl (lv_at hl 0 rfl) ?_
        refine lv_iload_n hx hb dL_isSound_20 rfl (lv_at hl 2 rfl) ?_
        obtain ⟨fs0, g0⟩ := hap.at0
        refine mcV (c_X4_isSteady_0 hP hD hap hLR.1 (by omega) hS2) ⟨hx, hb, hml, hown, hts⟩ hK gL_isSound_X4_isSteady rfl hd_X4_isSteady ⟨by omega, by omega⟩ (va_recv hK hP (ci := 4) (q0 := 0) rfl g0) rfl hl.1 rfl (Nat.le_of_ble_eq_true rfl) dL_isSound_21 ⟨Nat.zero_le _, Nat.zero_le _⟩ hS (fun rv ws8 H locs hq10 hP hD hS => ?_)
        obtain ⟨hr11, hap, fr9⟩ := hq10
        replace f19 := (fr9 19 (by decide)).trans f19
        refine sv_top (y := bI (stdy Hd b S)) hr11 ?_
        refine sb_if_eq (tgt := 31) hx hb dL_isSound_24 (by decide) (fun c12 => ?_) (fun c12 => ?_)
        · refine lv_iconst (v := nI 0) hx hb dL_isSound_31 ci_0 ?_
          exact hret 32 ls _ _ locs _ dL_isSound_32 hP hD hS rfl (⟨bI_f (by unfold sou; rw [decide_eq_false c1, c6, lz_tn1 c7, c12]; rfl), hap, ((fr.wd fr3 : fr _ _ 0 18).tr fr9)⟩)
        · refine lv_iconst (v := nI 1) hx hb dL_isSound_27 ci_1 ?_
          refine lv_goto (tgt := 32) hx hb dL_isSound_28 (by decide) ?_
          exact hret 32 ls _ _ locs _ dL_isSound_32 hP hD hS rfl (⟨bI_t (by unfold sou; rw [c6, c12]; simp), hap, ((fr.wd fr3 : fr _ _ 0 18).tr fr9)⟩)
set_option maxHeartbeats 4000000 in
set_option maxRecDepth 100000 in
theorem c_L_isSet {l : Launch} {D : va_G} {ky : kT} {A : Nat → Prop} {Hs : Heap} {ws : va_W} (hP : va_P D CL ws Hs) (hD : va_D A ws) {x o9 n : Nat} {T C Hd : Nat → Nat} {b : Nat} {q : Bool} {J : Nat → Nat} {bg : Bool} {pi bu : Nat} {tm tl : Int32} {K : Nat → Nat} {f : Nat → Nat} (hap : AP ky ws x n T C Hd b q J bg pi bu tm tl K) (f19 : ws[19]? = some (o9, .inl (ky.1, 59, .inl (fun i => nI (f i))))) (hTI : TI n C Hd b q f) (hLR : LR n T C Hd b J K) {S : Nat} (hS1 : 0 < S) (hS2 : S < 2 ^ n) : MU l yL_isSet wsL_isSet 7 155 0 0 D ky A Hs [.ref x, .ref o9, .int (nI S)] (fun r w => r = nI 1 ∧ AP ky w x n T C Hd b q J bg pi bu tm tl K ∧ fr ws w 0 18) := by
  refine MU.of (cc := cL_isSet) (maxL := 7) (ty := .boolean) (by decide) rfl (Nat.le_of_ble_eq_true rfl) ?_
  intro pg en Rm sg mi av below meth co Qo hRf hRl hRc hRs hx hb hml hown hts hK hret ls hl
  have hl : lv_has ls 7 [(0, .ref x), (1, .ref o9), (2, .int (nI S))] := hl
  have hS : va_S A Hs Hs [] := va_S.rf
  generalize ([] : List Loc) = locs at hS ⊢
  have hn6 : n ≤ 6 := hLR.2.1
  have hT := hLR.2.2.1
  have hp64 := p2_64 hn6
  have hp1 : 1 ≤ 2 ^ n := Nat.one_le_two_pow
  have hb8 : b < 8 := hLR.1.2.1
  have hTb : ∀ p, T p < 2 ^ 31 := fun p => Nat.lt_of_lt_of_le (hT p) (by decide)
  have hq2 : q.toNat ≤ 1 := tn_1 q
  have hS64 : S < 64 := by omega
  have hS31 : S < 2 ^ 31 := by omega
  refine lv_iconst (v := nI 1) hx hb dL_isSet_0 ci_1 ?_
  refine lv_istore_n (lv' := [(3, .int (nI 1)), (0, .ref x), (1, .ref o9), (2, .int (nI S))]) hx hb dL_isSet_1 rfl hl (by decide) rfl (fun ls hl => ?_)
  refine lv_iconst (v := nI 0) hx hb dL_isSet_2 ci_0 ?_
  refine lv_istore (lv' := [(4, .int (nI 0)), (3, .int (nI 1)), (0, .ref x), (1, .ref o9), (2, .int (nI S))]) hx hb dL_isSet_3 hl (by decide) rfl (fun ls hl => ?_)
  have L5 : ∀ (L5d : Nat) (p : Nat), n - p < L5d → ∀ (wl5 : va_W) (H : Heap), p ≤ n → va_P D CL wl5 H → va_D A wl5 → wl5[19]? = some (o9, .inl (ky.1, 59, .inl (fun i => nI (f i)))) → AP ky wl5 x n T C Hd b q J bg pi bu tm tl K → fr ws wl5 0 18 → ∀ (ls : Array Slot) (locs : List Loc), lv_has ls 7 [(0, .ref x), (1, .ref o9), (2, .int (nI S)), (3, .int (nI 1)), (4, .int (nI p))] → va_S A Hs H locs → W pg l en Rm sg mi av below meth co H locs 0 0 Qo (F0 mi 5 ls []) := by
    intro L5d
    induction L5d with
    | zero => intro p hfu; exact absurd hfu (Nat.not_lt_zero _)
    | succ L5d ih5 =>
      intro p hfu wl5 H i5_0 hP hD f19 hap frwl5 ls locs hl hS
      refine lv_iload hx hb dL_isSet_5 (lv_at hl 4 rfl) ?_
      refine lv_aload_n hx hb dL_isSet_7 rfl (lv_at hl 1 rfl) ?_
      refine lv_bipush (v := nI 56) hx hb dL_isSet_8 bi_56 ?_
      refine sv_iald hx hb hK hP 19 f19 (j := 56) (by omega) (by decide) dL_isSet_10 ?_
      refine W.eq (g2 := F0 mi 11 ls (.int (nI (f 56)) :: [.int (nI p)])) rfl ?_
      refine sv_top (y := nI n) (by rw [hTI.2.2.1]) ?_
      refine sn_icmp_ge (tgt := 144) hx hb dL_isSet_11 (by decide) (by omega) (by omega) (fun c1 => ?_) (fun c1 => ?_)
      · refine lv_iload_n hx hb dL_isSet_144 rfl (lv_at hl 3 rfl) ?_
        refine sn_if_eq (tgt := 212) hx hb dL_isSet_145 (by decide) (by decide) (fun q => absurd q (by decide)) (fun _ => ?_)
        refine lv_aload_n hx hb dL_isSet_148 rfl (lv_at hl 0 rfl) ?_
        refine lv_iload_n hx hb dL_isSet_149 rfl (lv_at hl 2 rfl) ?_
        obtain ⟨fs0, g0⟩ := hap.at0
        refine mcV (c_X4_isSteady_0 hP hD hap hLR.1 hS1 hS2) ⟨hx, hb, hml, hown, hts⟩ hK gL_isSet_X4_isSteady rfl hd_X4_isSteady ⟨by omega, by omega⟩ (va_recv hK hP (ci := 4) (q0 := 0) rfl g0) rfl hl.1 rfl (Nat.le_of_ble_eq_true rfl) dL_isSet_150 ⟨Nat.zero_le _, Nat.zero_le _⟩ hS (fun rv ws3 H locs hq5 hP hD hS => ?_)
        obtain ⟨hr6, hap, fr4⟩ := hq5
        replace f19 := (fr4 19 (by decide)).trans f19
        refine sv_top (y := bI (stdy Hd b S)) hr6 ?_
        refine sb_if_eq (tgt := 168) hx hb dL_isSet_153 (by decide) (fun c7 => ?_) (fun c7 => ?_)
        · refine lv_iload_n hx hb dL_isSet_168 rfl (lv_at hl 2 rfl) ?_
          refine pcS (c_L_ones hS31) ⟨hx, hb, hml, hown, hts⟩ hK gL_isSet_L_ones rfl hd_L_ones ⟨by omega, by omega⟩ rfl hl.1 rfl (Nat.le_of_ble_eq_true rfl) dL_isSet_169 ⟨Nat.zero_le _, Nat.zero_le _⟩ hS (fun locs hS => ?_)
          refine lv_iconst (v := nI 1) hx hb dL_isSet_172 ci_1 ?_
          refine sn_icmp_gt (tgt := 192) hx hb dL_isSet_173 (by decide) (lz_cntb _) (by decide) (fun c8 => ?_) (fun c8 => ?_)
          · refine lv_aload_n hx hb dL_isSet_192 rfl (lv_at hl 0 rfl) ?_
            refine lv_iload_n hx hb dL_isSet_193 rfl (lv_at hl 2 rfl) ?_
            obtain ⟨fs0, g0⟩ := hap.at0
            refine mcV (c_X4_isConnected_0 hP hD hap hLR.1 hS1 hS2) ⟨hx, hb, hml, hown, hts⟩ hK gL_isSet_X4_isConnected rfl hd_X4_isConnected ⟨by omega, by omega⟩ (va_recv hK hP (ci := 4) (q0 := 0) rfl g0) rfl hl.1 rfl (Nat.le_of_ble_eq_true rfl) dL_isSet_194 ⟨Nat.zero_le _, Nat.zero_le _⟩ hS (fun rv ws9 H locs hq11 hP hD hS => ?_)
            obtain ⟨hr12, hap, fr10⟩ := hq11
            replace f19 := (fr10 19 (by decide)).trans f19
            refine sv_top (y := bI (conn C S)) hr12 ?_
            refine sb_if_ne (tgt := 208) hx hb dL_isSet_197 (by decide) (fun c13 => ?_) (fun c13 => ?_)
            · refine lv_iconst (v := nI 1) hx hb dL_isSet_208 ci_1 ?_
              refine lv_goto (tgt := 213) hx hb dL_isSet_209 (by decide) ?_
              exact hret 213 ls _ _ locs _ dL_isSet_213 hP hD hS rfl (⟨rfl, hap, (((fr.wd frwl5 : fr _ _ 0 18).tr fr4).tr fr10)⟩)
            · refine lv_aload_n hx hb dL_isSet_200 rfl (lv_at hl 0 rfl) ?_
              refine lv_iload_n hx hb dL_isSet_201 rfl (lv_at hl 2 rfl) ?_
              obtain ⟨fs0, g0⟩ := hap.at0
              refine mcV (c_X4_splits_0 hP hD hap hLR.1 hS1 hS2) ⟨hx, hb, hml, hown, hts⟩ hK gL_isSet_X4_splits rfl hd_X4_splits ⟨by omega, by omega⟩ (va_recv hK hP (ci := 4) (q0 := 0) rfl g0) rfl hl.1 rfl (Nat.le_of_ble_eq_true rfl) dL_isSet_202 ⟨Nat.zero_le _, Nat.zero_le _⟩ hS (fun rv ws14 H locs hq16 hP hD hS => ?_)
              obtain ⟨hr17, hap, fr15⟩ := hq16
              replace f19 := (fr15 19 (by decide)).trans f19
              refine sv_top (y := nI (spc C Hd n S)) hr17 ?_
              refine sn_if_ne (tgt := 212) hx hb dL_isSet_205 (by decide) (lz_spcb _ (by omega)) (fun c18 => absurd (lz_spcn c13) c18) (fun c18 => ?_)
              refine lv_iconst (v := nI 1) hx hb dL_isSet_208 ci_1 ?_
              refine lv_goto (tgt := 213) hx hb dL_isSet_209 (by decide) ?_
              exact hret 213 ls _ _ locs _ dL_isSet_213 hP hD hS rfl (⟨rfl, hap, ((((fr.wd frwl5 : fr _ _ 0 18).tr fr4).tr fr10).tr fr15)⟩)
          · refine lv_aload_n hx hb dL_isSet_176 rfl (lv_at hl 0 rfl) ?_
            refine lv_iload_n hx hb dL_isSet_177 rfl (lv_at hl 2 rfl) ?_
            obtain ⟨fs0, g0⟩ := hap.at0
            refine mcV (c_X4_isConnected_0 hP hD hap hLR.1 hS1 hS2) ⟨hx, hb, hml, hown, hts⟩ hK gL_isSet_X4_isConnected rfl hd_X4_isConnected ⟨by omega, by omega⟩ (va_recv hK hP (ci := 4) (q0 := 0) rfl g0) rfl hl.1 rfl (Nat.le_of_ble_eq_true rfl) dL_isSet_178 ⟨Nat.zero_le _, Nat.zero_le _⟩ hS (fun rv ws19 H locs hq21 hP hD hS => ?_)
            obtain ⟨hr22, hap, fr20⟩ := hq21
            replace f19 := (fr20 19 (by decide)).trans f19
            refine sv_top (y := bI (conn C S)) hr22 ?_
            refine sb_if_eq (tgt := 212) hx hb dL_isSet_181 (by decide) (fun c23 => absurd (one_conn (C := C) (by omega) (by omega) (lz_one S (by omega) hS1 (by omega))) (by rw [c23]; decide)) (fun c23 => ?_)
            refine lv_aload_n hx hb dL_isSet_184 rfl (lv_at hl 0 rfl) ?_
            refine lv_iload_n hx hb dL_isSet_185 rfl (lv_at hl 2 rfl) ?_
            obtain ⟨fs0, g0⟩ := hap.at0
            refine mcV (c_X4_splits_0 hP hD hap hLR.1 hS1 hS2) ⟨hx, hb, hml, hown, hts⟩ hK gL_isSet_X4_splits rfl hd_X4_splits ⟨by omega, by omega⟩ (va_recv hK hP (ci := 4) (q0 := 0) rfl g0) rfl hl.1 rfl (Nat.le_of_ble_eq_true rfl) dL_isSet_186 ⟨Nat.zero_le _, Nat.zero_le _⟩ hS (fun rv ws24 H locs hq26 hP hD hS => ?_)
            obtain ⟨hr27, hap, fr25⟩ := hq26
            replace f19 := (fr25 19 (by decide)).trans f19
            refine sv_top (y := nI (spc C Hd n S)) hr27 ?_
            refine sn_if_ne (tgt := 212) hx hb dL_isSet_189 (by decide) (lz_spcb _ (by omega)) (fun c28 => absurd (lz_spc1 (by omega) (lz_one S (by omega) hS1 (by omega))) c28) (fun c28 => ?_)
            refine lv_aload_n hx hb dL_isSet_192 rfl (lv_at hl 0 rfl) ?_
            refine lv_iload_n hx hb dL_isSet_193 rfl (lv_at hl 2 rfl) ?_
            obtain ⟨fs0, g0⟩ := hap.at0
            refine mcV (c_X4_isConnected_0 hP hD hap hLR.1 hS1 hS2) ⟨hx, hb, hml, hown, hts⟩ hK gL_isSet_X4_isConnected rfl hd_X4_isConnected ⟨by omega, by omega⟩ (va_recv hK hP (ci := 4) (q0 := 0) rfl g0) rfl hl.1 rfl (Nat.le_of_ble_eq_true rfl) dL_isSet_194 ⟨Nat.zero_le _, Nat.zero_le _⟩ hS (fun rv ws29 H locs hq31 hP hD hS => ?_)
            obtain ⟨hr32, hap, fr30⟩ := hq31
            replace f19 := (fr30 19 (by decide)).trans f19
            refine sv_top (y := bI (conn C S)) hr32 ?_
            refine sb_if_ne (tgt := 208) hx hb dL_isSet_197 (by decide) (fun c33 => ?_) (fun c33 => ?_)
            · refine lv_iconst (v := nI 1) hx hb dL_isSet_208 ci_1 ?_
              refine lv_goto (tgt := 213) hx hb dL_isSet_209 (by decide) ?_
              exact hret 213 ls _ _ locs _ dL_isSet_213 hP hD hS rfl (⟨rfl, hap, (((((fr.wd frwl5 : fr _ _ 0 18).tr fr4).tr fr20).tr fr25).tr fr30)⟩)
            · refine lv_aload_n hx hb dL_isSet_200 rfl (lv_at hl 0 rfl) ?_
              refine lv_iload_n hx hb dL_isSet_201 rfl (lv_at hl 2 rfl) ?_
              obtain ⟨fs0, g0⟩ := hap.at0
              refine mcV (c_X4_splits_0 hP hD hap hLR.1 hS1 hS2) ⟨hx, hb, hml, hown, hts⟩ hK gL_isSet_X4_splits rfl hd_X4_splits ⟨by omega, by omega⟩ (va_recv hK hP (ci := 4) (q0 := 0) rfl g0) rfl hl.1 rfl (Nat.le_of_ble_eq_true rfl) dL_isSet_202 ⟨Nat.zero_le _, Nat.zero_le _⟩ hS (fun rv ws34 H locs hq36 hP hD hS => ?_)
              obtain ⟨hr37, hap, fr35⟩ := hq36
              replace f19 := (fr35 19 (by decide)).trans f19
              refine sv_top (y := nI (spc C Hd n S)) hr37 ?_
              refine sn_if_ne (tgt := 212) hx hb dL_isSet_205 (by decide) (lz_spcb _ (by omega)) (fun c38 => absurd (lz_spcn c33) c38) (fun c38 => ?_)
              refine lv_iconst (v := nI 1) hx hb dL_isSet_208 ci_1 ?_
              refine lv_goto (tgt := 213) hx hb dL_isSet_209 (by decide) ?_
              exact hret 213 ls _ _ locs _ dL_isSet_213 hP hD hS rfl (⟨rfl, hap, ((((((fr.wd frwl5 : fr _ _ 0 18).tr fr4).tr fr20).tr fr25).tr fr30).tr fr35)⟩)
        · refine lv_iload_n hx hb dL_isSet_156 rfl (lv_at hl 2 rfl) ?_
          refine lv_aload_n hx hb dL_isSet_157 rfl (lv_at hl 1 rfl) ?_
          refine lv_bipush (v := nI 57) hx hb dL_isSet_158 bi_57 ?_
          refine sv_iald hx hb hK hP 19 f19 (j := 57) (by omega) (by decide) dL_isSet_160 ?_
          refine W.eq (g2 := F0 mi 161 ls (.int (nI (f 57)) :: [.int (nI S)])) rfl ?_
          refine sv_top (y := nI b) (by rw [hTI.2.2.2.1]) ?_
          refine lv_ishr hx hb dL_isSet_161 ?_
          refine sv_top (y := nI (S / 2 ^ b)) (sh_r (by omega) hS31) ?_
          refine lv_iconst (v := nI 1) hx hb dL_isSet_162 ci_1 ?_
          refine lv_iand hx hb dL_isSet_163 ?_
          refine sv_top (y := nI (S / 2 ^ b % 2)) (an_1) ?_
          refine lv_iconst (v := nI 1) hx hb dL_isSet_164 ci_1 ?_
          refine st_icmp_ne (tgt := 212) hx hb dL_isSet_165 (by decide) (fun c39 => absurd (lz_stdy hS1 c7) (by rw [c39]; decide)) (fun c39 => ?_)
          refine lv_iload_n hx hb dL_isSet_168 rfl (lv_at hl 2 rfl) ?_
          refine pcS (c_L_ones hS31) ⟨hx, hb, hml, hown, hts⟩ hK gL_isSet_L_ones rfl hd_L_ones ⟨by omega, by omega⟩ rfl hl.1 rfl (Nat.le_of_ble_eq_true rfl) dL_isSet_169 ⟨Nat.zero_le _, Nat.zero_le _⟩ hS (fun locs hS => ?_)
          refine lv_iconst (v := nI 1) hx hb dL_isSet_172 ci_1 ?_
          refine sn_icmp_gt (tgt := 192) hx hb dL_isSet_173 (by decide) (lz_cntb _) (by decide) (fun c40 => ?_) (fun c40 => ?_)
          · refine lv_aload_n hx hb dL_isSet_192 rfl (lv_at hl 0 rfl) ?_
            refine lv_iload_n hx hb dL_isSet_193 rfl (lv_at hl 2 rfl) ?_
            obtain ⟨fs0, g0⟩ := hap.at0
            refine mcV (c_X4_isConnected_0 hP hD hap hLR.1 hS1 hS2) ⟨hx, hb, hml, hown, hts⟩ hK gL_isSet_X4_isConnected rfl hd_X4_isConnected ⟨by omega, by omega⟩ (va_recv hK hP (ci := 4) (q0 := 0) rfl g0) rfl hl.1 rfl (Nat.le_of_ble_eq_true rfl) dL_isSet_194 ⟨Nat.zero_le _, Nat.zero_le _⟩ hS (fun rv ws41 H locs hq43 hP hD hS => ?_)
            obtain ⟨hr44, hap, fr42⟩ := hq43
            replace f19 := (fr42 19 (by decide)).trans f19
            refine sv_top (y := bI (conn C S)) hr44 ?_
            refine sb_if_ne (tgt := 208) hx hb dL_isSet_197 (by decide) (fun c45 => ?_) (fun c45 => ?_)
            · refine lv_iconst (v := nI 1) hx hb dL_isSet_208 ci_1 ?_
              refine lv_goto (tgt := 213) hx hb dL_isSet_209 (by decide) ?_
              exact hret 213 ls _ _ locs _ dL_isSet_213 hP hD hS rfl (⟨rfl, hap, (((fr.wd frwl5 : fr _ _ 0 18).tr fr4).tr fr42)⟩)
            · refine lv_aload_n hx hb dL_isSet_200 rfl (lv_at hl 0 rfl) ?_
              refine lv_iload_n hx hb dL_isSet_201 rfl (lv_at hl 2 rfl) ?_
              obtain ⟨fs0, g0⟩ := hap.at0
              refine mcV (c_X4_splits_0 hP hD hap hLR.1 hS1 hS2) ⟨hx, hb, hml, hown, hts⟩ hK gL_isSet_X4_splits rfl hd_X4_splits ⟨by omega, by omega⟩ (va_recv hK hP (ci := 4) (q0 := 0) rfl g0) rfl hl.1 rfl (Nat.le_of_ble_eq_true rfl) dL_isSet_202 ⟨Nat.zero_le _, Nat.zero_le _⟩ hS (fun rv ws46 H locs hq48 hP hD hS => ?_)
              obtain ⟨hr49, hap, fr47⟩ := hq48
              replace f19 := (fr47 19 (by decide)).trans f19
              refine sv_top (y := nI (spc C Hd n S)) hr49 ?_
              refine sn_if_ne (tgt := 212) hx hb dL_isSet_205 (by decide) (lz_spcb _ (by omega)) (fun c50 => absurd (lz_spcn c45) c50) (fun c50 => ?_)
              refine lv_iconst (v := nI 1) hx hb dL_isSet_208 ci_1 ?_
              refine lv_goto (tgt := 213) hx hb dL_isSet_209 (by decide) ?_
              exact hret 213 ls _ _ locs _ dL_isSet_213 hP hD hS rfl (⟨rfl, hap, ((((fr.wd frwl5 : fr _ _ 0 18).tr fr4).tr fr42).tr fr47)⟩)
          · refine lv_aload_n hx hb dL_isSet_176 rfl (lv_at hl 0 rfl) ?_
            refine lv_iload_n hx hb dL_isSet_177 rfl (lv_at hl 2 rfl) ?_
            obtain ⟨fs0, g0⟩ := hap.at0
            refine mcV (c_X4_isConnected_0 hP hD hap hLR.1 hS1 hS2) ⟨hx, hb, hml, hown, hts⟩ hK gL_isSet_X4_isConnected rfl hd_X4_isConnected ⟨by omega, by omega⟩ (va_recv hK hP (ci := 4) (q0 := 0) rfl g0) rfl hl.1 rfl (Nat.le_of_ble_eq_true rfl) dL_isSet_178 ⟨Nat.zero_le _, Nat.zero_le _⟩ hS (fun rv ws51 H locs hq53 hP hD hS => ?_)
            obtain ⟨hr54, hap, fr52⟩ := hq53
            replace f19 := (fr52 19 (by decide)).trans f19
            refine sv_top (y := bI (conn C S)) hr54 ?_
            refine sb_if_eq (tgt := 212) hx hb dL_isSet_181 (by decide) (fun c55 => absurd (one_conn (C := C) (by omega) (by omega) (lz_one S (by omega) hS1 (by omega))) (by rw [c55]; decide)) (fun c55 => ?_)
            refine lv_aload_n hx hb dL_isSet_184 rfl (lv_at hl 0 rfl) ?_
            refine lv_iload_n hx hb dL_isSet_185 rfl (lv_at hl 2 rfl) ?_
            obtain ⟨fs0, g0⟩ := hap.at0
            refine mcV (c_X4_splits_0 hP hD hap hLR.1 hS1 hS2) ⟨hx, hb, hml, hown, hts⟩ hK gL_isSet_X4_splits rfl hd_X4_splits ⟨by omega, by omega⟩ (va_recv hK hP (ci := 4) (q0 := 0) rfl g0) rfl hl.1 rfl (Nat.le_of_ble_eq_true rfl) dL_isSet_186 ⟨Nat.zero_le _, Nat.zero_le _⟩ hS (fun rv ws56 H locs hq58 hP hD hS => ?_)
            obtain ⟨hr59, hap, fr57⟩ := hq58
            replace f19 := (fr57 19 (by decide)).trans f19
            refine sv_top (y := nI (spc C Hd n S)) hr59 ?_
            refine sn_if_ne (tgt := 212) hx hb dL_isSet_189 (by decide) (lz_spcb _ (by omega)) (fun c60 => absurd (lz_spc1 (by omega) (lz_one S (by omega) hS1 (by omega))) c60) (fun c60 => ?_)
            refine lv_aload_n hx hb dL_isSet_192 rfl (lv_at hl 0 rfl) ?_
            refine lv_iload_n hx hb dL_isSet_193 rfl (lv_at hl 2 rfl) ?_
            obtain ⟨fs0, g0⟩ := hap.at0
            refine mcV (c_X4_isConnected_0 hP hD hap hLR.1 hS1 hS2) ⟨hx, hb, hml, hown, hts⟩ hK gL_isSet_X4_isConnected rfl hd_X4_isConnected ⟨by omega, by omega⟩ (va_recv hK hP (ci := 4) (q0 := 0) rfl g0) rfl hl.1 rfl (Nat.le_of_ble_eq_true rfl) dL_isSet_194 ⟨Nat.zero_le _, Nat.zero_le _⟩ hS (fun rv ws61 H locs hq63 hP hD hS => ?_)
            obtain ⟨hr64, hap, fr62⟩ := hq63
            replace f19 := (fr62 19 (by decide)).trans f19
            refine sv_top (y := bI (conn C S)) hr64 ?_
            refine sb_if_ne (tgt := 208) hx hb dL_isSet_197 (by decide) (fun c65 => ?_) (fun c65 => ?_)
            · refine lv_iconst (v := nI 1) hx hb dL_isSet_208 ci_1 ?_
              refine lv_goto (tgt := 213) hx hb dL_isSet_209 (by decide) ?_
              exact hret 213 ls _ _ locs _ dL_isSet_213 hP hD hS rfl (⟨rfl, hap, (((((fr.wd frwl5 : fr _ _ 0 18).tr fr4).tr fr52).tr fr57).tr fr62)⟩)
            · refine lv_aload_n hx hb dL_isSet_200 rfl (lv_at hl 0 rfl) ?_
              refine lv_iload_n hx hb dL_isSet_201 rfl (lv_at hl 2 rfl) ?_
              obtain ⟨fs0, g0⟩ := hap.at0
              refine mcV (c_X4_splits_0 hP hD hap hLR.1 hS1 hS2) ⟨hx, hb, hml, hown, hts⟩ hK gL_isSet_X4_splits rfl hd_X4_splits ⟨by omega, by omega⟩ (va_recv hK hP (ci := 4) (q0 := 0) rfl g0) rfl hl.1 rfl (Nat.le_of_ble_eq_true rfl) dL_isSet_202 ⟨Nat.zero_le _, Nat.zero_le _⟩ hS (fun rv ws66 H locs hq68 hP hD hS => ?_)
              obtain ⟨hr69, hap, fr67⟩ := hq68
              replace f19 := (fr67 19 (by decide)).trans f19
              refine sv_top (y := nI (spc C Hd n S)) hr69 ?_
              refine sn_if_ne (tgt := 212) hx hb dL_isSet_205 (by decide) (lz_spcb _ (by omega)) (fun c70 => absurd (lz_spcn c65) c70) (fun c70 => ?_)
              refine lv_iconst (v := nI 1) hx hb dL_isSet_208 ci_1 ?_
              refine lv_goto (tgt := 213) hx hb dL_isSet_209 (by decide) ?_
              exact hret 213 ls _ _ locs _ dL_isSet_213 hP hD hS rfl (⟨rfl, hap, ((((((fr.wd frwl5 : fr _ _ 0 18).tr fr4).tr fr52).tr fr57).tr fr62).tr fr67)⟩)
      · refine lv_iload_n hx hb dL_isSet_14 rfl (lv_at hl 3 rfl) ?_
        refine sn_if_eq (tgt := 144) hx hb dL_isSet_15 (by decide) (by decide) (fun q => absurd q (by decide)) (fun _ => ?_)
        refine lv_iload_n hx hb dL_isSet_18 rfl (lv_at hl 2 rfl) ?_
        refine lv_iload hx hb dL_isSet_19 (lv_at hl 4 rfl) ?_
        refine lv_ishr hx hb dL_isSet_21 ?_
        refine sv_top (y := nI (S / 2 ^ p)) (sh_r (by omega) hS31) ?_
        refine lv_iconst (v := nI 1) hx hb dL_isSet_22 ci_1 ?_
        refine lv_iand hx hb dL_isSet_23 ?_
        refine sv_top (y := nI (S / 2 ^ p % 2)) (an_1) ?_
        refine lv_iconst (v := nI 1) hx hb dL_isSet_24 ci_1 ?_
        refine st_icmp_ne (tgt := 138) hx hb dL_isSet_25 (by decide) (fun c72 => ?_) (fun c72 => ?_)
        · refine lv_iinc (v := nI (p + 1)) (lv' := [(4, .int (nI (p + 1))), (0, .ref x), (1, .ref o9), (2, .int (nI S)), (3, .int (nI 1))]) hx hb dL_isSet_138 hl (k := 4) rfl (nI_1 _) (by decide) rfl (fun ls hl => ?_)
          refine lv_goto (tgt := 5) hx hb dL_isSet_141 (by decide) ?_
          exact ih5 (p + 1) (by omega) _ _ (by omega) hP hD f19 hap (fr.wd frwl5 : fr _ _ 0 18) ls locs (lv_sub hl [1, 2, 3, 4, 0] rfl) hS
        · refine lv_iconst (v := nI 0) hx hb dL_isSet_28 ci_0 ?_
          refine lv_istore (lv' := [(5, .int (nI 0)), (0, .ref x), (1, .ref o9), (2, .int (nI S)), (3, .int (nI 1)), (4, .int (nI p))]) hx hb dL_isSet_29 hl (by decide) rfl (fun ls hl => ?_)
          refine lv_iconst (v := nI 0) hx hb dL_isSet_31 ci_0 ?_
          refine lv_istore (lv' := [(6, .int (nI 0)), (5, .int (nI 0)), (0, .ref x), (1, .ref o9), (2, .int (nI S)), (3, .int (nI 1)), (4, .int (nI p))]) hx hb dL_isSet_32 hl (by decide) rfl (fun ls hl => ?_)
          have L34 : ∀ (L34d : Nat) (d : Nat), 6 - d < L34d → ∀ (wl34 : va_W) (H : Heap), d ≤ 6 → va_P D CL wl34 H → va_D A wl34 → wl34[19]? = some (o9, .inl (ky.1, 59, .inl (fun i => nI (f i)))) → AP ky wl34 x n T C Hd b q J bg pi bu tm tl K → fr ws wl34 0 18 → ∀ (ls : Array Slot) (locs : List Loc), lv_has ls 7 [(0, .ref x), (1, .ref o9), (2, .int (nI S)), (3, .int (nI 1)), (4, .int (nI p)), (5, .int (nI (itr (frs Hd S p) d 0))), (6, .int (nI d))] → va_S A Hs H locs → W pg l en Rm sg mi av below meth co H locs 0 0 Qo (F0 mi 34 ls []) := by
            intro L34d
            induction L34d with
            | zero => intro d hfu; exact absurd hfu (Nat.not_lt_zero _)
            | succ L34d ih34 =>
              intro d hfu wl34 H i34_0 hP hD f19 hap frwl34 ls locs hl hS
              refine lv_iload hx hb dL_isSet_34 (lv_at hl 6 rfl) ?_
              refine lv_bipush (v := nI 6) hx hb dL_isSet_36 bi_6 ?_
              refine sn_icmp_ge (tgt := 75) hx hb dL_isSet_38 (by decide) (by omega) (by decide) (fun c73 => ?_) (fun c73 => ?_)
              · have e5 : nI (itr (frs Hd S p) d 0) = nI (frd Hd S p) := by rw [show d = 6 by omega]; rfl
                rw [e5] at hl
                refine lv_aload_n hx hb dL_isSet_75 rfl (lv_at hl 0 rfl) ?_
                refine lv_iload_n hx hb dL_isSet_76 rfl (lv_at hl 2 rfl) ?_
                refine lv_iload hx hb dL_isSet_77 (lv_at hl 4 rfl) ?_
                obtain ⟨fs0, g0⟩ := hap.at0
                refine mcV (c_X4_free_0 hP hD hap hLR.1 hS1 hS2 (by omega) (by assumption)) ⟨hx, hb, hml, hown, hts⟩ hK gL_isSet_X4_free rfl hd_X4_free ⟨by omega, by omega⟩ (va_recv hK hP (ci := 4) (q0 := 0) rfl g0) rfl hl.1 rfl (Nat.le_of_ble_eq_true rfl) dL_isSet_79 ⟨Nat.zero_le _, Nat.zero_le _⟩ hS (fun rv ws74 H locs hq76 hP hD hS => ?_)
                obtain ⟨hr77, hap, fr75⟩ := hq76
                replace f19 := (fr75 19 (by decide)).trans f19
                refine sv_top (y := nI (frd Hd S p)) hr77 ?_
                refine lv_iload hx hb dL_isSet_82 (lv_at hl 5 rfl) ?_
                refine lv_icmp_ne (tgt := 136) hx hb dL_isSet_84 (by decide) (fun z => absurd rfl z) (fun _ => ?_)
                refine lv_aload_n hx hb dL_isSet_87 rfl (lv_at hl 0 rfl) ?_
                refine lv_iload_n hx hb dL_isSet_88 rfl (lv_at hl 2 rfl) ?_
                refine lv_iload hx hb dL_isSet_89 (lv_at hl 4 rfl) ?_
                obtain ⟨fs0, g0⟩ := hap.at0
                refine mcV (c_X4_canTake_0 hP hD hap hLR.1 hS1 hS2 (by omega) (by assumption)) ⟨hx, hb, hml, hown, hts⟩ hK gL_isSet_X4_canTake rfl hd_X4_canTake ⟨by omega, by omega⟩ (va_recv hK hP (ci := 4) (q0 := 0) rfl g0) rfl hl.1 rfl (Nat.le_of_ble_eq_true rfl) dL_isSet_91 ⟨Nat.zero_le _, Nat.zero_le _⟩ hS (fun rv ws78 H locs hq80 hP hD hS => ?_)
                obtain ⟨hr81, hap, fr79⟩ := hq80
                replace f19 := (fr79 19 (by decide)).trans f19
                refine sv_top (y := bI (tke C Hd b q S p)) hr81 ?_
                refine lv_aload_n hx hb dL_isSet_94 rfl (lv_at hl 0 rfl) ?_
                refine lv_aload_n hx hb dL_isSet_95 rfl (lv_at hl 1 rfl) ?_
                refine lv_iload_n hx hb dL_isSet_96 rfl (lv_at hl 2 rfl) ?_
                refine mcS (c_L_isSound hP hD hap f19 hTI hLR hS2) ⟨hx, hb, hml, hown, hts⟩ hK gL_isSet_L_isSound rfl hd_L_isSound ⟨by omega, by omega⟩ rfl hl.1 rfl (Nat.le_of_ble_eq_true rfl) dL_isSet_97 ⟨Nat.zero_le _, Nat.zero_le _⟩ hS (fun rv ws82 H locs hq84 hP hD hS => ?_)
                obtain ⟨hr85, hap, fr83⟩ := hq84
                replace f19 := (fr83 19 (by decide)).trans f19
                refine sv_top (y := bI (sou C Hd b q S)) hr85 ?_
                refine sb_if_eq (tgt := 128) hx hb dL_isSet_100 (by decide) (fun c86 => ?_) (fun c86 => ?_)
                · refine lv_iconst (v := nI 0) hx hb dL_isSet_128 ci_0 ?_
                  refine lv_icmp_ne (tgt := 136) hx hb dL_isSet_129 (by decide) (fun c87 => absurd (bI_f (b := tke C Hd b q S p) (by unfold tke; rw [c86]; rfl)).symm c87) (fun c87 => ?_)
                  refine lv_iconst (v := nI 1) hx hb dL_isSet_132 ci_1 ?_
                  refine lv_goto (tgt := 137) hx hb dL_isSet_133 (by decide) ?_
                  refine lv_istore_n (lv' := [(3, .int (nI 1)), (0, .ref x), (1, .ref o9), (2, .int (nI S)), (4, .int (nI p)), (5, .int (nI (frd Hd S p))), (6, .int (nI d))]) hx hb dL_isSet_137 rfl hl (by decide) rfl (fun ls hl => ?_)
                  refine lv_iinc (v := nI (p + 1)) (lv' := [(4, .int (nI (p + 1))), (3, .int (nI 1)), (0, .ref x), (1, .ref o9), (2, .int (nI S)), (5, .int (nI (frd Hd S p))), (6, .int (nI d))]) hx hb dL_isSet_138 hl (k := 4) rfl (nI_1 _) (by decide) rfl (fun ls hl => ?_)
                  refine lv_goto (tgt := 5) hx hb dL_isSet_141 (by decide) ?_
                  exact ih5 (p + 1) (by omega) _ _ (by omega) hP hD f19 hap ((((fr.wd frwl34 : fr _ _ 0 18).tr fr75).tr fr79).tr fr83) ls locs (lv_sub hl [2, 3, 4, 1, 0] rfl) hS
                · refine lv_iload hx hb dL_isSet_103 (lv_at hl 5 rfl) ?_
                  refine sn_if_eq (tgt := 128) hx hb dL_isSet_105 (by decide) (Nat.lt_trans (frd_lt _ _ _) (by decide)) (fun c88 => ?_) (fun c88 => ?_)
                  · refine lv_iconst (v := nI 0) hx hb dL_isSet_128 ci_0 ?_
                    refine lv_icmp_ne (tgt := 136) hx hb dL_isSet_129 (by decide) (fun c89 => absurd (bI_f (b := tke C Hd b q S p) (by unfold tke; rw [decide_eq_false (p := frd Hd S p ≠ 0) (fun z => z c88)]; simp)).symm c89) (fun c89 => ?_)
                    refine lv_iconst (v := nI 1) hx hb dL_isSet_132 ci_1 ?_
                    refine lv_goto (tgt := 137) hx hb dL_isSet_133 (by decide) ?_
                    refine lv_istore_n (lv' := [(3, .int (nI 1)), (0, .ref x), (1, .ref o9), (2, .int (nI S)), (4, .int (nI p)), (5, .int (nI (frd Hd S p))), (6, .int (nI d))]) hx hb dL_isSet_137 rfl hl (by decide) rfl (fun ls hl => ?_)
                    refine lv_iinc (v := nI (p + 1)) (lv' := [(4, .int (nI (p + 1))), (3, .int (nI 1)), (0, .ref x), (1, .ref o9), (2, .int (nI S)), (5, .int (nI (frd Hd S p))), (6, .int (nI d))]) hx hb dL_isSet_138 hl (k := 4) rfl (nI_1 _) (by decide) rfl (fun ls hl => ?_)
                    refine lv_goto (tgt := 5) hx hb dL_isSet_141 (by decide) ?_
                    exact ih5 (p + 1) (by omega) _ _ (by omega) hP hD f19 hap ((((fr.wd frwl34 : fr _ _ 0 18).tr fr75).tr fr79).tr fr83) ls locs (lv_sub hl [2, 3, 4, 1, 0] rfl) hS
                  · refine lv_aload_n hx hb dL_isSet_108 rfl (lv_at hl 0 rfl) ?_
                    refine lv_aload_n hx hb dL_isSet_109 rfl (lv_at hl 1 rfl) ?_
                    refine lv_iload_n hx hb dL_isSet_110 rfl (lv_at hl 2 rfl) ?_
                    refine lv_iconst (v := nI 1) hx hb dL_isSet_111 ci_1 ?_
                    refine lv_iload hx hb dL_isSet_112 (lv_at hl 4 rfl) ?_
                    refine lv_ishl hx hb dL_isSet_114 ?_
                    refine sv_top (y := nI (2 ^ p)) (sh_l1 (by omega)) ?_
                    refine lv_iconst (v := -1) hx hb dL_isSet_115 ci_m1 ?_
                    refine lv_ixor hx hb dL_isSet_116 ?_
                    refine lv_iand hx hb dL_isSet_117 ?_
                    refine sv_top (y := nI (clr S (2 ^ p))) (an_not _ _) ?_
                    refine mcS (c_L_isSound hP hD hap f19 hTI hLR (clr_lt hS2)) ⟨hx, hb, hml, hown, hts⟩ hK gL_isSet_L_isSound rfl hd_L_isSound ⟨by omega, by omega⟩ rfl hl.1 rfl (Nat.le_of_ble_eq_true rfl) dL_isSet_118 ⟨Nat.zero_le _, Nat.zero_le _⟩ hS (fun rv ws90 H locs hq92 hP hD hS => ?_)
                    obtain ⟨hr93, hap, fr91⟩ := hq92
                    replace f19 := (fr91 19 (by decide)).trans f19
                    refine sv_top (y := bI (sou C Hd b q (clr S (2 ^ p)))) hr93 ?_
                    refine sb_if_eq (tgt := 128) hx hb dL_isSet_121 (by decide) (fun c94 => ?_) (fun c94 => ?_)
                    · refine lv_iconst (v := nI 0) hx hb dL_isSet_128 ci_0 ?_
                      refine lv_icmp_ne (tgt := 136) hx hb dL_isSet_129 (by decide) (fun c95 => absurd (bI_f (b := tke C Hd b q S p) (by unfold tke; rw [c94]; simp)).symm c95) (fun c95 => ?_)
                      refine lv_iconst (v := nI 1) hx hb dL_isSet_132 ci_1 ?_
                      refine lv_goto (tgt := 137) hx hb dL_isSet_133 (by decide) ?_
                      refine lv_istore_n (lv' := [(3, .int (nI 1)), (0, .ref x), (1, .ref o9), (2, .int (nI S)), (4, .int (nI p)), (5, .int (nI (frd Hd S p))), (6, .int (nI d))]) hx hb dL_isSet_137 rfl hl (by decide) rfl (fun ls hl => ?_)
                      refine lv_iinc (v := nI (p + 1)) (lv' := [(4, .int (nI (p + 1))), (3, .int (nI 1)), (0, .ref x), (1, .ref o9), (2, .int (nI S)), (5, .int (nI (frd Hd S p))), (6, .int (nI d))]) hx hb dL_isSet_138 hl (k := 4) rfl (nI_1 _) (by decide) rfl (fun ls hl => ?_)
                      refine lv_goto (tgt := 5) hx hb dL_isSet_141 (by decide) ?_
                      exact ih5 (p + 1) (by omega) _ _ (by omega) hP hD f19 hap (((((fr.wd frwl34 : fr _ _ 0 18).tr fr75).tr fr79).tr fr83).tr fr91) ls locs (lv_sub hl [2, 3, 4, 1, 0] rfl) hS
                    · refine lv_iconst (v := nI 1) hx hb dL_isSet_124 ci_1 ?_
                      refine lv_goto (tgt := 129) hx hb dL_isSet_125 (by decide) ?_
                      refine lv_icmp_ne (tgt := 136) hx hb dL_isSet_129 (by decide) (fun c96 => absurd (bI_t (b := tke C Hd b q S p) (by unfold tke; rw [c86, decide_eq_true c88, c94]; rfl)).symm c96) (fun c96 => ?_)
                      refine lv_iconst (v := nI 1) hx hb dL_isSet_132 ci_1 ?_
                      refine lv_goto (tgt := 137) hx hb dL_isSet_133 (by decide) ?_
                      refine lv_istore_n (lv' := [(3, .int (nI 1)), (0, .ref x), (1, .ref o9), (2, .int (nI S)), (4, .int (nI p)), (5, .int (nI (frd Hd S p))), (6, .int (nI d))]) hx hb dL_isSet_137 rfl hl (by decide) rfl (fun ls hl => ?_)
                      refine lv_iinc (v := nI (p + 1)) (lv' := [(4, .int (nI (p + 1))), (3, .int (nI 1)), (0, .ref x), (1, .ref o9), (2, .int (nI S)), (5, .int (nI (frd Hd S p))), (6, .int (nI d))]) hx hb dL_isSet_138 hl (k := 4) rfl (nI_1 _) (by decide) rfl (fun ls hl => ?_)
                      refine lv_goto (tgt := 5) hx hb dL_isSet_141 (by decide) ?_
                      exact ih5 (p + 1) (by omega) _ _ (by omega) hP hD f19 hap (((((fr.wd frwl34 : fr _ _ 0 18).tr fr75).tr fr79).tr fr83).tr fr91) ls locs (lv_sub hl [2, 3, 4, 1, 0] rfl) hS
              · refine lv_iload hx hb dL_isSet_41 (lv_at hl 5 rfl) ?_
                refine lv_aload_n hx hb dL_isSet_43 rfl (lv_at hl 1 rfl) ?_
                refine lv_bipush (v := nI 8) hx hb dL_isSet_44 bi_8 ?_
                refine lv_iload hx hb dL_isSet_46 (lv_at hl 6 rfl) ?_
                refine lv_imul hx hb dL_isSet_48 ?_
                refine sv_top (y := nI (8 * d)) (mul_n _ _) ?_
                refine lv_iload hx hb dL_isSet_49 (lv_at hl 4 rfl) ?_
                refine lv_iadd hx hb dL_isSet_51 ?_
                refine sv_top (y := nI (8 * d + p)) (nI_add _ _) ?_
                refine sv_iald hx hb hK hP 19 f19 (j := 8 * d + p) (by omega) (by decide) dL_isSet_52 ?_
                refine W.eq (g2 := F0 mi 53 ls (.int (nI (f (8 * d + p))) :: [.int (nI (itr (frs Hd S p) d 0))])) rfl ?_
                refine sv_top (y := nI (Hd (8 * d + p))) (by rw [hTI.1 (8 * d + p) (by omega)]) ?_
                refine lv_iload_n hx hb dL_isSet_53 rfl (lv_at hl 2 rfl) ?_
                refine lv_iand hx hb dL_isSet_54 ?_
                refine sv_top (y := nI ((Hd (8 * d + p)) &&& S)) (an_and _ _) ?_
                refine sn_if_ne (tgt := 65) hx hb dL_isSet_55 (by decide) (and_b2 hS31) (fun c97 => ?_) (fun c97 => ?_)
                · refine lv_iconst (v := nI 0) hx hb dL_isSet_65 ci_0 ?_
                  refine lv_ior hx hb dL_isSet_66 ?_
                  refine sv_top (y := nI ((itr (frs Hd S p) d 0) ||| 0)) (an_or _ _) ?_
                  refine lv_istore (lv' := [(5, .int (nI ((itr (frs Hd S p) d 0) ||| 0))), (0, .ref x), (1, .ref o9), (2, .int (nI S)), (3, .int (nI 1)), (4, .int (nI p)), (6, .int (nI d))]) hx hb dL_isSet_67 hl (by decide) rfl (fun ls hl => ?_)
                  refine lv_iinc (v := nI (d + 1)) (lv' := [(6, .int (nI (d + 1))), (5, .int (nI ((itr (frs Hd S p) d 0) ||| 0))), (0, .ref x), (1, .ref o9), (2, .int (nI S)), (3, .int (nI 1)), (4, .int (nI p))]) hx hb dL_isSet_69 hl (k := 6) rfl (nI_1 _) (by decide) rfl (fun ls hl => ?_)
                  refine lv_goto (tgt := 34) hx hb dL_isSet_72 (by decide) ?_
                  have e5 : nI ((itr (frs Hd S p) d 0) ||| 0) = nI (itr (frs Hd S p) (d + 1) 0) := (congrArg nI (show _ = frs Hd S p d _ from (Nat.or_zero _).trans (if_neg c97).symm))
                  rw [e5] at hl
                  exact ih34 (d + 1) (by omega) _ _ (by omega) hP hD f19 hap (fr.wd frwl34 : fr _ _ 0 18) ls locs (lv_sub hl [2, 3, 4, 5, 6, 1, 0] rfl) hS
                · refine lv_iconst (v := nI 1) hx hb dL_isSet_58 ci_1 ?_
                  refine lv_iload hx hb dL_isSet_59 (lv_at hl 6 rfl) ?_
                  refine lv_ishl hx hb dL_isSet_61 ?_
                  refine sv_top (y := nI (2 ^ d)) (sh_l1 (by omega)) ?_
                  refine lv_goto (tgt := 66) hx hb dL_isSet_62 (by decide) ?_
                  refine lv_ior hx hb dL_isSet_66 ?_
                  refine sv_top (y := nI ((itr (frs Hd S p) d 0) ||| (2 ^ d))) (an_or _ _) ?_
                  refine lv_istore (lv' := [(5, .int (nI ((itr (frs Hd S p) d 0) ||| (2 ^ d)))), (0, .ref x), (1, .ref o9), (2, .int (nI S)), (3, .int (nI 1)), (4, .int (nI p)), (6, .int (nI d))]) hx hb dL_isSet_67 hl (by decide) rfl (fun ls hl => ?_)
                  refine lv_iinc (v := nI (d + 1)) (lv' := [(6, .int (nI (d + 1))), (5, .int (nI ((itr (frs Hd S p) d 0) ||| (2 ^ d)))), (0, .ref x), (1, .ref o9), (2, .int (nI S)), (3, .int (nI 1)), (4, .int (nI p))]) hx hb dL_isSet_69 hl (k := 6) rfl (nI_1 _) (by decide) rfl (fun ls hl => ?_)
                  refine lv_goto (tgt := 34) hx hb dL_isSet_72 (by decide) ?_
                  have e5 : nI ((itr (frs Hd S p) d 0) ||| (2 ^ d)) = nI (itr (frs Hd S p) (d + 1) 0) := (congrArg nI (show _ = frs Hd S p d _ from (if_pos c97).symm))
                  rw [e5] at hl
                  exact ih34 (d + 1) (by omega) _ _ (by omega) hP hD f19 hap (fr.wd frwl34 : fr _ _ 0 18) ls locs (lv_sub hl [2, 3, 4, 5, 6, 1, 0] rfl) hS
          exact L34 ((6 - 0) + 1) 0 (Nat.lt_succ_self _) _ _ (Nat.zero_le _) hP hD f19 hap (fr.wd frwl5 : fr _ _ 0 18) ls locs (lv_sub hl [2, 3, 4, 5, 6, 1, 0] rfl) hS
  exact L5 ((n - 0) + 1) 0 (Nat.lt_succ_self _) _ _ (Nat.zero_le _) hP hD f19 hap fr.rf ls locs (lv_sub hl [2, 3, 4, 1, 0] rfl) hS
