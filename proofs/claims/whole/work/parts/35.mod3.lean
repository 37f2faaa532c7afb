theorem hd_X5_canAdd : yX5_canAdd.cls = RX5 ∧ yX5_canAdd.cls ≠ "java/lang/invoke/MethodHandle" ∧ yX5_canAdd.cls ≠ "java/lang/invoke/VarHandle" ∧ (parseMethodDescriptor yX5_canAdd.desc).map (fun d => d.parameters.length) = some 2 := by decide +kernel
theorem hd_X5_comesApart : yX5_comesApart.cls = RX5 ∧ yX5_comesApart.cls ≠ "java/lang/invoke/MethodHandle" ∧ yX5_comesApart.cls ≠ "java/lang/invoke/VarHandle" ∧ (parseMethodDescriptor yX5_comesApart.desc).map (fun d => d.parameters.length) = some 0 := by decide +kernel
set_option maxHeartbeats 4000000 in
set_option maxRecDepth 100000 in
theorem c_X5_comesApart {l : Launch} {D : va_G} {ky : kT} {A : Nat → Prop} {Hs : Heap} {ws : va_W} (hP : va_P D CL ws Hs) (hD : va_D A ws) {h th n : Nat} {T C Hd : Nat → Nat} {b : Nat} {q : Bool} {J : Nat → Nat} {bg : Bool} {pu bu : Nat} {cl mo : Int32} {K : Nat → Nat} {fw fd fc fg fo : Nat → Int32} (hpr : isMod ky ws h th n T C Hd b q J bg pu bu cl mo K fw fd fc fg fo) (hI : PI0 n C Hd b) : MV l yX5_comesApart wsX5_comesApart 3 70 0 0 D ky A Hs [.ref h] (fun w => (∃ gw gd : Nat → Int32, isMod ky w h th n T C Hd b q J bg pu bu cl mo K gw gd fc fg fo ∧ mtOK C Hd n (2 ^ n) gw gd) ∧ fr ws w 19 29) := by
  refine MV.of (cc := cX5_comesApart) (maxL := 6) (by decide) rfl (Nat.le_of_ble_eq_true rfl) ?_
  intro pg en Rm sg mi av below meth co Qo hRf hRl hRc hRs hx hb hml hown hin hts hK hret ls hl
  have hl : lv_has ls 6 [(0, .ref h)] := hl
  have hS : va_S A Hs Hs [] := va_S.rf
  generalize ([] : List Loc) = locs at hS ⊢
  obtain ⟨a1, a2, a3, a4, a5, a6, a7, a8, a9, a10, g19, g20, g21, g22, g23, g24, g25, g26, g27, g28, g29⟩ := id hpr
  have hn8 := hI.1
  have hp2 := p2_le hn8
  have hp1 : 1 ≤ 2 ^ n := Nat.one_le_two_pow
  have k25 := hts (.fieldLink RX5 25 "AssemblyPlannerModel" "ways" "[I") (by decide +kernel)
  have hinX5 : ∀ w ∈ wsX50, w ∈ wsX5_comesApart := by decide +kernel
  have k28 := hts (.fieldLink RX5 28 "AssemblyPlannerModel" "depths" "[I") (by decide +kernel)
  refine lv_iconst (v := nI 1) hx hb dX5_comesApart_0 ci_1 ?_
  refine lv_istore_n (lv' := [(1, .int (nI 1)), (0, .ref h)]) hx hb dX5_comesApart_1 rfl hl (by decide) rfl (fun ls hl => ?_)
  have L2 : ∀ (L2d : Nat) (t : Nat) (gw : Nat → Int32) (gd : Nat → Int32), 2 ^ n - t < L2d → ∀ (wl2 : va_W) (H : Heap), 1 ≤ t → t ≤ 2 ^ n → mtOK C Hd n t gw gd → va_P D CL wl2 H → va_D A wl2 → wl2[19]? = some (h, .inr (5, [.int (nI th), .int (nI n), .ref a1, .ref a2, .ref a3, .int (nI b), .int (bI q), .ref a4, .int (bI bg), .int (nI pu), .int (nI bu), .int cl, .int mo, .ref a5, .ref a6, .ref a7, .ref a8, .ref a9, .ref a10])) → wl2[20]? = some (a1, .inl (ky.1, 8, .inl (fun i => nI (T i)))) → wl2[21]? = some (a2, .inl (ky.1, 8, .inl (fun i => nI (C i)))) → wl2[22]? = some (a3, .inl (ky.1, 48, .inl (fun i => nI (Hd i)))) → wl2[23]? = some (a4, .inl (ky.1, 8, .inl (fun i => nI (J i)))) → wl2[24]? = some (a5, .inl (ky.1, 8, .inl (fun i => nI (K i)))) → wl2[25]? = some (a6, .inl (ky.1, 256, .inl gw)) → wl2[26]? = some (a7, .inl (ky.1, 256, .inl gd)) → wl2[27]? = some (a8, .inl (ky.1, 256, .inl fc)) → wl2[28]? = some (a9, .inl (ky.1, 2048, .inl fg)) → wl2[29]? = some (a10, .inl (ky.1, 8, .inl fo)) → fr ws wl2 19 29 → ∀ (ls : Array Slot) (locs : List Loc), lv_has ls 6 [(1, .int (nI t)), (0, .ref h)] → va_S A Hs H locs → W pg l en Rm sg mi av below meth co H locs 0 0 Qo (F0 mi 2 ls []) := by
    intro L2d
    induction L2d with
    | zero => intro t gw gd hfu; exact absurd hfu (Nat.not_lt_zero _)
    | succ L2d ih2 =>
      intro t gw gd hfu wl2 H i2_0 i2_1 i2_2 hP hD g19 g20 g21 g22 g23 g24 g25 g26 g27 g28 g29 frwl2 ls locs hl hS
      refine lv_iload_n hx hb dX5_comesApart_2 rfl (lv_at hl 0 rfl) ?_
      refine lv_aload_n hx hb dX5_comesApart_3 rfl (lv_at hl 1 rfl) ?_
      refine pcV (c_X5_whole hP ⟨a1, a2, a3, a4, a5, a6, a7, a8, a9, a10, g19, g20, g21, g22, g23, g24, g25, g26, g27, g28, g29⟩ (by omega)) ⟨hx, hb, hml, hown, hts⟩ hK gX5_comesApart_X5_whole rfl hd_X5_whole ⟨by omega, by omega⟩ (va_recv hK hP (ci := 5) (q0 := 19) rfl g19) rfl hl.1 rfl (Nat.le_of_ble_eq_true rfl) dX5_comesApart_4 ⟨Nat.zero_le _, Nat.zero_le _⟩ hS (fun locs hS => ?_)
      refine sn_icmp_gt (tgt := 188) hx hb dX5_comesApart_7 (by decide) (by omega) (Nat.lt_of_le_of_lt (Nat.sub_le _ _) (pw_lt (by omega))) (fun c1 => ?_) (fun c1 => ?_)
      · exact hret 188 ls _ _ locs dX5_comesApart_188 hP hD hS (⟨⟨gw, gd, ⟨a1, a2, a3, a4, a5, a6, a7, a8, a9, a10, g19, g20, g21, g22, g23, g24, g25, g26, g27, g28, g29⟩, by rw [show t = 2 ^ n by omega] at i2_2; exact i2_2⟩, (fr.wd frwl2 : fr _ _ 19 29)⟩)
      · have ht8 : t < 256 := by omega
        refine lv_iload_n hx hb dX5_comesApart_10 rfl (lv_at hl 0 rfl) ?_
        refine lv_iload_n hx hb dX5_comesApart_11 rfl (lv_at hl 0 rfl) ?_
        refine lv_iconst (v := nI 1) hx hb dX5_comesApart_12 ci_1 ?_
        refine lv_isub hx hb dX5_comesApart_13 ?_
        refine sv_top (y := nI (t - 1)) (pk_sub (by omega)) ?_
        refine lv_iand hx hb dX5_comesApart_14 ?_
        refine sv_top (y := nI (t &&& (t - 1))) (an_and _ _) ?_
        refine sn_if_ne (tgt := 22) hx hb dX5_comesApart_15 (by decide) (Nat.lt_of_le_of_lt Nat.and_le_left (by omega)) (fun c2 => ?_) (fun c2 => ?_)
        · refine lv_iconst (v := nI 0) hx hb dX5_comesApart_22 ci_0 ?_
          refine lv_istore_n (lv' := [(2, .int (nI 0)), (1, .int (nI t)), (0, .ref h)]) hx hb dX5_comesApart_23 rfl hl (by decide) rfl (fun ls hl => ?_)
          refine lv_aload_n hx hb dX5_comesApart_24 rfl (lv_at hl 2 rfl) ?_
          refine va_get (ci := 5) (C := RX5) (T := TX5) (N := 19) hx hb hts hinX5 hown hK hP 19 g19 rfl 14 (by decide) k25 (fun _ h9 => h9) rfl dX5_comesApart_25 ?_
          refine lv_iload_n hx hb dX5_comesApart_28 rfl (lv_at hl 1 rfl) ?_
          refine lv_iload_n hx hb dX5_comesApart_29 rfl (lv_at hl 0 rfl) ?_
          refine sn_if_eq (tgt := 37) hx hb dX5_comesApart_30 (by decide) (by decide) (fun _ => ?_) (fun q => absurd q (by decide))
          refine lv_iconst (v := nI 0) hx hb dX5_comesApart_37 ci_0 ?_
          refine sv_iast hx hb hK hP hD hS 25 g25 (j := t) (by omega) (by decide) dX5_comesApart_38 (fun ws5 H locs hP hD hS g25 fr4 => ?_)
          replace g19 := (fr4 19 (by decide)).trans g19
          replace g20 := (fr4 20 (by decide)).trans g20
          replace g21 := (fr4 21 (by decide)).trans g21
          replace g22 := (fr4 22 (by decide)).trans g22
          replace g23 := (fr4 23 (by decide)).trans g23
          replace g24 := (fr4 24 (by decide)).trans g24
          replace g26 := (fr4 26 (by decide)).trans g26
          replace g27 := (fr4 27 (by decide)).trans g27
          replace g28 := (fr4 28 (by decide)).trans g28
          replace g29 := (fr4 29 (by decide)).trans g29
          rw [upd_X] at g25
          refine lv_aload_n hx hb dX5_comesApart_39 rfl (lv_at hl 2 rfl) ?_
          refine va_get (ci := 5) (C := RX5) (T := TX5) (N := 19) hx hb hts hinX5 hown hK hP 19 g19 rfl 15 (by decide) k28 (fun _ h9 => h9) rfl dX5_comesApart_40 ?_
          refine lv_iload_n hx hb dX5_comesApart_43 rfl (lv_at hl 1 rfl) ?_
          refine lv_iload_n hx hb dX5_comesApart_44 rfl (lv_at hl 0 rfl) ?_
          refine sn_if_eq (tgt := 52) hx hb dX5_comesApart_45 (by decide) (by decide) (fun _ => ?_) (fun q => absurd q (by decide))
          refine lv_sipush (v := nI 1000) hx hb dX5_comesApart_52 si_1000 ?_
          refine sv_iast hx hb hK hP hD hS 26 g26 (j := t) (by omega) (by decide) dX5_comesApart_55 (fun ws8 H locs hP hD hS g26 fr7 => ?_)
          replace g19 := (fr7 19 (by decide)).trans g19
          replace g20 := (fr7 20 (by decide)).trans g20
          replace g21 := (fr7 21 (by decide)).trans g21
          replace g22 := (fr7 22 (by decide)).trans g22
          replace g23 := (fr7 23 (by decide)).trans g23
          replace g24 := (fr7 24 (by decide)).trans g24
          replace g25 := (fr7 25 (by decide)).trans g25
          replace g27 := (fr7 27 (by decide)).trans g27
          replace g28 := (fr7 28 (by decide)).trans g28
          replace g29 := (fr7 29 (by decide)).trans g29
          rw [upd_X] at g26
          refine lv_iconst (v := nI 1) hx hb dX5_comesApart_56 ci_1 ?_
          refine lv_istore_n (lv' := [(3, .int (nI 1)), (2, .int (nI 0)), (1, .int (nI t)), (0, .ref h)]) hx hb dX5_comesApart_57 rfl hl (by decide) rfl (fun ls hl => ?_)
          have L58 : ∀ (L58d : Nat) (j : Nat) (hw : Nat → Int32) (hd : Nat → Int32), t - j < L58d → ∀ (wl58 : va_W) (H : Heap), j ≤ t - 1 → mtOK C Hd n t hw hd → hw t = nI (itr (wyS C Hd n (wys C Hd n) t) j (wy0 t)) → hd t = nI (itr (dpS C Hd n (dps C Hd n) t) j (dp0 t)) → (conn C t = false → j = 0) → va_P D CL wl58 H → va_D A wl58 → wl58[19]? = some (h, .inr (5, [.int (nI th), .int (nI n), .ref a1, .ref a2, .ref a3, .int (nI b), .int (bI q), .ref a4, .int (bI bg), .int (nI pu), .int (nI bu), .int cl, .int mo, .ref a5, .ref a6, .ref a7, .ref a8, .ref a9, .ref a10])) → wl58[20]? = some (a1, .inl (ky.1, 8, .inl (fun i => nI (T i)))) → wl58[21]? = some (a2, .inl (ky.1, 8, .inl (fun i => nI (C i)))) → wl58[22]? = some (a3, .inl (ky.1, 48, .inl (fun i => nI (Hd i)))) → wl58[23]? = some (a4, .inl (ky.1, 8, .inl (fun i => nI (J i)))) → wl58[24]? = some (a5, .inl (ky.1, 8, .inl (fun i => nI (K i)))) → wl58[25]? = some (a6, .inl (ky.1, 256, .inl hw)) → wl58[26]? = some (a7, .inl (ky.1, 256, .inl hd)) → wl58[27]? = some (a8, .inl (ky.1, 256, .inl fc)) → wl58[28]? = some (a9, .inl (ky.1, 2048, .inl fg)) → wl58[29]? = some (a10, .inl (ky.1, 8, .inl fo)) → fr ws wl58 19 29 → ∀ (ls : Array Slot) (locs : List Loc), lv_has ls 6 [(3, .int (nI (j + 1))), (1, .int (nI t)), (0, .ref h)] → va_S A Hs H locs → W pg l en Rm sg mi av below meth co H locs 0 0 Qo (F0 mi 58 ls []) := by
            intro L58d
            induction L58d with
            | zero => intro j hw hd hfu; exact absurd hfu (Nat.not_lt_zero _)
            | succ L58d ih58 =>
              intro j hw hd hfu wl58 H i58_0 i58_1 i58_2 i58_3 i58_4 hP hD g19 g20 g21 g22 g23 g24 g25 g26 g27 g28 g29 frwl58 ls locs hl hS
              refine lv_iload_n hx hb dX5_comesApart_58 rfl (lv_at hl 0 rfl) ?_
              refine lv_iload_n hx hb dX5_comesApart_59 rfl (lv_at hl 1 rfl) ?_
              refine sn_icmp_ge (tgt := 182) hx hb dX5_comesApart_60 (by decide) (by omega) (by omega) (fun c9 => ?_) (fun c9 => ?_)
              · refine lv_iinc (v := nI (t + 1)) (lv' := [(1, .int (nI (t + 1))), (3, .int (nI (j + 1))), (0, .ref h)]) hx hb dX5_comesApart_182 hl (k := 1) rfl (nI_1 _) (by decide) rfl (fun ls hl => ?_)
                refine lv_goto (tgt := 2) hx hb dX5_comesApart_185 (by decide) ?_
                exact ih2 (t + 1) hw hd (by omega) _ _ (by omega) (by omega) (mt_end ht8 i58_1 i58_2 i58_3 (Or.inl (by omega)) i58_4) hP hD g19 g20 g21 g22 g23 g24 g25 g26 g27 g28 g29 (fr.wd frwl58 : fr _ _ 19 29) ls locs (lv_sub hl [0, 2] rfl) hS
              · refine lv_aload_n hx hb dX5_comesApart_63 rfl (lv_at hl 2 rfl) ?_
                refine lv_iload_n hx hb dX5_comesApart_64 rfl (lv_at hl 1 rfl) ?_
                refine pcV (c_X5_hangsTogether hP ⟨a1, a2, a3, a4, a5, a6, a7, a8, a9, a10, g19, g20, g21, g22, g23, g24, g25, g26, g27, g28, g29⟩ hI (by omega)) ⟨hx, hb, hml, hown, hts⟩ hK gX5_comesApart_X5_hangsTogether rfl hd_X5_hangsTogether ⟨by omega, by omega⟩ (va_recv hK hP (ci := 5) (q0 := 19) rfl g19) rfl hl.1 rfl (Nat.le_of_ble_eq_true rfl) dX5_comesApart_65 ⟨Nat.zero_le _, Nat.zero_le _⟩ hS (fun locs hS => ?_)
                refine sb_if_eq (tgt := 182) hx hb dX5_comesApart_68 (by decide) (fun c10 => ?_) (fun c10 => ?_)
                · refine lv_iinc (v := nI (t + 1)) (lv' := [(1, .int (nI (t + 1))), (3, .int (nI (j + 1))), (0, .ref h)]) hx hb dX5_comesApart_182 hl (k := 1) rfl (nI_1 _) (by decide) rfl (fun ls hl => ?_)
                  refine lv_goto (tgt := 2) hx hb dX5_comesApart_185 (by decide) ?_
                  exact ih2 (t + 1) hw hd (by omega) _ _ (by omega) (by omega) (mt_end ht8 i58_1 i58_2 i58_3 (Or.inr c10) i58_4) hP hD g19 g20 g21 g22 g23 g24 g25 g26 g27 g28 g29 (fr.wd frwl58 : fr _ _ 19 29) ls locs (lv_sub hl [0, 2] rfl) hS
                · have hcn := c10
                  refine lv_aload_n hx hb dX5_comesApart_71 rfl (lv_at hl 2 rfl) ?_
                  refine lv_iload_n hx hb dX5_comesApart_72 rfl (lv_at hl 1 rfl) ?_
                  refine lv_iload_n hx hb dX5_comesApart_73 rfl (lv_at hl 0 rfl) ?_
                  refine pcV (c_X5_isSplit hP ⟨a1, a2, a3, a4, a5, a6, a7, a8, a9, a10, g19, g20, g21, g22, g23, g24, g25, g26, g27, g28, g29⟩ hI (by omega) (by omega)) ⟨hx, hb, hml, hown, hts⟩ hK gX5_comesApart_X5_isSplit rfl hd_X5_isSplit ⟨by omega, by omega⟩ (va_recv hK hP (ci := 5) (q0 := 19) rfl g19) rfl hl.1 rfl (Nat.le_of_ble_eq_true rfl) dX5_comesApart_74 ⟨Nat.zero_le _, Nat.zero_le _⟩ hS (fun locs hS => ?_)
                  refine sb_if_eq (tgt := 176) hx hb dX5_comesApart_77 (by decide) (fun c11 => ?_) (fun c11 => ?_)
                  · refine lv_iinc (v := nI (j + 1 + 1)) (lv' := [(3, .int (nI (j + 1 + 1))), (1, .int (nI t)), (0, .ref h)]) hx hb dX5_comesApart_176 hl (k := 0) rfl (nI_1 _) (by decide) rfl (fun ls hl => ?_)
                    refine lv_goto (tgt := 58) hx hb dX5_comesApart_179 (by decide) ?_
                    exact ih58 (j + 1) hw hd (by omega) _ _ (by omega) i58_1 (by rw [i58_2]; exact congrArg nI (wyS_no c11).symm) (by rw [i58_3]; exact congrArg nI (dpS_no c11).symm) (fun z => by rw [hcn] at z; cases z) hP hD g19 g20 g21 g22 g23 g24 g25 g26 g27 g28 g29 (fr.wd frwl58 : fr _ _ 19 29) ls locs (lv_sub hl [0, 1, 2] rfl) hS
                  · have hsp := c11
                    have hsl := spl_lt hsp ht8
                    refine lv_iload_n hx hb dX5_comesApart_80 rfl (lv_at hl 1 rfl) ?_
                    refine lv_iload_n hx hb dX5_comesApart_81 rfl (lv_at hl 0 rfl) ?_
                    refine lv_iconst (v := -1) hx hb dX5_comesApart_82 ci_m1 ?_
                    refine lv_ixor hx hb dX5_comesApart_83 ?_
                    refine lv_iand hx hb dX5_comesApart_84 ?_
                    refine sv_top (y := nI (clr t (j + 1))) (an_not _ _) ?_
                    refine lv_istore (lv' := [(4, .int (nI (clr t (j + 1)))), (3, .int (nI (j + 1))), (1, .int (nI t)), (0, .ref h)]) hx hb dX5_comesApart_85 hl (by decide) rfl (fun ls hl => ?_)
                    refine lv_aload_n hx hb dX5_comesApart_87 rfl (lv_at hl 3 rfl) ?_
                    refine va_get (ci := 5) (C := RX5) (T := TX5) (N := 19) hx hb hts hinX5 hown hK hP 19 g19 rfl 15 (by decide) k28 (fun _ h9 => h9) rfl dX5_comesApart_88 ?_
                    refine lv_iload_n hx hb dX5_comesApart_91 rfl (lv_at hl 1 rfl) ?_
                    refine sv_iald hx hb hK hP 26 g26 (j := j + 1) (by omega) (by decide) dX5_comesApart_92 ?_
                    refine W.eq (g2 := F0 mi 93 ls (.int (hd (j + 1)) :: [])) rfl ?_
                    refine sv_top (y := nI (dps C Hd n (j + 1))) ((i58_1 _ (by omega) (by omega)).2) ?_
                    refine lv_aload_n hx hb dX5_comesApart_93 rfl (lv_at hl 3 rfl) ?_
                    refine va_get (ci := 5) (C := RX5) (T := TX5) (N := 19) hx hb hts hinX5 hown hK hP 19 g19 rfl 15 (by decide) k28 (fun _ h9 => h9) rfl dX5_comesApart_94 ?_
                    refine lv_iload hx hb dX5_comesApart_97 (lv_at hl 0 rfl) ?_
                    refine sv_iald hx hb hK hP 26 g26 (j := clr t (j + 1)) (by omega) (by decide) dX5_comesApart_99 ?_
                    refine W.eq (g2 := F0 mi 100 ls (.int (hd (clr t (j + 1))) :: [.int (nI (dps C Hd n (j + 1)))])) rfl ?_
                    refine sv_top (y := nI (dps C Hd n (clr t (j + 1)))) ((i58_1 _ (by omega) (by omega)).2) ?_
                    refine sn_icmp_le (tgt := 112) hx hb dX5_comesApart_100 (by decide) (dps_b (by omega)) (dps_b (by omega)) (fun c12 => ?_) (fun c12 => ?_)
                    · refine lv_aload_n hx hb dX5_comesApart_112 rfl (lv_at hl 3 rfl) ?_
                      refine va_get (ci := 5) (C := RX5) (T := TX5) (N := 19) hx hb hts hinX5 hown hK hP 19 g19 rfl 15 (by decide) k28 (fun _ h9 => h9) rfl dX5_comesApart_113 ?_
                      refine lv_iload hx hb dX5_comesApart_116 (lv_at hl 0 rfl) ?_
                      refine sv_iald hx hb hK hP 26 g26 (j := clr t (j + 1)) (by omega) (by decide) dX5_comesApart_118 ?_
                      refine W.eq (g2 := F0 mi 119 ls (.int (hd (clr t (j + 1))) :: [])) rfl ?_
                      refine sv_top (y := nI (dps C Hd n (clr t (j + 1)))) ((i58_1 _ (by omega) (by omega)).2) ?_
                      refine sv_top (y := nI (mx (dps C Hd n (j + 1)) (dps C Hd n (clr t (j + 1))))) (congrArg nI (if_neg (Nat.not_lt.mpr c12)).symm) ?_
                      refine lv_istore (lv' := [(5, .int (nI (mx (dps C Hd n (j + 1)) (dps C Hd n (clr t (j + 1)))))), (4, .int (nI (clr t (j + 1)))), (3, .int (nI (j + 1))), (1, .int (nI t)), (0, .ref h)]) hx hb dX5_comesApart_119 hl (by decide) rfl (fun ls hl => ?_)
                      refine lv_aload_n hx hb dX5_comesApart_121 rfl (lv_at hl 4 rfl) ?_
                      refine va_get (ci := 5) (C := RX5) (T := TX5) (N := 19) hx hb hts hinX5 hown hK hP 19 g19 rfl 14 (by decide) k25 (fun _ h9 => h9) rfl dX5_comesApart_122 ?_
                      refine lv_iload_n hx hb dX5_comesApart_125 rfl (lv_at hl 3 rfl) ?_
                      refine lv_dup2_11 hx hb dX5_comesApart_126 rfl rfl ?_
                      refine sv_iald hx hb hK hP 25 g25 (j := t) (by omega) (by decide) dX5_comesApart_127 ?_
                      refine W.eq (g2 := F0 mi 128 ls (.int (hw t) :: [.int (nI t), .ref a6])) rfl ?_
                      refine sv_top (y := nI (itr (wyS C Hd n (wys C Hd n) t) j (wy0 t))) (i58_2) ?_
                      refine lv_aload_n hx hb dX5_comesApart_128 rfl (lv_at hl 4 rfl) ?_
                      refine va_get (ci := 5) (C := RX5) (T := TX5) (N := 19) hx hb hts hinX5 hown hK hP 19 g19 rfl 14 (by decide) k25 (fun _ h9 => h9) rfl dX5_comesApart_129 ?_
                      refine lv_iload_n hx hb dX5_comesApart_132 rfl (lv_at hl 2 rfl) ?_
                      refine sv_iald hx hb hK hP 25 g25 (j := j + 1) (by omega) (by decide) dX5_comesApart_133 ?_
                      refine W.eq (g2 := F0 mi 134 ls (.int (hw (j + 1)) :: [.int (nI (itr (wyS C Hd n (wys C Hd n) t) j (wy0 t))), .int (nI t), .ref a6])) rfl ?_
                      refine sv_top (y := nI (wys C Hd n (j + 1))) ((i58_1 _ (by omega) (by omega)).1) ?_
                      refine lv_aload_n hx hb dX5_comesApart_134 rfl (lv_at hl 4 rfl) ?_
                      refine va_get (ci := 5) (C := RX5) (T := TX5) (N := 19) hx hb hts hinX5 hown hK hP 19 g19 rfl 14 (by decide) k25 (fun _ h9 => h9) rfl dX5_comesApart_135 ?_
                      refine lv_iload hx hb dX5_comesApart_138 (lv_at hl 1 rfl) ?_
                      refine sv_iald hx hb hK hP 25 g25 (j := clr t (j + 1)) (by omega) (by decide) dX5_comesApart_140 ?_
                      refine W.eq (g2 := F0 mi 141 ls (.int (hw (clr t (j + 1))) :: [.int (nI (wys C Hd n (j + 1))), .int (nI (itr (wyS C Hd n (wys C Hd n) t) j (wy0 t))), .int (nI t), .ref a6])) rfl ?_
                      refine sv_top (y := nI (wys C Hd n (clr t (j + 1)))) ((i58_1 _ (by omega) (by omega)).1) ?_
                      refine lv_imul hx hb dX5_comesApart_141 ?_
                      refine sv_top (y := nI ((wys C Hd n (j + 1)) * (wys C Hd n (clr t (j + 1))))) (mul_n _ _) ?_
                      refine lv_iadd hx hb dX5_comesApart_142 ?_
                      refine sv_top (y := nI ((itr (wyS C Hd n (wys C Hd n) t) j (wy0 t)) + ((wys C Hd n (j + 1)) * (wys C Hd n (clr t (j + 1)))))) (nI_add _ _) ?_
                      refine sv_iast hx hb hK hP hD hS 25 g25 (j := t) (by omega) (by decide) dX5_comesApart_143 (fun ws14 H locs hP hD hS g25 fr13 => ?_)
                      replace g19 := (fr13 19 (by decide)).trans g19
                      replace g20 := (fr13 20 (by decide)).trans g20
                      replace g21 := (fr13 21 (by decide)).trans g21
                      replace g22 := (fr13 22 (by decide)).trans g22
                      replace g23 := (fr13 23 (by decide)).trans g23
                      replace g24 := (fr13 24 (by decide)).trans g24
                      replace g26 := (fr13 26 (by decide)).trans g26
                      replace g27 := (fr13 27 (by decide)).trans g27
                      replace g28 := (fr13 28 (by decide)).trans g28
                      replace g29 := (fr13 29 (by decide)).trans g29
                      rw [upd_X] at g25
                      refine lv_aload_n hx hb dX5_comesApart_144 rfl (lv_at hl 4 rfl) ?_
                      refine va_get (ci := 5) (C := RX5) (T := TX5) (N := 19) hx hb hts hinX5 hown hK hP 19 g19 rfl 15 (by decide) k28 (fun _ h9 => h9) rfl dX5_comesApart_145 ?_
                      refine lv_iload_n hx hb dX5_comesApart_148 rfl (lv_at hl 3 rfl) ?_
                      refine lv_iload hx hb dX5_comesApart_149 (lv_at hl 0 rfl) ?_
                      refine lv_iconst (v := nI 1) hx hb dX5_comesApart_151 ci_1 ?_
                      refine lv_iadd hx hb dX5_comesApart_152 ?_
                      refine sv_top (y := nI ((mx (dps C Hd n (j + 1)) (dps C Hd n (clr t (j + 1)))) + 1)) (nI_add _ _) ?_
                      refine lv_aload_n hx hb dX5_comesApart_153 rfl (lv_at hl 4 rfl) ?_
                      refine va_get (ci := 5) (C := RX5) (T := TX5) (N := 19) hx hb hts hinX5 hown hK hP 19 g19 rfl 15 (by decide) k28 (fun _ h9 => h9) rfl dX5_comesApart_154 ?_
                      refine lv_iload_n hx hb dX5_comesApart_157 rfl (lv_at hl 3 rfl) ?_
                      refine sv_iald hx hb hK hP 26 g26 (j := t) (by omega) (by decide) dX5_comesApart_158 ?_
                      refine W.eq (g2 := F0 mi 159 ls (.int (hd t) :: [.int (nI ((mx (dps C Hd n (j + 1)) (dps C Hd n (clr t (j + 1)))) + 1)), .int (nI t), .ref a7])) rfl ?_
                      refine sv_top (y := nI (itr (dpS C Hd n (dps C Hd n) t) j (dp0 t))) (i58_3) ?_
                      refine sn_icmp_ge (tgt := 169) hx hb dX5_comesApart_159 (by decide) (by have := mx_or (dps C Hd n (j + 1)) (dps C Hd n (clr t (j + 1))); have h1 := dps_b (C := C) (Hd := Hd) (n := n) (S := j + 1) (by omega); have h2 := dps_b (C := C) (Hd := Hd) (n := n) (S := clr t (j + 1)) (by omega); have h3 := dps_ok (C := C) (Hd := Hd) (n := n) (j + 1) (by omega); have h4 := dps_ok (C := C) (Hd := Hd) (n := n) (clr t (j + 1)) (by omega); omega) (dp_b ht8 (by omega)) (fun c15 => ?_) (fun c15 => ?_)
                      · refine lv_aload_n hx hb dX5_comesApart_169 rfl (lv_at hl 4 rfl) ?_
                        refine va_get (ci := 5) (C := RX5) (T := TX5) (N := 19) hx hb hts hinX5 hown hK hP 19 g19 rfl 15 (by decide) k28 (fun _ h9 => h9) rfl dX5_comesApart_170 ?_
                        refine lv_iload_n hx hb dX5_comesApart_173 rfl (lv_at hl 3 rfl) ?_
                        refine sv_iald hx hb hK hP 26 g26 (j := t) (by omega) (by decide) dX5_comesApart_174 ?_
                        refine W.eq (g2 := F0 mi 175 ls (.int (hd t) :: [.int (nI t), .ref a7])) rfl ?_
                        refine sv_top (y := nI (itr (dpS C Hd n (dps C Hd n) t) j (dp0 t))) (i58_3) ?_
                        refine sv_iast hx hb hK hP hD hS 26 g26 (j := t) (by omega) (by decide) dX5_comesApart_175 (fun ws17 H locs hP hD hS g26 fr16 => ?_)
                        replace g19 := (fr16 19 (by decide)).trans g19
                        replace g20 := (fr16 20 (by decide)).trans g20
                        replace g21 := (fr16 21 (by decide)).trans g21
                        replace g22 := (fr16 22 (by decide)).trans g22
                        replace g23 := (fr16 23 (by decide)).trans g23
                        replace g24 := (fr16 24 (by decide)).trans g24
                        replace g25 := (fr16 25 (by decide)).trans g25
                        replace g27 := (fr16 27 (by decide)).trans g27
                        replace g28 := (fr16 28 (by decide)).trans g28
                        replace g29 := (fr16 29 (by decide)).trans g29
                        rw [upd_X] at g26
                        refine lv_iinc (v := nI (j + 1 + 1)) (lv' := [(3, .int (nI (j + 1 + 1))), (5, .int (nI (mx (dps C Hd n (j + 1)) (dps C Hd n (clr t (j + 1)))))), (4, .int (nI (clr t (j + 1)))), (1, .int (nI t)), (0, .ref h)]) hx hb dX5_comesApart_176 hl (k := 2) rfl (nI_1 _) (by decide) rfl (fun ls hl => ?_)
                        refine lv_goto (tgt := 58) hx hb dX5_comesApart_179 (by decide) ?_
                        exact ih58 (j + 1) ((upX hw t (nI ((itr (wyS C Hd n (wys C Hd n) t) j (wy0 t)) + ((wys C Hd n (j + 1)) * (wys C Hd n (clr t (j + 1)))))))) ((upX hd t (nI (itr (dpS C Hd n (dps C Hd n) t) j (dp0 t))))) (by omega) _ _ (by omega) (mtOK_set i58_1 (fun s hs => ⟨upX_n hs, upX_n hs⟩)) (by rw [upX_s]; exact congrArg nI (wyS_yes hsp).symm) (by rw [upX_s]; show nI _ = nI (dpS C Hd n (dps C Hd n) t j _); rw [dpS_yes hsp, if_neg (Nat.not_lt.mpr c15)]) (fun z => by rw [hcn] at z; cases z) hP hD g19 g20 g21 g22 g23 g24 g25 g26 g27 g28 g29 (((fr.wd frwl58 : fr _ _ 19 29).tr fr13).tr fr16) ls locs (lv_sub hl [0, 3, 4] rfl) hS
                      · refine lv_iload hx hb dX5_comesApart_162 (lv_at hl 0 rfl) ?_
                        refine lv_iconst (v := nI 1) hx hb dX5_comesApart_164 ci_1 ?_
                        refine lv_iadd hx hb dX5_comesApart_165 ?_
                        refine sv_top (y := nI ((mx (dps C Hd n (j + 1)) (dps C Hd n (clr t (j + 1)))) + 1)) (nI_add _ _) ?_
                        refine lv_goto (tgt := 175) hx hb dX5_comesApart_166 (by decide) ?_
                        refine sv_iast hx hb hK hP hD hS 26 g26 (j := t) (by omega) (by decide) dX5_comesApart_175 (fun ws19 H locs hP hD hS g26 fr18 => ?_)
                        replace g19 := (fr18 19 (by decide)).trans g19
                        replace g20 := (fr18 20 (by decide)).trans g20
                        replace g21 := (fr18 21 (by decide)).trans g21
                        replace g22 := (fr18 22 (by decide)).trans g22
                        replace g23 := (fr18 23 (by decide)).trans g23
                        replace g24 := (fr18 24 (by decide)).trans g24
                        replace g25 := (fr18 25 (by decide)).trans g25
                        replace g27 := (fr18 27 (by decide)).trans g27
                        replace g28 := (fr18 28 (by decide)).trans g28
                        replace g29 := (fr18 29 (by decide)).trans g29
                        rw [upd_X] at g26
                        refine lv_iinc (v := nI (j + 1 + 1)) (lv' := [(3, .int (nI (j + 1 + 1))), (5, .int (nI (mx (dps C Hd n (j + 1)) (dps C Hd n (clr t (j + 1)))))), (4, .int (nI (clr t (j + 1)))), (1, .int (nI t)), (0, .ref h)]) hx hb dX5_comesApart_176 hl (k := 2) rfl (nI_1 _) (by decide) rfl (fun ls hl => ?_)
                        refine lv_goto (tgt := 58) hx hb dX5_comesApart_179 (by decide) ?_
                        exact ih58 (j + 1) ((upX hw t (nI ((itr (wyS C Hd n (wys C Hd n) t) j (wy0 t)) + ((wys C Hd n (j + 1)) * (wys C Hd n (clr t (j + 1)))))))) ((upX hd t (nI ((mx (dps C Hd n (j + 1)) (dps C Hd n (clr t (j + 1)))) + 1)))) (by omega) _ _ (by omega) (mtOK_set i58_1 (fun s hs => ⟨upX_n hs, upX_n hs⟩)) (by rw [upX_s]; exact congrArg nI (wyS_yes hsp).symm) (by rw [upX_s]; show nI _ = nI (dpS C Hd n (dps C Hd n) t j _); rw [dpS_yes hsp, if_pos c15]) (fun z => by rw [hcn] at z; cases z) hP hD g19 g20 g21 g22 g23 g24 g25 g26 g27 g28 g29 (((fr.wd frwl58 : fr _ _ 19 29).tr fr13).tr fr18) ls locs (lv_sub hl [0, 3, 4] rfl) hS
                    · refine lv_aload_n hx hb dX5_comesApart_103 rfl (lv_at hl 3 rfl) ?_
                      refine va_get (ci := 5) (C := RX5) (T := TX5) (N := 19) hx hb hts hinX5 hown hK hP 19 g19 rfl 15 (by decide) k28 (fun _ h9 => h9) rfl dX5_comesApart_104 ?_
                      refine lv_iload_n hx hb dX5_comesApart_107 rfl (lv_at hl 1 rfl) ?_
                      refine sv_iald hx hb hK hP 26 g26 (j := j + 1) (by omega) (by decide) dX5_comesApart_108 ?_
                      refine W.eq (g2 := F0 mi 109 ls (.int (hd (j + 1)) :: [])) rfl ?_
                      refine sv_top (y := nI (dps C Hd n (j + 1))) ((i58_1 _ (by omega) (by omega)).2) ?_
                      refine lv_goto (tgt := 119) hx hb dX5_comesApart_109 (by decide) ?_
                      refine sv_top (y := nI (mx (dps C Hd n (j + 1)) (dps C Hd n (clr t (j + 1))))) (congrArg nI (if_pos c12).symm) ?_
                      refine lv_istore (lv' := [(5, .int (nI (mx (dps C Hd n (j + 1)) (dps C Hd n (clr t (j + 1)))))), (4, .int (nI (clr t (j + 1)))), (3, .int (nI (j + 1))), (1, .int (nI t)), (0, .ref h)]) hx hb dX5_comesApart_119 hl (by decide) rfl (fun ls hl => ?_)
                      refine lv_aload_n hx hb dX5_comesApart_121 rfl (lv_at hl 4 rfl) ?_
                      refine va_get (ci := 5) (C := RX5) (T := TX5) (N := 19) hx hb hts hinX5 hown hK hP 19 g19 rfl 14 (by decide) k25 (fun _ h9 => h9) rfl dX5_comesApart_122 ?_
                      refine lv_iload_n hx hb dX5_comesApart_125 rfl (lv_at hl 3 rfl) ?_
                      refine lv_dup2_11 hx hb dX5_comesApart_126 rfl rfl ?_
                      refine sv_iald hx hb hK hP 25 g25 (j := t) (by omega) (by decide) dX5_comesApart_127 ?_
                      refine W.eq (g2 := F0 mi 128 ls (.int (hw t) :: [.int (nI t), .ref a6])) rfl ?_
                      refine sv_top (y := nI (itr (wyS C Hd n (wys C Hd n) t) j (wy0 t))) (i58_2) ?_
                      refine lv_aload_n hx hb dX5_comesApart_128 rfl (lv_at hl 4 rfl) ?_
                      refine va_get (ci := 5) (C := RX5) (T := TX5) (N := 19) hx hb hts hinX5 hown hK hP 19 g19 rfl 14 (by decide) k25 (fun _ h9 => h9) rfl dX5_comesApart_129 ?_
                      refine lv_iload_n hx hb dX5_comesApart_132 rfl (lv_at hl 2 rfl) ?_
                      refine sv_iald hx hb hK hP 25 g25 (j := j + 1) (by omega) (by decide) dX5_comesApart_133 ?_
                      refine W.eq (g2 := F0 mi 134 ls (.int (hw (j + 1)) :: [.int (nI (itr (wyS C Hd n (wys C Hd n) t) j (wy0 t))), .int (nI t), .ref a6])) rfl ?_
                      refine sv_top (y := nI (wys C Hd n (j + 1))) ((i58_1 _ (by omega) (by omega)).1) ?_
                      refine lv_aload_n hx hb dX5_comesApart_134 rfl (lv_at hl 4 rfl) ?_
                      refine va_get (ci := 5) (C := RX5) (T := TX5) (N := 19) hx hb hts hinX5 hown hK hP 19 g19 rfl 14 (by decide) k25 (fun _ h9 => h9) rfl dX5_comesApart_135 ?_
                      refine lv_iload hx hb dX5_comesApart_138 (lv_at hl 1 rfl) ?_
                      refine sv_iald hx hb hK hP 25 g25 (j := clr t (j + 1)) (by omega) (by decide) dX5_comesApart_140 ?_
                      refine W.eq (g2 := F0 mi 141 ls (.int (hw (clr t (j + 1))) :: [.int (nI (wys C Hd n (j + 1))), .int (nI (itr (wyS C Hd n (wys C Hd n) t) j (wy0 t))), .int (nI t), .ref a6])) rfl ?_
                      refine sv_top (y := nI (wys C Hd n (clr t (j + 1)))) ((i58_1 _ (by omega) (by omega)).1) ?_
                      refine lv_imul hx hb dX5_comesApart_141 ?_
                      refine sv_top (y := nI ((wys C Hd n (j + 1)) * (wys C Hd n (clr t (j + 1))))) (mul_n _ _) ?_
                      refine lv_iadd hx hb dX5_comesApart_142 ?_
                      refine sv_top (y := nI ((itr (wyS C Hd n (wys C Hd n) t) j (wy0 t)) + ((wys C Hd n (j + 1)) * (wys C Hd n (clr t (j + 1)))))) (nI_add _ _) ?_
                      refine sv_iast hx hb hK hP hD hS 25 g25 (j := t) (by omega) (by decide) dX5_comesApart_143 (fun ws21 H locs hP hD hS g25 fr20 => ?_)
                      replace g19 := (fr20 19 (by decide)).trans g19
                      replace g20 := (fr20 20 (by decide)).trans g20
                      replace g21 := (fr20 21 (by decide)).trans g21
                      replace g22 := (fr20 22 (by decide)).trans g22
                      replace g23 := (fr20 23 (by decide)).trans g23
                      replace g24 := (fr20 24 (by decide)).trans g24
                      replace g26 := (fr20 26 (by decide)).trans g26
                      replace g27 := (fr20 27 (by decide)).trans g27
                      replace g28 := (fr20 28 (by decide)).trans g28
                      replace g29 := (fr20 29 (by decide)).trans g29
                      rw [upd_X] at g25
                      refine lv_aload_n hx hb dX5_comesApart_144 rfl (lv_at hl 4 rfl) ?_
                      refine va_get (ci := 5) (C := RX5) (T := TX5) (N := 19) hx hb hts hinX5 hown hK hP 19 g19 rfl 15 (by decide) k28 (fun _ h9 => h9) rfl dX5_comesApart_145 ?_
                      refine lv_iload_n hx hb dX5_comesApart_148 rfl (lv_at hl 3 rfl) ?_
                      refine lv_iload hx hb dX5_comesApart_149 (lv_at hl 0 rfl) ?_
                      refine lv_iconst (v := nI 1) hx hb dX5_comesApart_151 ci_1 ?_
                      refine lv_iadd hx hb dX5_comesApart_152 ?_
                      refine sv_top (y := nI ((mx (dps C Hd n (j + 1)) (dps C Hd n (clr t (j + 1)))) + 1)) (nI_add _ _) ?_
                      refine lv_aload_n hx hb dX5_comesApart_153 rfl (lv_at hl 4 rfl) ?_
                      refine va_get (ci := 5) (C := RX5) (T := TX5) (N := 19) hx hb hts hinX5 hown hK hP 19 g19 rfl 15 (by decide) k28 (fun _ h9 => h9) rfl dX5_comesApart_154 ?_
                      refine lv_iload_n hx hb dX5_comesApart_157 rfl (lv_at hl 3 rfl) ?_
                      refine sv_iald hx hb hK hP 26 g26 (j := t) (by omega) (by decide) dX5_comesApart_158 ?_
                      refine W.eq (g2 := F0 mi 159 ls (.int (hd t) :: [.int (nI ((mx (dps C Hd n (j + 1)) (dps C Hd n (clr t (j + 1)))) + 1)), .int (nI t), .ref a7])) rfl ?_
                      refine sv_top (y := nI (itr (dpS C Hd n (dps C Hd n) t) j (dp0 t))) (i58_3) ?_
                      refine sn_icmp_ge (tgt := 169) hx hb dX5_comesApart_159 (by decide) (by have := mx_or (dps C Hd n (j + 1)) (dps C Hd n (clr t (j + 1))); have h1 := dps_b (C := C) (Hd := Hd) (n := n) (S := j + 1) (by omega); have h2 := dps_b (C := C) (Hd := Hd) (n := n) (S := clr t (j + 1)) (by omega); have h3 := dps_ok (C := C) (Hd := Hd) (n := n) (j + 1) (by omega); have h4 := dps_ok (C := C) (Hd := Hd) (n := n) (clr t (j + 1)) (by omega); omega) (dp_b ht8 (by omega)) (fun c22 => ?_) (fun c22 => ?_)
                      · refine lv_aload_n hx hb dX5_comesApart_169 rfl (lv_at hl 4 rfl) ?_
                        refine va_get (ci := 5) (C := RX5) (T := TX5) (N := 19) hx hb hts hinX5 hown hK hP 19 g19 rfl 15 (by decide) k28 (fun _ h9 => h9) rfl dX5_comesApart_170 ?_
                        refine lv_iload_n hx hb dX5_comesApart_173 rfl (lv_at hl 3 rfl) ?_
                        refine sv_iald hx hb hK hP 26 g26 (j := t) (by omega) (by decide) dX5_comesApart_174 ?_
                        refine W.eq (g2 := F0 mi 175 ls (.int (hd t) :: [.int (nI t), .ref a7])) rfl ?_
                        refine sv_top (y := nI (itr (dpS C Hd n (dps C Hd n) t) j (dp0 t))) (i58_3) ?_
                        refine sv_iast hx hb hK hP hD hS 26 g26 (j := t) (by omega) (by decide) dX5_comesApart_175 (fun ws24 H locs hP hD hS g26 fr23 => ?_)
                        replace g19 := (fr23 19 (by decide)).trans g19
                        replace g20 := (fr23 20 (by decide)).trans g20
                        replace g21 := (fr23 21 (by decide)).trans g21
                        replace g22 := (fr23 22 (by decide)).trans g22
                        replace g23 := (fr23 23 (by decide)).trans g23
                        replace g24 := (fr23 24 (by decide)).trans g24
                        replace g25 := (fr23 25 (by decide)).trans g25
                        replace g27 := (fr23 27 (by decide)).trans g27
                        replace g28 := (fr23 28 (by decide)).trans g28
                        replace g29 := (fr23 29 (by decide)).trans g29
                        rw [upd_X] at g26
                        refine lv_iinc (v := nI (j + 1 + 1)) (lv' := [(3, .int (nI (j + 1 + 1))), (5, .int (nI (mx (dps C Hd n (j + 1)) (dps C Hd n (clr t (j + 1)))))), (4, .int (nI (clr t (j + 1)))), (1, .int (nI t)), (0, .ref h)]) hx hb dX5_comesApart_176 hl (k := 2) rfl (nI_1 _) (by decide) rfl (fun ls hl => ?_)
                        refine lv_goto (tgt := 58) hx hb dX5_comesApart_179 (by decide) ?_
                        exact ih58 (j + 1) ((upX hw t (nI ((itr (wyS C Hd n (wys C Hd n) t) j (wy0 t)) + ((wys C Hd n (j + 1)) * (wys C Hd n (clr t (j + 1)))))))) ((upX hd t (nI (itr (dpS C Hd n (dps C Hd n) t) j (dp0 t))))) (by omega) _ _ (by omega) (mtOK_set i58_1 (fun s hs => ⟨upX_n hs, upX_n hs⟩)) (by rw [upX_s]; exact congrArg nI (wyS_yes hsp).symm) (by rw [upX_s]; show nI _ = nI (dpS C Hd n (dps C Hd n) t j _); rw [dpS_yes hsp, if_neg (Nat.not_lt.mpr c22)]) (fun z => by rw [hcn] at z; cases z) hP hD g19 g20 g21 g22 g23 g24 g25 g26 g27 g28 g29 (((fr.wd frwl58 : fr _ _ 19 29).tr fr20).tr fr23) ls locs (lv_sub hl [0, 3, 4] rfl) hS
                      · refine lv_iload hx hb dX5_comesApart_162 (lv_at hl 0 rfl) ?_
                        refine lv_iconst (v := nI 1) hx hb dX5_comesApart_164 ci_1 ?_
                        refine lv_iadd hx hb dX5_comesApart_165 ?_
                        refine sv_top (y := nI ((mx (dps C Hd n (j + 1)) (dps C Hd n (clr t (j + 1)))) + 1)) (nI_add _ _) ?_
                        refine lv_goto (tgt := 175) hx hb dX5_comesApart_166 (by decide) ?_
                        refine sv_iast hx hb hK hP hD hS 26 g26 (j := t) (by omega) (by decide) dX5_comesApart_175 (fun ws26 H locs hP hD hS g26 fr25 => ?_)
                        replace g19 := (fr25 19 (by decide)).trans g19
                        replace g20 := (fr25 20 (by decide)).trans g20
                        replace g21 := (fr25 21 (by decide)).trans g21
                        replace g22 := (fr25 22 (by decide)).trans g22
                        replace g23 := (fr25 23 (by decide)).trans g23
                        replace g24 := (fr25 24 (by decide)).trans g24
                        replace g25 := (fr25 25 (by decide)).trans g25
                        replace g27 := (fr25 27 (by decide)).trans g27
                        replace g28 := (fr25 28 (by decide)).trans g28
                        replace g29 := (fr25 29 (by decide)).trans g29
                        rw [upd_X] at g26
                        refine lv_iinc (v := nI (j + 1 + 1)) (lv' := [(3, .int (nI (j + 1 + 1))), (5, .int (nI (mx (dps C Hd n (j + 1)) (dps C Hd n (clr t (j + 1)))))), (4, .int (nI (clr t (j + 1)))), (1, .int (nI t)), (0, .ref h)]) hx hb dX5_comesApart_176 hl (k := 2) rfl (nI_1 _) (by decide) rfl (fun ls hl => ?_)
                        refine lv_goto (tgt := 58) hx hb dX5_comesApart_179 (by decide) ?_
                        exact ih58 (j + 1) ((upX hw t (nI ((itr (wyS C Hd n (wys C Hd n) t) j (wy0 t)) + ((wys C Hd n (j + 1)) * (wys C Hd n (clr t (j + 1)))))))) ((upX hd t (nI ((mx (dps C Hd n (j + 1)) (dps C Hd n (clr t (j + 1)))) + 1)))) (by omega) _ _ (by omega) (mtOK_set i58_1 (fun s hs => ⟨upX_n hs, upX_n hs⟩)) (by rw [upX_s]; exact congrArg nI (wyS_yes hsp).symm) (by rw [upX_s]; show nI _ = nI (dpS C Hd n (dps C Hd n) t j _); rw [dpS_yes hsp, if_pos c22]) (fun z => by rw [hcn] at z; cases z) hP hD g19 g20 g21 g22 g23 g24 g25 g26 g27 g28 g29 (((fr.wd frwl58 : fr _ _ 19 29).tr fr20).tr fr25) ls locs (lv_sub hl [0, 3, 4] rfl) hS
          exact L58 ((t - 0) + 1) 0 ((upX gw t (nI 0))) ((upX gd t (nI 1000))) (Nat.lt_succ_self _) _ _ (by omega) (mtOK_set i2_2 (fun s hs => ⟨upX_n hs, upX_n hs⟩)) (by rw [upX_s]; show _ = nI (wy0 t); unfold wy0; rw [if_neg c2]) (by rw [upX_s]; show _ = nI (dp0 t); unfold dp0; rw [if_neg c2]) (fun _ => rfl) hP hD g19 g20 g21 g22 g23 g24 g25 g26 g27 g28 g29 (((fr.wd frwl2 : fr _ _ 19 29).tr fr4).tr fr7) ls locs (lv_sub hl [0, 2, 3] rfl) hS
        · refine lv_iconst (v := nI 1) hx hb dX5_comesApart_18 ci_1 ?_
          refine lv_goto (tgt := 23) hx hb dX5_comesApart_19 (by decide) ?_
          refine lv_istore_n (lv' := [(2, .int (nI 1)), (1, .int (nI t)), (0, .ref h)]) hx hb dX5_comesApart_23 rfl hl (by decide) rfl (fun ls hl => ?_)
          refine lv_aload_n hx hb dX5_comesApart_24 rfl (lv_at hl 2 rfl) ?_
          refine va_get (ci := 5) (C := RX5) (T := TX5) (N := 19) hx hb hts hinX5 hown hK hP 19 g19 rfl 14 (by decide) k25 (fun _ h9 => h9) rfl dX5_comesApart_25 ?_
          refine lv_iload_n hx hb dX5_comesApart_28 rfl (lv_at hl 1 rfl) ?_
          refine lv_iload_n hx hb dX5_comesApart_29 rfl (lv_at hl 0 rfl) ?_
          refine sn_if_eq (tgt := 37) hx hb dX5_comesApart_30 (by decide) (by decide) (fun q => absurd q (by decide)) (fun _ => ?_)
          refine lv_iconst (v := nI 1) hx hb dX5_comesApart_33 ci_1 ?_
          refine lv_goto (tgt := 38) hx hb dX5_comesApart_34 (by decide) ?_
          refine sv_iast hx hb hK hP hD hS 25 g25 (j := t) (by omega) (by decide) dX5_comesApart_38 (fun ws29 H locs hP hD hS g25 fr28 => ?_)
          replace g19 := (fr28 19 (by decide)).trans g19
          replace g20 := (fr28 20 (by decide)).trans g20
          replace g21 := (fr28 21 (by decide)).trans g21
          replace g22 := (fr28 22 (by decide)).trans g22
          replace g23 := (fr28 23 (by decide)).trans g23
          replace g24 := (fr28 24 (by decide)).trans g24
          replace g26 := (fr28 26 (by decide)).trans g26
          replace g27 := (fr28 27 (by decide)).trans g27
          replace g28 := (fr28 28 (by decide)).trans g28
          replace g29 := (fr28 29 (by decide)).trans g29
          rw [upd_X] at g25
          refine lv_aload_n hx hb dX5_comesApart_39 rfl (lv_at hl 2 rfl) ?_
          refine va_get (ci := 5) (C := RX5) (T := TX5) (N := 19) hx hb hts hinX5 hown hK hP 19 g19 rfl 15 (by decide) k28 (fun _ h9 => h9) rfl dX5_comesApart_40 ?_
          refine lv_iload_n hx hb dX5_comesApart_43 rfl (lv_at hl 1 rfl) ?_
          refine lv_iload_n hx hb dX5_comesApart_44 rfl (lv_at hl 0 rfl) ?_
          refine sn_if_eq (tgt := 52) hx hb dX5_comesApart_45 (by decide) (by decide) (fun q => absurd q (by decide)) (fun _ => ?_)
          refine lv_iconst (v := nI 0) hx hb dX5_comesApart_48 ci_0 ?_
          refine lv_goto (tgt := 55) hx hb dX5_comesApart_49 (by decide) ?_
          refine sv_iast hx hb hK hP hD hS 26 g26 (j := t) (by omega) (by decide) dX5_comesApart_55 (fun ws32 H locs hP hD hS g26 fr31 => ?_)
          replace g19 := (fr31 19 (by decide)).trans g19
          replace g20 := (fr31 20 (by decide)).trans g20
          replace g21 := (fr31 21 (by decide)).trans g21
          replace g22 := (fr31 22 (by decide)).trans g22
          replace g23 := (fr31 23 (by decide)).trans g23
          replace g24 := (fr31 24 (by decide)).trans g24
          replace g25 := (fr31 25 (by decide)).trans g25
          replace g27 := (fr31 27 (by decide)).trans g27
          replace g28 := (fr31 28 (by decide)).trans g28
          replace g29 := (fr31 29 (by decide)).trans g29
          rw [upd_X] at g26
          refine lv_iconst (v := nI 1) hx hb dX5_comesApart_56 ci_1 ?_
          refine lv_istore_n (lv' := [(3, .int (nI 1)), (2, .int (nI 1)), (1, .int (nI t)), (0, .ref h)]) hx hb dX5_comesApart_57 rfl hl (by decide) rfl (fun ls hl => ?_)
          have L58 : ∀ (L58d : Nat) (j : Nat) (hw : Nat → Int32) (hd : Nat → Int32), t - j < L58d → ∀ (wl58 : va_W) (H : Heap), j ≤ t - 1 → mtOK C Hd n t hw hd → hw t = nI (itr (wyS C Hd n (wys C Hd n) t) j (wy0 t)) → hd t = nI (itr (dpS C Hd n (dps C Hd n) t) j (dp0 t)) → (conn C t = false → j = 0) → va_P D CL wl58 H → va_D A wl58 → wl58[19]? = some (h, .inr (5, [.int (nI th), .int (nI n), .ref a1, .ref a2, .ref a3, .int (nI b), .int (bI q), .ref a4, .int (bI bg), .int (nI pu), .int (nI bu), .int cl, .int mo, .ref a5, .ref a6, .ref a7, .ref a8, .ref a9, .ref a10])) → wl58[20]? = some (a1, .inl (ky.1, 8, .inl (fun i => nI (T i)))) → wl58[21]? = some (a2, .inl (ky.1, 8, .inl (fun i => nI (C i)))) → wl58[22]? = some (a3, .inl (ky.1, 48, .inl (fun i => nI (Hd i)))) → wl58[23]? = some (a4, .inl (ky.1, 8, .inl (fun i => nI (J i)))) → wl58[24]? = some (a5, .inl (ky.1, 8, .inl (fun i => nI (K i)))) → wl58[25]? = some (a6, .inl (ky.1, 256, .inl hw)) → wl58[26]? = some (a7, .inl (ky.1, 256, .inl hd)) → wl58[27]? = some (a8, .inl (ky.1, 256, .inl fc)) → wl58[28]? = some (a9, .inl (ky.1, 2048, .inl fg)) → wl58[29]? = some (a10, .inl (ky.1, 8, .inl fo)) → fr ws wl58 19 29 → ∀ (ls : Array Slot) (locs : List Loc), lv_has ls 6 [(3, .int (nI (j + 1))), (1, .int (nI t)), (0, .ref h)] → va_S A Hs H locs → W pg l en Rm sg mi av below meth co H locs 0 0 Qo (F0 mi 58 ls []) := by
            intro L58d
            induction L58d with
            | zero => intro j hw hd hfu; exact absurd hfu (Nat.not_lt_zero _)
            | succ L58d ih58 =>
              intro j hw hd hfu wl58 H i58_0 i58_1 i58_2 i58_3 i58_4 hP hD g19 g20 g21 g22 g23 g24 g25 g26 g27 g28 g29 frwl58 ls locs hl hS
              refine lv_iload_n hx hb dX5_comesApart_58 rfl (lv_at hl 0 rfl) ?_
              refine lv_iload_n hx hb dX5_comesApart_59 rfl (lv_at hl 1 rfl) ?_
              refine sn_icmp_ge (tgt := 182) hx hb dX5_comesApart_60 (by decide) (by omega) (by omega) (fun c33 => ?_) (fun c33 => ?_)
              · refine lv_iinc (v := nI (t + 1)) (lv' := [(1, .int (nI (t + 1))), (3, .int (nI (j + 1))), (0, .ref h)]) hx hb dX5_comesApart_182 hl (k := 1) rfl (nI_1 _) (by decide) rfl (fun ls hl => ?_)
                refine lv_goto (tgt := 2) hx hb dX5_comesApart_185 (by decide) ?_
                exact ih2 (t + 1) hw hd (by omega) _ _ (by omega) (by omega) (mt_end ht8 i58_1 i58_2 i58_3 (Or.inl (by omega)) i58_4) hP hD g19 g20 g21 g22 g23 g24 g25 g26 g27 g28 g29 (fr.wd frwl58 : fr _ _ 19 29) ls locs (lv_sub hl [0, 2] rfl) hS
              · refine lv_aload_n hx hb dX5_comesApart_63 rfl (lv_at hl 2 rfl) ?_
                refine lv_iload_n hx hb dX5_comesApart_64 rfl (lv_at hl 1 rfl) ?_
                refine pcV (c_X5_hangsTogether hP ⟨a1, a2, a3, a4, a5, a6, a7, a8, a9, a10, g19, g20, g21, g22, g23, g24, g25, g26, g27, g28, g29⟩ hI (by omega)) ⟨hx, hb, hml, hown, hts⟩ hK gX5_comesApart_X5_hangsTogether rfl hd_X5_hangsTogether ⟨by omega, by omega⟩ (va_recv hK hP (ci := 5) (q0 := 19) rfl g19) rfl hl.1 rfl (Nat.le_of_ble_eq_true rfl) dX5_comesApart_65 ⟨Nat.zero_le _, Nat.zero_le _⟩ hS (fun locs hS => ?_)
                refine sb_if_eq (tgt := 182) hx hb dX5_comesApart_68 (by decide) (fun c34 => ?_) (fun c34 => ?_)
                · refine lv_iinc (v := nI (t + 1)) (lv' := [(1, .int (nI (t + 1))), (3, .int (nI (j + 1))), (0, .ref h)]) hx hb dX5_comesApart_182 hl (k := 1) rfl (nI_1 _) (by decide) rfl (fun ls hl => ?_)
                  refine lv_goto (tgt := 2) hx hb dX5_comesApart_185 (by decide) ?_
                  exact ih2 (t + 1) hw hd (by omega) _ _ (by omega) (by omega) (mt_end ht8 i58_1 i58_2 i58_3 (Or.inr c34) i58_4) hP hD g19 g20 g21 g22 g23 g24 g25 g26 g27 g28 g29 (fr.wd frwl58 : fr _ _ 19 29) ls locs (lv_sub hl [0, 2] rfl) hS
                · have hcn := c34
                  refine lv_aload_n hx hb dX5_comesApart_71 rfl (lv_at hl 2 rfl) ?_
                  refine lv_iload_n hx hb dX5_comesApart_72 rfl (lv_at hl 1 rfl) ?_
                  refine lv_iload_n hx hb dX5_comesApart_73 rfl (lv_at hl 0 rfl) ?_
                  refine pcV (c_X5_isSplit hP ⟨a1, a2, a3, a4, a5, a6, a7, a8, a9, a10, g19, g20, g21, g22, g23, g24, g25, g26, g27, g28, g29⟩ hI (by omega) (by omega)) ⟨hx, hb, hml, hown, hts⟩ hK gX5_comesApart_X5_isSplit rfl hd_X5_isSplit ⟨by omega, by omega⟩ (va_recv hK hP (ci := 5) (q0 := 19) rfl g19) rfl hl.1 rfl (Nat.le_of_ble_eq_true rfl) dX5_comesApart_74 ⟨Nat.zero_le _, Nat.zero_le _⟩ hS (fun locs hS => ?_)
                  refine sb_if_eq (tgt := 176) hx hb dX5_comesApart_77 (by decide) (fun c35 => ?_) (fun c35 => ?_)
                  · refine lv_iinc (v := nI (j + 1 + 1)) (lv' := [(3, .int (nI (j + 1 + 1))), (1, .int (nI t)), (0, .ref h)]) hx hb dX5_comesApart_176 hl (k := 0) rfl (nI_1 _) (by decide) rfl (fun ls hl => ?_)
                    refine lv_goto (tgt := 58) hx hb dX5_comesApart_179 (by decide) ?_
                    exact ih58 (j + 1) hw hd (by omega) _ _ (by omega) i58_1 (by rw [i58_2]; exact congrArg nI (wyS_no c35).symm) (by rw [i58_3]; exact congrArg nI (dpS_no c35).symm) (fun z => by rw [hcn] at z; cases z) hP hD g19 g20 g21 g22 g23 g24 g25 g26 g27 g28 g29 (fr.wd frwl58 : fr _ _ 19 29) ls locs (lv_sub hl [0, 1, 2] rfl) hS
                  · have hsp := c35
                    have hsl := spl_lt hsp ht8
                    refine lv_iload_n hx hb dX5_comesApart_80 rfl (lv_at hl 1 rfl) ?_
                    refine lv_iload_n hx hb dX5_comesApart_81 rfl (lv_at hl 0 rfl) ?_
                    refine lv_iconst (v := -1) hx hb dX5_comesApart_82 ci_m1 ?_
                    refine lv_ixor hx hb dX5_comesApart_83 ?_
                    refine lv_iand hx hb dX5_comesApart_84 ?_
                    refine sv_top (y := nI (clr t (j + 1))) (an_not _ _) ?_
                    refine lv_istore (lv' := [(4, .int (nI (clr t (j + 1)))), (3, .int (nI (j + 1))), (1, .int (nI t)), (0, .ref h)]) hx hb dX5_comesApart_85 hl (by decide) rfl (fun ls hl => ?_)
                    refine lv_aload_n hx hb dX5_comesApart_87 rfl (lv_at hl 3 rfl) ?_
                    refine va_get (ci := 5) (C := RX5) (T := TX5) (N := 19) hx hb hts hinX5 hown hK hP 19 g19 rfl 15 (by decide) k28 (fun _ h9 => h9) rfl dX5_comesApart_88 ?_
                    refine lv_iload_n hx hb dX5_comesApart_91 rfl (lv_at hl 1 rfl) ?_
                    refine sv_iald hx hb hK hP 26 g26 (j := j + 1) (by omega) (by decide) dX5_comesApart_92 ?_
                    refine W.eq (g2 := F0 mi 93 ls (.int (hd (j + 1)) :: [])) rfl ?_
                    refine sv_top (y := nI (dps C Hd n (j + 1))) ((i58_1 _ (by omega) (by omega)).2) ?_
                    refine lv_aload_n hx hb dX5_comesApart_93 rfl (lv_at hl 3 rfl) ?_
                    refine va_get (ci := 5) (C := RX5) (T := TX5) (N := 19) hx hb hts hinX5 hown hK hP 19 g19 rfl 15 (by decide) k28 (fun _ h9 => h9) rfl dX5_comesApart_94 ?_
                    refine lv_iload hx hb dX5_comesApart_97 (lv_at hl 0 rfl) ?_
                    refine sv_iald hx hb hK hP 26 g26 (j := clr t (j + 1)) (by omega) (by decide) dX5_comesApart_99 ?_
                    refine W.eq (g2 := F0 mi 100 ls (.int (hd (clr t (j + 1))) :: [.int (nI (dps C Hd n (j + 1)))])) rfl ?_
                    refine sv_top (y := nI (dps C Hd n (clr t (j + 1)))) ((i58_1 _ (by omega) (by omega)).2) ?_
                    refine sn_icmp_le (tgt := 112) hx hb dX5_comesApart_100 (by decide) (dps_b (by omega)) (dps_b (by omega)) (fun c36 => ?_) (fun c36 => ?_)
                    · refine lv_aload_n hx hb dX5_comesApart_112 rfl (lv_at hl 3 rfl) ?_
                      refine va_get (ci := 5) (C := RX5) (T := TX5) (N := 19) hx hb hts hinX5 hown hK hP 19 g19 rfl 15 (by decide) k28 (fun _ h9 => h9) rfl dX5_comesApart_113 ?_
                      refine lv_iload hx hb dX5_comesApart_116 (lv_at hl 0 rfl) ?_
                      refine sv_iald hx hb hK hP 26 g26 (j := clr t (j + 1)) (by omega) (by decide) dX5_comesApart_118 ?_
                      refine W.eq (g2 := F0 mi 119 ls (.int (hd (clr t (j + 1))) :: [])) rfl ?_
                      refine sv_top (y := nI (dps C Hd n (clr t (j + 1)))) ((i58_1 _ (by omega) (by omega)).2) ?_
                      refine sv_top (y := nI (mx (dps C Hd n (j + 1)) (dps C Hd n (clr t (j + 1))))) (congrArg nI (if_neg (Nat.not_lt.mpr c36)).symm) ?_
                      refine lv_istore (lv' := [(5, .int (nI (mx (dps C Hd n (j + 1)) (dps C Hd n (clr t (j + 1)))))), (4, .int (nI (clr t (j + 1)))), (3, .int (nI (j + 1))), (1, .int (nI t)), (0, .ref h)]) hx hb dX5_comesApart_119 hl (by decide) rfl (fun ls hl => ?_)
                      refine lv_aload_n hx hb dX5_comesApart_121 rfl (lv_at hl 4 rfl) ?_
                      refine va_get (ci := 5) (C := RX5) (T := TX5) (N := 19) hx hb hts hinX5 hown hK hP 19 g19 rfl 14 (by decide) k25 (fun _ h9 => h9) rfl dX5_comesApart_122 ?_
                      refine lv_iload_n hx hb dX5_comesApart_125 rfl (lv_at hl 3 rfl) ?_
                      refine lv_dup2_11 hx hb dX5_comesApart_126 rfl rfl ?_
                      refine sv_iald hx hb hK hP 25 g25 (j := t) (by omega) (by decide) dX5_comesApart_127 ?_
                      refine W.eq (g2 := F0 mi 128 ls (.int (hw t) :: [.int (nI t), .ref a6])) rfl ?_
                      refine sv_top (y := nI (itr (wyS C Hd n (wys C Hd n) t) j (wy0 t))) (i58_2) ?_
                      refine lv_aload_n hx hb dX5_comesApart_128 rfl (lv_at hl 4 rfl) ?_
                      refine va_get (ci := 5) (C := RX5) (T := TX5) (N := 19) hx hb hts hinX5 hown hK hP 19 g19 rfl 14 (by decide) k25 (fun _ h9 => h9) rfl dX5_comesApart_129 ?_
                      refine lv_iload_n hx hb dX5_comesApart_132 rfl (lv_at hl 2 rfl) ?_
                      refine sv_iald hx hb hK hP 25 g25 (j := j + 1) (by omega) (by decide) dX5_comesApart_133 ?_
                      refine W.eq (g2 := F0 mi 134 ls (.int (hw (j + 1)) :: [.int (nI (itr (wyS C Hd n (wys C Hd n) t) j (wy0 t))), .int (nI t), .ref a6])) rfl ?_
                      refine sv_top (y := nI (wys C Hd n (j + 1))) ((i58_1 _ (by omega) (by omega)).1) ?_
                      refine lv_aload_n hx hb dX5_comesApart_134 rfl (lv_at hl 4 rfl) ?_
                      refine va_get (ci := 5) (C := RX5) (T := TX5) (N := 19) hx hb hts hinX5 hown hK hP 19 g19 rfl 14 (by decide) k25 (fun _ h9 => h9) rfl dX5_comesApart_135 ?_
                      refine lv_iload hx hb dX5_comesApart_138 (lv_at hl 1 rfl) ?_
                      refine sv_iald hx hb hK hP 25 g25 (j := clr t (j + 1)) (by omega) (by decide) dX5_comesApart_140 ?_
                      refine W.eq (g2 := F0 mi 141 ls (.int (hw (clr t (j + 1))) :: [.int (nI (wys C Hd n (j + 1))), .int (nI (itr (wyS C Hd n (wys C Hd n) t) j (wy0 t))), .int (nI t), .ref a6])) rfl ?_
                      refine sv_top (y := nI (wys C Hd n (clr t (j + 1)))) ((i58_1 _ (by omega) (by omega)).1) ?_
                      refine lv_imul hx hb dX5_comesApart_141 ?_
                      refine sv_top (y := nI ((wys C Hd n (j + 1)) * (wys C Hd n (clr t (j + 1))))) (mul_n _ _) ?_
                      refine lv_iadd hx hb dX5_comesApart_142 ?_
                      refine sv_top (y := nI ((itr (wyS C Hd n (wys C Hd n) t) j (wy0 t)) + ((wys C Hd n (j + 1)) * (wys C Hd n (clr t (j + 1)))))) (nI_add _ _) ?_
                      refine sv_iast hx hb hK hP hD hS 25 g25 (j := t) (by omega) (by decide) dX5_comesApart_143 (fun ws38 H locs hP hD hS g25 fr37 => ?_)
                      replace g19 := (fr37 19 (by decide)).trans g19
                      replace g20 := (fr37 20 (by decide)).trans g20
                      replace g21 := (fr37 21 (by decide)).trans g21
                      replace g22 := (fr37 22 (by decide)).trans g22
                      replace g23 := (fr37 23 (by decide)).trans g23
                      replace g24 := (fr37 24 (by decide)).trans g24
                      replace g26 := (fr37 26 (by decide)).trans g26
                      replace g27 := (fr37 27 (by decide)).trans g27
                      replace g28 := (fr37 28 (by decide)).trans g28
                      replace g29 := (fr37 29 (by decide)).trans g29
                      rw [upd_X] at g25
                      refine lv_aload_n hx hb dX5_comesApart_144 rfl (lv_at hl 4 rfl) ?_
                      refine va_get (ci := 5) (C := RX5) (T := TX5) (N := 19) hx hb hts hinX5 hown hK hP 19 g19 rfl 15 (by decide) k28 (fun _ h9 => h9) rfl dX5_comesApart_145 ?_
                      refine lv_iload_n hx hb dX5_comesApart_148 rfl (lv_at hl 3 rfl) ?_
                      refine lv_iload hx hb dX5_comesApart_149 (lv_at hl 0 rfl) ?_
                      refine lv_iconst (v := nI 1) hx hb dX5_comesApart_151 ci_1 ?_
                      refine lv_iadd hx hb dX5_comesApart_152 ?_
                      refine sv_top (y := nI ((mx (dps C Hd n (j + 1)) (dps C Hd n (clr t (j + 1)))) + 1)) (nI_add _ _) ?_
                      refine lv_aload_n hx hb dX5_comesApart_153 rfl (lv_at hl 4 rfl) ?_
                      refine va_get (ci := 5) (C := RX5) (T := TX5) (N := 19) hx hb hts hinX5 hown hK hP 19 g19 rfl 15 (by decide) k28 (fun _ h9 => h9) rfl dX5_comesApart_154 ?_
                      refine lv_iload_n hx hb dX5_comesApart_157 rfl (lv_at hl 3 rfl) ?_
                      refine sv_iald hx hb hK hP 26 g26 (j := t) (by omega) (by decide) dX5_comesApart_158 ?_
                      refine W.eq (g2 := F0 mi 159 ls (.int (hd t) :: [.int (nI ((mx (dps C Hd n (j + 1)) (dps C Hd n (clr t (j + 1)))) + 1)), .int (nI t), .ref a7])) rfl ?_
                      refine sv_top (y := nI (itr (dpS C Hd n (dps C Hd n) t) j (dp0 t))) (i58_3) ?_
                      refine sn_icmp_ge (tgt := 169) hx hb dX5_comesApart_159 (by decide) (by have := mx_or (dps C Hd n (j + 1)) (dps C Hd n (clr t (j + 1))); have h1 := dps_b (C := C) (Hd := Hd) (n := n) (S := j + 1) (by omega); have h2 := dps_b (C := C) (Hd := Hd) (n := n) (S := clr t (j + 1)) (by omega); have h3 := dps_ok (C := C) (Hd := Hd) (n := n) (j + 1) (by omega); have h4 := dps_ok (C := C) (Hd := Hd) (n := n) (clr t (j + 1)) (by omega); omega) (dp_b ht8 (by omega)) (fun c39 => ?_) (fun c39 => ?_)
                      · refine lv_aload_n hx hb dX5_comesApart_169 rfl (lv_at hl 4 rfl) ?_
                        refine va_get (ci := 5) (C := RX5) (T := TX5) (N := 19) hx hb hts hinX5 hown hK hP 19 g19 rfl 15 (by decide) k28 (fun _ h9 => h9) rfl dX5_comesApart_170 ?_
                        refine lv_iload_n hx hb dX5_comesApart_173 rfl (lv_at hl 3 rfl) ?_
                        refine sv_iald hx hb hK hP 26 g26 (j := t) (by omega) (by decide) dX5_comesApart_174 ?_
                        refine W.eq (g2 := F0 mi 175 ls (.int (hd t) :: [.int (nI t), .ref a7])) rfl ?_
                        refine sv_top (y := nI (itr (dpS C Hd n (dps C Hd n) t) j (dp0 t))) (i58_3) ?_
                        refine sv_iast hx hb hK hP hD hS 26 g26 (j := t) (by omega) (by decide) dX5_comesApart_175 (fun ws41 H locs hP hD hS g26 fr40 => ?_)
                        replace g19 := (fr40 19 (by decide)).trans g19
                        replace g20 := (fr40 20 (by decide)).trans g20
                        replace g21 := (fr40 21 (by decide)).trans g21
                        replace g22 := (fr40 22 (by decide)).trans g22
                        replace g23 := (fr40 23 (by decide)).trans g23
                        replace g24 := (fr40 24 (by decide)).trans g24
                        replace g25 := (fr40 25 (by decide)).trans g25
                        replace g27 := (fr40 27 (by decide)).trans g27
                        replace g28 := (fr40 28 (by decide)).trans g28
                        replace g29 := (fr40 29 (by decide)).trans g29
                        rw [upd_X] at g26
                        refine lv_iinc (v := nI (j + 1 + 1)) (lv' := [(3, .int (nI (j + 1 + 1))), (5, .int (nI (mx (dps C Hd n (j + 1)) (dps C Hd n (clr t (j + 1)))))), (4, .int (nI (clr t (j + 1)))), (1, .int (nI t)), (0, .ref h)]) hx hb dX5_comesApart_176 hl (k := 2) rfl (nI_1 _) (by decide) rfl (fun ls hl => ?_)
                        refine lv_goto (tgt := 58) hx hb dX5_comesApart_179 (by decide) ?_
                        exact ih58 (j + 1) ((upX hw t (nI ((itr (wyS C Hd n (wys C Hd n) t) j (wy0 t)) + ((wys C Hd n (j + 1)) * (wys C Hd n (clr t (j + 1)))))))) ((upX hd t (nI (itr (dpS C Hd n (dps C Hd n) t) j (dp0 t))))) (by omega) _ _ (by omega) (mtOK_set i58_1 (fun s hs => ⟨upX_n hs, upX_n hs⟩)) (by rw [upX_s]; exact congrArg nI (wyS_yes hsp).symm) (by rw [upX_s]; show nI _ = nI (dpS C Hd n (dps C Hd n) t j _); rw [dpS_yes hsp, if_neg (Nat.not_lt.mpr c39)]) (fun z => by rw [hcn] at z; cases z) hP hD g19 g20 g21 g22 g23 g24 g25 g26 g27 g28 g29 (((fr.wd frwl58 : fr _ _ 19 29).tr fr37).tr fr40) ls locs (lv_sub hl [0, 3, 4] rfl) hS
                      · refine lv_iload hx hb dX5_comesApart_162 (lv_at hl 0 rfl) ?_
                        refine lv_iconst (v := nI 1) hx hb dX5_comesApart_164 ci_1 ?_
                        refine lv_iadd hx hb dX5_comesApart_165 ?_
                        refine sv_top (y := nI ((mx (dps C Hd n (j + 1)) (dps C Hd n (clr t (j + 1)))) + 1)) (nI_add _ _) ?_
                        refine lv_goto (tgt := 175) hx hb dX5_comesApart_166 (by decide) ?_
                        refine sv_iast hx hb hK hP hD hS 26 g26 (j := t) (by omega) (by decide) dX5_comesApart_175 (fun ws43 H locs hP hD hS g26 fr42 => ?_)
                        replace g19 := (fr42 19 (by decide)).trans g19
                        replace g20 := (fr42 20 (by decide)).trans g20
                        replace g21 := (fr42 21 (by decide)).trans g21
                        replace g22 := (fr42 22 (by decide)).trans g22
                        replace g23 := (fr42 23 (by decide)).trans g23
                        replace g24 := (fr42 24 (by decide)).trans g24
                        replace g25 := (fr42 25 (by decide)).trans g25
                        replace g27 := (fr42 27 (by decide)).trans g27
                        replace g28 := (fr42 28 (by decide)).trans g28
                        replace g29 := (fr42 29 (by decide)).trans g29
                        rw [upd_X] at g26
                        refine lv_iinc (v := nI (j + 1 + 1)) (lv' := [(3, .int (nI (j + 1 + 1))), (5, .int (nI (mx (dps C Hd n (j + 1)) (dps C Hd n (clr t (j + 1)))))), (4, .int (nI (clr t (j + 1)))), (1, .int (nI t)), (0, .ref h)]) hx hb dX5_comesApart_176 hl (k := 2) rfl (nI_1 _) (by decide) rfl (fun ls hl => ?_)
                        refine lv_goto (tgt := 58) hx hb dX5_comesApart_179 (by decide) ?_
                        exact ih58 (j + 1) ((upX hw t (nI ((itr (wyS C Hd n (wys C Hd n) t) j (wy0 t)) + ((wys C Hd n (j + 1)) * (wys C Hd n (clr t (j + 1)))))))) ((upX hd t (nI ((mx (dps C Hd n (j + 1)) (dps C Hd n (clr t (j + 1)))) + 1)))) (by omega) _ _ (by omega) (mtOK_set i58_1 (fun s hs => ⟨upX_n hs, upX_n hs⟩)) (by rw [upX_s]; exact congrArg nI (wyS_yes hsp).symm) (by rw [upX_s]; show nI _ = nI (dpS C Hd n (dps C Hd n) t j _); rw [dpS_yes hsp, if_pos c39]) (fun z => by rw [hcn] at z; cases z) hP hD g19 g20 g21 g22 g23 g24 g25 g26 g27 g28 g29 (((fr.wd frwl58 : fr _ _ 19 29).tr fr37).tr fr42) ls locs (lv_sub hl [0, 3, 4] rfl) hS
                    · refine lv_aload_n hx hb dX5_comesApart_103 rfl (lv_at hl 3 rfl) ?_
                      refine va_get (ci := 5) (C := RX5) (T := TX5) (N := 19) hx hb hts hinX5 hown hK hP 19 g19 rfl 15 (by decide) k28 (fun _ h9 => h9) rfl dX5_comesApart_104 ?_
                      refine lv_iload_n hx hb dX5_comesApart_107 rfl (lv_at hl 1 rfl) ?_
                      refine sv_iald hx hb hK hP 26 g26 (j := j + 1) (by omega) (by decide) dX5_comesApart_108 ?_
                      refine W.eq (g2 := F0 mi 109 ls (.int (hd (j + 1)) :: [])) rfl ?_
                      refine sv_top (y := nI (dps C Hd n (j + 1))) ((i58_1 _ (by omega) (by omega)).2) ?_
                      refine lv_goto (tgt := 119) hx hb dX5_comesApart_109 (by decide) ?_
                      refine sv_top (y := nI (mx (dps C Hd n (j + 1)) (dps C Hd n (clr t (j + 1))))) (congrArg nI (if_pos c36).symm) ?_
                      refine lv_istore (lv' := [(5, .int (nI (mx (dps C Hd n (j + 1)) (dps C Hd n (clr t (j + 1)))))), (4, .int (nI (clr t (j + 1)))), (3, .int (nI (j + 1))), (1, .int (nI t)), (0, .ref h)]) hx hb dX5_comesApart_119 hl (by decide) rfl (fun ls hl => ?_)
                      refine lv_aload_n hx hb dX5_comesApart_121 rfl (lv_at hl 4 rfl) ?_
                      refine va_get (ci := 5) (C := RX5) (T := TX5) (N := 19) hx hb hts hinX5 hown hK hP 19 g19 rfl 14 (by decide) k25 (fun _ h9 => h9) rfl dX5_comesApart_122 ?_
                      refine lv_iload_n hx hb dX5_comesApart_125 rfl (lv_at hl 3 rfl) ?_
                      refine lv_dup2_11 hx hb dX5_comesApart_126 rfl rfl ?_
                      refine sv_iald hx hb hK hP 25 g25 (j := t) (by omega) (by decide) dX5_comesApart_127 ?_
                      refine W.eq (g2 := F0 mi 128 ls (.int (hw t) :: [.int (nI t), .ref a6])) rfl ?_
                      refine sv_top (y := nI (itr (wyS C Hd n (wys C Hd n) t) j (wy0 t))) (i58_2) ?_
                      refine lv_aload_n hx hb dX5_comesApart_128 rfl (lv_at hl 4 rfl) ?_
                      refine va_get (ci := 5) (C := RX5) (T := TX5) (N := 19) hx hb hts hinX5 hown hK hP 19 g19 rfl 14 (by decide) k25 (fun _ h9 => h9) rfl dX5_comesApart_129 ?_
                      refine lv_iload_n hx hb dX5_comesApart_132 rfl (lv_at hl 2 rfl) ?_
                      refine sv_iald hx hb hK hP 25 g25 (j := j + 1) (by omega) (by decide) dX5_comesApart_133 ?_
                      refine W.eq (g2 := F0 mi 134 ls (.int (hw (j + 1)) :: [.int (nI (itr (wyS C Hd n (wys C Hd n) t) j (wy0 t))), .int (nI t), .ref a6])) rfl ?_
                      refine sv_top (y := nI (wys C Hd n (j + 1))) ((i58_1 _ (by omega) (by omega)).1) ?_
                      refine lv_aload_n hx hb dX5_comesApart_134 rfl (lv_at hl 4 rfl) ?_
                      refine va_get (ci := 5) (C := RX5) (T := TX5) (N := 19) hx hb hts hinX5 hown hK hP 19 g19 rfl 14 (by decide) k25 (fun _ h9 => h9) rfl dX5_comesApart_135 ?_
                      refine lv_iload hx hb dX5_comesApart_138 (lv_at hl 1 rfl) ?_
                      refine sv_iald hx hb hK hP 25 g25 (j := clr t (j + 1)) (by omega) (by decide) dX5_comesApart_140 ?_
                      refine W.eq (g2 := F0 mi 141 ls (.int (hw (clr t (j + 1))) :: [.int (nI (wys C Hd n (j + 1))), .int (nI (itr (wyS C Hd n (wys C Hd n) t) j (wy0 t))), .int (nI t), .ref a6])) rfl ?_
                      refine sv_top (y := nI (wys C Hd n (clr t (j + 1)))) ((i58_1 _ (by omega) (by omega)).1) ?_
                      refine lv_imul hx hb dX5_comesApart_141 ?_
                      refine sv_top (y := nI ((wys C Hd n (j + 1)) * (wys C Hd n (clr t (j + 1))))) (mul_n _ _) ?_
                      refine lv_iadd hx hb dX5_comesApart_142 ?_
                      refine sv_top (y := nI ((itr (wyS C Hd n (wys C Hd n) t) j (wy0 t)) + ((wys C Hd n (j + 1)) * (wys C Hd n (clr t (j + 1)))))) (nI_add _ _) ?_
                      refine sv_iast hx hb hK hP hD hS 25 g25 (j := t) (by omega) (by decide) dX5_comesApart_143 (fun ws45 H locs hP hD hS g25 fr44 => ?_)
                      replace g19 := (fr44 19 (by decide)).trans g19
                      replace g20 := (fr44 20 (by decide)).trans g20
                      replace g21 := (fr44 21 (by decide)).trans g21
                      replace g22 := (fr44 22 (by decide)).trans g22
                      replace g23 := (fr44 23 (by decide)).trans g23
                      replace g24 := (fr44 24 (by decide)).trans g24
                      replace g26 := (fr44 26 (by decide)).trans g26
                      replace g27 := (fr44 27 (by decide)).trans g27
                      replace g28 := (fr44 28 (by decide)).trans g28
                      replace g29 := (fr44 29 (by decide)).trans g29
                      rw [upd_X] at g25
                      refine lv_aload_n hx hb dX5_comesApart_144 rfl (lv_at hl 4 rfl) ?_
                      refine va_get (ci := 5) (C := RX5) (T := TX5) (N := 19) hx hb hts hinX5 hown hK hP 19 g19 rfl 15 (by decide) k28 (fun _ h9 => h9) rfl dX5_comesApart_145 ?_
                      refine lv_iload_n hx hb dX5_comesApart_148 rfl (lv_at hl 3 rfl) ?_
                      refine lv_iload hx hb dX5_comesApart_149 (lv_at hl 0 rfl) ?_
                      refine lv_iconst (v := nI 1) hx hb dX5_comesApart_151 ci_1 ?_
                      refine lv_iadd hx hb dX5_comesApart_152 ?_
                      refine sv_top (y := nI ((mx (dps C Hd n (j + 1)) (dps C Hd n (clr t (j + 1)))) + 1)) (nI_add _ _) ?_
                      refine lv_aload_n hx hb dX5_comesApart_153 rfl (lv_at hl 4 rfl) ?_
                      refine va_get (ci := 5) (C := RX5) (T := TX5) (N := 19) hx hb hts hinX5 hown hK hP 19 g19 rfl 15 (by decide) k28 (fun _ h9 => h9) rfl dX5_comesApart_154 ?_
                      refine lv_iload_n hx hb dX5_comesApart_157 rfl (lv_at hl 3 rfl) ?_
                      refine sv_iald hx hb hK hP 26 g26 (j := t) (by omega) (by decide) dX5_comesApart_158 ?_
                      refine W.eq (g2 := F0 mi 159 ls (.int (hd t) :: [.int (nI ((mx (dps C Hd n (j + 1)) (dps C Hd n (clr t (j + 1)))) + 1)), .int (nI t), .ref a7])) rfl ?_
                      refine sv_top (y := nI (itr (dpS C Hd n (dps C Hd n) t) j (dp0 t))) (i58_3) ?_
                      refine sn_icmp_ge (tgt := 169) hx hb dX5_comesApart_159 (by decide) (by have := mx_or (dps C Hd n (j + 1)) (dps C Hd n (clr t (j + 1))); have h1 := dps_b (C := C) (Hd := Hd) (n := n) (S := j + 1) (by omega); have h2 := dps_b (C := C) (Hd := Hd) (n := n) (S := clr t (j + 1)) (by omega); have h3 := dps_ok (C := C) (Hd := Hd) (n := n) (j + 1) (by omega); have h4 := dps_ok (C := C) (Hd := Hd) (n := n) (clr t (j + 1)) (by omega); omega) (dp_b ht8 (by omega)) (fun c46 => ?_) (fun c46 => ?_)
                      · refine lv_aload_n hx hb dX5_comesApart_169 rfl (lv_at hl 4 rfl) ?_
                        refine va_get (ci := 5) (C := RX5) (T := TX5) (N := 19) hx hb hts hinX5 hown hK hP 19 g19 rfl 15 (by decide) k28 (fun _ h9 => h9) rfl dX5_comesApart_170 ?_
                        refine lv_iload_n hx hb dX5_comesApart_173 rfl (lv_at hl 3 rfl) ?_
                        refine sv_iald hx hb hK hP 26 g26 (j := t) (by omega) (by decide) dX5_comesApart_174 ?_
                        refine W.eq (g2 := F0 mi 175 ls (.int (hd t) :: [.int (nI t), .ref a7])) rfl ?_
                        refine sv_top (y := nI (itr (dpS C Hd n (dps C Hd n) t) j (dp0 t))) (i58_3) ?_
                        refine sv_iast hx hb hK hP hD hS 26 g26 (j := t) (by omega) (by decide) dX5_comesApart_175 (fun ws48 H locs hP hD hS g26 fr47 => ?_)
                        replace g19 := (fr47 19 (by decide)).trans g19
                        replace g20 := (fr47 20 (by decide)).trans g20
                        replace g21 := (fr47 21 (by decide)).trans g21
                        replace g22 := (fr47 22 (by decide)).trans g22
                        replace g23 := (fr47 23 (by decide)).trans g23
                        replace g24 := (fr47 24 (by decide)).trans g24
                        replace g25 := (fr47 25 (by decide)).trans g25
                        replace g27 := (fr47 27 (by decide)).trans g27
                        replace g28 := (fr47 28 (by decide)).trans g28
                        replace g29 := (fr47 29 (by decide)).trans g29
                        rw [upd_X] at g26
                        refine lv_iinc (v := nI (j + 1 + 1)) (lv' := [(3, .int (nI (j + 1 + 1))), (5, .int (nI (mx (dps C Hd n (j + 1)) (dps C Hd n (clr t (j + 1)))))), (4, .int (nI (clr t (j + 1)))), (1, .int (nI t)), (0, .ref h)]) hx hb dX5_comesApart_176 hl (k := 2) rfl (nI_1 _) (by decide) rfl (fun ls hl => ?_)
                        refine lv_goto (tgt := 58) hx hb dX5_comesApart_179 (by decide) ?_
                        exact ih58 (j + 1) ((upX hw t (nI ((itr (wyS C Hd n (wys C Hd n) t) j (wy0 t)) + ((wys C Hd n (j + 1)) * (wys C Hd n (clr t (j + 1)))))))) ((upX hd t (nI (itr (dpS C Hd n (dps C Hd n) t) j (dp0 t))))) (by omega) _ _ (by omega) (mtOK_set i58_1 (fun s hs => ⟨upX_n hs, upX_n hs⟩)) (by rw [upX_s]; exact congrArg nI (wyS_yes hsp).symm) (by rw [upX_s]; show nI _ = nI (dpS C Hd n (dps C Hd n) t j _); rw [dpS_yes hsp, if_neg (Nat.not_lt.mpr c46)]) (fun z => by rw [hcn] at z; cases z) hP hD g19 g20 g21 g22 g23 g24 g25 g26 g27 g28 g29 (((fr.wd frwl58 : fr _ _ 19 29).tr fr44).tr fr47) ls locs (lv_sub hl [0, 3, 4] rfl) hS
                      · refine lv_iload hx hb dX5_comesApart_162 (lv_at hl 0 rfl) ?_
                        refine lv_iconst (v := nI 1) hx hb dX5_comesApart_164 ci_1 ?_
                        refine lv_iadd hx hb dX5_comesApart_165 ?_
                        refine sv_top (y := nI ((mx (dps C Hd n (j + 1)) (dps C Hd n (clr t (j + 1)))) + 1)) (nI_add _ _) ?_
                        refine lv_goto (tgt := 175) hx hb dX5_comesApart_166 (by decide) ?_
                        refine sv_iast hx hb hK hP hD hS 26 g26 (j := t) (by omega) (by decide) dX5_comesApart_175 (fun ws50 H locs hP hD hS g26 fr49 => ?_)
                        replace g19 := (fr49 19 (by decide)).trans g19
                        replace g20 := (fr49 20 (by decide)).trans g20
                        replace g21 := (fr49 21 (by decide)).trans g21
                        replace g22 := (fr49 22 (by decide)).trans g22
                        replace g23 := (fr49 23 (by decide)).trans g23
                        replace g24 := (fr49 24 (by decide)).trans g24
                        replace g25 := (fr49 25 (by decide)).trans g25
                        replace g27 := (fr49 27 (by decide)).trans g27
                        replace g28 := (fr49 28 (by decide)).trans g28
                        replace g29 := (fr49 29 (by decide)).trans g29
                        rw [upd_X] at g26
                        refine lv_iinc (v := nI (j + 1 + 1)) (lv' := [(3, .int (nI (j + 1 + 1))), (5, .int (nI (mx (dps C Hd n (j + 1)) (dps C Hd n (clr t (j + 1)))))), (4, .int (nI (clr t (j + 1)))), (1, .int (nI t)), (0, .ref h)]) hx hb dX5_comesApart_176 hl (k := 2) rfl (nI_1 _) (by decide) rfl (fun ls hl => ?_)
                        refine lv_goto (tgt := 58) hx hb dX5_comesApart_179 (by decide) ?_
                        exact ih58 (j + 1) ((upX hw t (nI ((itr (wyS C Hd n (wys C Hd n) t) j (wy0 t)) + ((wys C Hd n (j + 1)) * (wys C Hd n (clr t (j + 1)))))))) ((upX hd t (nI ((mx (dps C Hd n (j + 1)) (dps C Hd n (clr t (j + 1)))) + 1)))) (by omega) _ _ (by omega) (mtOK_set i58_1 (fun s hs => ⟨upX_n hs, upX_n hs⟩)) (by rw [upX_s]; exact congrArg nI (wyS_yes hsp).symm) (by rw [upX_s]; show nI _ = nI (dpS C Hd n (dps C Hd n) t j _); rw [dpS_yes hsp, if_pos c46]) (fun z => by rw [hcn] at z; cases z) hP hD g19 g20 g21 g22 g23 g24 g25 g26 g27 g28 g29 (((fr.wd frwl58 : fr _ _ 19 29).tr fr44).tr fr49) ls locs (lv_sub hl [0, 3, 4] rfl) hS
          exact L58 ((t - 0) + 1) 0 ((upX gw t (nI 1))) ((upX gd t (nI 0))) (Nat.lt_succ_self _) _ _ (by omega) (mtOK_set i2_2 (fun s hs => ⟨upX_n hs, upX_n hs⟩)) (by rw [upX_s]; show _ = nI (wy0 t); unfold wy0; rw [if_pos c2]) (by rw [upX_s]; show _ = nI (dp0 t); unfold dp0; rw [if_pos c2]) (fun _ => rfl) hP hD g19 g20 g21 g22 g23 g24 g25 g26 g27 g28 g29 (((fr.wd frwl2 : fr _ _ 19 29).tr fr28).tr fr31) ls locs (lv_sub hl [0, 2, 3] rfl) hS
  exact L2 ((2 ^ n - 1) + 1) 1 fw fd (Nat.lt_succ_self _) _ _ (by omega) hp1 (fun s h1 h2 => absurd h1 (by omega)) hP hD g19 g20 g21 g22 g23 g24 g25 g26 g27 g28 g29 fr.rf ls locs (lv_sub hl [0, 1] rfl) hS
def MD (k : kT) (ws : va_W) (h th n : Nat) (T C Hd : Nat → Nat) (b : Nat) (q : Bool) (J : Nat → Nat) (bg : Bool) (pu bu : Nat) (cl mo : Int32) (K : Nat → Nat) : Prop := ∃ fw fd fc fg fo : Nat → Int32, isMod k ws h th n T C Hd b q J bg pu bu cl mo K fw fd fc fg fo
set_option maxHeartbeats 4000000 in
set_option maxRecDepth 100000 in
theorem c_X5_ways_1 {l : Launch} {D : va_G} {ky : kT} {A : Nat → Prop} {Hs : Heap} {ws : va_W} (hP : va_P D CL ws Hs) (hD : va_D A ws) {h th n : Nat} {T C Hd : Nat → Nat} {b : Nat} {q : Bool} {J : Nat → Nat} {bg : Bool} {pu bu : Nat} {cl mo : Int32} {K : Nat → Nat} {fw fd fc fg fo : Nat → Int32} (hpr : isMod ky ws h th n T C Hd b q J bg pu bu cl mo K fw fd fc fg fo) (hn0 : n = 0) : MU l yX5_ways wsX5_ways 1 21 0 0 D ky A Hs [.ref h] (fun r w => r = nI 0 ∧ isMod ky w h 1 n T C Hd b q J bg pu bu cl mo K fw fd fc fg fo ∧ fr ws w 19 29) := by
  refine MU.of (cc := cX5_ways) (maxL := 1) (ty := .int) (by decide) rfl (Nat.le_of_ble_eq_true rfl) ?_
  intro pg en Rm sg mi av below meth co Qo hRf hRl hRc hRs hx hb hml hown hts hK hret ls hl
  have hl : lv_has ls 1 [(0, .ref h)] := hl
  have hS : va_S A Hs Hs [] := va_S.rf
  generalize ([] : List Loc) = locs at hS ⊢
  obtain ⟨a1, a2, a3, a4, a5, a6, a7, a8, a9, a10, g19, g20, g21, g22, g23, g24, g25, g26, g27, g28, g29⟩ := id hpr
  have k44 := hts (.fieldLink RX5 44 "AssemblyPlannerModel" "parts" "I") (by decide +kernel)
  have hinX5 : ∀ w ∈ wsX50, w ∈ wsX5_ways := by decide +kernel
  refine lv_aload_n hx hb dX5_ways_0 rfl (lv_at hl 0 rfl) ?_
  refine lv_aload_n hx hb dX5_ways_1 rfl (lv_at hl 0 rfl) ?_
  refine va_get (ci := 5) (C := RX5) (T := TX5) (N := 19) hx hb hts hinX5 hown hK hP 19 g19 rfl 1 (by decide) k44 (fun _ h9 => h9) rfl dX5_ways_2 ?_
  refine sn_if_ne (tgt := 12) hx hb dX5_ways_5 (by decide) (by omega) (fun c1 => absurd hn0 c1) (fun c1 => ?_)
  refine lv_iconst (v := nI 1) hx hb dX5_ways_8 ci_1 ?_
  refine lv_goto (tgt := 13) hx hb dX5_ways_9 (by decide) ?_
  refine mcV (c_X5_holds hP hD ⟨a1, a2, a3, a4, a5, a6, a7, a8, a9, a10, g19, g20, g21, g22, g23, g24, g25, g26, g27, g28, g29⟩ (by decide)) ⟨hx, hb, hml, hown, hts⟩ hK gX5_ways_X5_holds rfl hd_X5_holds ⟨by omega, by omega⟩ (va_recv hK hP (ci := 5) (q0 := 19) rfl g19) rfl hl.1 rfl (Nat.le_of_ble_eq_true rfl) dX5_ways_13 ⟨Nat.zero_le _, Nat.zero_le _⟩ hS (fun r ws2 H locs hq4 hP hD hS => ?_)
  obtain ⟨rfl, hpr, fr3⟩ := hq4
  obtain ⟨a1, a2, a3, a4, a5, a6, a7, a8, a9, a10, g19, g20, g21, g22, g23, g24, g25, g26, g27, g28, g29⟩ := id hpr
  refine sv_top (y := nI 0) rfl ?_
  refine sn_if_ne (tgt := 21) hx hb dX5_ways_16 (by decide) (by decide) (fun q => absurd q (by decide)) (fun _ => ?_)
  refine lv_iconst (v := nI 0) hx hb dX5_ways_19 ci_0 ?_
  exact hret 20 ls _ _ locs _ dX5_ways_20 hP hD hS rfl (⟨rfl, ⟨a1, a2, a3, a4, a5, a6, a7, a8, a9, a10, g19, g20, g21, g22, g23, g24, g25, g26, g27, g28, g29⟩, (fr.wd fr3 : fr _ _ 19 29)⟩)
set_option maxHeartbeats 4000000 in
set_option maxRecDepth 100000 in
theorem c_X5_leastDepth_1 {l : Launch} {D : va_G} {ky : kT} {A : Nat → Prop} {Hs : Heap} {ws : va_W} (hP : va_P D CL ws Hs) (hD : va_D A ws) {h th n : Nat} {T C Hd : Nat → Nat} {b : Nat} {q : Bool} {J : Nat → Nat} {bg : Bool} {pu bu : Nat} {cl mo : Int32} {K : Nat → Nat} {fw fd fc fg fo : Nat → Int32} (hpr : isMod ky ws h th n T C Hd b q J bg pu bu cl mo K fw fd fc fg fo) (hn0 : n = 0) : MU l yX5_leastDepth wsX5_leastDepth 1 21 0 0 D ky A Hs [.ref h] (fun r w => r = nI 0 ∧ isMod ky w h 1 n T C Hd b q J bg pu bu cl mo K fw fd fc fg fo ∧ fr ws w 19 29) := by
  refine MU.of (cc := cX5_leastDepth) (maxL := 1) (ty := .int) (by decide) rfl (Nat.le_of_ble_eq_true rfl) ?_
  intro pg en Rm sg mi av below meth co Qo hRf hRl hRc hRs hx hb hml hown hts hK hret ls hl
  have hl : lv_has ls 1 [(0, .ref h)] := hl
  have hS : va_S A Hs Hs [] := va_S.rf
  generalize ([] : List Loc) = locs at hS ⊢
  obtain ⟨a1, a2, a3, a4, a5, a6, a7, a8, a9, a10, g19, g20, g21, g22, g23, g24, g25, g26, g27, g28, g29⟩ := id hpr
  have k44 := hts (.fieldLink RX5 44 "AssemblyPlannerModel" "parts" "I") (by decide +kernel)
  have hinX5 : ∀ w ∈ wsX50, w ∈ wsX5_leastDepth := by decide +kernel
  refine lv_aload_n hx hb dX5_leastDepth_0 rfl (lv_at hl 0 rfl) ?_
  refine lv_aload_n hx hb dX5_leastDepth_1 rfl (lv_at hl 0 rfl) ?_
  refine va_get (ci := 5) (C := RX5) (T := TX5) (N := 19) hx hb hts hinX5 hown hK hP 19 g19 rfl 1 (by decide) k44 (fun _ h9 => h9) rfl dX5_leastDepth_2 ?_
  refine sn_if_ne (tgt := 12) hx hb dX5_leastDepth_5 (by decide) (by omega) (fun c1 => absurd hn0 c1) (fun c1 => ?_)
  refine lv_iconst (v := nI 1) hx hb dX5_leastDepth_8 ci_1 ?_
  refine lv_goto (tgt := 13) hx hb dX5_leastDepth_9 (by decide) ?_
  refine mcV (c_X5_holds hP hD ⟨a1, a2, a3, a4, a5, a6, a7, a8, a9, a10, g19, g20, g21, g22, g23, g24, g25, g26, g27, g28, g29⟩ (by decide)) ⟨hx, hb, hml, hown, hts⟩ hK gX5_leastDepth_X5_holds rfl hd_X5_holds ⟨by omega, by omega⟩ (va_recv hK hP (ci := 5) (q0 := 19) rfl g19) rfl hl.1 rfl (Nat.le_of_ble_eq_true rfl) dX5_leastDepth_13 ⟨Nat.zero_le _, Nat.zero_le _⟩ hS (fun r ws2 H locs hq4 hP hD hS => ?_)
  obtain ⟨rfl, hpr, fr3⟩ := hq4
  obtain ⟨a1, a2, a3, a4, a5, a6, a7, a8, a9, a10, g19, g20, g21, g22, g23, g24, g25, g26, g27, g28, g29⟩ := id hpr
  refine sv_top (y := nI 0) rfl ?_
  refine sn_if_ne (tgt := 21) hx hb dX5_leastDepth_16 (by decide) (by decide) (fun q => absurd q (by decide)) (fun _ => ?_)
  refine lv_iconst (v := nI 0) hx hb dX5_leastDepth_19 ci_0 ?_
  exact hret 20 ls _ _ locs _ dX5_leastDepth_20 hP hD hS rfl (⟨rfl, ⟨a1, a2, a3, a4, a5, a6, a7, a8, a9, a10, g19, g20, g21, g22, g23, g24, g25, g26, g27, g28, g29⟩, (fr.wd fr3 : fr _ _ 19 29)⟩)
set_option maxHeartbeats 4000000 in
set_option maxRecDepth 100000 in
theorem c_X5_orders_1 {l : Launch} {D : va_G} {ky : kT} {A : Nat → Prop} {Hs : Heap} {ws : va_W} (hP : va_P D CL ws Hs) (hD : va_D A ws) {h th n : Nat} {T C Hd : Nat → Nat} {b : Nat} {q : Bool} {J : Nat → Nat} {bg : Bool} {pu bu : Nat} {cl mo : Int32} {K : Nat → Nat} {fw fd fc fg fo : Nat → Int32} (hpr : isMod ky ws h th n T C Hd b q J bg pu bu cl mo K fw fd fc fg fo) (hn0 : n = 0) : MU l yX5_orders wsX5_orders 1 21 0 0 D ky A Hs [.ref h] (fun r w => r = nI 0 ∧ isMod ky w h 1 n T C Hd b q J bg pu bu cl mo K fw fd fc fg fo ∧ fr ws w 19 29) := by
  refine MU.of (cc := cX5_orders) (maxL := 4) (ty := .int) (by decide) rfl (Nat.le_of_ble_eq_true rfl) ?_
  intro pg en Rm sg mi av below meth co Qo hRf hRl hRc hRs hx hb hml hown hts hK hret ls hl
  have hl : lv_has ls 4 [(0, .ref h)] := hl
  have hS : va_S A Hs Hs [] := va_S.rf
  generalize ([] : List Loc) = locs at hS ⊢
  obtain ⟨a1, a2, a3, a4, a5, a6, a7, a8, a9, a10, g19, g20, g21, g22, g23, g24, g25, g26, g27, g28, g29⟩ := id hpr
  have k44 := hts (.fieldLink RX5 44 "AssemblyPlannerModel" "parts" "I") (by decide +kernel)
  have hinX5 : ∀ w ∈ wsX50, w ∈ wsX5_orders := by decide +kernel
  refine lv_aload_n hx hb dX5_orders_0 rfl (lv_at hl 0 rfl) ?_
  refine lv_aload_n hx hb dX5_orders_1 rfl (lv_at hl 0 rfl) ?_
  refine va_get (ci := 5) (C := RX5) (T := TX5) (N := 19) hx hb hts hinX5 hown hK hP 19 g19 rfl 1 (by decide) k44 (fun _ h9 => h9) rfl dX5_orders_2 ?_
  refine sn_if_ne (tgt := 12) hx hb dX5_orders_5 (by decide) (by omega) (fun c1 => absurd hn0 c1) (fun c1 => ?_)
  refine lv_iconst (v := nI 1) hx hb dX5_orders_8 ci_1 ?_
  refine lv_goto (tgt := 13) hx hb dX5_orders_9 (by decide) ?_
  refine mcV (c_X5_holds hP hD ⟨a1, a2, a3, a4, a5, a6, a7, a8, a9, a10, g19, g20, g21, g22, g23, g24, g25, g26, g27, g28, g29⟩ (by decide)) ⟨hx, hb, hml, hown, hts⟩ hK gX5_orders_X5_holds rfl hd_X5_holds ⟨by omega, by omega⟩ (va_recv hK hP (ci := 5) (q0 := 19) rfl g19) rfl hl.1 rfl (Nat.le_of_ble_eq_true rfl) dX5_orders_13 ⟨Nat.zero_le _, Nat.zero_le _⟩ hS (fun r ws2 H locs hq4 hP hD hS => ?_)
  obtain ⟨rfl, hpr, fr3⟩ := hq4
  obtain ⟨a1, a2, a3, a4, a5, a6, a7, a8, a9, a10, g19, g20, g21, g22, g23, g24, g25, g26, g27, g28, g29⟩ := id hpr
  refine sv_top (y := nI 0) rfl ?_
  refine sn_if_ne (tgt := 21) hx hb dX5_orders_16 (by decide) (by decide) (fun q => absurd q (by decide)) (fun _ => ?_)
  refine lv_iconst (v := nI 0) hx hb dX5_orders_19 ci_0 ?_
  exact hret 20 ls _ _ locs _ dX5_orders_20 hP hD hS rfl (⟨rfl, ⟨a1, a2, a3, a4, a5, a6, a7, a8, a9, a10, g19, g20, g21, g22, g23, g24, g25, g26, g27, g28, g29⟩, (fr.wd fr3 : fr _ _ 19 29)⟩)
set_option maxHeartbeats 4000000 in
set_option maxRecDepth 100000 in
theorem c_X5_ways_0 {l : Launch} {D : va_G} {ky : kT} {A : Nat → Prop} {Hs : Heap} {ws : va_W} (hP : va_P D CL ws Hs) (hD : va_D A ws) {h th n : Nat} {T C Hd : Nat → Nat} {b : Nat} {q : Bool} {J : Nat → Nat} {bg : Bool} {pu bu : Nat} {cl mo : Int32} {K : Nat → Nat} {fw fd fc fg fo : Nat → Int32} (hpr : isMod ky ws h th n T C Hd b q J bg pu bu cl mo K fw fd fc fg fo) (hI : PI0 n C Hd b) (hn1 : 0 < n) : MU l yX5_ways wsX5_ways 4 95 0 0 D ky A Hs [.ref h] (fun r w => r = nI (wys C Hd n (2 ^ n - 1)) ∧ MD ky w h 0 n T C Hd b q J bg pu bu cl mo K ∧ fr ws w 19 29) := by
  refine MU.of (cc := cX5_ways) (maxL := 1) (ty := .int) (by decide) rfl (Nat.le_of_ble_eq_true rfl) ?_
  intro pg en Rm sg mi av below meth co Qo hRf hRl hRc hRs hx hb hml hown hts hK hret ls hl
  have hl : lv_has ls 1 [(0, .ref h)] := hl
  have hS : va_S A Hs Hs [] := va_S.rf
  generalize ([] : List Loc) = locs at hS ⊢
  obtain ⟨a1, a2, a3, a4, a5, a6, a7, a8, a9, a10, g19, g20, g21, g22, g23, g24, g25, g26, g27, g28, g29⟩ := id hpr
  have hn8 := hI.1
  have hp2 := p2_le hn8
  have hp1 : 2 ≤ 2 ^ n := by have := Nat.pow_le_pow_right (show 0 < 2 by decide) (show 1 ≤ n from hn1); omega
  have k44 := hts (.fieldLink RX5 44 "AssemblyPlannerModel" "parts" "I") (by decide +kernel)
  have hinX5 : ∀ w ∈ wsX50, w ∈ wsX5_ways := by decide +kernel
  have k25 := hts (.fieldLink RX5 25 "AssemblyPlannerModel" "ways" "[I") (by decide +kernel)
  refine lv_aload_n hx hb dX5_ways_0 rfl (lv_at hl 0 rfl) ?_
  refine lv_aload_n hx hb dX5_ways_1 rfl (lv_at hl 0 rfl) ?_
  refine va_get (ci := 5) (C := RX5) (T := TX5) (N := 19) hx hb hts hinX5 hown hK hP 19 g19 rfl 1 (by decide) k44 (fun _ h9 => h9) rfl dX5_ways_2 ?_
  refine sn_if_ne (tgt := 12) hx hb dX5_ways_5 (by decide) (by omega) (fun c1 => ?_) (fun c1 => absurd c1 (by omega))
  refine lv_iconst (v := nI 0) hx hb dX5_ways_12 ci_0 ?_
  refine mcV (c_X5_holds hP hD ⟨a1, a2, a3, a4, a5, a6, a7, a8, a9, a10, g19, g20, g21, g22, g23, g24, g25, g26, g27, g28, g29⟩ (by decide)) ⟨hx, hb, hml, hown, hts⟩ hK gX5_ways_X5_holds rfl hd_X5_holds ⟨by omega, by omega⟩ (va_recv hK hP (ci := 5) (q0 := 19) rfl g19) rfl hl.1 rfl (Nat.le_of_ble_eq_true rfl) dX5_ways_13 ⟨Nat.zero_le _, Nat.zero_le _⟩ hS (fun r ws2 H locs hq4 hP hD hS => ?_)
  obtain ⟨rfl, hpr, fr3⟩ := hq4
  obtain ⟨a1, a2, a3, a4, a5, a6, a7, a8, a9, a10, g19, g20, g21, g22, g23, g24, g25, g26, g27, g28, g29⟩ := id hpr
  refine sv_top (y := nI 1) rfl ?_
  refine sn_if_ne (tgt := 21) hx hb dX5_ways_16 (by decide) (by decide) (fun _ => ?_) (fun q => absurd q (by decide))
  refine lv_aload_n hx hb dX5_ways_21 rfl (lv_at hl 0 rfl) ?_
  refine mvV (c_X5_comesApart hP hD ⟨a1, a2, a3, a4, a5, a6, a7, a8, a9, a10, g19, g20, g21, g22, g23, g24, g25, g26, g27, g28, g29⟩ hI) ⟨hx, hb, hml, hown, hts⟩ hK gX5_ways_X5_comesApart rfl hd_X5_comesApart ⟨by omega, by omega⟩ (va_recv hK hP (ci := 5) (q0 := 19) rfl g19) rfl hl.1 rfl (Nat.le_of_ble_eq_true rfl) dX5_ways_22 ⟨Nat.zero_le _, Nat.zero_le _⟩ hS (fun ws6 H locs hq8 hP hD hS => ?_)
  obtain ⟨⟨gw, gd, hpr, hmt⟩, fr7⟩ := hq8
  obtain ⟨a1, a2, a3, a4, a5, a6, a7, a8, a9, a10, g19, g20, g21, g22, g23, g24, g25, g26, g27, g28, g29⟩ := id hpr
  refine lv_aload_n hx hb dX5_ways_25 rfl (lv_at hl 0 rfl) ?_
  refine va_get (ci := 5) (C := RX5) (T := TX5) (N := 19) hx hb hts hinX5 hown hK hP 19 g19 rfl 14 (by decide) k25 (fun _ h9 => h9) rfl dX5_ways_26 ?_
  refine lv_aload_n hx hb dX5_ways_29 rfl (lv_at hl 0 rfl) ?_
  refine pcV (c_X5_whole hP ⟨a1, a2, a3, a4, a5, a6, a7, a8, a9, a10, g19, g20, g21, g22, g23, g24, g25, g26, g27, g28, g29⟩ hn8) ⟨hx, hb, hml, hown, hts⟩ hK gX5_ways_X5_whole rfl hd_X5_whole ⟨by omega, by omega⟩ (va_recv hK hP (ci := 5) (q0 := 19) rfl g19) rfl hl.1 rfl (Nat.le_of_ble_eq_true rfl) dX5_ways_30 ⟨Nat.zero_le _, Nat.zero_le _⟩ hS (fun locs hS => ?_)
  refine sv_iald hx hb hK hP 25 g25 (j := 2 ^ n - 1) (by omega) (by decide) dX5_ways_33 ?_
  refine W.eq (g2 := F0 mi 34 ls (.int (gw (2 ^ n - 1)) :: [])) rfl ?_
  refine sv_top (y := nI (wys C Hd n (2 ^ n - 1))) ((hmt _ (by omega) (by omega)).1) ?_
  exact hret 34 ls _ _ locs _ dX5_ways_34 hP hD hS rfl (⟨rfl, ⟨_, _, _, _, _, ⟨a1, a2, a3, a4, a5, a6, a7, a8, a9, a10, g19, g20, g21, g22, g23, g24, g25, g26, g27, g28, g29⟩⟩, ((fr.wd fr3 : fr _ _ 19 29).tr fr7)⟩)
set_option maxHeartbeats 4000000 in
set_option maxRecDepth 100000 in
theorem c_X5_leastDepth_0 {l : Launch} {D : va_G} {ky : kT} {A : Nat → Prop} {Hs : Heap} {ws : va_W} (hP : va_P D CL ws Hs) (hD : va_D A ws) {h th n : Nat} {T C Hd : Nat → Nat} {b : Nat} {q : Bool} {J : Nat → Nat} {bg : Bool} {pu bu : Nat} {cl mo : Int32} {K : Nat → Nat} {fw fd fc fg fo : Nat → Int32} (hpr : isMod ky ws h th n T C Hd b q J bg pu bu cl mo K fw fd fc fg fo) (hI : PI0 n C Hd b) (hn1 : 0 < n) : MU l yX5_leastDepth wsX5_leastDepth 4 95 0 0 D ky A Hs [.ref h] (fun r w => r = dI (dps C Hd n (2 ^ n - 1)) ∧ MD ky w h 0 n T C Hd b q J bg pu bu cl mo K ∧ fr ws w 19 29) := by
  refine MU.of (cc := cX5_leastDepth) (maxL := 1) (ty := .int) (by decide) rfl (Nat.le_of_ble_eq_true rfl) ?_
  intro pg en Rm sg mi av below meth co Qo hRf hRl hRc hRs hx hb hml hown hts hK hret ls hl
  have hl : lv_has ls 1 [(0, .ref h)] := hl
  have hS : va_S A Hs Hs [] := va_S.rf
  generalize ([] : List Loc) = locs at hS ⊢
  obtain ⟨a1, a2, a3, a4, a5, a6, a7, a8, a9, a10, g19, g20, g21, g22, g23, g24, g25, g26, g27, g28, g29⟩ := id hpr
  have hn8 := hI.1
  have hp2 := p2_le hn8
  have hp1 : 2 ≤ 2 ^ n := by have := Nat.pow_le_pow_right (show 0 < 2 by decide) (show 1 ≤ n from hn1); omega
  have k44 := hts (.fieldLink RX5 44 "AssemblyPlannerModel" "parts" "I") (by decide +kernel)
  have hinX5 : ∀ w ∈ wsX50, w ∈ wsX5_leastDepth := by decide +kernel
  have k28 := hts (.fieldLink RX5 28 "AssemblyPlannerModel" "depths" "[I") (by decide +kernel)
  refine lv_aload_n hx hb dX5_leastDepth_0 rfl (lv_at hl 0 rfl) ?_
  refine lv_aload_n hx hb dX5_leastDepth_1 rfl (lv_at hl 0 rfl) ?_
  refine va_get (ci := 5) (C := RX5) (T := TX5) (N := 19) hx hb hts hinX5 hown hK hP 19 g19 rfl 1 (by decide) k44 (fun _ h9 => h9) rfl dX5_leastDepth_2 ?_
  refine sn_if_ne (tgt := 12) hx hb dX5_leastDepth_5 (by decide) (by omega) (fun c1 => ?_) (fun c1 => absurd c1 (by omega))
  refine lv_iconst (v := nI 0) hx hb dX5_leastDepth_12 ci_0 ?_
  refine mcV (c_X5_holds hP hD ⟨a1, a2, a3, a4, a5, a6, a7, a8, a9, a10, g19, g20, g21, g22, g23, g24, g25, g26, g27, g28, g29⟩ (by decide)) ⟨hx, hb, hml, hown, hts⟩ hK gX5_leastDepth_X5_holds rfl hd_X5_holds ⟨by omega, by omega⟩ (va_recv hK hP (ci := 5) (q0 := 19) rfl g19) rfl hl.1 rfl (Nat.le_of_ble_eq_true rfl) dX5_leastDepth_13 ⟨Nat.zero_le _, Nat.zero_le _⟩ hS (fun r ws2 H locs hq4 hP hD hS => ?_)
  obtain ⟨rfl, hpr, fr3⟩ := hq4
  obtain ⟨a1, a2, a3, a4, a5, a6, a7, a8, a9, a10, g19, g20, g21, g22, g23, g24, g25, g26, g27, g28, g29⟩ := id hpr
  refine sv_top (y := nI 1) rfl ?_
  refine sn_if_ne (tgt := 21) hx hb dX5_leastDepth_16 (by decide) (by decide) (fun _ => ?_) (fun q => absurd q (by decide))
  refine lv_aload_n hx hb dX5_leastDepth_21 rfl (lv_at hl 0 rfl) ?_
  refine mvV (c_X5_comesApart hP hD ⟨a1, a2, a3, a4, a5, a6, a7, a8, a9, a10, g19, g20, g21, g22, g23, g24, g25, g26, g27, g28, g29⟩ hI) ⟨hx, hb, hml, hown, hts⟩ hK gX5_leastDepth_X5_comesApart rfl hd_X5_comesApart ⟨by omega, by omega⟩ (va_recv hK hP (ci := 5) (q0 := 19) rfl g19) rfl hl.1 rfl (Nat.le_of_ble_eq_true rfl) dX5_leastDepth_22 ⟨Nat.zero_le _, Nat.zero_le _⟩ hS (fun ws6 H locs hq8 hP hD hS => ?_)
  obtain ⟨⟨gw, gd, hpr, hmt⟩, fr7⟩ := hq8
  obtain ⟨a1, a2, a3, a4, a5, a6, a7, a8, a9, a10, g19, g20, g21, g22, g23, g24, g25, g26, g27, g28, g29⟩ := id hpr
  refine lv_aload_n hx hb dX5_leastDepth_25 rfl (lv_at hl 0 rfl) ?_
  refine va_get (ci := 5) (C := RX5) (T := TX5) (N := 19) hx hb hts hinX5 hown hK hP 19 g19 rfl 15 (by decide) k28 (fun _ h9 => h9) rfl dX5_leastDepth_26 ?_
  refine lv_aload_n hx hb dX5_leastDepth_29 rfl (lv_at hl 0 rfl) ?_
  refine pcV (c_X5_whole hP ⟨a1, a2, a3, a4, a5, a6, a7, a8, a9, a10, g19, g20, g21, g22, g23, g24, g25, g26, g27, g28, g29⟩ hn8) ⟨hx, hb, hml, hown, hts⟩ hK gX5_leastDepth_X5_whole rfl hd_X5_whole ⟨by omega, by omega⟩ (va_recv hK hP (ci := 5) (q0 := 19) rfl g19) rfl hl.1 rfl (Nat.le_of_ble_eq_true rfl) dX5_leastDepth_30 ⟨Nat.zero_le _, Nat.zero_le _⟩ hS (fun locs hS => ?_)
  refine sv_iald hx hb hK hP 26 g26 (j := 2 ^ n - 1) (by omega) (by decide) dX5_leastDepth_33 ?_
  refine W.eq (g2 := F0 mi 34 ls (.int (gd (2 ^ n - 1)) :: [])) rfl ?_
  refine sv_top (y := nI (dps C Hd n (2 ^ n - 1))) ((hmt _ (by omega) (by omega)).2) ?_
  refine lv_sipush (v := nI 1000) hx hb dX5_leastDepth_34 si_1000 ?_
  refine sn_icmp_ge (tgt := 52) hx hb dX5_leastDepth_37 (by decide) (dps_b (by omega)) (by decide) (fun c9 => ?_) (fun c9 => ?_)
  · refine lv_iconst (v := -1) hx hb dX5_leastDepth_52 ci_m1 ?_
    exact hret 53 ls _ _ locs _ dX5_leastDepth_53 hP hD hS rfl (⟨by have h9 := dps_ok (C := C) (Hd := Hd) (n := n) (2 ^ n - 1) (by omega); unfold dI; rw [if_pos (by omega)], ⟨_, _, _, _, _, ⟨a1, a2, a3, a4, a5, a6, a7, a8, a9, a10, g19, g20, g21, g22, g23, g24, g25, g26, g27, g28, g29⟩⟩, ((fr.wd fr3 : fr _ _ 19 29).tr fr7)⟩)
  · refine lv_aload_n hx hb dX5_leastDepth_40 rfl (lv_at hl 0 rfl) ?_
    refine va_get (ci := 5) (C := RX5) (T := TX5) (N := 19) hx hb hts hinX5 hown hK hP 19 g19 rfl 15 (by decide) k28 (fun _ h9 => h9) rfl dX5_leastDepth_41 ?_
    refine lv_aload_n hx hb dX5_leastDepth_44 rfl (lv_at hl 0 rfl) ?_
    refine pcV (c_X5_whole hP ⟨a1, a2, a3, a4, a5, a6, a7, a8, a9, a10, g19, g20, g21, g22, g23, g24, g25, g26, g27, g28, g29⟩ hn8) ⟨hx, hb, hml, hown, hts⟩ hK gX5_leastDepth_X5_whole rfl hd_X5_whole ⟨by omega, by omega⟩ (va_recv hK hP (ci := 5) (q0 := 19) rfl g19) rfl hl.1 rfl (Nat.le_of_ble_eq_true rfl) dX5_leastDepth_45 ⟨Nat.zero_le _, Nat.zero_le _⟩ hS (fun locs hS => ?_)
    refine sv_iald hx hb hK hP 26 g26 (j := 2 ^ n - 1) (by omega) (by decide) dX5_leastDepth_48 ?_
    refine W.eq (g2 := F0 mi 49 ls (.int (gd (2 ^ n - 1)) :: [])) rfl ?_
    refine sv_top (y := nI (dps C Hd n (2 ^ n - 1))) ((hmt _ (by omega) (by omega)).2) ?_
    refine lv_goto (tgt := 53) hx hb dX5_leastDepth_49 (by decide) ?_
    exact hret 53 ls _ _ locs _ dX5_leastDepth_53 hP hD hS rfl (⟨by unfold dI; rw [if_neg (by omega)], ⟨_, _, _, _, _, ⟨a1, a2, a3, a4, a5, a6, a7, a8, a9, a10, g19, g20, g21, g22, g23, g24, g25, g26, g27, g28, g29⟩⟩, ((fr.wd fr3 : fr _ _ 19 29).tr fr7)⟩)
theorem or_00 {x y : Nat} (h : x = y) : nI (x + 0) = nI y := by rw [Nat.add_zero, h]
set_option maxHeartbeats 4000000 in
set_option maxRecDepth 100000 in
theorem c_X5_orders_0 {l : Launch} {D : va_G} {ky : kT} {A : Nat → Prop} {Hs : Heap} {ws : va_W} (hP : va_P D CL ws Hs) (hD : va_D A ws) {h th n : Nat} {T C Hd : Nat → Nat} {b : Nat} {q : Bool} {J : Nat → Nat} {bg : Bool} {pu bu : Nat} {cl mo : Int32} {K : Nat → Nat} {fw fd fc fg fo : Nat → Int32} (hpr : isMod ky ws h th n T C Hd b q J bg pu bu cl mo K fw fd fc fg fo) (hI : PI0 n C Hd b) (hn1 : 0 < n) : MU l yX5_orders wsX5_orders 4 90 0 0 D ky A Hs [.ref h] (fun r w => r = nI (ord C Hd b q n 0) ∧ MD ky w h 0 n T C Hd b q J bg pu bu cl mo K ∧ fr ws w 19 29) := by
  refine MU.of (cc := cX5_orders) (maxL := 4) (ty := .int) (by decide) rfl (Nat.le_of_ble_eq_true rfl) ?_
  intro pg en Rm sg mi av below meth co Qo hRf hRl hRc hRs hx hb hml hown hts hK hret ls hl
  have hl : lv_has ls 4 [(0, .ref h)] := hl
  have hS : va_S A Hs Hs [] := va_S.rf
  generalize ([] : List Loc) = locs at hS ⊢
  obtain ⟨a1, a2, a3, a4, a5, a6, a7, a8, a9, a10, g19, g20, g21, g22, g23, g24, g25, g26, g27, g28, g29⟩ := id hpr
  have hn8 := hI.1
  have hp2 := p2_le hn8
  have hp1 : 2 ≤ 2 ^ n := by have := Nat.pow_le_pow_right (show 0 < 2 by decide) (show 1 ≤ n from hn1); omega
  have k44 := hts (.fieldLink RX5 44 "AssemblyPlannerModel" "parts" "I") (by decide +kernel)
  have hinX5 : ∀ w ∈ wsX50, w ∈ wsX5_orders := by decide +kernel
  have k31 := hts (.fieldLink RX5 31 "AssemblyPlannerModel" "counts" "[I") (by decide +kernel)
  refine lv_aload_n hx hb dX5_orders_0 rfl (lv_at hl 0 rfl) ?_
  refine lv_aload_n hx hb dX5_orders_1 rfl (lv_at hl 0 rfl) ?_
  refine va_get (ci := 5) (C := RX5) (T := TX5) (N := 19) hx hb hts hinX5 hown hK hP 19 g19 rfl 1 (by decide) k44 (fun _ h9 => h9) rfl dX5_orders_2 ?_
  refine sn_if_ne (tgt := 12) hx hb dX5_orders_5 (by decide) (by omega) (fun c1 => ?_) (fun c1 => absurd c1 (by omega))
  refine lv_iconst (v := nI 0) hx hb dX5_orders_12 ci_0 ?_
  refine mcV (c_X5_holds hP hD ⟨a1, a2, a3, a4, a5, a6, a7, a8, a9, a10, g19, g20, g21, g22, g23, g24, g25, g26, g27, g28, g29⟩ (by decide)) ⟨hx, hb, hml, hown, hts⟩ hK gX5_orders_X5_holds rfl hd_X5_holds ⟨by omega, by omega⟩ (va_recv hK hP (ci := 5) (q0 := 19) rfl g19) rfl hl.1 rfl (Nat.le_of_ble_eq_true rfl) dX5_orders_13 ⟨Nat.zero_le _, Nat.zero_le _⟩ hS (fun r ws2 H locs hq4 hP hD hS => ?_)
  obtain ⟨rfl, hpr, fr3⟩ := hq4
  obtain ⟨a1, a2, a3, a4, a5, a6, a7, a8, a9, a10, g19, g20, g21, g22, g23, g24, g25, g26, g27, g28, g29⟩ := id hpr
  refine sv_top (y := nI 1) rfl ?_
  refine sn_if_ne (tgt := 21) hx hb dX5_orders_16 (by decide) (by decide) (fun _ => ?_) (fun q => absurd q (by decide))
  refine lv_iconst (v := nI 0) hx hb dX5_orders_21 ci_0 ?_
  refine lv_istore_n (lv' := [(1, .int (nI 0)), (0, .ref h)]) hx hb dX5_orders_22 rfl hl (by decide) rfl (fun ls hl => ?_)
  have L23 : ∀ (L23d : Nat) (t : Nat) (gc : Nat → Int32), 2 ^ n - t < L23d → ∀ (wl23 : va_W) (H : Heap), t ≤ 2 ^ n → (∀ s, s < t → gc s = nI (oc C Hd b q n s)) → va_P D CL wl23 H → va_D A wl23 → wl23[19]? = some (h, .inr (5, [.int (nI 0), .int (nI n), .ref a1, .ref a2, .ref a3, .int (nI b), .int (bI q), .ref a4, .int (bI bg), .int (nI pu), .int (nI bu), .int cl, .int mo, .ref a5, .ref a6, .ref a7, .ref a8, .ref a9, .ref a10])) → wl23[20]? = some (a1, .inl (ky.1, 8, .inl (fun i => nI (T i)))) → wl23[21]? = some (a2, .inl (ky.1, 8, .inl (fun i => nI (C i)))) → wl23[22]? = some (a3, .inl (ky.1, 48, .inl (fun i => nI (Hd i)))) → wl23[23]? = some (a4, .inl (ky.1, 8, .inl (fun i => nI (J i)))) → wl23[24]? = some (a5, .inl (ky.1, 8, .inl (fun i => nI (K i)))) → wl23[25]? = some (a6, .inl (ky.1, 256, .inl fw)) → wl23[26]? = some (a7, .inl (ky.1, 256, .inl fd)) → wl23[27]? = some (a8, .inl (ky.1, 256, .inl gc)) → wl23[28]? = some (a9, .inl (ky.1, 2048, .inl fg)) → wl23[29]? = some (a10, .inl (ky.1, 8, .inl fo)) → fr ws wl23 19 29 → ∀ (ls : Array Slot) (locs : List Loc), lv_has ls 4 [(1, .int (nI t)), (0, .ref h)] → va_S A Hs H locs → W pg l en Rm sg mi av below meth co H locs 0 0 Qo (F0 mi 23 ls []) := by
    intro L23d
    induction L23d with
    | zero => intro t gc hfu; exact absurd hfu (Nat.not_lt_zero _)
    | succ L23d ih23 =>
      intro t gc hfu wl23 H i23_0 i23_1 hP hD g19 g20 g21 g22 g23 g24 g25 g26 g27 g28 g29 frwl23 ls locs hl hS
      refine lv_iload_n hx hb dX5_orders_23 rfl (lv_at hl 0 rfl) ?_
      refine lv_aload_n hx hb dX5_orders_24 rfl (lv_at hl 1 rfl) ?_
      refine pcV (c_X5_whole hP ⟨a1, a2, a3, a4, a5, a6, a7, a8, a9, a10, g19, g20, g21, g22, g23, g24, g25, g26, g27, g28, g29⟩ hn8) ⟨hx, hb, hml, hown, hts⟩ hK gX5_orders_X5_whole rfl hd_X5_whole ⟨by omega, by omega⟩ (va_recv hK hP (ci := 5) (q0 := 19) rfl g19) rfl hl.1 rfl (Nat.le_of_ble_eq_true rfl) dX5_orders_25 ⟨Nat.zero_le _, Nat.zero_le _⟩ hS (fun locs hS => ?_)
      refine sn_icmp_gt (tgt := 109) hx hb dX5_orders_28 (by decide) (by omega) (Nat.lt_of_le_of_lt (Nat.sub_le _ _) (pw_lt (by omega))) (fun c6 => ?_) (fun c6 => ?_)
      · refine lv_aload_n hx hb dX5_orders_109 rfl (lv_at hl 1 rfl) ?_
        refine va_get (ci := 5) (C := RX5) (T := TX5) (N := 19) hx hb hts hinX5 hown hK hP 19 g19 rfl 16 (by decide) k31 (fun _ h9 => h9) rfl dX5_orders_110 ?_
        refine lv_aload_n hx hb dX5_orders_113 rfl (lv_at hl 1 rfl) ?_
        refine pcV (c_X5_whole hP ⟨a1, a2, a3, a4, a5, a6, a7, a8, a9, a10, g19, g20, g21, g22, g23, g24, g25, g26, g27, g28, g29⟩ hn8) ⟨hx, hb, hml, hown, hts⟩ hK gX5_orders_X5_whole rfl hd_X5_whole ⟨by omega, by omega⟩ (va_recv hK hP (ci := 5) (q0 := 19) rfl g19) rfl hl.1 rfl (Nat.le_of_ble_eq_true rfl) dX5_orders_114 ⟨Nat.zero_le _, Nat.zero_le _⟩ hS (fun locs hS => ?_)
        refine sv_iald hx hb hK hP 27 g27 (j := 2 ^ n - 1) (by omega) (by decide) dX5_orders_117 ?_
        refine W.eq (g2 := F0 mi 118 ls (.int (gc (2 ^ n - 1)) :: [])) rfl ?_
        refine sv_top (y := nI (ord C Hd b q n 0)) (by rw [i23_1 _ (by omega), oc_ord hn8]) ?_
        exact hret 118 ls _ _ locs _ dX5_orders_118 hP hD hS rfl (⟨rfl, ⟨_, _, _, _, _, ⟨a1, a2, a3, a4, a5, a6, a7, a8, a9, a10, g19, g20, g21, g22, g23, g24, g25, g26, g27, g28, g29⟩⟩, (fr.wd frwl23 : fr _ _ 19 29)⟩)
      · refine lv_aload_n hx hb dX5_orders_31 rfl (lv_at hl 1 rfl) ?_
        refine va_get (ci := 5) (C := RX5) (T := TX5) (N := 19) hx hb hts hinX5 hown hK hP 19 g19 rfl 16 (by decide) k31 (fun _ h9 => h9) rfl dX5_orders_32 ?_
        refine lv_iload_n hx hb dX5_orders_35 rfl (lv_at hl 0 rfl) ?_
        refine lv_iload_n hx hb dX5_orders_36 rfl (lv_at hl 0 rfl) ?_
        refine sn_if_ne (tgt := 44) hx hb dX5_orders_37 (by decide) (by omega) (fun c7 => ?_) (fun c7 => ?_)
        · refine lv_iconst (v := nI 0) hx hb dX5_orders_44 ci_0 ?_
          refine sv_iast hx hb hK hP hD hS 27 g27 (j := t) (by omega) (by decide) dX5_orders_45 (fun ws9 H locs hP hD hS g27 fr8 => ?_)
          replace g19 := (fr8 19 (by decide)).trans g19
          replace g20 := (fr8 20 (by decide)).trans g20
          replace g21 := (fr8 21 (by decide)).trans g21
          replace g22 := (fr8 22 (by decide)).trans g22
          replace g23 := (fr8 23 (by decide)).trans g23
          replace g24 := (fr8 24 (by decide)).trans g24
          replace g25 := (fr8 25 (by decide)).trans g25
          replace g26 := (fr8 26 (by decide)).trans g26
          replace g28 := (fr8 28 (by decide)).trans g28
          replace g29 := (fr8 29 (by decide)).trans g29
          rw [upd_X] at g27
          refine lv_iconst (v := nI 0) hx hb dX5_orders_46 ci_0 ?_
          refine lv_istore_n (lv' := [(2, .int (nI 0)), (1, .int (nI t)), (0, .ref h)]) hx hb dX5_orders_47 rfl hl (by decide) rfl (fun ls hl => ?_)
          have L48 : ∀ (L48d : Nat) (k : Nat) (hc : Nat → Int32), n - k < L48d → ∀ (wl48 : va_W) (H : Heap), k ≤ n → (∀ s, s < t → hc s = nI (oc C Hd b q n s)) → hc t = nI (itr (ocS C Hd b q (oc C Hd b q n) t) k (if t = 0 then 1 else 0)) → va_P D CL wl48 H → va_D A wl48 → wl48[19]? = some (h, .inr (5, [.int (nI 0), .int (nI n), .ref a1, .ref a2, .ref a3, .int (nI b), .int (bI q), .ref a4, .int (bI bg), .int (nI pu), .int (nI bu), .int cl, .int mo, .ref a5, .ref a6, .ref a7, .ref a8, .ref a9, .ref a10])) → wl48[20]? = some (a1, .inl (ky.1, 8, .inl (fun i => nI (T i)))) → wl48[21]? = some (a2, .inl (ky.1, 8, .inl (fun i => nI (C i)))) → wl48[22]? = some (a3, .inl (ky.1, 48, .inl (fun i => nI (Hd i)))) → wl48[23]? = some (a4, .inl (ky.1, 8, .inl (fun i => nI (J i)))) → wl48[24]? = some (a5, .inl (ky.1, 8, .inl (fun i => nI (K i)))) → wl48[25]? = some (a6, .inl (ky.1, 256, .inl fw)) → wl48[26]? = some (a7, .inl (ky.1, 256, .inl fd)) → wl48[27]? = some (a8, .inl (ky.1, 256, .inl hc)) → wl48[28]? = some (a9, .inl (ky.1, 2048, .inl fg)) → wl48[29]? = some (a10, .inl (ky.1, 8, .inl fo)) → fr ws wl48 19 29 → ∀ (ls : Array Slot) (locs : List Loc), lv_has ls 4 [(2, .int (nI k)), (1, .int (nI t)), (0, .ref h)] → va_S A Hs H locs → W pg l en Rm sg mi av below meth co H locs 0 0 Qo (F0 mi 48 ls []) := by
            intro L48d
            induction L48d with
            | zero => intro k hc hfu; exact absurd hfu (Nat.not_lt_zero _)
            | succ L48d ih48 =>
              intro k hc hfu wl48 H i48_0 i48_1 i48_2 hP hD g19 g20 g21 g22 g23 g24 g25 g26 g27 g28 g29 frwl48 ls locs hl hS
              refine lv_iload_n hx hb dX5_orders_48 rfl (lv_at hl 0 rfl) ?_
              refine lv_aload_n hx hb dX5_orders_49 rfl (lv_at hl 2 rfl) ?_
              refine va_get (ci := 5) (C := RX5) (T := TX5) (N := 19) hx hb hts hinX5 hown hK hP 19 g19 rfl 1 (by decide) k44 (fun _ h9 => h9) rfl dX5_orders_50 ?_
              refine sn_icmp_ge (tgt := 103) hx hb dX5_orders_53 (by decide) (by omega) (by omega) (fun c10 => ?_) (fun c10 => ?_)
              · refine lv_iinc (v := nI (t + 1)) (lv' := [(1, .int (nI (t + 1))), (2, .int (nI k)), (0, .ref h)]) hx hb dX5_orders_103 hl (k := 1) rfl (nI_1 _) (by decide) rfl (fun ls hl => ?_)
                refine lv_goto (tgt := 23) hx hb dX5_orders_106 (by decide) ?_
                exact ih23 (t + 1) hc (by omega) _ _ (by omega) (fun s hs => by rcases Nat.lt_or_ge s t with z | z; exact i48_1 s z; rw [show s = t by omega, i48_2, oc_eq, show k = n by omega]; rfl) hP hD g19 g20 g21 g22 g23 g24 g25 g26 g27 g28 g29 (fr.wd frwl48 : fr _ _ 19 29) ls locs (lv_sub hl [0, 2] rfl) hS
              · refine lv_iload_n hx hb dX5_orders_56 rfl (lv_at hl 1 rfl) ?_
                refine lv_iconst (v := nI 1) hx hb dX5_orders_57 ci_1 ?_
                refine lv_iload_n hx hb dX5_orders_58 rfl (lv_at hl 0 rfl) ?_
                refine lv_ishl hx hb dX5_orders_59 ?_
                refine sv_top (y := nI (2 ^ k)) (sh_l1 (by omega)) ?_
                refine lv_iconst (v := -1) hx hb dX5_orders_60 ci_m1 ?_
                refine lv_ixor hx hb dX5_orders_61 ?_
                refine lv_iand hx hb dX5_orders_62 ?_
                refine sv_top (y := nI (clr t (2 ^ k))) (an_not _ _) ?_
                refine lv_istore_n (lv' := [(3, .int (nI (clr t (2 ^ k)))), (2, .int (nI k)), (1, .int (nI t)), (0, .ref h)]) hx hb dX5_orders_63 rfl hl (by decide) rfl (fun ls hl => ?_)
                refine lv_aload_n hx hb dX5_orders_64 rfl (lv_at hl 3 rfl) ?_
                refine va_get (ci := 5) (C := RX5) (T := TX5) (N := 19) hx hb hts hinX5 hown hK hP 19 g19 rfl 16 (by decide) k31 (fun _ h9 => h9) rfl dX5_orders_65 ?_
                refine lv_iload_n hx hb dX5_orders_68 rfl (lv_at hl 2 rfl) ?_
                refine lv_dup2_11 hx hb dX5_orders_69 rfl rfl ?_
                refine sv_iald hx hb hK hP 27 g27 (j := t) (by omega) (by decide) dX5_orders_70 ?_
                refine W.eq (g2 := F0 mi 71 ls (.int (hc t) :: [.int (nI t), .ref a8])) rfl ?_
                refine sv_top (y := nI (itr (ocS C Hd b q (oc C Hd b q n) t) k (if t = 0 then 1 else 0))) (i48_2) ?_
                refine lv_iload_n hx hb dX5_orders_71 rfl (lv_at hl 0 rfl) ?_
                refine lv_iload_n hx hb dX5_orders_72 rfl (lv_at hl 2 rfl) ?_
                refine sn_icmp_eq (tgt := 94) hx hb dX5_orders_73 (by decide) (Nat.lt_of_le_of_lt clr_le (by omega)) (by omega) (fun c11 => ?_) (fun c11 => ?_)
                · refine lv_iconst (v := nI 0) hx hb dX5_orders_94 ci_0 ?_
                  refine lv_iadd hx hb dX5_orders_95 ?_
                  refine sv_top (y := nI ((itr (ocS C Hd b q (oc C Hd b q n) t) k (if t = 0 then 1 else 0)) + 0)) (nI_add _ _) ?_
                  refine sv_iast hx hb hK hP hD hS 27 g27 (j := t) (by omega) (by decide) dX5_orders_96 (fun ws13 H locs hP hD hS g27 fr12 => ?_)
                  replace g19 := (fr12 19 (by decide)).trans g19
                  replace g20 := (fr12 20 (by decide)).trans g20
                  replace g21 := (fr12 21 (by decide)).trans g21
                  replace g22 := (fr12 22 (by decide)).trans g22
                  replace g23 := (fr12 23 (by decide)).trans g23
                  replace g24 := (fr12 24 (by decide)).trans g24
                  replace g25 := (fr12 25 (by decide)).trans g25
                  replace g26 := (fr12 26 (by decide)).trans g26
                  replace g28 := (fr12 28 (by decide)).trans g28
                  replace g29 := (fr12 29 (by decide)).trans g29
                  rw [upd_X] at g27
                  refine lv_iinc (v := nI (k + 1)) (lv' := [(2, .int (nI (k + 1))), (3, .int (nI (clr t (2 ^ k)))), (1, .int (nI t)), (0, .ref h)]) hx hb dX5_orders_97 hl (k := 1) rfl (nI_1 _) (by decide) rfl (fun ls hl => ?_)
                  refine lv_goto (tgt := 48) hx hb dX5_orders_100 (by decide) ?_
                  exact ih48 (k + 1) ((upX hc t (nI ((itr (ocS C Hd b q (oc C Hd b q n) t) k (if t = 0 then 1 else 0)) + 0)))) (by omega) _ _ (by omega) (fun s hs => by rw [upX_n (by omega)]; exact i48_1 s hs) (by rw [upX_s]; exact or_00 (ocS_no1 c11).symm) hP hD g19 g20 g21 g22 g23 g24 g25 g26 g27 g28 g29 ((fr.wd frwl48 : fr _ _ 19 29).tr fr12) ls locs (lv_sub hl [0, 2, 3] rfl) hS
                · refine lv_aload_n hx hb dX5_orders_76 rfl (lv_at hl 3 rfl) ?_
                  refine lv_iload_n hx hb dX5_orders_77 rfl (lv_at hl 0 rfl) ?_
                  refine lv_iload_n hx hb dX5_orders_78 rfl (lv_at hl 1 rfl) ?_
                  refine pcV (c_X5_canAdd hP ⟨a1, a2, a3, a4, a5, a6, a7, a8, a9, a10, g19, g20, g21, g22, g23, g24, g25, g26, g27, g28, g29⟩ hI (Nat.lt_of_le_of_lt clr_le (by omega)) (by omega)) ⟨hx, hb, hml, hown, hts⟩ hK gX5_orders_X5_canAdd rfl hd_X5_canAdd ⟨by omega, by omega⟩ (va_recv hK hP (ci := 5) (q0 := 19) rfl g19) rfl hl.1 rfl (Nat.le_of_ble_eq_true rfl) dX5_orders_79 ⟨Nat.zero_le _, Nat.zero_le _⟩ hS (fun locs hS => ?_)
                  refine sb_if_eq (tgt := 94) hx hb dX5_orders_82 (by decide) (fun c14 => ?_) (fun c14 => ?_)
                  · refine lv_iconst (v := nI 0) hx hb dX5_orders_94 ci_0 ?_
                    refine lv_iadd hx hb dX5_orders_95 ?_
                    refine sv_top (y := nI ((itr (ocS C Hd b q (oc C Hd b q n) t) k (if t = 0 then 1 else 0)) + 0)) (nI_add _ _) ?_
                    refine sv_iast hx hb hK hP hD hS 27 g27 (j := t) (by omega) (by decide) dX5_orders_96 (fun ws16 H locs hP hD hS g27 fr15 => ?_)
                    replace g19 := (fr15 19 (by decide)).trans g19
                    replace g20 := (fr15 20 (by decide)).trans g20
                    replace g21 := (fr15 21 (by decide)).trans g21
                    replace g22 := (fr15 22 (by decide)).trans g22
                    replace g23 := (fr15 23 (by decide)).trans g23
                    replace g24 := (fr15 24 (by decide)).trans g24
                    replace g25 := (fr15 25 (by decide)).trans g25
                    replace g26 := (fr15 26 (by decide)).trans g26
                    replace g28 := (fr15 28 (by decide)).trans g28
                    replace g29 := (fr15 29 (by decide)).trans g29
                    rw [upd_X] at g27
                    refine lv_iinc (v := nI (k + 1)) (lv' := [(2, .int (nI (k + 1))), (3, .int (nI (clr t (2 ^ k)))), (1, .int (nI t)), (0, .ref h)]) hx hb dX5_orders_97 hl (k := 1) rfl (nI_1 _) (by decide) rfl (fun ls hl => ?_)
                    refine lv_goto (tgt := 48) hx hb dX5_orders_100 (by decide) ?_
                    exact ih48 (k + 1) ((upX hc t (nI ((itr (ocS C Hd b q (oc C Hd b q n) t) k (if t = 0 then 1 else 0)) + 0)))) (by omega) _ _ (by omega) (fun s hs => by rw [upX_n (by omega)]; exact i48_1 s hs) (by rw [upX_s]; exact or_00 (ocS_no2 c14).symm) hP hD g19 g20 g21 g22 g23 g24 g25 g26 g27 g28 g29 ((fr.wd frwl48 : fr _ _ 19 29).tr fr15) ls locs (lv_sub hl [0, 2, 3] rfl) hS
                  · refine lv_aload_n hx hb dX5_orders_85 rfl (lv_at hl 3 rfl) ?_
                    refine va_get (ci := 5) (C := RX5) (T := TX5) (N := 19) hx hb hts hinX5 hown hK hP 19 g19 rfl 16 (by decide) k31 (fun _ h9 => h9) rfl dX5_orders_86 ?_
                    refine lv_iload_n hx hb dX5_orders_89 rfl (lv_at hl 0 rfl) ?_
                    refine sv_iald hx hb hK hP 27 g27 (j := clr t (2 ^ k)) (Nat.lt_of_le_of_lt clr_le (by omega)) (by decide) dX5_orders_90 ?_
                    refine W.eq (g2 := F0 mi 91 ls (.int (hc (clr t (2 ^ k))) :: [.int (nI (itr (ocS C Hd b q (oc C Hd b q n) t) k (if t = 0 then 1 else 0))), .int (nI t), .ref a8])) rfl ?_
                    refine sv_top (y := nI (oc C Hd b q n (clr t (2 ^ k)))) (i48_1 _ (clr_lt2 (fun z => absurd z (by assumption)))) ?_
                    refine lv_goto (tgt := 95) hx hb dX5_orders_91 (by decide) ?_
                    refine lv_iadd hx hb dX5_orders_95 ?_
                    refine sv_top (y := nI ((itr (ocS C Hd b q (oc C Hd b q n) t) k (if t = 0 then 1 else 0)) + (oc C Hd b q n (clr t (2 ^ k))))) (nI_add _ _) ?_
                    refine sv_iast hx hb hK hP hD hS 27 g27 (j := t) (by omega) (by decide) dX5_orders_96 (fun ws18 H locs hP hD hS g27 fr17 => ?_)
                    replace g19 := (fr17 19 (by decide)).trans g19
                    replace g20 := (fr17 20 (by decide)).trans g20
                    replace g21 := (fr17 21 (by decide)).trans g21
                    replace g22 := (fr17 22 (by decide)).trans g22
                    replace g23 := (fr17 23 (by decide)).trans g23
                    replace g24 := (fr17 24 (by decide)).trans g24
                    replace g25 := (fr17 25 (by decide)).trans g25
                    replace g26 := (fr17 26 (by decide)).trans g26
                    replace g28 := (fr17 28 (by decide)).trans g28
                    replace g29 := (fr17 29 (by decide)).trans g29
                    rw [upd_X] at g27
                    refine lv_iinc (v := nI (k + 1)) (lv' := [(2, .int (nI (k + 1))), (3, .int (nI (clr t (2 ^ k)))), (1, .int (nI t)), (0, .ref h)]) hx hb dX5_orders_97 hl (k := 1) rfl (nI_1 _) (by decide) rfl (fun ls hl => ?_)
                    refine lv_goto (tgt := 48) hx hb dX5_orders_100 (by decide) ?_
                    exact ih48 (k + 1) ((upX hc t (nI ((itr (ocS C Hd b q (oc C Hd b q n) t) k (if t = 0 then 1 else 0)) + (oc C Hd b q n (clr t (2 ^ k))))))) (by omega) _ _ (by omega) (fun s hs => by rw [upX_n (by omega)]; exact i48_1 s hs) (by rw [upX_s]; exact congrArg nI (ocS_yes c11 c14).symm) hP hD g19 g20 g21 g22 g23 g24 g25 g26 g27 g28 g29 ((fr.wd frwl48 : fr _ _ 19 29).tr fr17) ls locs (lv_sub hl [0, 2, 3] rfl) hS
          exact L48 ((n - 0) + 1) 0 ((upX gc t (nI 0))) (Nat.lt_succ_self _) _ _ (by omega) (fun s hs => by rw [upX_n (by omega)]; exact i23_1 s hs) (by rw [upX_s]; show _ = nI (if t = 0 then 1 else 0); rw [if_neg c7]) hP hD g19 g20 g21 g22 g23 g24 g25 g26 g27 g28 g29 ((fr.wd frwl23 : fr _ _ 19 29).tr fr8) ls locs (lv_sub hl [0, 1, 2] rfl) hS
        · refine lv_iconst (v := nI 1) hx hb dX5_orders_40 ci_1 ?_
          refine lv_goto (tgt := 45) hx hb dX5_orders_41 (by decide) ?_
          refine sv_iast hx hb hK hP hD hS 27 g27 (j := t) (by omega) (by decide) dX5_orders_45 (fun ws20 H locs hP hD hS g27 fr19 => ?_)
          replace g19 := (fr19 19 (by decide)).trans g19
          replace g20 := (fr19 20 (by decide)).trans g20
          replace g21 := (fr19 21 (by decide)).trans g21
          replace g22 := (fr19 22 (by decide)).trans g22
          replace g23 := (fr19 23 (by decide)).trans g23
          replace g24 := (fr19 24 (by decide)).trans g24
          replace g25 := (fr19 25 (by decide)).trans g25
          replace g26 := (fr19 26 (by decide)).trans g26
          replace g28 := (fr19 28 (by decide)).trans g28
          replace g29 := (fr19 29 (by decide)).trans g29
          rw [upd_X] at g27
          refine lv_iconst (v := nI 0) hx hb dX5_orders_46 ci_0 ?_
          refine lv_istore_n (lv' := [(2, .int (nI 0)), (1, .int (nI t)), (0, .ref h)]) hx hb dX5_orders_47 rfl hl (by decide) rfl (fun ls hl => ?_)
          have L48 : ∀ (L48d : Nat) (k : Nat) (hc : Nat → Int32), n - k < L48d → ∀ (wl48 : va_W) (H : Heap), k ≤ n → (∀ s, s < t → hc s = nI (oc C Hd b q n s)) → hc t = nI (itr (ocS C Hd b q (oc C Hd b q n) t) k (if t = 0 then 1 else 0)) → va_P D CL wl48 H → va_D A wl48 → wl48[19]? = some (h, .inr (5, [.int (nI 0), .int (nI n), .ref a1, .ref a2, .ref a3, .int (nI b), .int (bI q), .ref a4, .int (bI bg), .int (nI pu), .int (nI bu), .int cl, .int mo, .ref a5, .ref a6, .ref a7, .ref a8, .ref a9, .ref a10])) → wl48[20]? = some (a1, .inl (ky.1, 8, .inl (fun i => nI (T i)))) → wl48[21]? = some (a2, .inl (ky.1, 8, .inl (fun i => nI (C i)))) → wl48[22]? = some (a3, .inl (ky.1, 48, .inl (fun i => nI (Hd i)))) → wl48[23]? = some (a4, .inl (ky.1, 8, .inl (fun i => nI (J i)))) → wl48[24]? = some (a5, .inl (ky.1, 8, .inl (fun i => nI (K i)))) → wl48[25]? = some (a6, .inl (ky.1, 256, .inl fw)) → wl48[26]? = some (a7, .inl (ky.1, 256, .inl fd)) → wl48[27]? = some (a8, .inl (ky.1, 256, .inl hc)) → wl48[28]? = some (a9, .inl (ky.1, 2048, .inl fg)) → wl48[29]? = some (a10, .inl (ky.1, 8, .inl fo)) → fr ws wl48 19 29 → ∀ (ls : Array Slot) (locs : List Loc), lv_has ls 4 [(2, .int (nI k)), (1, .int (nI t)), (0, .ref h)] → va_S A Hs H locs → W pg l en Rm sg mi av below meth co H locs 0 0 Qo (F0 mi 48 ls []) := by
            intro L48d
            induction L48d with
            | zero => intro k hc hfu; exact absurd hfu (Nat.not_lt_zero _)
            | succ L48d ih48 =>
              intro k hc hfu wl48 H i48_0 i48_1 i48_2 hP hD g19 g20 g21 g22 g23 g24 g25 g26 g27 g28 g29 frwl48 ls locs hl hS
              refine lv_iload_n hx hb dX5_orders_48 rfl (lv_at hl 0 rfl) ?_
              refine lv_aload_n hx hb dX5_orders_49 rfl (lv_at hl 2 rfl) ?_
              refine va_get (ci := 5) (C := RX5) (T := TX5) (N := 19) hx hb hts hinX5 hown hK hP 19 g19 rfl 1 (by decide) k44 (fun _ h9 => h9) rfl dX5_orders_50 ?_
              refine sn_icmp_ge (tgt := 103) hx hb dX5_orders_53 (by decide) (by omega) (by omega) (fun c21 => ?_) (fun c21 => ?_)
              · refine lv_iinc (v := nI (t + 1)) (lv' := [(1, .int (nI (t + 1))), (2, .int (nI k)), (0, .ref h)]) hx hb dX5_orders_103 hl (k := 1) rfl (nI_1 _) (by decide) rfl (fun ls hl => ?_)
                refine lv_goto (tgt := 23) hx hb dX5_orders_106 (by decide) ?_
                exact ih23 (t + 1) hc (by omega) _ _ (by omega) (fun s hs => by rcases Nat.lt_or_ge s t with z | z; exact i48_1 s z; rw [show s = t by omega, i48_2, oc_eq, show k = n by omega]; rfl) hP hD g19 g20 g21 g22 g23 g24 g25 g26 g27 g28 g29 (fr.wd frwl48 : fr _ _ 19 29) ls locs (lv_sub hl [0, 2] rfl) hS
              · refine lv_iload_n hx hb dX5_orders_56 rfl (lv_at hl 1 rfl) ?_
                refine lv_iconst (v := nI 1) hx hb dX5_orders_57 ci_1 ?_
                refine lv_iload_n hx hb dX5_orders_58 rfl (lv_at hl 0 rfl) ?_
                refine lv_ishl hx hb dX5_orders_59 ?_
                refine sv_top (y := nI (2 ^ k)) (sh_l1 (by omega)) ?_
                refine lv_iconst (v := -1) hx hb dX5_orders_60 ci_m1 ?_
                refine lv_ixor hx hb dX5_orders_61 ?_
                refine lv_iand hx hb dX5_orders_62 ?_
                refine sv_top (y := nI (clr t (2 ^ k))) (an_not _ _) ?_
                refine lv_istore_n (lv' := [(3, .int (nI (clr t (2 ^ k)))), (2, .int (nI k)), (1, .int (nI t)), (0, .ref h)]) hx hb dX5_orders_63 rfl hl (by decide) rfl (fun ls hl => ?_)
                refine lv_aload_n hx hb dX5_orders_64 rfl (lv_at hl 3 rfl) ?_
                refine va_get (ci := 5) (C := RX5) (T := TX5) (N := 19) hx hb hts hinX5 hown hK hP 19 g19 rfl 16 (by decide) k31 (fun _ h9 => h9) rfl dX5_orders_65 ?_
                refine lv_iload_n hx hb dX5_orders_68 rfl (lv_at hl 2 rfl) ?_
                refine lv_dup2_11 hx hb dX5_orders_69 rfl rfl ?_
                refine sv_iald hx hb hK hP 27 g27 (j := t) (by omega) (by decide) dX5_orders_70 ?_
                refine W.eq (g2 := F0 mi 71 ls (.int (hc t) :: [.int (nI t), .ref a8])) rfl ?_
                refine sv_top (y := nI (itr (ocS C Hd b q (oc C Hd b q n) t) k (if t = 0 then 1 else 0))) (i48_2) ?_
                refine lv_iload_n hx hb dX5_orders_71 rfl (lv_at hl 0 rfl) ?_
                refine lv_iload_n hx hb dX5_orders_72 rfl (lv_at hl 2 rfl) ?_
                refine sn_icmp_eq (tgt := 94) hx hb dX5_orders_73 (by decide) (Nat.lt_of_le_of_lt clr_le (by omega)) (by omega) (fun c22 => ?_) (fun c22 => ?_)
                · refine lv_iconst (v := nI 0) hx hb dX5_orders_94 ci_0 ?_
                  refine lv_iadd hx hb dX5_orders_95 ?_
                  refine sv_top (y := nI ((itr (ocS C Hd b q (oc C Hd b q n) t) k (if t = 0 then 1 else 0)) + 0)) (nI_add _ _) ?_
                  refine sv_iast hx hb hK hP hD hS 27 g27 (j := t) (by omega) (by decide) dX5_orders_96 (fun ws24 H locs hP hD hS g27 fr23 => ?_)
                  replace g19 := (fr23 19 (by decide)).trans g19
                  replace g20 := (fr23 20 (by decide)).trans g20
                  replace g21 := (fr23 21 (by decide)).trans g21
                  replace g22 := (fr23 22 (by decide)).trans g22
                  replace g23 := (fr23 23 (by decide)).trans g23
                  replace g24 := (fr23 24 (by decide)).trans g24
                  replace g25 := (fr23 25 (by decide)).trans g25
                  replace g26 := (fr23 26 (by decide)).trans g26
                  replace g28 := (fr23 28 (by decide)).trans g28
                  replace g29 := (fr23 29 (by decide)).trans g29
                  rw [upd_X] at g27
                  refine lv_iinc (v := nI (k + 1)) (lv' := [(2, .int (nI (k + 1))), (3, .int (nI (clr t (2 ^ k)))), (1, .int (nI t)), (0, .ref h)]) hx hb dX5_orders_97 hl (k := 1) rfl (nI_1 _) (by decide) rfl (fun ls hl => ?_)
                  refine lv_goto (tgt := 48) hx hb dX5_orders_100 (by decide) ?_
                  exact ih48 (k + 1) ((upX hc t (nI ((itr (ocS C Hd b q (oc C Hd b q n) t) k (if t = 0 then 1 else 0)) + 0)))) (by omega) _ _ (by omega) (fun s hs => by rw [upX_n (by omega)]; exact i48_1 s hs) (by rw [upX_s]; exact or_00 (ocS_no1 c22).symm) hP hD g19 g20 g21 g22 g23 g24 g25 g26 g27 g28 g29 ((fr.wd frwl48 : fr _ _ 19 29).tr fr23) ls locs (lv_sub hl [0, 2, 3] rfl) hS
                · refine lv_aload_n hx hb dX5_orders_76 rfl (lv_at hl 3 rfl) ?_
                  refine lv_iload_n hx hb dX5_orders_77 rfl (lv_at hl 0 rfl) ?_
                  refine lv_iload_n hx hb dX5_orders_78 rfl (lv_at hl 1 rfl) ?_
                  refine pcV (c_X5_canAdd hP ⟨a1, a2, a3, a4, a5, a6, a7, a8, a9, a10, g19, g20, g21, g22, g23, g24, g25, g26, g27, g28, g29⟩ hI (Nat.lt_of_le_of_lt clr_le (by omega)) (by omega)) ⟨hx, hb, hml, hown, hts⟩ hK gX5_orders_X5_canAdd rfl hd_X5_canAdd ⟨by omega, by omega⟩ (va_recv hK hP (ci := 5) (q0 := 19) rfl g19) rfl hl.1 rfl (Nat.le_of_ble_eq_true rfl) dX5_orders_79 ⟨Nat.zero_le _, Nat.zero_le _⟩ hS (fun locs hS => ?_)
                  refine sb_if_eq (tgt := 94) hx hb dX5_orders_82 (by decide) (fun c25 => ?_) (fun c25 => ?_)
                  · refine lv_iconst (v := nI 0) hx hb dX5_orders_94 ci_0 ?_
                    refine lv_iadd hx hb dX5_orders_95 ?_
                    refine sv_top (y := nI ((itr (ocS C Hd b q (oc C Hd b q n) t) k (if t = 0 then 1 else 0)) + 0)) (nI_add _ _) ?_
                    refine sv_iast hx hb hK hP hD hS 27 g27 (j := t) (by omega) (by decide) dX5_orders_96 (fun ws27 H locs hP hD hS g27 fr26 => ?_)
                    replace g19 := (fr26 19 (by decide)).trans g19
                    replace g20 := (fr26 20 (by decide)).trans g20
                    replace g21 := (fr26 21 (by decide)).trans g21
                    replace g22 := (fr26 22 (by decide)).trans g22
                    replace g23 := (fr26 23 (by decide)).trans g23
                    replace g24 := (fr26 24 (by decide)).trans g24
                    replace g25 := (fr26 25 (by decide)).trans g25
                    replace g26 := (fr26 26 (by decide)).trans g26
                    replace g28 := (fr26 28 (by decide)).trans g28
                    replace g29 := (fr26 29 (by decide)).trans g29
                    rw [upd_X] at g27
                    refine lv_iinc (v := nI (k + 1)) (lv' := [(2, .int (nI (k + 1))), (3, .int (nI (clr t (2 ^ k)))), (1, .int (nI t)), (0, .ref h)]) hx hb dX5_orders_97 hl (k := 1) rfl (nI_1 _) (by decide) rfl (fun ls hl => ?_)
                    refine lv_goto (tgt := 48) hx hb dX5_orders_100 (by decide) ?_
                    exact ih48 (k + 1) ((upX hc t (nI ((itr (ocS C Hd b q (oc C Hd b q n) t) k (if t = 0 then 1 else 0)) + 0)))) (by omega) _ _ (by omega) (fun s hs => by rw [upX_n (by omega)]; exact i48_1 s hs) (by rw [upX_s]; exact or_00 (ocS_no2 c25).symm) hP hD g19 g20 g21 g22 g23 g24 g25 g26 g27 g28 g29 ((fr.wd frwl48 : fr _ _ 19 29).tr fr26) ls locs (lv_sub hl [0, 2, 3] rfl) hS
                  · refine lv_aload_n hx hb dX5_orders_85 rfl (lv_at hl 3 rfl) ?_
                    refine va_get (ci := 5) (C := RX5) (T := TX5) (N := 19) hx hb hts hinX5 hown hK hP 19 g19 rfl 16 (by decide) k31 (fun _ h9 => h9) rfl dX5_orders_86 ?_
                    refine lv_iload_n hx hb dX5_orders_89 rfl (lv_at hl 0 rfl) ?_
                    refine sv_iald hx hb hK hP 27 g27 (j := clr t (2 ^ k)) (Nat.lt_of_le_of_lt clr_le (by omega)) (by decide) dX5_orders_90 ?_
                    refine W.eq (g2 := F0 mi 91 ls (.int (hc (clr t (2 ^ k))) :: [.int (nI (itr (ocS C Hd b q (oc C Hd b q n) t) k (if t = 0 then 1 else 0))), .int (nI t), .ref a8])) rfl ?_
                    refine sv_top (y := nI (oc C Hd b q n (clr t (2 ^ k)))) (i48_1 _ (clr_lt2 (fun z => absurd z (by assumption)))) ?_
                    refine lv_goto (tgt := 95) hx hb dX5_orders_91 (by decide) ?_
                    refine lv_iadd hx hb dX5_orders_95 ?_
                    refine sv_top (y := nI ((itr (ocS C Hd b q (oc C Hd b q n) t) k (if t = 0 then 1 else 0)) + (oc C Hd b q n (clr t (2 ^ k))))) (nI_add _ _) ?_
                    refine sv_iast hx hb hK hP hD hS 27 g27 (j := t) (by omega) (by decide) dX5_orders_96 (fun ws29 H locs hP hD hS g27 fr28 => ?_)
                    replace g19 := (fr28 19 (by decide)).trans g19
                    replace g20 := (fr28 20 (by decide)).trans g20
                    replace g21 := (fr28 21 (by decide)).trans g21
                    replace g22 := (fr28 22 (by decide)).trans g22
                    replace g23 := (fr28 23 (by decide)).trans g23
                    replace g24 := (fr28 24 (by decide)).trans g24
                    replace g25 := (fr28 25 (by decide)).trans g25
                    replace g26 := (fr28 26 (by decide)).trans g26
                    replace g28 := (fr28 28 (by decide)).trans g28
                    replace g29 := (fr28 29 (by decide)).trans g29
                    rw [upd_X] at g27
                    refine lv_iinc (v := nI (k + 1)) (lv' := [(2, .int (nI (k + 1))), (3, .int (nI (clr t (2 ^ k)))), (1, .int (nI t)), (0, .ref h)]) hx hb dX5_orders_97 hl (k := 1) rfl (nI_1 _) (by decide) rfl (fun ls hl => ?_)
                    refine lv_goto (tgt := 48) hx hb dX5_orders_100 (by decide) ?_
                    exact ih48 (k + 1) ((upX hc t (nI ((itr (ocS C Hd b q (oc C Hd b q n) t) k (if t = 0 then 1 else 0)) + (oc C Hd b q n (clr t (2 ^ k))))))) (by omega) _ _ (by omega) (fun s hs => by rw [upX_n (by omega)]; exact i48_1 s hs) (by rw [upX_s]; exact congrArg nI (ocS_yes c22 c25).symm) hP hD g19 g20 g21 g22 g23 g24 g25 g26 g27 g28 g29 ((fr.wd frwl48 : fr _ _ 19 29).tr fr28) ls locs (lv_sub hl [0, 2, 3] rfl) hS
          exact L48 ((n - 0) + 1) 0 ((upX gc t (nI 1))) (Nat.lt_succ_self _) _ _ (by omega) (fun s hs => by rw [upX_n (by omega)]; exact i23_1 s hs) (by rw [upX_s]; show _ = nI (if t = 0 then 1 else 0); rw [if_pos c7]) hP hD g19 g20 g21 g22 g23 g24 g25 g26 g27 g28 g29 ((fr.wd frwl23 : fr _ _ 19 29).tr fr19) ls locs (lv_sub hl [0, 1, 2] rfl) hS
  exact L23 ((2 ^ n - 0) + 1) 0 fc (Nat.lt_succ_self _) _ _ (by omega) (fun s hs => absurd hs (Nat.not_lt_zero _)) hP hD g19 g20 g21 g22 g23 g24 g25 g26 g27 g28 g29 (fr.wd fr3 : fr _ _ 19 29) ls locs (lv_sub hl [0, 1] rfl) hS
def lcOK (C Hd : Nat → Nat) (b : Nat) (q : Bool) (T : Nat → Nat) (n m : Nat) (gg : Nat → Int32) : Prop := ∀ s j, m < s → s < 2 ^ n → j < n → gg (8 * s + j) = nI (mcv C Hd b q T n s j)
theorem mcv_yes {C Hd : Nat → Nat} {b : Nat} {q : Bool} {T : Nat → Nat} {n t k : Nat} (hT : ∀ p, T p < 4) (ht : t < 2 ^ n) (h1 : t.testBit k = true) (h2 : cad C Hd b q (clr t (2 ^ k)) k = true) : mcv C Hd b q T n t k = itr (fwS C Hd b q T (cgv C Hd b q T n) (nI (T k)) t) n (if t = 2 ^ n - 1 then 0 else 1000) := by
  unfold mcv
  rw [h1, h2, Bool.and_self, if_pos rfl, cgv_eq hT ht (hT k)]; rfl
theorem mcv_no {C Hd : Nat → Nat} {b : Nat} {q : Bool} {T : Nat → Nat} {n t k : Nat} (h : t.testBit k = false ∨ cad C Hd b q (clr t (2 ^ k)) k = false) : mcv C Hd b q T n t k = 1000 := by
  unfold mcv
  rcases h with h | h <;> rw [h] <;> simp
set_option maxHeartbeats 4000000 in
set_option maxRecDepth 100000 in
theorem c_X5_laysChanges {l : Launch} {D : va_G} {ky : kT} {A : Nat → Prop} {Hs : Heap} {ws : va_W} (hP : va_P D CL ws Hs) (hD : va_D A ws) {h th n : Nat} {T C Hd : Nat → Nat} {b : Nat} {q : Bool} {J : Nat → Nat} {bg : Bool} {pu bu : Nat} {cl mo : Int32} {K : Nat → Nat} {fw fd fc fg fo : Nat → Int32} (hpr : isMod ky ws h th n T C Hd b q J bg pu bu cl mo K fw fd fc fg fo) (hI : PI0 n C Hd b) (hT : ∀ p, T p < 4) : MV l yX5_laysChanges wsX5_laysChanges 4 90 0 0 D ky A Hs [.ref h] (fun w => (∃ gg : Nat → Int32, isMod ky w h th n T C Hd b q J bg pu bu cl mo K fw fd fc gg fo ∧ lcOK C Hd b q T n 0 gg) ∧ fr ws w 19 29) := by
  refine MV.of (cc := cX5_laysChanges) (maxL := 6) (by decide) rfl (Nat.le_of_ble_eq_true rfl) ?_
  intro pg en Rm sg mi av below meth co Qo hRf hRl hRc hRs hx hb hml hown hin hts hK hret ls hl
  have hl : lv_has ls 6 [(0, .ref h)] := hl
  have hS : va_S A Hs Hs [] := va_S.rf
  generalize ([] : List Loc) = locs at hS ⊢
  obtain ⟨a1, a2, a3, a4, a5, a6, a7, a8, a9, a10, g19, g20, g21, g22, g23, g24, g25, g26, g27, g28, g29⟩ := id hpr
  have hn8 := hI.1
  have hp2 := p2_le hn8
  have hp1 : 1 ≤ 2 ^ n := Nat.one_le_two_pow
  have k44 := hts (.fieldLink RX5 44 "AssemblyPlannerModel" "parts" "I") (by decide +kernel)
  have hinX5 : ∀ w ∈ wsX50, w ∈ wsX5_laysChanges := by decide +kernel
  have k34 := hts (.fieldLink RX5 34 "AssemblyPlannerModel" "changes" "[I") (by decide +kernel)
  have k7 := hts (.fieldLink RX5 7 "AssemblyPlannerModel" "tools" "[I") (by decide +kernel)
  refine lv_aload_n hx hb dX5_laysChanges_0 rfl (lv_at hl 0 rfl) ?_
  refine pcV (c_X5_whole hP ⟨a1, a2, a3, a4, a5, a6, a7, a8, a9, a10, g19, g20, g21, g22, g23, g24, g25, g26, g27, g28, g29⟩ hn8) ⟨hx, hb, hml, hown, hts⟩ hK gX5_laysChanges_X5_whole rfl hd_X5_whole ⟨by omega, by omega⟩ (va_recv hK hP (ci := 5) (q0 := 19) rfl g19) rfl hl.1 rfl (Nat.le_of_ble_eq_true rfl) dX5_laysChanges_1 ⟨Nat.zero_le _, Nat.zero_le _⟩ hS (fun locs hS => ?_)
  refine lv_istore_n (lv' := [(1, .int (nI (2 ^ n - 1))), (0, .ref h)]) hx hb dX5_laysChanges_4 rfl hl (by decide) rfl (fun ls hl => ?_)
  have L5 : ∀ (L5d : Nat) (t : Nat) (gg : Nat → Int32), t < L5d → ∀ (wl5 : va_W) (H : Heap), t < 2 ^ n → lcOK C Hd b q T n t gg → va_P D CL wl5 H → va_D A wl5 → wl5[19]? = some (h, .inr (5, [.int (nI th), .int (nI n), .ref a1, .ref a2, .ref a3, .int (nI b), .int (bI q), .ref a4, .int (bI bg), .int (nI pu), .int (nI bu), .int cl, .int mo, .ref a5, .ref a6, .ref a7, .ref a8, .ref a9, .ref a10])) → wl5[20]? = some (a1, .inl (ky.1, 8, .inl (fun i => nI (T i)))) → wl5[21]? = some (a2, .inl (ky.1, 8, .inl (fun i => nI (C i)))) → wl5[22]? = some (a3, .inl (ky.1, 48, .inl (fun i => nI (Hd i)))) → wl5[23]? = some (a4, .inl (ky.1, 8, .inl (fun i => nI (J i)))) → wl5[24]? = some (a5, .inl (ky.1, 8, .inl (fun i => nI (K i)))) → wl5[25]? = some (a6, .inl (ky.1, 256, .inl fw)) → wl5[26]? = some (a7, .inl (ky.1, 256, .inl fd)) → wl5[27]? = some (a8, .inl (ky.1, 256, .inl fc)) → wl5[28]? = some (a9, .inl (ky.1, 2048, .inl gg)) → wl5[29]? = some (a10, .inl (ky.1, 8, .inl fo)) → fr ws wl5 19 29 → ∀ (ls : Array Slot) (locs : List Loc), lv_has ls 6 [(1, .int (nI t)), (0, .ref h)] → va_S A Hs H locs → W pg l en Rm sg mi av below meth co H locs 0 0 Qo (F0 mi 5 ls []) := by
    intro L5d
    induction L5d with
    | zero => intro t gg hfu; exact absurd hfu (Nat.not_lt_zero _)
    | succ L5d ih5 =>
      intro t gg hfu wl5 H i5_0 i5_1 hP hD g19 g20 g21 g22 g23 g24 g25 g26 g27 g28 g29 frwl5 ls locs hl hS
      refine lv_iload_n hx hb dX5_laysChanges_5 rfl (lv_at hl 0 rfl) ?_
      refine sn_if_le (tgt := 212) hx hb dX5_laysChanges_6 (by decide) (by omega) (fun c1 => ?_) (fun c1 => ?_)
      · exact hret 212 ls _ _ locs dX5_laysChanges_212 hP hD hS (⟨⟨gg, ⟨a1, a2, a3, a4, a5, a6, a7, a8, a9, a10, g19, g20, g21, g22, g23, g24, g25, g26, g27, g28, g29⟩, by rw [show t = 0 by omega] at i5_1; exact i5_1⟩, (fr.wd frwl5 : fr _ _ 19 29)⟩)
      · refine lv_iconst (v := nI 0) hx hb dX5_laysChanges_9 ci_0 ?_
        refine lv_istore_n (lv' := [(2, .int (nI 0)), (1, .int (nI t)), (0, .ref h)]) hx hb dX5_laysChanges_10 rfl hl (by decide) rfl (fun ls hl => ?_)
        have L11 : ∀ (L11d : Nat) (k : Nat) (gh : Nat → Int32), n - k < L11d → ∀ (wl11 : va_W) (H : Heap), k ≤ n → lcOK C Hd b q T n t gh → (∀ j, j < k → gh (8 * t + j) = nI (mcv C Hd b q T n t j)) → va_P D CL wl11 H → va_D A wl11 → wl11[19]? = some (h, .inr (5, [.int (nI th), .int (nI n), .ref a1, .ref a2, .ref a3, .int (nI b), .int (bI q), .ref a4, .int (bI bg), .int (nI pu), .int (nI bu), .int cl, .int mo, .ref a5, .ref a6, .ref a7, .ref a8, .ref a9, .ref a10])) → wl11[20]? = some (a1, .inl (ky.1, 8, .inl (fun i => nI (T i)))) → wl11[21]? = some (a2, .inl (ky.1, 8, .inl (fun i => nI (C i)))) → wl11[22]? = some (a3, .inl (ky.1, 48, .inl (fun i => nI (Hd i)))) → wl11[23]? = some (a4, .inl (ky.1, 8, .inl (fun i => nI (J i)))) → wl11[24]? = some (a5, .inl (ky.1, 8, .inl (fun i => nI (K i)))) → wl11[25]? = some (a6, .inl (ky.1, 256, .inl fw)) → wl11[26]? = some (a7, .inl (ky.1, 256, .inl fd)) → wl11[27]? = some (a8, .inl (ky.1, 256, .inl fc)) → wl11[28]? = some (a9, .inl (ky.1, 2048, .inl gh)) → wl11[29]? = some (a10, .inl (ky.1, 8, .inl fo)) → fr ws wl11 19 29 → ∀ (ls : Array Slot) (locs : List Loc), lv_has ls 6 [(2, .int (nI k)), (1, .int (nI t)), (0, .ref h)] → va_S A Hs H locs → W pg l en Rm sg mi av below meth co H locs 0 0 Qo (F0 mi 11 ls []) := by
          intro L11d
          induction L11d with
          | zero => intro k gh hfu; exact absurd hfu (Nat.not_lt_zero _)
          | succ L11d ih11 =>
            intro k gh hfu wl11 H i11_0 i11_1 i11_2 hP hD g19 g20 g21 g22 g23 g24 g25 g26 g27 g28 g29 frwl11 ls locs hl hS
            refine lv_iload_n hx hb dX5_laysChanges_11 rfl (lv_at hl 0 rfl) ?_
            refine lv_aload_n hx hb dX5_laysChanges_12 rfl (lv_at hl 2 rfl) ?_
            refine va_get (ci := 5) (C := RX5) (T := TX5) (N := 19) hx hb hts hinX5 hown hK hP 19 g19 rfl 1 (by decide) k44 (fun _ h9 => h9) rfl dX5_laysChanges_13 ?_
            refine sn_icmp_ge (tgt := 206) hx hb dX5_laysChanges_16 (by decide) (by omega) (by omega) (fun c2 => ?_) (fun c2 => ?_)
            · refine lv_iinc (v := nI (t - 1)) (lv' := [(1, .int (nI (t - 1))), (2, .int (nI k)), (0, .ref h)]) hx hb dX5_laysChanges_206 hl (k := 1) rfl (nI_pd (by omega)) (by decide) rfl (fun ls hl => ?_)
              refine lv_goto (tgt := 5) hx hb dX5_laysChanges_209 (by decide) ?_
              exact ih5 (t - 1) gh (by omega) _ _ (by omega) (fun s j h1 h2 hj => by rcases Nat.lt_or_ge t s with z | z; exact i11_1 s j z h2 hj; rw [show s = t by omega]; exact i11_2 j (by omega)) hP hD g19 g20 g21 g22 g23 g24 g25 g26 g27 g28 g29 (fr.wd frwl11 : fr _ _ 19 29) ls locs (lv_sub hl [0, 2] rfl) hS
            · refine lv_iload_n hx hb dX5_laysChanges_19 rfl (lv_at hl 1 rfl) ?_
              refine lv_iload_n hx hb dX5_laysChanges_20 rfl (lv_at hl 0 rfl) ?_
              refine lv_ishr hx hb dX5_laysChanges_21 ?_
              refine sv_top (y := nI (t / 2 ^ k)) (sh_r (by omega) (by omega)) ?_
              refine lv_iconst (v := nI 1) hx hb dX5_laysChanges_22 ci_1 ?_
              refine lv_iand hx hb dX5_laysChanges_23 ?_
              refine sv_top (y := nI (t / 2 ^ k % 2)) (an_1) ?_
              refine lv_iconst (v := nI 1) hx hb dX5_laysChanges_24 ci_1 ?_
              refine st_icmp_ne (tgt := 47) hx hb dX5_laysChanges_25 (by decide) (fun c3 => ?_) (fun c3 => ?_)
              · have hno : t.testBit k = false ∨ cad C Hd b q (clr t (2 ^ k)) k = false := Or.inl c3
                refine lv_iconst (v := nI 0) hx hb dX5_laysChanges_47 ci_0 ?_
                refine lv_istore_n (lv' := [(3, .int (nI 0)), (2, .int (nI k)), (1, .int (nI t)), (0, .ref h)]) hx hb dX5_laysChanges_48 rfl hl (by decide) rfl (fun ls hl => ?_)
                refine lv_aload_n hx hb dX5_laysChanges_49 rfl (lv_at hl 3 rfl) ?_
                refine va_get (ci := 5) (C := RX5) (T := TX5) (N := 19) hx hb hts hinX5 hown hK hP 19 g19 rfl 17 (by decide) k34 (fun _ h9 => h9) rfl dX5_laysChanges_50 ?_
                refine lv_bipush (v := nI 8) hx hb dX5_laysChanges_53 bi_8 ?_
                refine lv_iload_n hx hb dX5_laysChanges_55 rfl (lv_at hl 2 rfl) ?_
                refine lv_imul hx hb dX5_laysChanges_56 ?_
                refine sv_top (y := nI (8 * t)) (mul_n _ _) ?_
                refine lv_iload_n hx hb dX5_laysChanges_57 rfl (lv_at hl 1 rfl) ?_
                refine lv_iadd hx hb dX5_laysChanges_58 ?_
                refine sv_top (y := nI (8 * t + k)) (nI_add _ _) ?_
                refine lv_iload_n hx hb dX5_laysChanges_59 rfl (lv_at hl 0 rfl) ?_
                refine sn_if_ne (tgt := 69) hx hb dX5_laysChanges_60 (by decide) (by decide) (fun q => absurd q (by decide)) (fun _ => ?_)
                refine lv_sipush (v := nI 1000) hx hb dX5_laysChanges_63 si_1000 ?_
                refine lv_goto (tgt := 84) hx hb dX5_laysChanges_66 (by decide) ?_
                refine sv_iast hx hb hK hP hD hS 28 g28 (j := 8 * t + k) (by omega) (by decide) dX5_laysChanges_84 (fun ws6 H locs hP hD hS g28 fr5 => ?_)
                replace g19 := (fr5 19 (by decide)).trans g19
                replace g20 := (fr5 20 (by decide)).trans g20
                replace g21 := (fr5 21 (by decide)).trans g21
                replace g22 := (fr5 22 (by decide)).trans g22
                replace g23 := (fr5 23 (by decide)).trans g23
                replace g24 := (fr5 24 (by decide)).trans g24
                replace g25 := (fr5 25 (by decide)).trans g25
                replace g26 := (fr5 26 (by decide)).trans g26
                replace g27 := (fr5 27 (by decide)).trans g27
                replace g29 := (fr5 29 (by decide)).trans g29
                rw [upd_X] at g28
                refine lv_iconst (v := nI 0) hx hb dX5_laysChanges_85 ci_0 ?_
                refine lv_istore (lv' := [(4, .int (nI 0)), (3, .int (nI 0)), (2, .int (nI k)), (1, .int (nI t)), (0, .ref h)]) hx hb dX5_laysChanges_86 hl (by decide) rfl (fun ls hl => ?_)
                have L88 : ∀ (L88d : Nat) (nx : Nat) (gk : Nat → Int32), n - nx < L88d → ∀ (wl88 : va_W) (H : Heap), nx ≤ n → lcOK C Hd b q T n t gk → (∀ j, j < k → gk (8 * t + j) = nI (mcv C Hd b q T n t j)) → gk (8 * t + k) = nI 1000 → va_P D CL wl88 H → va_D A wl88 → wl88[19]? = some (h, .inr (5, [.int (nI th), .int (nI n), .ref a1, .ref a2, .ref a3, .int (nI b), .int (bI q), .ref a4, .int (bI bg), .int (nI pu), .int (nI bu), .int cl, .int mo, .ref a5, .ref a6, .ref a7, .ref a8, .ref a9, .ref a10])) → wl88[20]? = some (a1, .inl (ky.1, 8, .inl (fun i => nI (T i)))) → wl88[21]? = some (a2, .inl (ky.1, 8, .inl (fun i => nI (C i)))) → wl88[22]? = some (a3, .inl (ky.1, 48, .inl (fun i => nI (Hd i)))) → wl88[23]? = some (a4, .inl (ky.1, 8, .inl (fun i => nI (J i)))) → wl88[24]? = some (a5, .inl (ky.1, 8, .inl (fun i => nI (K i)))) → wl88[25]? = some (a6, .inl (ky.1, 256, .inl fw)) → wl88[26]? = some (a7, .inl (ky.1, 256, .inl fd)) → wl88[27]? = some (a8, .inl (ky.1, 256, .inl fc)) → wl88[28]? = some (a9, .inl (ky.1, 2048, .inl gk)) → wl88[29]? = some (a10, .inl (ky.1, 8, .inl fo)) → fr ws wl88 19 29 → ∀ (ls : Array Slot) (locs : List Loc), lv_has ls 6 [(4, .int (nI nx)), (3, .int (nI 0)), (2, .int (nI k)), (1, .int (nI t)), (0, .ref h)] → va_S A Hs H locs → W pg l en Rm sg mi av below meth co H locs 0 0 Qo (F0 mi 88 ls []) := by
                  intro L88d
                  induction L88d with
                  | zero => intro nx gk hfu; exact absurd hfu (Nat.not_lt_zero _)
                  | succ L88d ih88 =>
                    intro nx gk hfu wl88 H i88_0 i88_1 i88_2 i88_3 hP hD g19 g20 g21 g22 g23 g24 g25 g26 g27 g28 g29 frwl88 ls locs hl hS
                    refine lv_iload hx hb dX5_laysChanges_88 (lv_at hl 0 rfl) ?_
                    refine lv_aload_n hx hb dX5_laysChanges_90 rfl (lv_at hl 4 rfl) ?_
                    refine va_get (ci := 5) (C := RX5) (T := TX5) (N := 19) hx hb hts hinX5 hown hK hP 19 g19 rfl 1 (by decide) k44 (fun _ h9 => h9) rfl dX5_laysChanges_91 ?_
                    refine sn_icmp_ge (tgt := 200) hx hb dX5_laysChanges_94 (by decide) (by omega) (by omega) (fun c7 => ?_) (fun c7 => ?_)
                    · refine lv_iinc (v := nI (k + 1)) (lv' := [(2, .int (nI (k + 1))), (4, .int (nI nx)), (3, .int (nI 0)), (1, .int (nI t)), (0, .ref h)]) hx hb dX5_laysChanges_200 hl (k := 2) rfl (nI_1 _) (by decide) rfl (fun ls hl => ?_)
                      refine lv_goto (tgt := 11) hx hb dX5_laysChanges_203 (by decide) ?_
                      exact ih11 (k + 1) gk (by omega) _ _ (by omega) i88_1 (fun j hj => by rcases Nat.lt_or_ge j k with z | z; exact i88_2 j z; rw [show j = k by omega]; rw [i88_3, mcv_no hno]) hP hD g19 g20 g21 g22 g23 g24 g25 g26 g27 g28 g29 (fr.wd frwl88 : fr _ _ 19 29) ls locs (lv_sub hl [0, 3, 4] rfl) hS
                    · refine lv_iload_n hx hb dX5_laysChanges_97 rfl (lv_at hl 1 rfl) ?_
                      refine sn_if_eq (tgt := 200) hx hb dX5_laysChanges_98 (by decide) (by decide) (fun _ => ?_) (fun q => absurd q (by decide))
                      refine lv_iinc (v := nI (k + 1)) (lv' := [(2, .int (nI (k + 1))), (4, .int (nI nx)), (3, .int (nI 0)), (1, .int (nI t)), (0, .ref h)]) hx hb dX5_laysChanges_200 hl (k := 2) rfl (nI_1 _) (by decide) rfl (fun ls hl => ?_)
                      refine lv_goto (tgt := 11) hx hb dX5_laysChanges_203 (by decide) ?_
                      exact ih11 (k + 1) gk (by omega) _ _ (by omega) i88_1 (fun j hj => by rcases Nat.lt_or_ge j k with z | z; exact i88_2 j z; rw [show j = k by omega]; rw [i88_3, mcv_no hno]) hP hD g19 g20 g21 g22 g23 g24 g25 g26 g27 g28 g29 (fr.wd frwl88 : fr _ _ 19 29) ls locs (lv_sub hl [0, 3, 4] rfl) hS
                exact L88 ((n - 0) + 1) 0 ((upX gh (8 * t + k) (nI 1000))) (Nat.lt_succ_self _) _ _ (by omega) (fun s j hs h2 hj => by rw [upX_n (by omega)]; exact i11_1 s j hs h2 hj) (fun j hj => by rw [upX_n (by omega)]; exact i11_2 j hj) upX_s hP hD g19 g20 g21 g22 g23 g24 g25 g26 g27 g28 g29 ((fr.wd frwl11 : fr _ _ 19 29).tr fr5) ls locs (lv_sub hl [0, 1, 2, 3, 4] rfl) hS
              · have hck := c3
                refine lv_aload_n hx hb dX5_laysChanges_28 rfl (lv_at hl 2 rfl) ?_
                refine lv_iload_n hx hb dX5_laysChanges_29 rfl (lv_at hl 1 rfl) ?_
                refine lv_iconst (v := nI 1) hx hb dX5_laysChanges_30 ci_1 ?_
                refine lv_iload_n hx hb dX5_laysChanges_31 rfl (lv_at hl 0 rfl) ?_
                refine lv_ishl hx hb dX5_laysChanges_32 ?_
                refine sv_top (y := nI (2 ^ k)) (sh_l1 (by omega)) ?_
                refine lv_iconst (v := -1) hx hb dX5_laysChanges_33 ci_m1 ?_
                refine lv_ixor hx hb dX5_laysChanges_34 ?_
                refine lv_iand hx hb dX5_laysChanges_35 ?_
                refine sv_top (y := nI (clr t (2 ^ k))) (an_not _ _) ?_
                refine lv_iload_n hx hb dX5_laysChanges_36 rfl (lv_at hl 0 rfl) ?_
                refine pcV (c_X5_canAdd hP ⟨a1, a2, a3, a4, a5, a6, a7, a8, a9, a10, g19, g20, g21, g22, g23, g24, g25, g26, g27, g28, g29⟩ hI (clr_lt i5_0) (by omega)) ⟨hx, hb, hml, hown, hts⟩ hK gX5_laysChanges_X5_canAdd rfl hd_X5_canAdd ⟨by omega, by omega⟩ (va_recv hK hP (ci := 5) (q0 := 19) rfl g19) rfl hl.1 rfl (Nat.le_of_ble_eq_true rfl) dX5_laysChanges_37 ⟨Nat.zero_le _, Nat.zero_le _⟩ hS (fun locs hS => ?_)
                refine sb_if_eq (tgt := 47) hx hb dX5_laysChanges_40 (by decide) (fun c9 => ?_) (fun c9 => ?_)
                · have hno : t.testBit k = false ∨ cad C Hd b q (clr t (2 ^ k)) k = false := Or.inr c9
                  refine lv_iconst (v := nI 0) hx hb dX5_laysChanges_47 ci_0 ?_
                  refine lv_istore_n (lv' := [(3, .int (nI 0)), (2, .int (nI k)), (1, .int (nI t)), (0, .ref h)]) hx hb dX5_laysChanges_48 rfl hl (by decide) rfl (fun ls hl => ?_)
                  refine lv_aload_n hx hb dX5_laysChanges_49 rfl (lv_at hl 3 rfl) ?_
                  refine va_get (ci := 5) (C := RX5) (T := TX5) (N := 19) hx hb hts hinX5 hown hK hP 19 g19 rfl 17 (by decide) k34 (fun _ h9 => h9) rfl dX5_laysChanges_50 ?_
                  refine lv_bipush (v := nI 8) hx hb dX5_laysChanges_53 bi_8 ?_
                  refine lv_iload_n hx hb dX5_laysChanges_55 rfl (lv_at hl 2 rfl) ?_
                  refine lv_imul hx hb dX5_laysChanges_56 ?_
                  refine sv_top (y := nI (8 * t)) (mul_n _ _) ?_
                  refine lv_iload_n hx hb dX5_laysChanges_57 rfl (lv_at hl 1 rfl) ?_
                  refine lv_iadd hx hb dX5_laysChanges_58 ?_
                  refine sv_top (y := nI (8 * t + k)) (nI_add _ _) ?_
                  refine lv_iload_n hx hb dX5_laysChanges_59 rfl (lv_at hl 0 rfl) ?_
                  refine sn_if_ne (tgt := 69) hx hb dX5_laysChanges_60 (by decide) (by decide) (fun q => absurd q (by decide)) (fun _ => ?_)
                  refine lv_sipush (v := nI 1000) hx hb dX5_laysChanges_63 si_1000 ?_
                  refine lv_goto (tgt := 84) hx hb dX5_laysChanges_66 (by decide) ?_
                  refine sv_iast hx hb hK hP hD hS 28 g28 (j := 8 * t + k) (by omega) (by decide) dX5_laysChanges_84 (fun ws12 H locs hP hD hS g28 fr11 => ?_)
                  replace g19 := (fr11 19 (by decide)).trans g19
                  replace g20 := (fr11 20 (by decide)).trans g20
                  replace g21 := (fr11 21 (by decide)).trans g21
                  replace g22 := (fr11 22 (by decide)).trans g22
                  replace g23 := (fr11 23 (by decide)).trans g23
                  replace g24 := (fr11 24 (by decide)).trans g24
                  replace g25 := (fr11 25 (by decide)).trans g25
                  replace g26 := (fr11 26 (by decide)).trans g26
                  replace g27 := (fr11 27 (by decide)).trans g27
                  replace g29 := (fr11 29 (by decide)).trans g29
                  rw [upd_X] at g28
                  refine lv_iconst (v := nI 0) hx hb dX5_laysChanges_85 ci_0 ?_
                  refine lv_istore (lv' := [(4, .int (nI 0)), (3, .int (nI 0)), (2, .int (nI k)), (1, .int (nI t)), (0, .ref h)]) hx hb dX5_laysChanges_86 hl (by decide) rfl (fun ls hl => ?_)
                  have L88 : ∀ (L88d : Nat) (nx : Nat) (gk : Nat → Int32), n - nx < L88d → ∀ (wl88 : va_W) (H : Heap), nx ≤ n → lcOK C Hd b q T n t gk → (∀ j, j < k → gk (8 * t + j) = nI (mcv C Hd b q T n t j)) → gk (8 * t + k) = nI 1000 → va_P D CL wl88 H → va_D A wl88 → wl88[19]? = some (h, .inr (5, [.int (nI th), .int (nI n), .ref a1, .ref a2, .ref a3, .int (nI b), .int (bI q), .ref a4, .int (bI bg), .int (nI pu), .int (nI bu), .int cl, .int mo, .ref a5, .ref a6, .ref a7, .ref a8, .ref a9, .ref a10])) → wl88[20]? = some (a1, .inl (ky.1, 8, .inl (fun i => nI (T i)))) → wl88[21]? = some (a2, .inl (ky.1, 8, .inl (fun i => nI (C i)))) → wl88[22]? = some (a3, .inl (ky.1, 48, .inl (fun i => nI (Hd i)))) → wl88[23]? = some (a4, .inl (ky.1, 8, .inl (fun i => nI (J i)))) → wl88[24]? = some (a5, .inl (ky.1, 8, .inl (fun i => nI (K i)))) → wl88[25]? = some (a6, .inl (ky.1, 256, .inl fw)) → wl88[26]? = some (a7, .inl (ky.1, 256, .inl fd)) → wl88[27]? = some (a8, .inl (ky.1, 256, .inl fc)) → wl88[28]? = some (a9, .inl (ky.1, 2048, .inl gk)) → wl88[29]? = some (a10, .inl (ky.1, 8, .inl fo)) → fr ws wl88 19 29 → ∀ (ls : Array Slot) (locs : List Loc), lv_has ls 6 [(4, .int (nI nx)), (3, .int (nI 0)), (2, .int (nI k)), (1, .int (nI t)), (0, .ref h)] → va_S A Hs H locs → W pg l en Rm sg mi av below meth co H locs 0 0 Qo (F0 mi 88 ls []) := by
                    intro L88d
                    induction L88d with
                    | zero => intro nx gk hfu; exact absurd hfu (Nat.not_lt_zero _)
                    | succ L88d ih88 =>
                      intro nx gk hfu wl88 H i88_0 i88_1 i88_2 i88_3 hP hD g19 g20 g21 g22 g23 g24 g25 g26 g27 g28 g29 frwl88 ls locs hl hS
                      refine lv_iload hx hb dX5_laysChanges_88 (lv_at hl 0 rfl) ?_
                      refine lv_aload_n hx hb dX5_laysChanges_90 rfl (lv_at hl 4 rfl) ?_
                      refine va_get (ci := 5) (C := RX5) (T := TX5) (N := 19) hx hb hts hinX5 hown hK hP 19 g19 rfl 1 (by decide) k44 (fun _ h9 => h9) rfl dX5_laysChanges_91 ?_
                      refine sn_icmp_ge (tgt := 200) hx hb dX5_laysChanges_94 (by decide) (by omega) (by omega) (fun c13 => ?_) (fun c13 => ?_)
                      · refine lv_iinc (v := nI (k + 1)) (lv' := [(2, .int (nI (k + 1))), (4, .int (nI nx)), (3, .int (nI 0)), (1, .int (nI t)), (0, .ref h)]) hx hb dX5_laysChanges_200 hl (k := 2) rfl (nI_1 _) (by decide) rfl (fun ls hl => ?_)
                        refine lv_goto (tgt := 11) hx hb dX5_laysChanges_203 (by decide) ?_
                        exact ih11 (k + 1) gk (by omega) _ _ (by omega) i88_1 (fun j hj => by rcases Nat.lt_or_ge j k with z | z; exact i88_2 j z; rw [show j = k by omega]; rw [i88_3, mcv_no hno]) hP hD g19 g20 g21 g22 g23 g24 g25 g26 g27 g28 g29 (fr.wd frwl88 : fr _ _ 19 29) ls locs (lv_sub hl [0, 3, 4] rfl) hS
                      · refine lv_iload_n hx hb dX5_laysChanges_97 rfl (lv_at hl 1 rfl) ?_
                        refine sn_if_eq (tgt := 200) hx hb dX5_laysChanges_98 (by decide) (by decide) (fun _ => ?_) (fun q => absurd q (by decide))
                        refine lv_iinc (v := nI (k + 1)) (lv' := [(2, .int (nI (k + 1))), (4, .int (nI nx)), (3, .int (nI 0)), (1, .int (nI t)), (0, .ref h)]) hx hb dX5_laysChanges_200 hl (k := 2) rfl (nI_1 _) (by decide) rfl (fun ls hl => ?_)
                        refine lv_goto (tgt := 11) hx hb dX5_laysChanges_203 (by decide) ?_
                        exact ih11 (k + 1) gk (by omega) _ _ (by omega) i88_1 (fun j hj => by rcases Nat.lt_or_ge j k with z | z; exact i88_2 j z; rw [show j = k by omega]; rw [i88_3, mcv_no hno]) hP hD g19 g20 g21 g22 g23 g24 g25 g26 g27 g28 g29 (fr.wd frwl88 : fr _ _ 19 29) ls locs (lv_sub hl [0, 3, 4] rfl) hS
                  exact L88 ((n - 0) + 1) 0 ((upX gh (8 * t + k) (nI 1000))) (Nat.lt_succ_self _) _ _ (by omega) (fun s j hs h2 hj => by rw [upX_n (by omega)]; exact i11_1 s j hs h2 hj) (fun j hj => by rw [upX_n (by omega)]; exact i11_2 j hj) upX_s hP hD g19 g20 g21 g22 g23 g24 g25 g26 g27 g28 g29 ((fr.wd frwl11 : fr _ _ 19 29).tr fr11) ls locs (lv_sub hl [0, 1, 2, 3, 4] rfl) hS
                · have hcd := c9
                  refine lv_iconst (v := nI 1) hx hb dX5_laysChanges_43 ci_1 ?_
                  refine lv_goto (tgt := 48) hx hb dX5_laysChanges_44 (by decide) ?_
                  refine lv_istore_n (lv' := [(3, .int (nI 1)), (2, .int (nI k)), (1, .int (nI t)), (0, .ref h)]) hx hb dX5_laysChanges_48 rfl hl (by decide) rfl (fun ls hl => ?_)
                  refine lv_aload_n hx hb dX5_laysChanges_49 rfl (lv_at hl 3 rfl) ?_
                  refine va_get (ci := 5) (C := RX5) (T := TX5) (N := 19) hx hb hts hinX5 hown hK hP 19 g19 rfl 17 (by decide) k34 (fun _ h9 => h9) rfl dX5_laysChanges_50 ?_
                  refine lv_bipush (v := nI 8) hx hb dX5_laysChanges_53 bi_8 ?_
                  refine lv_iload_n hx hb dX5_laysChanges_55 rfl (lv_at hl 2 rfl) ?_
                  refine lv_imul hx hb dX5_laysChanges_56 ?_
                  refine sv_top (y := nI (8 * t)) (mul_n _ _) ?_
                  refine lv_iload_n hx hb dX5_laysChanges_57 rfl (lv_at hl 1 rfl) ?_
                  refine lv_iadd hx hb dX5_laysChanges_58 ?_
                  refine sv_top (y := nI (8 * t + k)) (nI_add _ _) ?_
                  refine lv_iload_n hx hb dX5_laysChanges_59 rfl (lv_at hl 0 rfl) ?_
                  refine sn_if_ne (tgt := 69) hx hb dX5_laysChanges_60 (by decide) (by decide) (fun _ => ?_) (fun q => absurd q (by decide))
                  refine lv_iload_n hx hb dX5_laysChanges_69 rfl (lv_at hl 2 rfl) ?_
                  refine lv_aload_n hx hb dX5_laysChanges_70 rfl (lv_at hl 3 rfl) ?_
                  refine pcV (c_X5_whole hP ⟨a1, a2, a3, a4, a5, a6, a7, a8, a9, a10, g19, g20, g21, g22, g23, g24, g25, g26, g27, g28, g29⟩ hn8) ⟨hx, hb, hml, hown, hts⟩ hK gX5_laysChanges_X5_whole rfl hd_X5_whole ⟨by omega, by omega⟩ (va_recv hK hP (ci := 5) (q0 := 19) rfl g19) rfl hl.1 rfl (Nat.le_of_ble_eq_true rfl) dX5_laysChanges_71 ⟨Nat.zero_le _, Nat.zero_le _⟩ hS (fun locs hS => ?_)
                  refine sn_icmp_ne (tgt := 81) hx hb dX5_laysChanges_74 (by decide) (by omega) (Nat.lt_of_le_of_lt (Nat.sub_le _ _) (pw_lt (by omega))) (fun c16 => ?_) (fun c16 => ?_)
                  · refine lv_sipush (v := nI 1000) hx hb dX5_laysChanges_81 si_1000 ?_
                    refine sv_iast hx hb hK hP hD hS 28 g28 (j := 8 * t + k) (by omega) (by decide) dX5_laysChanges_84 (fun ws18 H locs hP hD hS g28 fr17 => ?_)
                    replace g19 := (fr17 19 (by decide)).trans g19
                    replace g20 := (fr17 20 (by decide)).trans g20
                    replace g21 := (fr17 21 (by decide)).trans g21
                    replace g22 := (fr17 22 (by decide)).trans g22
                    replace g23 := (fr17 23 (by decide)).trans g23
                    replace g24 := (fr17 24 (by decide)).trans g24
                    replace g25 := (fr17 25 (by decide)).trans g25
                    replace g26 := (fr17 26 (by decide)).trans g26
                    replace g27 := (fr17 27 (by decide)).trans g27
                    replace g29 := (fr17 29 (by decide)).trans g29
                    rw [upd_X] at g28
                    refine lv_iconst (v := nI 0) hx hb dX5_laysChanges_85 ci_0 ?_
                    refine lv_istore (lv' := [(4, .int (nI 0)), (3, .int (nI 1)), (2, .int (nI k)), (1, .int (nI t)), (0, .ref h)]) hx hb dX5_laysChanges_86 hl (by decide) rfl (fun ls hl => ?_)
                    have L88 : ∀ (L88d : Nat) (nx : Nat) (gk : Nat → Int32), n - nx < L88d → ∀ (wl88 : va_W) (H : Heap), nx ≤ n → lcOK C Hd b q T n t gk → (∀ j, j < k → gk (8 * t + j) = nI (mcv C Hd b q T n t j)) → gk (8 * t + k) = nI (itr (fwS C Hd b q T (cgv C Hd b q T n) (nI (T k)) t) nx (if t = 2 ^ n - 1 then 0 else 1000)) → va_P D CL wl88 H → va_D A wl88 → wl88[19]? = some (h, .inr (5, [.int (nI th), .int (nI n), .ref a1, .ref a2, .ref a3, .int (nI b), .int (bI q), .ref a4, .int (bI bg), .int (nI pu), .int (nI bu), .int cl, .int mo, .ref a5, .ref a6, .ref a7, .ref a8, .ref a9, .ref a10])) → wl88[20]? = some (a1, .inl (ky.1, 8, .inl (fun i => nI (T i)))) → wl88[21]? = some (a2, .inl (ky.1, 8, .inl (fun i => nI (C i)))) → wl88[22]? = some (a3, .inl (ky.1, 48, .inl (fun i => nI (Hd i)))) → wl88[23]? = some (a4, .inl (ky.1, 8, .inl (fun i => nI (J i)))) → wl88[24]? = some (a5, .inl (ky.1, 8, .inl (fun i => nI (K i)))) → wl88[25]? = some (a6, .inl (ky.1, 256, .inl fw)) → wl88[26]? = some (a7, .inl (ky.1, 256, .inl fd)) → wl88[27]? = some (a8, .inl (ky.1, 256, .inl fc)) → wl88[28]? = some (a9, .inl (ky.1, 2048, .inl gk)) → wl88[29]? = some (a10, .inl (ky.1, 8, .inl fo)) → fr ws wl88 19 29 → ∀ (ls : Array Slot) (locs : List Loc), lv_has ls 6 [(4, .int (nI nx)), (3, .int (nI 1)), (2, .int (nI k)), (1, .int (nI t)), (0, .ref h)] → va_S A Hs H locs → W pg l en Rm sg mi av below meth co H locs 0 0 Qo (F0 mi 88 ls []) := by
                      intro L88d
                      induction L88d with
                      | zero => intro nx gk hfu; exact absurd hfu (Nat.not_lt_zero _)
                      | succ L88d ih88 =>
                        intro nx gk hfu wl88 H i88_0 i88_1 i88_2 i88_3 hP hD g19 g20 g21 g22 g23 g24 g25 g26 g27 g28 g29 frwl88 ls locs hl hS
                        refine lv_iload hx hb dX5_laysChanges_88 (lv_at hl 0 rfl) ?_
                        refine lv_aload_n hx hb dX5_laysChanges_90 rfl (lv_at hl 4 rfl) ?_
                        refine va_get (ci := 5) (C := RX5) (T := TX5) (N := 19) hx hb hts hinX5 hown hK hP 19 g19 rfl 1 (by decide) k44 (fun _ h9 => h9) rfl dX5_laysChanges_91 ?_
                        refine sn_icmp_ge (tgt := 200) hx hb dX5_laysChanges_94 (by decide) (by omega) (by omega) (fun c19 => ?_) (fun c19 => ?_)
                        · refine lv_iinc (v := nI (k + 1)) (lv' := [(2, .int (nI (k + 1))), (4, .int (nI nx)), (3, .int (nI 1)), (1, .int (nI t)), (0, .ref h)]) hx hb dX5_laysChanges_200 hl (k := 2) rfl (nI_1 _) (by decide) rfl (fun ls hl => ?_)
                          refine lv_goto (tgt := 11) hx hb dX5_laysChanges_203 (by decide) ?_
                          exact ih11 (k + 1) gk (by omega) _ _ (by omega) i88_1 (fun j hj => by rcases Nat.lt_or_ge j k with z | z; exact i88_2 j z; rw [show j = k by omega]; rw [i88_3, mcv_yes hT i5_0 hck hcd, show nx = n by omega]) hP hD g19 g20 g21 g22 g23 g24 g25 g26 g27 g28 g29 (fr.wd frwl88 : fr _ _ 19 29) ls locs (lv_sub hl [0, 3, 4] rfl) hS
                        · have hyb : itr (fwS C Hd b q T (cgv C Hd b q T n) (nI (T k)) t) nx (if t = 2 ^ n - 1 then 0 else 1000) ≤ 1000 := Nat.le_trans (fwF_le nx _) (show (if t = 2 ^ n - 1 then 0 else 1000) ≤ 1000 by split <;> omega)
                          refine lv_iload_n hx hb dX5_laysChanges_97 rfl (lv_at hl 1 rfl) ?_
                          refine sn_if_eq (tgt := 200) hx hb dX5_laysChanges_98 (by decide) (by decide) (fun q => absurd q (by decide)) (fun _ => ?_)
                          refine lv_iload_n hx hb dX5_laysChanges_101 rfl (lv_at hl 3 rfl) ?_
                          refine lv_iload hx hb dX5_laysChanges_102 (lv_at hl 0 rfl) ?_
                          refine lv_ishr hx hb dX5_laysChanges_104 ?_
                          refine sv_top (y := nI (t / 2 ^ nx)) (sh_r (by omega) (by omega)) ?_
                          refine lv_iconst (v := nI 1) hx hb dX5_laysChanges_105 ci_1 ?_
                          refine lv_iand hx hb dX5_laysChanges_106 ?_
                          refine sv_top (y := nI (t / 2 ^ nx % 2)) (an_1) ?_
                          refine st_ifm_ne (tgt := 194) hx hb dX5_laysChanges_107 (by decide) (fun c21 => ?_) (fun c21 => ?_)
                          · refine lv_iinc (v := nI (nx + 1)) (lv' := [(4, .int (nI (nx + 1))), (3, .int (nI 1)), (2, .int (nI k)), (1, .int (nI t)), (0, .ref h)]) hx hb dX5_laysChanges_194 hl (k := 0) rfl (nI_1 _) (by decide) rfl (fun ls hl => ?_)
                            refine lv_goto (tgt := 88) hx hb dX5_laysChanges_197 (by decide) ?_
                            exact ih88 (nx + 1) gk (by omega) _ _ (by omega) i88_1 i88_2 (by rw [i88_3]; exact congrArg nI (show _ = fwS C Hd b q T (cgv C Hd b q T n) (nI (T k)) t nx _ by rw [mc_step hT hyb, if_pos c21])) hP hD g19 g20 g21 g22 g23 g24 g25 g26 g27 g28 g29 (fr.wd frwl88 : fr _ _ 19 29) ls locs (lv_sub hl [0, 1, 2, 3, 4] rfl) hS
                          · have hor : t ||| 2 ^ nx < 2 ^ n := or_lt i5_0 (Nat.pow_lt_pow_right (by decide) (by omega))
                            have hgt : t < t ||| 2 ^ nx := Nat.lt_of_le_of_ne (sbs_le sbs_or1) (fun z => by have h9 : t.testBit nx = true := (by rw [z, Nat.testBit_or, Nat.testBit_two_pow_self, Bool.or_true]); exact absurd (h9.symm.trans c21) (by decide))
                            have hmb := mcv_b (C := C) (Hd := Hd) (b := b) (q := q) (T := T) (n := n) (S := t ||| 2 ^ nx) (k := nx) hT hor
                            refine lv_aload_n hx hb dX5_laysChanges_110 rfl (lv_at hl 4 rfl) ?_
                            refine va_get (ci := 5) (C := RX5) (T := TX5) (N := 19) hx hb hts hinX5 hown hK hP 19 g19 rfl 17 (by decide) k34 (fun _ h9 => h9) rfl dX5_laysChanges_111 ?_
                            refine lv_bipush (v := nI 8) hx hb dX5_laysChanges_114 bi_8 ?_
                            refine lv_iload_n hx hb dX5_laysChanges_116 rfl (lv_at hl 3 rfl) ?_
                            refine lv_iconst (v := nI 1) hx hb dX5_laysChanges_117 ci_1 ?_
                            refine lv_iload hx hb dX5_laysChanges_118 (lv_at hl 0 rfl) ?_
                            refine lv_ishl hx hb dX5_laysChanges_120 ?_
                            refine sv_top (y := nI (2 ^ nx)) (sh_l1 (by omega)) ?_
                            refine lv_ior hx hb dX5_laysChanges_121 ?_
                            refine sv_top (y := nI (t ||| (2 ^ nx))) (an_or _ _) ?_
                            refine lv_imul hx hb dX5_laysChanges_122 ?_
                            refine sv_top (y := nI (8 * (t ||| (2 ^ nx)))) (mul_n _ _) ?_
                            refine lv_iload hx hb dX5_laysChanges_123 (lv_at hl 0 rfl) ?_
                            refine lv_iadd hx hb dX5_laysChanges_125 ?_
                            refine sv_top (y := nI ((8 * (t ||| (2 ^ nx))) + nx)) (nI_add _ _) ?_
                            refine sv_iald hx hb hK hP 28 g28 (j := (8 * (t ||| (2 ^ nx))) + nx) (by omega) (by decide) dX5_laysChanges_126 ?_
                            refine W.eq (g2 := F0 mi 127 ls (.int (gk ((8 * (t ||| (2 ^ nx))) + nx)) :: [])) rfl ?_
                            refine sv_top (y := nI (mcv C Hd b q T n (t ||| 2 ^ nx) nx)) (i88_1 _ _ hgt hor (by omega)) ?_
                            refine lv_aload_n hx hb dX5_laysChanges_127 rfl (lv_at hl 4 rfl) ?_
                            refine va_get (ci := 5) (C := RX5) (T := TX5) (N := 19) hx hb hts hinX5 hown hK hP 19 g19 rfl 2 (by decide) k7 (fun _ h9 => h9) rfl dX5_laysChanges_128 ?_
                            refine lv_iload hx hb dX5_laysChanges_131 (lv_at hl 0 rfl) ?_
                            refine sv_iald hx hb hK hP 20 g20 (j := nx) (by omega) (by decide) dX5_laysChanges_133 ?_
                            refine W.eq (g2 := F0 mi 134 ls (.int (nI (T nx)) :: [.int (nI (mcv C Hd b q T n (t ||| 2 ^ nx) nx))])) rfl ?_
                            refine lv_aload_n hx hb dX5_laysChanges_134 rfl (lv_at hl 4 rfl) ?_
                            refine va_get (ci := 5) (C := RX5) (T := TX5) (N := 19) hx hb hts hinX5 hown hK hP 19 g19 rfl 2 (by decide) k7 (fun _ h9 => h9) rfl dX5_laysChanges_135 ?_
                            refine lv_iload_n hx hb dX5_laysChanges_138 rfl (lv_at hl 2 rfl) ?_
                            refine sv_iald hx hb hK hP 20 g20 (j := k) (by omega) (by decide) dX5_laysChanges_139 ?_
                            refine W.eq (g2 := F0 mi 140 ls (.int (nI (T k)) :: [.int (nI (T nx)), .int (nI (mcv C Hd b q T n (t ||| 2 ^ nx) nx))])) rfl ?_
                            refine sn_icmp_ne (tgt := 147) hx hb dX5_laysChanges_140 (by decide) (Nat.lt_trans (hT _) (by decide)) (Nat.lt_trans (hT _) (by decide)) (fun c22 => ?_) (fun c22 => ?_)
                            · refine lv_iconst (v := nI 1) hx hb dX5_laysChanges_147 ci_1 ?_
                              refine lv_iadd hx hb dX5_laysChanges_148 ?_
                              refine sv_top (y := nI ((mcv C Hd b q T n (t ||| 2 ^ nx) nx) + 1)) (nI_add _ _) ?_
                              refine lv_istore (lv' := [(5, .int (nI ((mcv C Hd b q T n (t ||| 2 ^ nx) nx) + 1))), (4, .int (nI nx)), (3, .int (nI 1)), (2, .int (nI k)), (1, .int (nI t)), (0, .ref h)]) hx hb dX5_laysChanges_149 hl (by decide) rfl (fun ls hl => ?_)
                              refine lv_aload_n hx hb dX5_laysChanges_151 rfl (lv_at hl 5 rfl) ?_
                              refine va_get (ci := 5) (C := RX5) (T := TX5) (N := 19) hx hb hts hinX5 hown hK hP 19 g19 rfl 17 (by decide) k34 (fun _ h9 => h9) rfl dX5_laysChanges_152 ?_
                              refine lv_bipush (v := nI 8) hx hb dX5_laysChanges_155 bi_8 ?_
                              refine lv_iload_n hx hb dX5_laysChanges_157 rfl (lv_at hl 4 rfl) ?_
                              refine lv_imul hx hb dX5_laysChanges_158 ?_
                              refine sv_top (y := nI (8 * t)) (mul_n _ _) ?_
                              refine lv_iload_n hx hb dX5_laysChanges_159 rfl (lv_at hl 3 rfl) ?_
                              refine lv_iadd hx hb dX5_laysChanges_160 ?_
                              refine sv_top (y := nI (8 * t + k)) (nI_add _ _) ?_
                              refine lv_iload hx hb dX5_laysChanges_161 (lv_at hl 0 rfl) ?_
                              refine lv_aload_n hx hb dX5_laysChanges_163 rfl (lv_at hl 5 rfl) ?_
                              refine va_get (ci := 5) (C := RX5) (T := TX5) (N := 19) hx hb hts hinX5 hown hK hP 19 g19 rfl 17 (by decide) k34 (fun _ h9 => h9) rfl dX5_laysChanges_164 ?_
                              refine lv_bipush (v := nI 8) hx hb dX5_laysChanges_167 bi_8 ?_
                              refine lv_iload_n hx hb dX5_laysChanges_169 rfl (lv_at hl 4 rfl) ?_
                              refine lv_imul hx hb dX5_laysChanges_170 ?_
                              refine sv_top (y := nI (8 * t)) (mul_n _ _) ?_
                              refine lv_iload_n hx hb dX5_laysChanges_171 rfl (lv_at hl 3 rfl) ?_
                              refine lv_iadd hx hb dX5_laysChanges_172 ?_
                              refine sv_top (y := nI (8 * t + k)) (nI_add _ _) ?_
                              refine sv_iald hx hb hK hP 28 g28 (j := 8 * t + k) (by omega) (by decide) dX5_laysChanges_173 ?_
                              refine W.eq (g2 := F0 mi 174 ls (.int (gk (8 * t + k)) :: [.int (nI ((mcv C Hd b q T n (t ||| 2 ^ nx) nx) + 1)), .int (nI (8 * t + k)), .ref a9])) rfl ?_
                              refine sv_top (y := nI (itr (fwS C Hd b q T (cgv C Hd b q T n) (nI (T k)) t) nx (if t = 2 ^ n - 1 then 0 else 1000))) (i88_3) ?_
                              refine sn_icmp_ge (tgt := 182) hx hb dX5_laysChanges_174 (by decide) (by omega) (Nat.lt_of_le_of_lt hyb (by decide)) (fun c23 => ?_) (fun c23 => ?_)
                              · refine lv_aload_n hx hb dX5_laysChanges_182 rfl (lv_at hl 5 rfl) ?_
                                refine va_get (ci := 5) (C := RX5) (T := TX5) (N := 19) hx hb hts hinX5 hown hK hP 19 g19 rfl 17 (by decide) k34 (fun _ h9 => h9) rfl dX5_laysChanges_183 ?_
                                refine lv_bipush (v := nI 8) hx hb dX5_laysChanges_186 bi_8 ?_
                                refine lv_iload_n hx hb dX5_laysChanges_188 rfl (lv_at hl 4 rfl) ?_
                                refine lv_imul hx hb dX5_laysChanges_189 ?_
                                refine sv_top (y := nI (8 * t)) (mul_n _ _) ?_
                                refine lv_iload_n hx hb dX5_laysChanges_190 rfl (lv_at hl 3 rfl) ?_
                                refine lv_iadd hx hb dX5_laysChanges_191 ?_
                                refine sv_top (y := nI (8 * t + k)) (nI_add _ _) ?_
                                refine sv_iald hx hb hK hP 28 g28 (j := 8 * t + k) (by omega) (by decide) dX5_laysChanges_192 ?_
                                refine W.eq (g2 := F0 mi 193 ls (.int (gk (8 * t + k)) :: [.int (nI (8 * t + k)), .ref a9])) rfl ?_
                                refine sv_top (y := nI (itr (fwS C Hd b q T (cgv C Hd b q T n) (nI (T k)) t) nx (if t = 2 ^ n - 1 then 0 else 1000))) (i88_3) ?_
                                refine sv_iast hx hb hK hP hD hS 28 g28 (j := 8 * t + k) (by omega) (by decide) dX5_laysChanges_193 (fun ws25 H locs hP hD hS g28 fr24 => ?_)
                                replace g19 := (fr24 19 (by decide)).trans g19
                                replace g20 := (fr24 20 (by decide)).trans g20
                                replace g21 := (fr24 21 (by decide)).trans g21
                                replace g22 := (fr24 22 (by decide)).trans g22
                                replace g23 := (fr24 23 (by decide)).trans g23
                                replace g24 := (fr24 24 (by decide)).trans g24
                                replace g25 := (fr24 25 (by decide)).trans g25
                                replace g26 := (fr24 26 (by decide)).trans g26
                                replace g27 := (fr24 27 (by decide)).trans g27
                                replace g29 := (fr24 29 (by decide)).trans g29
                                rw [upd_X] at g28
                                refine lv_iinc (v := nI (nx + 1)) (lv' := [(4, .int (nI (nx + 1))), (5, .int (nI ((mcv C Hd b q T n (t ||| 2 ^ nx) nx) + 1))), (3, .int (nI 1)), (2, .int (nI k)), (1, .int (nI t)), (0, .ref h)]) hx hb dX5_laysChanges_194 hl (k := 1) rfl (nI_1 _) (by decide) rfl (fun ls hl => ?_)
                                refine lv_goto (tgt := 88) hx hb dX5_laysChanges_197 (by decide) ?_
                                exact ih88 (nx + 1) ((upX gk (8 * t + k) (nI (itr (fwS C Hd b q T (cgv C Hd b q T n) (nI (T k)) t) nx (if t = 2 ^ n - 1 then 0 else 1000))))) (by omega) _ _ (by omega) (fun s j hs h2 hj => by rw [upX_n (by omega)]; exact i88_1 s j hs h2 hj) (fun j hj => by rw [upX_n (by omega)]; exact i88_2 j hj) (by rw [upX_s]; exact congrArg nI (show _ = fwS C Hd b q T (cgv C Hd b q T n) (nI (T k)) t nx _ by rw [mc_step hT hyb, if_neg (show ¬ t.testBit nx = true by rw [c21]; decide), if_neg c22, if_neg (Nat.not_lt.mpr c23)])) hP hD g19 g20 g21 g22 g23 g24 g25 g26 g27 g28 g29 ((fr.wd frwl88 : fr _ _ 19 29).tr fr24) ls locs (lv_sub hl [0, 2, 3, 4, 5] rfl) hS
                              · refine lv_iload hx hb dX5_laysChanges_177 (lv_at hl 0 rfl) ?_
                                refine lv_goto (tgt := 193) hx hb dX5_laysChanges_179 (by decide) ?_
                                refine sv_iast hx hb hK hP hD hS 28 g28 (j := 8 * t + k) (by omega) (by decide) dX5_laysChanges_193 (fun ws27 H locs hP hD hS g28 fr26 => ?_)
                                replace g19 := (fr26 19 (by decide)).trans g19
                                replace g20 := (fr26 20 (by decide)).trans g20
                                replace g21 := (fr26 21 (by decide)).trans g21
                                replace g22 := (fr26 22 (by decide)).trans g22
                                replace g23 := (fr26 23 (by decide)).trans g23
                                replace g24 := (fr26 24 (by decide)).trans g24
                                replace g25 := (fr26 25 (by decide)).trans g25
                                replace g26 := (fr26 26 (by decide)).trans g26
                                replace g27 := (fr26 27 (by decide)).trans g27
                                replace g29 := (fr26 29 (by decide)).trans g29
                                rw [upd_X] at g28
                                refine lv_iinc (v := nI (nx + 1)) (lv' := [(4, .int (nI (nx + 1))), (5, .int (nI ((mcv C Hd b q T n (t ||| 2 ^ nx) nx) + 1))), (3, .int (nI 1)), (2, .int (nI k)), (1, .int (nI t)), (0, .ref h)]) hx hb dX5_laysChanges_194 hl (k := 1) rfl (nI_1 _) (by decide) rfl (fun ls hl => ?_)
                                refine lv_goto (tgt := 88) hx hb dX5_laysChanges_197 (by decide) ?_
                                exact ih88 (nx + 1) ((upX gk (8 * t + k) (nI ((mcv C Hd b q T n (t ||| 2 ^ nx) nx) + 1)))) (by omega) _ _ (by omega) (fun s j hs h2 hj => by rw [upX_n (by omega)]; exact i88_1 s j hs h2 hj) (fun j hj => by rw [upX_n (by omega)]; exact i88_2 j hj) (by rw [upX_s]; exact congrArg nI (show _ = fwS C Hd b q T (cgv C Hd b q T n) (nI (T k)) t nx _ by rw [mc_step hT hyb, if_neg (show ¬ t.testBit nx = true by rw [c21]; decide), if_neg c22, if_pos c23])) hP hD g19 g20 g21 g22 g23 g24 g25 g26 g27 g28 g29 ((fr.wd frwl88 : fr _ _ 19 29).tr fr26) ls locs (lv_sub hl [0, 2, 3, 4, 5] rfl) hS
                            · refine lv_iconst (v := nI 0) hx hb dX5_laysChanges_143 ci_0 ?_
                              refine lv_goto (tgt := 148) hx hb dX5_laysChanges_144 (by decide) ?_
                              refine lv_iadd hx hb dX5_laysChanges_148 ?_
                              refine sv_top (y := nI ((mcv C Hd b q T n (t ||| 2 ^ nx) nx) + 0)) (nI_add _ _) ?_
                              refine lv_istore (lv' := [(5, .int (nI ((mcv C Hd b q T n (t ||| 2 ^ nx) nx) + 0))), (4, .int (nI nx)), (3, .int (nI 1)), (2, .int (nI k)), (1, .int (nI t)), (0, .ref h)]) hx hb dX5_laysChanges_149 hl (by decide) rfl (fun ls hl => ?_)
                              refine lv_aload_n hx hb dX5_laysChanges_151 rfl (lv_at hl 5 rfl) ?_
                              refine va_get (ci := 5) (C := RX5) (T := TX5) (N := 19) hx hb hts hinX5 hown hK hP 19 g19 rfl 17 (by decide) k34 (fun _ h9 => h9) rfl dX5_laysChanges_152 ?_
                              refine lv_bipush (v := nI 8) hx hb dX5_laysChanges_155 bi_8 ?_
                              refine lv_iload_n hx hb dX5_laysChanges_157 rfl (lv_at hl 4 rfl) ?_
                              refine lv_imul hx hb dX5_laysChanges_158 ?_
                              refine sv_top (y := nI (8 * t)) (mul_n _ _) ?_
                              refine lv_iload_n hx hb dX5_laysChanges_159 rfl (lv_at hl 3 rfl) ?_
                              refine lv_iadd hx hb dX5_laysChanges_160 ?_
                              refine sv_top (y := nI (8 * t + k)) (nI_add _ _) ?_
                              refine lv_iload hx hb dX5_laysChanges_161 (lv_at hl 0 rfl) ?_
                              refine lv_aload_n hx hb dX5_laysChanges_163 rfl (lv_at hl 5 rfl) ?_
                              refine va_get (ci := 5) (C := RX5) (T := TX5) (N := 19) hx hb hts hinX5 hown hK hP 19 g19 rfl 17 (by decide) k34 (fun _ h9 => h9) rfl dX5_laysChanges_164 ?_
                              refine lv_bipush (v := nI 8) hx hb dX5_laysChanges_167 bi_8 ?_
                              refine lv_iload_n hx hb dX5_laysChanges_169 rfl (lv_at hl 4 rfl) ?_
                              refine lv_imul hx hb dX5_laysChanges_170 ?_
                              refine sv_top (y := nI (8 * t)) (mul_n _ _) ?_
                              refine lv_iload_n hx hb dX5_laysChanges_171 rfl (lv_at hl 3 rfl) ?_
                              refine lv_iadd hx hb dX5_laysChanges_172 ?_
                              refine sv_top (y := nI (8 * t + k)) (nI_add _ _) ?_
                              refine sv_iald hx hb hK hP 28 g28 (j := 8 * t + k) (by omega) (by decide) dX5_laysChanges_173 ?_
                              refine W.eq (g2 := F0 mi 174 ls (.int (gk (8 * t + k)) :: [.int (nI ((mcv C Hd b q T n (t ||| 2 ^ nx) nx) + 0)), .int (nI (8 * t + k)), .ref a9])) rfl ?_
                              refine sv_top (y := nI (itr (fwS C Hd b q T (cgv C Hd b q T n) (nI (T k)) t) nx (if t = 2 ^ n - 1 then 0 else 1000))) (i88_3) ?_
                              refine sn_icmp_ge (tgt := 182) hx hb dX5_laysChanges_174 (by decide) (by omega) (Nat.lt_of_le_of_lt hyb (by decide)) (fun c28 => ?_) (fun c28 => ?_)
                              · refine lv_aload_n hx hb dX5_laysChanges_182 rfl (lv_at hl 5 rfl) ?_
                                refine va_get (ci := 5) (C := RX5) (T := TX5) (N := 19) hx hb hts hinX5 hown hK hP 19 g19 rfl 17 (by decide) k34 (fun _ h9 => h9) rfl dX5_laysChanges_183 ?_
                                refine lv_bipush (v := nI 8) hx hb dX5_laysChanges_186 bi_8 ?_
                                refine lv_iload_n hx hb dX5_laysChanges_188 rfl (lv_at hl 4 rfl) ?_
                                refine lv_imul hx hb dX5_laysChanges_189 ?_
                                refine sv_top (y := nI (8 * t)) (mul_n _ _) ?_
                                refine lv_iload_n hx hb dX5_laysChanges_190 rfl (lv_at hl 3 rfl) ?_
                                refine lv_iadd hx hb dX5_laysChanges_191 ?_
                                refine sv_top (y := nI (8 * t + k)) (nI_add _ _) ?_
                                refine sv_iald hx hb hK hP 28 g28 (j := 8 * t + k) (by omega) (by decide) dX5_laysChanges_192 ?_
                                refine W.eq (g2 := F0 mi 193 ls (.int (gk (8 * t + k)) :: [.int (nI (8 * t + k)), .ref a9])) rfl ?_
                                refine sv_top (y := nI (itr (fwS C Hd b q T (cgv C Hd b q T n) (nI (T k)) t) nx (if t = 2 ^ n - 1 then 0 else 1000))) (i88_3) ?_
                                refine sv_iast hx hb hK hP hD hS 28 g28 (j := 8 * t + k) (by omega) (by decide) dX5_laysChanges_193 (fun ws30 H locs hP hD hS g28 fr29 => ?_)
                                replace g19 := (fr29 19 (by decide)).trans g19
                                replace g20 := (fr29 20 (by decide)).trans g20
                                replace g21 := (fr29 21 (by decide)).trans g21
                                replace g22 := (fr29 22 (by decide)).trans g22
                                replace g23 := (fr29 23 (by decide)).trans g23
                                replace g24 := (fr29 24 (by decide)).trans g24
                                replace g25 := (fr29 25 (by decide)).trans g25
                                replace g26 := (fr29 26 (by decide)).trans g26
                                replace g27 := (fr29 27 (by decide)).trans g27
                                replace g29 := (fr29 29 (by decide)).trans g29
                                rw [upd_X] at g28
                                refine lv_iinc (v := nI (nx + 1)) (lv' := [(4, .int (nI (nx + 1))), (5, .int (nI ((mcv C Hd b q T n (t ||| 2 ^ nx) nx) + 0))), (3, .int (nI 1)), (2, .int (nI k)), (1, .int (nI t)), (0, .ref h)]) hx hb dX5_laysChanges_194 hl (k := 1) rfl (nI_1 _) (by decide) rfl (fun ls hl => ?_)
                                refine lv_goto (tgt := 88) hx hb dX5_laysChanges_197 (by decide) ?_
                                exact ih88 (nx + 1) ((upX gk (8 * t + k) (nI (itr (fwS C Hd b q T (cgv C Hd b q T n) (nI (T k)) t) nx (if t = 2 ^ n - 1 then 0 else 1000))))) (by omega) _ _ (by omega) (fun s j hs h2 hj => by rw [upX_n (by omega)]; exact i88_1 s j hs h2 hj) (fun j hj => by rw [upX_n (by omega)]; exact i88_2 j hj) (by rw [upX_s]; exact congrArg nI (show _ = fwS C Hd b q T (cgv C Hd b q T n) (nI (T k)) t nx _ by rw [mc_step hT hyb, if_neg (show ¬ t.testBit nx = true by rw [c21]; decide), if_pos c22, if_neg (Nat.not_lt.mpr c28)])) hP hD g19 g20 g21 g22 g23 g24 g25 g26 g27 g28 g29 ((fr.wd frwl88 : fr _ _ 19 29).tr fr29) ls locs (lv_sub hl [0, 2, 3, 4, 5] rfl) hS
                              · refine lv_iload hx hb dX5_laysChanges_177 (lv_at hl 0 rfl) ?_
                                refine lv_goto (tgt := 193) hx hb dX5_laysChanges_179 (by decide) ?_
                                refine sv_iast hx hb hK hP hD hS 28 g28 (j := 8 * t + k) (by omega) (by decide) dX5_laysChanges_193 (fun ws32 H locs hP hD hS g28 fr31 => ?_)
                                replace g19 := (fr31 19 (by decide)).trans g19
                                replace g20 := (fr31 20 (by decide)).trans g20
                                replace g21 := (fr31 21 (by decide)).trans g21
                                replace g22 := (fr31 22 (by decide)).trans g22
                                replace g23 := (fr31 23 (by decide)).trans g23
                                replace g24 := (fr31 24 (by decide)).trans g24
                                replace g25 := (fr31 25 (by decide)).trans g25
                                replace g26 := (fr31 26 (by decide)).trans g26
                                replace g27 := (fr31 27 (by decide)).trans g27
                                replace g29 := (fr31 29 (by decide)).trans g29
                                rw [upd_X] at g28
                                refine lv_iinc (v := nI (nx + 1)) (lv' := [(4, .int (nI (nx + 1))), (5, .int (nI ((mcv C Hd b q T n (t ||| 2 ^ nx) nx) + 0))), (3, .int (nI 1)), (2, .int (nI k)), (1, .int (nI t)), (0, .ref h)]) hx hb dX5_laysChanges_194 hl (k := 1) rfl (nI_1 _) (by decide) rfl (fun ls hl => ?_)
                                refine lv_goto (tgt := 88) hx hb dX5_laysChanges_197 (by decide) ?_
                                exact ih88 (nx + 1) ((upX gk (8 * t + k) (nI ((mcv C Hd b q T n (t ||| 2 ^ nx) nx) + 0)))) (by omega) _ _ (by omega) (fun s j hs h2 hj => by rw [upX_n (by omega)]; exact i88_1 s j hs h2 hj) (fun j hj => by rw [upX_n (by omega)]; exact i88_2 j hj) (by rw [upX_s]; exact congrArg nI (show _ = fwS C Hd b q T (cgv C Hd b q T n) (nI (T k)) t nx _ by rw [mc_step hT hyb, if_neg (show ¬ t.testBit nx = true by rw [c21]; decide), if_pos c22, if_pos c28])) hP hD g19 g20 g21 g22 g23 g24 g25 g26 g27 g28 g29 ((fr.wd frwl88 : fr _ _ 19 29).tr fr31) ls locs (lv_sub hl [0, 2, 3, 4, 5] rfl) hS
                    exact L88 ((n - 0) + 1) 0 ((upX gh (8 * t + k) (nI 1000))) (Nat.lt_succ_self _) _ _ (by omega) (fun s j hs h2 hj => by rw [upX_n (by omega)]; exact i11_1 s j hs h2 hj) (fun j hj => by rw [upX_n (by omega)]; exact i11_2 j hj) (by rw [upX_s]; show _ = nI (if t = 2 ^ n - 1 then 0 else 1000); rw [if_neg c16]) hP hD g19 g20 g21 g22 g23 g24 g25 g26 g27 g28 g29 ((fr.wd frwl11 : fr _ _ 19 29).tr fr17) ls locs (lv_sub hl [0, 1, 2, 3, 4] rfl) hS
                  · refine lv_iconst (v := nI 0) hx hb dX5_laysChanges_77 ci_0 ?_
                    refine lv_goto (tgt := 84) hx hb dX5_laysChanges_78 (by decide) ?_
                    refine sv_iast hx hb hK hP hD hS 28 g28 (j := 8 * t + k) (by omega) (by decide) dX5_laysChanges_84 (fun ws34 H locs hP hD hS g28 fr33 => ?_)
                    replace g19 := (fr33 19 (by decide)).trans g19
                    replace g20 := (fr33 20 (by decide)).trans g20
                    replace g21 := (fr33 21 (by decide)).trans g21
                    replace g22 := (fr33 22 (by decide)).trans g22
                    replace g23 := (fr33 23 (by decide)).trans g23
                    replace g24 := (fr33 24 (by decide)).trans g24
                    replace g25 := (fr33 25 (by decide)).trans g25
                    replace g26 := (fr33 26 (by decide)).trans g26
                    replace g27 := (fr33 27 (by decide)).trans g27
                    replace g29 := (fr33 29 (by decide)).trans g29
                    rw [upd_X] at g28
                    refine lv_iconst (v := nI 0) hx hb dX5_laysChanges_85 ci_0 ?_
                    refine lv_istore (lv' := [(4, .int (nI 0)), (3, .int (nI 1)), (2, .int (nI k)), (1, .int (nI t)), (0, .ref h)]) hx hb dX5_laysChanges_86 hl (by decide) rfl (fun ls hl => ?_)
                    have L88 : ∀ (L88d : Nat) (nx : Nat) (gk : Nat → Int32), n - nx < L88d → ∀ (wl88 : va_W) (H : Heap), nx ≤ n → lcOK C Hd b q T n t gk → (∀ j, j < k → gk (8 * t + j) = nI (mcv C Hd b q T n t j)) → gk (8 * t + k) = nI (itr (fwS C Hd b q T (cgv C Hd b q T n) (nI (T k)) t) nx (if t = 2 ^ n - 1 then 0 else 1000)) → va_P D CL wl88 H → va_D A wl88 → wl88[19]? = some (h, .inr (5, [.int (nI th), .int (nI n), .ref a1, .ref a2, .ref a3, .int (nI b), .int (bI q), .ref a4, .int (bI bg), .int (nI pu), .int (nI bu), .int cl, .int mo, .ref a5, .ref a6, .ref a7, .ref a8, .ref a9, .ref a10])) → wl88[20]? = some (a1, .inl (ky.1, 8, .inl (fun i => nI (T i)))) → wl88[21]? = some (a2, .inl (ky.1, 8, .inl (fun i => nI (C i)))) → wl88[22]? = some (a3, .inl (ky.1, 48, .inl (fun i => nI (Hd i)))) → wl88[23]? = some (a4, .inl (ky.1, 8, .inl (fun i => nI (J i)))) → wl88[24]? = some (a5, .inl (ky.1, 8, .inl (fun i => nI (K i)))) → wl88[25]? = some (a6, .inl (ky.1, 256, .inl fw)) → wl88[26]? = some (a7, .inl (ky.1, 256, .inl fd)) → wl88[27]? = some (a8, .inl (ky.1, 256, .inl fc)) → wl88[28]? = some (a9, .inl (ky.1, 2048, .inl gk)) → wl88[29]? = some (a10, .inl (ky.1, 8, .inl fo)) → fr ws wl88 19 29 → ∀ (ls : Array Slot) (locs : List Loc), lv_has ls 6 [(4, .int (nI nx)), (3, .int (nI 1)), (2, .int (nI k)), (1, .int (nI t)), (0, .ref h)] → va_S A Hs H locs → W pg l en Rm sg mi av below meth co H locs 0 0 Qo (F0 mi 88 ls []) := by
                      intro L88d
                      induction L88d with
                      | zero => intro nx gk hfu; exact absurd hfu (Nat.not_lt_zero _)
                      | succ L88d ih88 =>
                        intro nx gk hfu wl88 H i88_0 i88_1 i88_2 i88_3 hP hD g19 g20 g21 g22 g23 g24 g25 g26 g27 g28 g29 frwl88 ls locs hl hS
                        refine lv_iload hx hb dX5_laysChanges_88 (lv_at hl 0 rfl) ?_
                        refine lv_aload_n hx hb dX5_laysChanges_90 rfl (lv_at hl 4 rfl) ?_
                        refine va_get (ci := 5) (C := RX5) (T := TX5) (N := 19) hx hb hts hinX5 hown hK hP 19 g19 rfl 1 (by decide) k44 (fun _ h9 => h9) rfl dX5_laysChanges_91 ?_
                        refine sn_icmp_ge (tgt := 200) hx hb dX5_laysChanges_94 (by decide) (by omega) (by omega) (fun c35 => ?_) (fun c35 => ?_)
                        · refine lv_iinc (v := nI (k + 1)) (lv' := [(2, .int (nI (k + 1))), (4, .int (nI nx)), (3, .int (nI 1)), (1, .int (nI t)), (0, .ref h)]) hx hb dX5_laysChanges_200 hl (k := 2) rfl (nI_1 _) (by decide) rfl (fun ls hl => ?_)
                          refine lv_goto (tgt := 11) hx hb dX5_laysChanges_203 (by decide) ?_
                          exact ih11 (k + 1) gk (by omega) _ _ (by omega) i88_1 (fun j hj => by rcases Nat.lt_or_ge j k with z | z; exact i88_2 j z; rw [show j = k by omega]; rw [i88_3, mcv_yes hT i5_0 hck hcd, show nx = n by omega]) hP hD g19 g20 g21 g22 g23 g24 g25 g26 g27 g28 g29 (fr.wd frwl88 : fr _ _ 19 29) ls locs (lv_sub hl [0, 3, 4] rfl) hS
                        · have hyb : itr (fwS C Hd b q T (cgv C Hd b q T n) (nI (T k)) t) nx (if t = 2 ^ n - 1 then 0 else 1000) ≤ 1000 := Nat.le_trans (fwF_le nx _) (show (if t = 2 ^ n - 1 then 0 else 1000) ≤ 1000 by split <;> omega)
                          refine lv_iload_n hx hb dX5_laysChanges_97 rfl (lv_at hl 1 rfl) ?_
                          refine sn_if_eq (tgt := 200) hx hb dX5_laysChanges_98 (by decide) (by decide) (fun q => absurd q (by decide)) (fun _ => ?_)
                          refine lv_iload_n hx hb dX5_laysChanges_101 rfl (lv_at hl 3 rfl) ?_
                          refine lv_iload hx hb dX5_laysChanges_102 (lv_at hl 0 rfl) ?_
                          refine lv_ishr hx hb dX5_laysChanges_104 ?_
                          refine sv_top (y := nI (t / 2 ^ nx)) (sh_r (by omega) (by omega)) ?_
                          refine lv_iconst (v := nI 1) hx hb dX5_laysChanges_105 ci_1 ?_
                          refine lv_iand hx hb dX5_laysChanges_106 ?_
                          refine sv_top (y := nI (t / 2 ^ nx % 2)) (an_1) ?_
                          refine st_ifm_ne (tgt := 194) hx hb dX5_laysChanges_107 (by decide) (fun c37 => ?_) (fun c37 => ?_)
                          · refine lv_iinc (v := nI (nx + 1)) (lv' := [(4, .int (nI (nx + 1))), (3, .int (nI 1)), (2, .int (nI k)), (1, .int (nI t)), (0, .ref h)]) hx hb dX5_laysChanges_194 hl (k := 0) rfl (nI_1 _) (by decide) rfl (fun ls hl => ?_)
                            refine lv_goto (tgt := 88) hx hb dX5_laysChanges_197 (by decide) ?_
                            exact ih88 (nx + 1) gk (by omega) _ _ (by omega) i88_1 i88_2 (by rw [i88_3]; exact congrArg nI (show _ = fwS C Hd b q T (cgv C Hd b q T n) (nI (T k)) t nx _ by rw [mc_step hT hyb, if_pos c37])) hP hD g19 g20 g21 g22 g23 g24 g25 g26 g27 g28 g29 (fr.wd frwl88 : fr _ _ 19 29) ls locs (lv_sub hl [0, 1, 2, 3, 4] rfl) hS
                          · have hor : t ||| 2 ^ nx < 2 ^ n := or_lt i5_0 (Nat.pow_lt_pow_right (by decide) (by omega))
                            have hgt : t < t ||| 2 ^ nx := Nat.lt_of_le_of_ne (sbs_le sbs_or1) (fun z => by have h9 : t.testBit nx = true := (by rw [z, Nat.testBit_or, Nat.testBit_two_pow_self, Bool.or_true]); exact absurd (h9.symm.trans c37) (by decide))
                            have hmb := mcv_b (C := C) (Hd := Hd) (b := b) (q := q) (T := T) (n := n) (S := t ||| 2 ^ nx) (k := nx) hT hor
                            refine lv_aload_n hx hb dX5_laysChanges_110 rfl (lv_at hl 4 rfl) ?_
                            refine va_get (ci := 5) (C := RX5) (T := TX5) (N := 19) hx hb hts hinX5 hown hK hP 19 g19 rfl 17 (by decide) k34 (fun _ h9 => h9) rfl dX5_laysChanges_111 ?_
                            refine lv_bipush (v := nI 8) hx hb dX5_laysChanges_114 bi_8 ?_
                            refine lv_iload_n hx hb dX5_laysChanges_116 rfl (lv_at hl 3 rfl) ?_
                            refine lv_iconst (v := nI 1) hx hb dX5_laysChanges_117 ci_1 ?_
                            refine lv_iload hx hb dX5_laysChanges_118 (lv_at hl 0 rfl) ?_
                            refine lv_ishl hx hb dX5_laysChanges_120 ?_
                            refine sv_top (y := nI (2 ^ nx)) (sh_l1 (by omega)) ?_
                            refine lv_ior hx hb dX5_laysChanges_121 ?_
                            refine sv_top (y := nI (t ||| (2 ^ nx))) (an_or _ _) ?_
                            refine lv_imul hx hb dX5_laysChanges_122 ?_
                            refine sv_top (y := nI (8 * (t ||| (2 ^ nx)))) (mul_n _ _) ?_
                            refine lv_iload hx hb dX5_laysChanges_123 (lv_at hl 0 rfl) ?_
                            refine lv_iadd hx hb dX5_laysChanges_125 ?_
                            refine sv_top (y := nI ((8 * (t ||| (2 ^ nx))) + nx)) (nI_add _ _) ?_
                            refine sv_iald hx hb hK hP 28 g28 (j := (8 * (t ||| (2 ^ nx))) + nx) (by omega) (by decide) dX5_laysChanges_126 ?_
                            refine W.eq (g2 := F0 mi 127 ls (.int (gk ((8 * (t ||| (2 ^ nx))) + nx)) :: [])) rfl ?_
                            refine sv_top (y := nI (mcv C Hd b q T n (t ||| 2 ^ nx) nx)) (i88_1 _ _ hgt hor (by omega)) ?_
                            refine lv_aload_n hx hb dX5_laysChanges_127 rfl (lv_at hl 4 rfl) ?_
                            refine va_get (ci := 5) (C := RX5) (T := TX5) (N := 19) hx hb hts hinX5 hown hK hP 19 g19 rfl 2 (by decide) k7 (fun _ h9 => h9) rfl dX5_laysChanges_128 ?_
                            refine lv_iload hx hb dX5_laysChanges_131 (lv_at hl 0 rfl) ?_
                            refine sv_iald hx hb hK hP 20 g20 (j := nx) (by omega) (by decide) dX5_laysChanges_133 ?_
                            refine W.eq (g2 := F0 mi 134 ls (.int (nI (T nx)) :: [.int (nI (mcv C Hd b q T n (t ||| 2 ^ nx) nx))])) rfl ?_
                            refine lv_aload_n hx hb dX5_laysChanges_134 rfl (lv_at hl 4 rfl) ?_
                            refine va_get (ci := 5) (C := RX5) (T := TX5) (N := 19) hx hb hts hinX5 hown hK hP 19 g19 rfl 2 (by decide) k7 (fun _ h9 => h9) rfl dX5_laysChanges_135 ?_
                            refine lv_iload_n hx hb dX5_laysChanges_138 rfl (lv_at hl 2 rfl) ?_
                            refine sv_iald hx hb hK hP 20 g20 (j := k) (by omega) (by decide) dX5_laysChanges_139 ?_
                            refine W.eq (g2 := F0 mi 140 ls (.int (nI (T k)) :: [.int (nI (T nx)), .int (nI (mcv C Hd b q T n (t ||| 2 ^ nx) nx))])) rfl ?_
                            refine sn_icmp_ne (tgt := 147) hx hb dX5_laysChanges_140 (by decide) (Nat.lt_trans (hT _) (by decide)) (Nat.lt_trans (hT _) (by decide)) (fun c38 => ?_) (fun c38 => ?_)
                            · refine lv_iconst (v := nI 1) hx hb dX5_laysChanges_147 ci_1 ?_
                              refine lv_iadd hx hb dX5_laysChanges_148 ?_
                              refine sv_top (y := nI ((mcv C Hd b q T n (t ||| 2 ^ nx) nx) + 1)) (nI_add _ _) ?_
                              refine lv_istore (lv' := [(5, .int (nI ((mcv C Hd b q T n (t ||| 2 ^ nx) nx) + 1))), (4, .int (nI nx)), (3, .int (nI 1)), (2, .int (nI k)), (1, .int (nI t)), (0, .ref h)]) hx hb dX5_laysChanges_149 hl (by decide) rfl (fun ls hl => ?_)
                              refine lv_aload_n hx hb dX5_laysChanges_151 rfl (lv_at hl 5 rfl) ?_
                              refine va_get (ci := 5) (C := RX5) (T := TX5) (N := 19) hx hb hts hinX5 hown hK hP 19 g19 rfl 17 (by decide) k34 (fun _ h9 => h9) rfl dX5_laysChanges_152 ?_
                              refine lv_bipush (v := nI 8) hx hb dX5_laysChanges_155 bi_8 ?_
                              refine lv_iload_n hx hb dX5_laysChanges_157 rfl (lv_at hl 4 rfl) ?_
                              refine lv_imul hx hb dX5_laysChanges_158 ?_
                              refine sv_top (y := nI (8 * t)) (mul_n _ _) ?_
                              refine lv_iload_n hx hb dX5_laysChanges_159 rfl (lv_at hl 3 rfl) ?_
                              refine lv_iadd hx hb dX5_laysChanges_160 ?_
                              refine sv_top (y := nI (8 * t + k)) (nI_add _ _) ?_
                              refine lv_iload hx hb dX5_laysChanges_161 (lv_at hl 0 rfl) ?_
                              refine lv_aload_n hx hb dX5_laysChanges_163 rfl (lv_at hl 5 rfl) ?_
                              refine va_get (ci := 5) (C := RX5) (T := TX5) (N := 19) hx hb hts hinX5 hown hK hP 19 g19 rfl 17 (by decide) k34 (fun _ h9 => h9) rfl dX5_laysChanges_164 ?_
                              refine lv_bipush (v := nI 8) hx hb dX5_laysChanges_167 bi_8 ?_
                              refine lv_iload_n hx hb dX5_laysChanges_169 rfl (lv_at hl 4 rfl) ?_
                              refine lv_imul hx hb dX5_laysChanges_170 ?_
                              refine sv_top (y := nI (8 * t)) (mul_n _ _) ?_
                              refine lv_iload_n hx hb dX5_laysChanges_171 rfl (lv_at hl 3 rfl) ?_
                              refine lv_iadd hx hb dX5_laysChanges_172 ?_
                              refine sv_top (y := nI (8 * t + k)) (nI_add _ _) ?_
                              refine sv_iald hx hb hK hP 28 g28 (j := 8 * t + k) (by omega) (by decide) dX5_laysChanges_173 ?_
                              refine W.eq (g2 := F0 mi 174 ls (.int (gk (8 * t + k)) :: [.int (nI ((mcv C Hd b q T n (t ||| 2 ^ nx) nx) + 1)), .int (nI (8 * t + k)), .ref a9])) rfl ?_
                              refine sv_top (y := nI (itr (fwS C Hd b q T (cgv C Hd b q T n) (nI (T k)) t) nx (if t = 2 ^ n - 1 then 0 else 1000))) (i88_3) ?_
                              refine sn_icmp_ge (tgt := 182) hx hb dX5_laysChanges_174 (by decide) (by omega) (Nat.lt_of_le_of_lt hyb (by decide)) (fun c39 => ?_) (fun c39 => ?_)
                              · refine lv_aload_n hx hb dX5_laysChanges_182 rfl (lv_at hl 5 rfl) ?_
                                refine va_get (ci := 5) (C := RX5) (T := TX5) (N := 19) hx hb hts hinX5 hown hK hP 19 g19 rfl 17 (by decide) k34 (fun _ h9 => h9) rfl dX5_laysChanges_183 ?_
                                refine lv_bipush (v := nI 8) hx hb dX5_laysChanges_186 bi_8 ?_
                                refine lv_iload_n hx hb dX5_laysChanges_188 rfl (lv_at hl 4 rfl) ?_
                                refine lv_imul hx hb dX5_laysChanges_189 ?_
                                refine sv_top (y := nI (8 * t)) (mul_n _ _) ?_
                                refine lv_iload_n hx hb dX5_laysChanges_190 rfl (lv_at hl 3 rfl) ?_
                                refine lv_iadd hx hb dX5_laysChanges_191 ?_
                                refine sv_top (y := nI (8 * t + k)) (nI_add _ _) ?_
                                refine sv_iald hx hb hK hP 28 g28 (j := 8 * t + k) (by omega) (by decide) dX5_laysChanges_192 ?_
                                refine W.eq (g2 := F0 mi 193 ls (.int (gk (8 * t + k)) :: [.int (nI (8 * t + k)), .ref a9])) rfl ?_
                                refine sv_top (y := nI (itr (fwS C Hd b q T (cgv C Hd b q T n) (nI (T k)) t) nx (if t = 2 ^ n - 1 then 0 else 1000))) (i88_3) ?_
                                refine sv_iast hx hb hK hP hD hS 28 g28 (j := 8 * t + k) (by omega) (by decide) dX5_laysChanges_193 (fun ws41 H locs hP hD hS g28 fr40 => ?_)
                                replace g19 := (fr40 19 (by decide)).trans g19
                                replace g20 := (fr40 20 (by decide)).trans g20
                                replace g21 := (fr40 21 (by decide)).trans g21
                                replace g22 := (fr40 22 (by decide)).trans g22
                                replace g23 := (fr40 23 (by decide)).trans g23
                                replace g24 := (fr40 24 (by decide)).trans g24
                                replace g25 := (fr40 25 (by decide)).trans g25
                                replace g26 := (fr40 26 (by decide)).trans g26
                                replace g27 := (fr40 27 (by decide)).trans g27
                                replace g29 := (fr40 29 (by decide)).trans g29
                                rw [upd_X] at g28
                                refine lv_iinc (v := nI (nx + 1)) (lv' := [(4, .int (nI (nx + 1))), (5, .int (nI ((mcv C Hd b q T n (t ||| 2 ^ nx) nx) + 1))), (3, .int (nI 1)), (2, .int (nI k)), (1, .int (nI t)), (0, .ref h)]) hx hb dX5_laysChanges_194 hl (k := 1) rfl (nI_1 _) (by decide) rfl (fun ls hl => ?_)
                                refine lv_goto (tgt := 88) hx hb dX5_laysChanges_197 (by decide) ?_
                                exact ih88 (nx + 1) ((upX gk (8 * t + k) (nI (itr (fwS C Hd b q T (cgv C Hd b q T n) (nI (T k)) t) nx (if t = 2 ^ n - 1 then 0 else 1000))))) (by omega) _ _ (by omega) (fun s j hs h2 hj => by rw [upX_n (by omega)]; exact i88_1 s j hs h2 hj) (fun j hj => by rw [upX_n (by omega)]; exact i88_2 j hj) (by rw [upX_s]; exact congrArg nI (show _ = fwS C Hd b q T (cgv C Hd b q T n) (nI (T k)) t nx _ by rw [mc_step hT hyb, if_neg (show ¬ t.testBit nx = true by rw [c37]; decide), if_neg c38, if_neg (Nat.not_lt.mpr c39)])) hP hD g19 g20 g21 g22 g23 g24 g25 g26 g27 g28 g29 ((fr.wd frwl88 : fr _ _ 19 29).tr fr40) ls locs (lv_sub hl [0, 2, 3, 4, 5] rfl) hS
                              · refine lv_iload hx hb dX5_laysChanges_177 (lv_at hl 0 rfl) ?_
                                refine lv_goto (tgt := 193) hx hb dX5_laysChanges_179 (by decide) ?_
                                refine sv_iast hx hb hK hP hD hS 28 g28 (j := 8 * t + k) (by omega) (by decide) dX5_laysChanges_193 (fun ws43 H locs hP hD hS g28 fr42 => ?_)
                                replace g19 := (fr42 19 (by decide)).trans g19
                                replace g20 := (fr42 20 (by decide)).trans g20
                                replace g21 := (fr42 21 (by decide)).trans g21
                                replace g22 := (fr42 22 (by decide)).trans g22
                                replace g23 := (fr42 23 (by decide)).trans g23
                                replace g24 := (fr42 24 (by decide)).trans g24
                                replace g25 := (fr42 25 (by decide)).trans g25
                                replace g26 := (fr42 26 (by decide)).trans g26
                                replace g27 := (fr42 27 (by decide)).trans g27
                                replace g29 := (fr42 29 (by decide)).trans g29
                                rw [upd_X] at g28
                                refine lv_iinc (v := nI (nx + 1)) (lv' := [(4, .int (nI (nx + 1))), (5, .int (nI ((mcv C Hd b q T n (t ||| 2 ^ nx) nx) + 1))), (3, .int (nI 1)), (2, .int (nI k)), (1, .int (nI t)), (0, .ref h)]) hx hb dX5_laysChanges_194 hl (k := 1) rfl (nI_1 _) (by decide) rfl (fun ls hl => ?_)
                                refine lv_goto (tgt := 88) hx hb dX5_laysChanges_197 (by decide) ?_
                                exact ih88 (nx + 1) ((upX gk (8 * t + k) (nI ((mcv C Hd b q T n (t ||| 2 ^ nx) nx) + 1)))) (by omega) _ _ (by omega) (fun s j hs h2 hj => by rw [upX_n (by omega)]; exact i88_1 s j hs h2 hj) (fun j hj => by rw [upX_n (by omega)]; exact i88_2 j hj) (by rw [upX_s]; exact congrArg nI (show _ = fwS C Hd b q T (cgv C Hd b q T n) (nI (T k)) t nx _ by rw [mc_step hT hyb, if_neg (show ¬ t.testBit nx = true by rw [c37]; decide), if_neg c38, if_pos c39])) hP hD g19 g20 g21 g22 g23 g24 g25 g26 g27 g28 g29 ((fr.wd frwl88 : fr _ _ 19 29).tr fr42) ls locs (lv_sub hl [0, 2, 3, 4, 5] rfl) hS
                            · refine lv_iconst (v := nI 0) hx hb dX5_laysChanges_143 ci_0 ?_
                              refine lv_goto (tgt := 148) hx hb dX5_laysChanges_144 (by decide) ?_
                              refine lv_iadd hx hb dX5_laysChanges_148 ?_
                              refine sv_top (y := nI ((mcv C Hd b q T n (t ||| 2 ^ nx) nx) + 0)) (nI_add _ _) ?_
                              refine lv_istore (lv' := [(5, .int (nI ((mcv C Hd b q T n (t ||| 2 ^ nx) nx) + 0))), (4, .int (nI nx)), (3, .int (nI 1)), (2, .int (nI k)), (1, .int (nI t)), (0, .ref h)]) hx hb dX5_laysChanges_149 hl (by decide) rfl (fun ls hl => ?_)
                              refine lv_aload_n hx hb dX5_laysChanges_151 rfl (lv_at hl 5 rfl) ?_
                              refine va_get (ci := 5) (C := RX5) (T := TX5) (N := 19) hx hb hts hinX5 hown hK hP 19 g19 rfl 17 (by decide) k34 (fun _ h9 => h9) rfl dX5_laysChanges_152 ?_
                              refine lv_bipush (v := nI 8) hx hb dX5_laysChanges_155 bi_8 ?_
                              refine lv_iload_n hx hb dX5_laysChanges_157 rfl (lv_at hl 4 rfl) ?_
                              refine lv_imul hx hb dX5_laysChanges_158 ?_
                              refine sv_top (y := nI (8 * t)) (mul_n _ _) ?_
                              refine lv_iload_n hx hb dX5_laysChanges_159 rfl (lv_at hl 3 rfl) ?_
                              refine lv_iadd hx hb dX5_laysChanges_160 ?_
                              refine sv_top (y := nI (8 * t + k)) (nI_add _ _) ?_
                              refine lv_iload hx hb dX5_laysChanges_161 (lv_at hl 0 rfl) ?_
                              refine lv_aload_n hx hb dX5_laysChanges_163 rfl (lv_at hl 5 rfl) ?_
                              refine va_get (ci := 5) (C := RX5) (T := TX5) (N := 19) hx hb hts hinX5 hown hK hP 19 g19 rfl 17 (by decide) k34 (fun _ h9 => h9) rfl dX5_laysChanges_164 ?_
                              refine lv_bipush (v := nI 8) hx hb dX5_laysChanges_167 bi_8 ?_
                              refine lv_iload_n hx hb dX5_laysChanges_169 rfl (lv_at hl 4 rfl) ?_
                              refine lv_imul hx hb dX5_laysChanges_170 ?_
                              refine sv_top (y := nI (8 * t)) (mul_n _ _) ?_
                              refine lv_iload_n hx hb dX5_laysChanges_171 rfl (lv_at hl 3 rfl) ?_
                              refine lv_iadd hx hb dX5_laysChanges_172 ?_
                              refine sv_top (y := nI (8 * t + k)) (nI_add _ _) ?_
                              refine sv_iald hx hb hK hP 28 g28 (j := 8 * t + k) (by omega) (by decide) dX5_laysChanges_173 ?_
                              refine W.eq (g2 := F0 mi 174 ls (.int (gk (8 * t + k)) :: [.int (nI ((mcv C Hd b q T n (t ||| 2 ^ nx) nx) + 0)), .int (nI (8 * t + k)), .ref a9])) rfl ?_
                              refine sv_top (y := nI (itr (fwS C Hd b q T (cgv C Hd b q T n) (nI (T k)) t) nx (if t = 2 ^ n - 1 then 0 else 1000))) (i88_3) ?_
                              refine sn_icmp_ge (tgt := 182) hx hb dX5_laysChanges_174 (by decide) (by omega) (Nat.lt_of_le_of_lt hyb (by decide)) (fun c44 => ?_) (fun c44 => ?_)
                              · refine lv_aload_n hx hb dX5_laysChanges_182 rfl (lv_at hl 5 rfl) ?_
                                refine va_get (ci := 5) (C := RX5) (T := TX5) (N := 19) hx hb hts hinX5 hown hK hP 19 g19 rfl 17 (by decide) k34 (fun _ h9 => h9) rfl dX5_laysChanges_183 ?_
                                refine lv_bipush (v := nI 8) hx hb dX5_laysChanges_186 bi_8 ?_
                                refine lv_iload_n hx hb dX5_laysChanges_188 rfl (lv_at hl 4 rfl) ?_
                                refine lv_imul hx hb dX5_laysChanges_189 ?_
                                refine sv_top (y := nI (8 * t)) (mul_n _ _) ?_
                                refine lv_iload_n hx hb dX5_laysChanges_190 rfl (lv_at hl 3 rfl) ?_
                                refine lv_iadd hx hb dX5_laysChanges_191 ?_
                                refine sv_top (y := nI (8 * t + k)) (nI_add _ _) ?_
                                refine sv_iald hx hb hK hP 28 g28 (j := 8 * t + k) (by omega) (by decide) dX5_laysChanges_192 ?_
                                refine W.eq (g2 := F0 mi 193 ls (.int (gk (8 * t + k)) :: [.int (nI (8 * t + k)), .ref a9])) rfl ?_
                                refine sv_top (y := nI (itr (fwS C Hd b q T (cgv C Hd b q T n) (nI (T k)) t) nx (if t = 2 ^ n - 1 then 0 else 1000))) (i88_3) ?_
                                refine sv_iast hx hb hK hP hD hS 28 g28 (j := 8 * t + k) (by omega) (by decide) dX5_laysChanges_193 (fun ws46 H locs hP hD hS g28 fr45 => ?_)
                                replace g19 := (fr45 19 (by decide)).trans g19
                                replace g20 := (fr45 20 (by decide)).trans g20
                                replace g21 := (fr45 21 (by decide)).trans g21
                                replace g22 := (fr45 22 (by decide)).trans g22
                                replace g23 := (fr45 23 (by decide)).trans g23
                                replace g24 := (fr45 24 (by decide)).trans g24
                                replace g25 := (fr45 25 (by decide)).trans g25
                                replace g26 := (fr45 26 (by decide)).trans g26
                                replace g27 := (fr45 27 (by decide)).trans g27
                                replace g29 := (fr45 29 (by decide)).trans g29
                                rw [upd_X] at g28
                                refine lv_iinc (v := nI (nx + 1)) (lv' := [(4, .int (nI (nx + 1))), (5, .int (nI ((mcv C Hd b q T n (t ||| 2 ^ nx) nx) + 0))), (3, .int (nI 1)), (2, .int (nI k)), (1, .int (nI t)), (0, .ref h)]) hx hb dX5_laysChanges_194 hl (k := 1) rfl (nI_1 _) (by decide) rfl (fun ls hl => ?_)
                                refine lv_goto (tgt := 88) hx hb dX5_laysChanges_197 (by decide) ?_
                                exact ih88 (nx + 1) ((upX gk (8 * t + k) (nI (itr (fwS C Hd b q T (cgv C Hd b q T n) (nI (T k)) t) nx (if t = 2 ^ n - 1 then 0 else 1000))))) (by omega) _ _ (by omega) (fun s j hs h2 hj => by rw [upX_n (by omega)]; exact i88_1 s j hs h2 hj) (fun j hj => by rw [upX_n (by omega)]; exact i88_2 j hj) (by rw [upX_s]; exact congrArg nI (show _ = fwS C Hd b q T (cgv C Hd b q T n) (nI (T k)) t nx _ by rw [mc_step hT hyb, if_neg (show ¬ t.testBit nx = true by rw [c37]; decide), if_pos c38, if_neg (Nat.not_lt.mpr c44)])) hP hD g19 g20 g21 g22 g23 g24 g25 g26 g27 g28 g29 ((fr.wd frwl88 : fr _ _ 19 29).tr fr45) ls locs (lv_sub hl [0, 2, 3, 4, 5] rfl) hS
                              · refine lv_iload hx hb dX5_laysChanges_177 (lv_at hl 0 rfl) ?_
                                refine lv_goto (tgt := 193) hx hb dX5_laysChanges_179 (by decide) ?_
                                refine sv_iast hx hb hK hP hD hS 28 g28 (j := 8 * t + k) (by omega) (by decide) dX5_laysChanges_193 (fun ws48 H locs hP hD hS g28 fr47 => ?_)
                                replace g19 := (fr47 19 (by decide)).trans g19
                                replace g20 := (fr47 20 (by decide)).trans g20
                                replace g21 := (fr47 21 (by decide)).trans g21
                                replace g22 := (fr47 22 (by decide)).trans g22
                                replace g23 := (fr47 23 (by decide)).trans g23
                                replace g24 := (fr47 24 (by decide)).trans g24
                                replace g25 := (fr47 25 (by decide)).trans g25
                                replace g26 := (fr47 26 (by decide)).trans g26
                                replace g27 := (fr47 27 (by decide)).trans g27
                                replace g29 := (fr47 29 (by decide)).trans g29
                                rw [upd_X] at g28
                                refine lv_iinc (v := nI (nx + 1)) (lv' := [(4, .int (nI (nx + 1))), (5, .int (nI ((mcv C Hd b q T n (t ||| 2 ^ nx) nx) + 0))), (3, .int (nI 1)), (2, .int (nI k)), (1, .int (nI t)), (0, .ref h)]) hx hb dX5_laysChanges_194 hl (k := 1) rfl (nI_1 _) (by decide) rfl (fun ls hl => ?_)
                                refine lv_goto (tgt := 88) hx hb dX5_laysChanges_197 (by decide) ?_
                                exact ih88 (nx + 1) ((upX gk (8 * t + k) (nI ((mcv C Hd b q T n (t ||| 2 ^ nx) nx) + 0)))) (by omega) _ _ (by omega) (fun s j hs h2 hj => by rw [upX_n (by omega)]; exact i88_1 s j hs h2 hj) (fun j hj => by rw [upX_n (by omega)]; exact i88_2 j hj) (by rw [upX_s]; exact congrArg nI (show _ = fwS C Hd b q T (cgv C Hd b q T n) (nI (T k)) t nx _ by rw [mc_step hT hyb, if_neg (show ¬ t.testBit nx = true by rw [c37]; decide), if_pos c38, if_pos c44])) hP hD g19 g20 g21 g22 g23 g24 g25 g26 g27 g28 g29 ((fr.wd frwl88 : fr _ _ 19 29).tr fr47) ls locs (lv_sub hl [0, 2, 3, 4, 5] rfl) hS
                    exact L88 ((n - 0) + 1) 0 ((upX gh (8 * t + k) (nI 0))) (Nat.lt_succ_self _) _ _ (by omega) (fun s j hs h2 hj => by rw [upX_n (by omega)]; exact i11_1 s j hs h2 hj) (fun j hj => by rw [upX_n (by omega)]; exact i11_2 j hj) (by rw [upX_s]; show _ = nI (if t = 2 ^ n - 1 then 0 else 1000); rw [if_pos c16]) hP hD g19 g20 g21 g22 g23 g24 g25 g26 g27 g28 g29 ((fr.wd frwl11 : fr _ _ 19 29).tr fr33) ls locs (lv_sub hl [0, 1, 2, 3, 4] rfl) hS
        exact L11 ((n - 0) + 1) 0 gg (Nat.lt_succ_self _) _ _ (by omega) i5_1 (fun j hj => absurd hj (Nat.not_lt_zero _)) hP hD g19 g20 g21 g22 g23 g24 g25 g26 g27 g28 g29 (fr.wd frwl5 : fr _ _ 19 29) ls locs (lv_sub hl [0, 1, 2] rfl) hS
  exact L5 (((2 ^ n - 1)) + 1) (2 ^ n - 1) fg (Nat.lt_succ_self _) _ _ (by omega) (fun s j h1 h2 hj => absurd h1 (by omega)) hP hD g19 g20 g21 g22 g23 g24 g25 g26 g27 g28 g29 fr.rf ls locs (lv_sub hl [0, 1] rfl) hS
