theorem hd_X4_boundTo : yX4_boundTo.cls = RX4 ∧ yX4_boundTo.cls ≠ "java/lang/invoke/MethodHandle" ∧ yX4_boundTo.cls ≠ "java/lang/invoke/VarHandle" ∧ (parseMethodDescriptor yX4_boundTo.desc).map (fun d => d.parameters.length) = some 2 := by decide +kernel
theorem hd_X4_groups : yX4_groups.cls = RX4 ∧ yX4_groups.cls ≠ "java/lang/invoke/MethodHandle" ∧ yX4_groups.cls ≠ "java/lang/invoke/VarHandle" ∧ (parseMethodDescriptor yX4_groups.desc).map (fun d => d.parameters.length) = some 1 := by decide +kernel
theorem hd_X4_movesWith : yX4_movesWith.cls = RX4 ∧ yX4_movesWith.cls ≠ "java/lang/invoke/MethodHandle" ∧ yX4_movesWith.cls ≠ "java/lang/invoke/VarHandle" ∧ (parseMethodDescriptor yX4_movesWith.desc).map (fun d => d.parameters.length) = some 2 := by decide +kernel
set_option maxHeartbeats 4000000 in
set_option maxRecDepth 100000 in
theorem c_L_areMoves {l : Launch} {D : va_G} {ky : kT} {A : Nat → Prop} {Hs : Heap} {ws : va_W} (hP : va_P D CL ws Hs) (hD : va_D A ws) {x o9 n : Nat} {T C Hd : Nat → Nat} {b : Nat} {q : Bool} {J : Nat → Nat} {bg : Bool} {pi bu : Nat} {tm tl : Int32} {K : Nat → Nat} {f : Nat → Nat} (hap : AP ky ws x n T C Hd b q J bg pi bu tm tl K) (f19 : ws[19]? = some (o9, .inl (ky.1, 59, .inl (fun i => nI (f i))))) (hTI : TI n C Hd b q f) (hLR : LR n T C Hd b J K) {d : Nat} (hd9 : d < 6) : MU l yL_areMoves wsL_areMoves 5 115 0 0 D ky A Hs [.ref x, .ref o9, .int (nI d)] (fun r w => r = nI 1 ∧ AP ky w x n T C Hd b q J bg pi bu tm tl K ∧ fr ws w 0 18) := by
  refine MU.of (cc := cL_areMoves) (maxL := 11) (ty := .boolean) (by decide) rfl (Nat.le_of_ble_eq_true rfl) ?_
  intro pg en Rm sg mi av below meth co Qo hRf hRl hRc hRs hx hb hml hown hts hK hret ls hl
  have hl : lv_has ls 11 [(0, .ref x), (1, .ref o9), (2, .int (nI d))] := hl
  have hS : va_S A Hs Hs [] := va_S.rf
  generalize ([] : List Loc) = locs at hS ⊢
  have hn6 : n ≤ 6 := hLR.2.1
  have hT := hLR.2.2.1
  have hp64 := p2_64 hn6
  have hp1 : 1 ≤ 2 ^ n := Nat.one_le_two_pow
  have hb8 : b < 8 := hLR.1.2.1
  have hTb : ∀ p, T p < 2 ^ 31 := fun p => Nat.lt_of_lt_of_le (hT p) (by decide)
  have hq2 : q.toNat ≤ 1 := tn_1 q
  refine lv_iconst (v := nI 0) hx hb dL_areMoves_0 ci_0 ?_
  refine lv_istore_n (lv' := [(3, .int (nI 0)), (0, .ref x), (1, .ref o9), (2, .int (nI d))]) hx hb dL_areMoves_1 rfl hl (by decide) rfl (fun ls hl => ?_)
  refine lv_iconst (v := nI 1) hx hb dL_areMoves_2 ci_1 ?_
  refine lv_istore (lv' := [(4, .int (nI 1)), (3, .int (nI 0)), (0, .ref x), (1, .ref o9), (2, .int (nI d))]) hx hb dL_areMoves_3 hl (by decide) rfl (fun ls hl => ?_)
  refine lv_iconst (v := nI 0) hx hb dL_areMoves_5 ci_0 ?_
  refine lv_istore (lv' := [(5, .int (nI 0)), (4, .int (nI 1)), (3, .int (nI 0)), (0, .ref x), (1, .ref o9), (2, .int (nI d))]) hx hb dL_areMoves_6 hl (by decide) rfl (fun ls hl => ?_)
  have L8 : ∀ (L8d : Nat) (p : Nat), n - p < L8d → ∀ (wl8 : va_W) (H : Heap), p ≤ n → va_P D CL wl8 H → va_D A wl8 → wl8[19]? = some (o9, .inl (ky.1, 59, .inl (fun i => nI (f i)))) → AP ky wl8 x n T C Hd b q J bg pi bu tm tl K → fr ws wl8 0 18 → ∀ (ls : Array Slot) (locs : List Loc), lv_has ls 11 [(0, .ref x), (1, .ref o9), (2, .int (nI d)), (3, .int (nI (itr (grs Hd n d) p 0))), (4, .int (nI 1)), (5, .int (nI p))] → va_S A Hs H locs → W pg l en Rm sg mi av below meth co H locs 0 0 Qo (F0 mi 8 ls []) := by
    intro L8d
    induction L8d with
    | zero => intro p hfu; exact absurd hfu (Nat.not_lt_zero _)
    | succ L8d ih8 =>
      intro p hfu wl8 H i8_0 hP hD f19 hap frwl8 ls locs hl hS
      refine lv_iload hx hb dL_areMoves_8 (lv_at hl 5 rfl) ?_
      refine lv_aload_n hx hb dL_areMoves_10 rfl (lv_at hl 1 rfl) ?_
      refine lv_bipush (v := nI 56) hx hb dL_areMoves_11 bi_56 ?_
      refine sv_iald hx hb hK hP 19 f19 (j := 56) (by omega) (by decide) dL_areMoves_13 ?_
      refine W.eq (g2 := F0 mi 14 ls (.int (nI (f 56)) :: [.int (nI p)])) rfl ?_
      refine sv_top (y := nI n) (by rw [hTI.2.2.1]) ?_
      refine sn_icmp_ge (tgt := 296) hx hb dL_areMoves_14 (by decide) (by omega) (by omega) (fun c1 => ?_) (fun c1 => ?_)
      · have e3 : nI (itr (grs Hd n d) p 0) = nI (grp Hd n d) := by rw [show p = n by omega]; rfl
        rw [e3] at hl
        refine lv_iload hx hb dL_areMoves_296 (lv_at hl 4 rfl) ?_
        refine sn_if_eq (tgt := 325) hx hb dL_areMoves_298 (by decide) (by decide) (fun q => absurd q (by decide)) (fun _ => ?_)
        refine lv_aload_n hx hb dL_areMoves_301 rfl (lv_at hl 0 rfl) ?_
        refine lv_iload_n hx hb dL_areMoves_302 rfl (lv_at hl 2 rfl) ?_
        obtain ⟨fs0, g0⟩ := hap.at0
        refine mcV (c_X4_groups_0 hP hD hap hLR.1 hd9) ⟨hx, hb, hml, hown, hts⟩ hK gL_areMoves_X4_groups rfl hd_X4_groups ⟨by omega, by omega⟩ (va_recv hK hP (ci := 4) (q0 := 0) rfl g0) rfl hl.1 rfl (Nat.le_of_ble_eq_true rfl) dL_areMoves_303 ⟨Nat.zero_le _, Nat.zero_le _⟩ hS (fun rv ws3 H locs hq5 hP hD hS => ?_)
        obtain ⟨hr6, hap, fr4⟩ := hq5
        replace f19 := (fr4 19 (by decide)).trans f19
        refine sv_top (y := nI (grp Hd n d)) hr6 ?_
        refine lv_iload_n hx hb dL_areMoves_306 rfl (lv_at hl 3 rfl) ?_
        refine lv_icmp_ne (tgt := 325) hx hb dL_areMoves_307 (by decide) (fun z => absurd rfl z) (fun _ => ?_)
        refine lv_aload_n hx hb dL_areMoves_310 rfl (lv_at hl 0 rfl) ?_
        refine lv_iload_n hx hb dL_areMoves_311 rfl (lv_at hl 2 rfl) ?_
        refine lv_iconst (v := nI 1) hx hb dL_areMoves_312 ci_1 ?_
        refine lv_ixor hx hb dL_areMoves_313 ?_
        refine sv_top (y := nI (d ^^^ 1)) (an_xor _ _) ?_
        obtain ⟨fs0, g0⟩ := hap.at0
        refine mcV (c_X4_groups_0 hP hD hap hLR.1 (xor1_lt d hd9).1) ⟨hx, hb, hml, hown, hts⟩ hK gL_areMoves_X4_groups rfl hd_X4_groups ⟨by omega, by omega⟩ (va_recv hK hP (ci := 4) (q0 := 0) rfl g0) rfl hl.1 rfl (Nat.le_of_ble_eq_true rfl) dL_areMoves_314 ⟨Nat.zero_le _, Nat.zero_le _⟩ hS (fun rv ws7 H locs hq9 hP hD hS => ?_)
        obtain ⟨hr10, hap, fr8⟩ := hq9
        replace f19 := (fr8 19 (by decide)).trans f19
        refine sv_top (y := nI (grp Hd n (d ^^^ 1))) hr10 ?_
        refine lv_iload_n hx hb dL_areMoves_317 rfl (lv_at hl 3 rfl) ?_
        refine sn_icmp_ne (tgt := 325) hx hb dL_areMoves_318 (by decide) (Nat.lt_of_le_of_lt (lz_grb _) (by omega)) (Nat.lt_of_le_of_lt (lz_grb _) (by omega)) (fun c11 => absurd (lz_grp1 hd9) c11) (fun c11 => ?_)
        refine lv_iconst (v := nI 1) hx hb dL_areMoves_321 ci_1 ?_
        refine lv_goto (tgt := 326) hx hb dL_areMoves_322 (by decide) ?_
        exact hret 326 ls _ _ locs _ dL_areMoves_326 hP hD hS rfl (⟨rfl, hap, (((fr.wd frwl8 : fr _ _ 0 18).tr fr4).tr fr8)⟩)
      · refine lv_iload hx hb dL_areMoves_17 (lv_at hl 4 rfl) ?_
        refine sn_if_eq (tgt := 296) hx hb dL_areMoves_19 (by decide) (by decide) (fun q => absurd q (by decide)) (fun _ => ?_)
        refine lv_aload_n hx hb dL_areMoves_22 rfl (lv_at hl 0 rfl) ?_
        refine lv_iload hx hb dL_areMoves_23 (lv_at hl 5 rfl) ?_
        refine lv_iload_n hx hb dL_areMoves_25 rfl (lv_at hl 2 rfl) ?_
        obtain ⟨fs0, g0⟩ := hap.at0
        refine mcV (c_X4_movesWith_0 hP hD hap hLR.1 (by omega) hd9) ⟨hx, hb, hml, hown, hts⟩ hK gL_areMoves_X4_movesWith rfl hd_X4_movesWith ⟨by omega, by omega⟩ (va_recv hK hP (ci := 4) (q0 := 0) rfl g0) rfl hl.1 rfl (Nat.le_of_ble_eq_true rfl) dL_areMoves_26 ⟨Nat.zero_le _, Nat.zero_le _⟩ hS (fun rv ws13 H locs hq15 hP hD hS => ?_)
        obtain ⟨hr16, hap, fr14⟩ := hq15
        replace f19 := (fr14 19 (by decide)).trans f19
        refine sv_top (y := nI (mov Hd n p d)) hr16 ?_
        refine lv_istore (lv' := [(6, .int (nI (mov Hd n p d))), (0, .ref x), (1, .ref o9), (2, .int (nI d)), (3, .int (nI (itr (grs Hd n d) p 0))), (4, .int (nI 1)), (5, .int (nI p))]) hx hb dL_areMoves_29 hl (by decide) rfl (fun ls hl => ?_)
        refine lv_aload_n hx hb dL_areMoves_31 rfl (lv_at hl 1 rfl) ?_
        refine lv_iload hx hb dL_areMoves_32 (lv_at hl 6 rfl) ?_
        refine lv_iload_n hx hb dL_areMoves_34 rfl (lv_at hl 3 rfl) ?_
        obtain ⟨fs0, g0⟩ := hap.at0
        refine mcV (c_X4_boundTo_0 hP hD hap hLR.1 (by omega) hd9) ⟨hx, hb, hml, hown, hts⟩ hK gL_areMoves_X4_boundTo rfl hd_X4_boundTo ⟨by omega, by omega⟩ (va_recv hK hP (ci := 4) (q0 := 0) rfl g0) rfl hl.1 rfl (Nat.le_of_ble_eq_true rfl) dL_areMoves_35 ⟨Nat.zero_le _, Nat.zero_le _⟩ hS (fun rv ws17 H locs hq19 hP hD hS => ?_)
        obtain ⟨hr20, hap, fr18⟩ := hq19
        replace f19 := (fr18 19 (by decide)).trans f19
        refine sv_top (y := nI (bnd Hd n p d)) hr20 ?_
        refine lv_istore (lv' := [(7, .int (nI (bnd Hd n p d))), (6, .int (nI (mov Hd n p d))), (0, .ref x), (1, .ref o9), (2, .int (nI d)), (3, .int (nI (itr (grs Hd n d) p 0))), (4, .int (nI 1)), (5, .int (nI p))]) hx hb dL_areMoves_38 hl (by decide) rfl (fun ls hl => ?_)
        refine lv_iconst (v := nI 0) hx hb dL_areMoves_40 ci_0 ?_
        refine lv_istore (lv' := [(8, .int (nI 0)), (7, .int (nI (bnd Hd n p d))), (6, .int (nI (mov Hd n p d))), (0, .ref x), (1, .ref o9), (2, .int (nI d)), (3, .int (nI (itr (grs Hd n d) p 0))), (4, .int (nI 1)), (5, .int (nI p))]) hx hb dL_areMoves_41 hl (by decide) rfl (fun ls hl => ?_)
        refine lv_iload hx hb dL_areMoves_43 (lv_at hl 2 rfl) ?_
        refine lv_iload hx hb dL_areMoves_45 (lv_at hl 8 rfl) ?_
        refine lv_ishr hx hb dL_areMoves_47 ?_
        refine sv_top (y := nI ((mov Hd n p d) / 2 ^ p)) (sh_r (by omega) (lt_31 (mov_lt hLR.1 (by omega)) (by omega))) ?_
        refine lv_iconst (v := nI 1) hx hb dL_areMoves_48 ci_1 ?_
        refine lv_iand hx hb dL_areMoves_49 ?_
        refine sv_top (y := nI ((mov Hd n p d) / 2 ^ p % 2)) (an_1) ?_
        refine lv_iconst (v := nI 1) hx hb dL_areMoves_50 ci_1 ?_
        refine st_icmp_ne (tgt := 79) hx hb dL_areMoves_51 (by decide) (fun c21 => absurd (mov_self hLR.1 p d) (by rw [c21]; decide)) (fun c21 => ?_)
        refine lv_iload hx hb dL_areMoves_54 (lv_at hl 1 rfl) ?_
        refine lv_iload hx hb dL_areMoves_56 (lv_at hl 2 rfl) ?_
        refine lv_iconst (v := -1) hx hb dL_areMoves_58 ci_m1 ?_
        refine lv_ixor hx hb dL_areMoves_59 ?_
        refine lv_iand hx hb dL_areMoves_60 ?_
        refine sv_top (y := nI (clr (bnd Hd n p d) (mov Hd n p d))) (an_not _ _) ?_
        refine sn_if_ne (tgt := 79) hx hb dL_areMoves_61 (by decide) (lt_31 (clr_lt (b := _) (by first | exact bnd_lt hLR.1 (by omega) | exact hLR.1.2.2.2.1 _ | exact mov_lt hLR.1 (by omega))) (by omega)) (fun c22 => absurd lz_bndm c22) (fun c22 => ?_)
        refine lv_iload hx hb dL_areMoves_64 (lv_at hl 1 rfl) ?_
        refine lv_iload hx hb dL_areMoves_66 (lv_at hl 8 rfl) ?_
        refine lv_ishr hx hb dL_areMoves_68 ?_
        refine sv_top (y := nI ((bnd Hd n p d) / 2 ^ p)) (sh_r (by omega) (lt_31 (bnd_lt hLR.1 (by omega)) (by omega))) ?_
        refine lv_iconst (v := nI 1) hx hb dL_areMoves_69 ci_1 ?_
        refine lv_iand hx hb dL_areMoves_70 ?_
        refine sv_top (y := nI ((bnd Hd n p d) / 2 ^ p % 2)) (an_1) ?_
        refine lv_iconst (v := nI 1) hx hb dL_areMoves_71 ci_1 ?_
        refine st_icmp_ne (tgt := 79) hx hb dL_areMoves_72 (by decide) (fun c23 => absurd (bnd_self hLR.1 p d) (by rw [c23]; decide)) (fun c23 => ?_)
        refine lv_iconst (v := nI 1) hx hb dL_areMoves_75 ci_1 ?_
        refine lv_goto (tgt := 80) hx hb dL_areMoves_76 (by decide) ?_
        refine lv_istore (lv' := [(4, .int (nI 1)), (8, .int (nI 0)), (7, .int (nI (bnd Hd n p d))), (6, .int (nI (mov Hd n p d))), (0, .ref x), (1, .ref o9), (2, .int (nI d)), (3, .int (nI (itr (grs Hd n d) p 0))), (5, .int (nI p))]) hx hb dL_areMoves_80 hl (by decide) rfl (fun ls hl => ?_)
        refine lv_iconst (v := nI 0) hx hb dL_areMoves_82 ci_0 ?_
        refine lv_istore (lv' := [(9, .int (nI 0)), (4, .int (nI 1)), (8, .int (nI 0)), (7, .int (nI (bnd Hd n p d))), (6, .int (nI (mov Hd n p d))), (0, .ref x), (1, .ref o9), (2, .int (nI d)), (3, .int (nI (itr (grs Hd n d) p 0))), (5, .int (nI p))]) hx hb dL_areMoves_83 hl (by decide) rfl (fun ls hl => ?_)
        have L85 : ∀ (L85d : Nat) (r : Nat), n - r < L85d → ∀ (wl85 : va_W) (H : Heap), r ≤ n → va_P D CL wl85 H → va_D A wl85 → wl85[19]? = some (o9, .inl (ky.1, 59, .inl (fun i => nI (f i)))) → AP ky wl85 x n T C Hd b q J bg pi bu tm tl K → fr ws wl85 0 18 → ∀ (ls : Array Slot) (locs : List Loc), lv_has ls 11 [(0, .ref x), (1, .ref o9), (2, .int (nI d)), (3, .int (nI (itr (grs Hd n d) p 0))), (4, .int (nI 1)), (5, .int (nI p)), (6, .int (nI (mov Hd n p d))), (7, .int (nI (bnd Hd n p d))), (8, .int (nI (itr (opp Hd n p d) r 0))), (9, .int (nI r))] → va_S A Hs H locs → W pg l en Rm sg mi av below meth co H locs 0 0 Qo (F0 mi 85 ls []) := by
          intro L85d
          induction L85d with
          | zero => intro r hfu; exact absurd hfu (Nat.not_lt_zero _)
          | succ L85d ih85 =>
            intro r hfu wl85 H i85_0 hP hD f19 hap frwl85 ls locs hl hS
            refine lv_iload hx hb dL_areMoves_85 (lv_at hl 9 rfl) ?_
            refine lv_aload_n hx hb dL_areMoves_87 rfl (lv_at hl 1 rfl) ?_
            refine lv_bipush (v := nI 56) hx hb dL_areMoves_88 bi_56 ?_
            refine sv_iald hx hb hK hP 19 f19 (j := 56) (by omega) (by decide) dL_areMoves_90 ?_
            refine W.eq (g2 := F0 mi 91 ls (.int (nI (f 56)) :: [.int (nI r)])) rfl ?_
            refine sv_top (y := nI n) (by rw [hTI.2.2.1]) ?_
            refine sn_icmp_ge (tgt := 230) hx hb dL_areMoves_91 (by decide) (by omega) (by omega) (fun c24 => ?_) (fun c24 => ?_)
            · refine lv_iload hx hb dL_areMoves_230 (lv_at hl 4 rfl) ?_
              refine sn_if_eq (tgt := 267) hx hb dL_areMoves_232 (by decide) (by decide) (fun q => absurd q (by decide)) (fun _ => ?_)
              refine lv_aload_n hx hb dL_areMoves_235 rfl (lv_at hl 0 rfl) ?_
              refine lv_iload hx hb dL_areMoves_236 (lv_at hl 5 rfl) ?_
              refine lv_iload_n hx hb dL_areMoves_238 rfl (lv_at hl 2 rfl) ?_
              refine lv_iconst (v := nI 1) hx hb dL_areMoves_239 ci_1 ?_
              refine lv_ixor hx hb dL_areMoves_240 ?_
              refine sv_top (y := nI (d ^^^ 1)) (an_xor _ _) ?_
              obtain ⟨fs0, g0⟩ := hap.at0
              refine mcV (c_X4_movesWith_0 hP hD hap hLR.1 (by omega) (xor1_lt d hd9).1) ⟨hx, hb, hml, hown, hts⟩ hK gL_areMoves_X4_movesWith rfl hd_X4_movesWith ⟨by omega, by omega⟩ (va_recv hK hP (ci := 4) (q0 := 0) rfl g0) rfl hl.1 rfl (Nat.le_of_ble_eq_true rfl) dL_areMoves_241 ⟨Nat.zero_le _, Nat.zero_le _⟩ hS (fun rv ws26 H locs hq28 hP hD hS => ?_)
              obtain ⟨hr29, hap, fr27⟩ := hq28
              replace f19 := (fr27 19 (by decide)).trans f19
              refine sv_top (y := nI (mov Hd n p (d ^^^ 1))) hr29 ?_
              refine lv_iload hx hb dL_areMoves_244 (lv_at hl 8 rfl) ?_
              refine sn_icmp_ne (tgt := 267) hx hb dL_areMoves_246 (by decide) (lt_31 (mov_lt hLR.1 (by omega)) (by omega)) (by rw [show r = n by omega, ← opp_all hLR.1 (by omega) hd9]; exact lt_31 (mov_lt hLR.1 (by omega)) (by omega)) (fun c30 => absurd (show mov Hd n p (d ^^^ 1) = itr (opp Hd n p d) r 0 by rw [show r = n by omega]; exact opp_all hLR.1 (by omega) hd9) c30) (fun c30 => ?_)
              refine lv_aload_n hx hb dL_areMoves_249 rfl (lv_at hl 0 rfl) ?_
              refine lv_iload hx hb dL_areMoves_250 (lv_at hl 5 rfl) ?_
              refine lv_iload_n hx hb dL_areMoves_252 rfl (lv_at hl 2 rfl) ?_
              refine lv_iconst (v := nI 1) hx hb dL_areMoves_253 ci_1 ?_
              refine lv_ixor hx hb dL_areMoves_254 ?_
              refine sv_top (y := nI (d ^^^ 1)) (an_xor _ _) ?_
              obtain ⟨fs0, g0⟩ := hap.at0
              refine mcV (c_X4_boundTo_0 hP hD hap hLR.1 (by omega) (xor1_lt d hd9).1) ⟨hx, hb, hml, hown, hts⟩ hK gL_areMoves_X4_boundTo rfl hd_X4_boundTo ⟨by omega, by omega⟩ (va_recv hK hP (ci := 4) (q0 := 0) rfl g0) rfl hl.1 rfl (Nat.le_of_ble_eq_true rfl) dL_areMoves_255 ⟨Nat.zero_le _, Nat.zero_le _⟩ hS (fun rv ws31 H locs hq33 hP hD hS => ?_)
              obtain ⟨hr34, hap, fr32⟩ := hq33
              replace f19 := (fr32 19 (by decide)).trans f19
              refine sv_top (y := nI (bnd Hd n p (d ^^^ 1))) hr34 ?_
              refine lv_iload hx hb dL_areMoves_258 (lv_at hl 7 rfl) ?_
              refine sn_icmp_ne (tgt := 267) hx hb dL_areMoves_260 (by decide) (lt_31 (bnd_lt hLR.1 (by omega)) (by omega)) (lt_31 (bnd_lt hLR.1 (by omega)) (by omega)) (fun c35 => absurd (lz_bnd1 hd9) c35) (fun c35 => ?_)
              refine lv_iconst (v := nI 1) hx hb dL_areMoves_263 ci_1 ?_
              refine lv_goto (tgt := 268) hx hb dL_areMoves_264 (by decide) ?_
              refine lv_istore (lv' := [(4, .int (nI 1)), (0, .ref x), (1, .ref o9), (2, .int (nI d)), (3, .int (nI (itr (grs Hd n d) p 0))), (5, .int (nI p)), (6, .int (nI (mov Hd n p d))), (7, .int (nI (bnd Hd n p d))), (8, .int (nI (itr (opp Hd n p d) r 0))), (9, .int (nI r))]) hx hb dL_areMoves_268 hl (by decide) rfl (fun ls hl => ?_)
              refine lv_iload_n hx hb dL_areMoves_270 rfl (lv_at hl 4 rfl) ?_
              refine lv_iload hx hb dL_areMoves_271 (lv_at hl 7 rfl) ?_
              refine lv_iconst (v := nI 1) hx hb dL_areMoves_273 ci_1 ?_
              refine lv_iload hx hb dL_areMoves_274 (lv_at hl 5 rfl) ?_
              refine lv_ishl hx hb dL_areMoves_276 ?_
              refine sv_top (y := nI (2 ^ p)) (sh_l1 (by omega)) ?_
              refine lv_iconst (v := nI 1) hx hb dL_areMoves_277 ci_1 ?_
              refine lv_isub hx hb dL_areMoves_278 ?_
              refine sv_top (y := nI ((2 ^ p) - 1)) (pk_sub Nat.one_le_two_pow) ?_
              refine lv_iand hx hb dL_areMoves_279 ?_
              refine sv_top (y := nI ((bnd Hd n p d) &&& ((2 ^ p) - 1))) (an_and _ _) ?_
              refine sn_if_ne (tgt := 287) hx hb dL_areMoves_280 (by decide) (and_b1 (lt_31 (bnd_lt hLR.1 (by omega)) (by omega))) (fun c36 => ?_) (fun c36 => ?_)
              · refine lv_iconst (v := nI 0) hx hb dL_areMoves_287 ci_0 ?_
                refine lv_iadd hx hb dL_areMoves_288 ?_
                refine sv_top (y := nI ((itr (grs Hd n d) p 0) + 0)) (nI_add _ _) ?_
                refine lv_istore_n (lv' := [(3, .int (nI ((itr (grs Hd n d) p 0) + 0))), (4, .int (nI 1)), (0, .ref x), (1, .ref o9), (2, .int (nI d)), (5, .int (nI p)), (6, .int (nI (mov Hd n p d))), (7, .int (nI (bnd Hd n p d))), (8, .int (nI (itr (opp Hd n p d) r 0))), (9, .int (nI r))]) hx hb dL_areMoves_289 rfl hl (by decide) rfl (fun ls hl => ?_)
                refine lv_iinc (v := nI (p + 1)) (lv' := [(5, .int (nI (p + 1))), (3, .int (nI ((itr (grs Hd n d) p 0) + 0))), (4, .int (nI 1)), (0, .ref x), (1, .ref o9), (2, .int (nI d)), (6, .int (nI (mov Hd n p d))), (7, .int (nI (bnd Hd n p d))), (8, .int (nI (itr (opp Hd n p d) r 0))), (9, .int (nI r))]) hx hb dL_areMoves_290 hl (k := 5) rfl (nI_1 _) (by decide) rfl (fun ls hl => ?_)
                refine lv_goto (tgt := 8) hx hb dL_areMoves_293 (by decide) ?_
                have e3 : nI ((itr (grs Hd n d) p 0) + 0) = nI (itr (grs Hd n d) (p + 1) 0) := (congrArg nI (show _ = grs Hd n d p _ from (if_neg c36).symm))
                rw [e3] at hl
                exact ih8 (p + 1) (by omega) _ _ (by omega) hP hD f19 hap (((fr.wd frwl85 : fr _ _ 0 18).tr fr27).tr fr32) ls locs (lv_sub hl [3, 4, 5, 1, 2, 0] rfl) hS
              · refine lv_iconst (v := nI 1) hx hb dL_areMoves_283 ci_1 ?_
                refine lv_goto (tgt := 288) hx hb dL_areMoves_284 (by decide) ?_
                refine lv_iadd hx hb dL_areMoves_288 ?_
                refine sv_top (y := nI ((itr (grs Hd n d) p 0) + 1)) (nI_add _ _) ?_
                refine lv_istore_n (lv' := [(3, .int (nI ((itr (grs Hd n d) p 0) + 1))), (4, .int (nI 1)), (0, .ref x), (1, .ref o9), (2, .int (nI d)), (5, .int (nI p)), (6, .int (nI (mov Hd n p d))), (7, .int (nI (bnd Hd n p d))), (8, .int (nI (itr (opp Hd n p d) r 0))), (9, .int (nI r))]) hx hb dL_areMoves_289 rfl hl (by decide) rfl (fun ls hl => ?_)
                refine lv_iinc (v := nI (p + 1)) (lv' := [(5, .int (nI (p + 1))), (3, .int (nI ((itr (grs Hd n d) p 0) + 1))), (4, .int (nI 1)), (0, .ref x), (1, .ref o9), (2, .int (nI d)), (6, .int (nI (mov Hd n p d))), (7, .int (nI (bnd Hd n p d))), (8, .int (nI (itr (opp Hd n p d) r 0))), (9, .int (nI r))]) hx hb dL_areMoves_290 hl (k := 5) rfl (nI_1 _) (by decide) rfl (fun ls hl => ?_)
                refine lv_goto (tgt := 8) hx hb dL_areMoves_293 (by decide) ?_
                have e3 : nI ((itr (grs Hd n d) p 0) + 1) = nI (itr (grs Hd n d) (p + 1) 0) := (congrArg nI (show _ = grs Hd n d p _ from (if_pos c36).symm))
                rw [e3] at hl
                exact ih8 (p + 1) (by omega) _ _ (by omega) hP hD f19 hap (((fr.wd frwl85 : fr _ _ 0 18).tr fr27).tr fr32) ls locs (lv_sub hl [3, 4, 5, 1, 2, 0] rfl) hS
            · refine lv_iload hx hb dL_areMoves_94 (lv_at hl 6 rfl) ?_
              refine lv_iload hx hb dL_areMoves_96 (lv_at hl 9 rfl) ?_
              refine lv_ishr hx hb dL_areMoves_98 ?_
              refine sv_top (y := nI ((mov Hd n p d) / 2 ^ r)) (sh_r (by omega) (lt_31 (mov_lt hLR.1 (by omega)) (by omega))) ?_
              refine lv_iconst (v := nI 1) hx hb dL_areMoves_99 ci_1 ?_
              refine lv_iand hx hb dL_areMoves_100 ?_
              refine sv_top (y := nI ((mov Hd n p d) / 2 ^ r % 2)) (an_1) ?_
              refine lv_iconst (v := nI 1) hx hb dL_areMoves_101 ci_1 ?_
              refine st_icmp_ne (tgt := 109) hx hb dL_areMoves_102 (by decide) (fun c37 => ?_) (fun c37 => ?_)
              · refine lv_iconst (v := nI 0) hx hb dL_areMoves_109 ci_0 ?_
                refine lv_istore (lv' := [(10, .int (nI 0)), (0, .ref x), (1, .ref o9), (2, .int (nI d)), (3, .int (nI (itr (grs Hd n d) p 0))), (4, .int (nI 1)), (5, .int (nI p)), (6, .int (nI (mov Hd n p d))), (7, .int (nI (bnd Hd n p d))), (8, .int (nI (itr (opp Hd n p d) r 0))), (9, .int (nI r))]) hx hb dL_areMoves_110 hl (by decide) rfl (fun ls hl => ?_)
                refine lv_iload hx hb dL_areMoves_112 (lv_at hl 5 rfl) ?_
                refine sn_if_eq (tgt := 158) hx hb dL_areMoves_114 (by decide) (by decide) (fun q => absurd q (by decide)) (fun _ => ?_)
                refine lv_iload hx hb dL_areMoves_117 (lv_at hl 0 rfl) ?_
                refine sn_if_eq (tgt := 154) hx hb dL_areMoves_119 (by decide) (by decide) (fun _ => ?_) (fun q => absurd q (by decide))
                refine lv_iconst (v := nI 1) hx hb dL_areMoves_154 ci_1 ?_
                refine lv_goto (tgt := 159) hx hb dL_areMoves_155 (by decide) ?_
                refine lv_istore (lv' := [(4, .int (nI 1)), (10, .int (nI 0)), (0, .ref x), (1, .ref o9), (2, .int (nI d)), (3, .int (nI (itr (grs Hd n d) p 0))), (5, .int (nI p)), (6, .int (nI (mov Hd n p d))), (7, .int (nI (bnd Hd n p d))), (8, .int (nI (itr (opp Hd n p d) r 0))), (9, .int (nI r))]) hx hb dL_areMoves_159 hl (by decide) rfl (fun ls hl => ?_)
                refine lv_iload hx hb dL_areMoves_161 (lv_at hl 0 rfl) ?_
                refine sn_if_eq (tgt := 201) hx hb dL_areMoves_163 (by decide) (by decide) (fun q => absurd q (by decide)) (fun _ => ?_)
                refine lv_iload hx hb dL_areMoves_166 (lv_at hl 8 rfl) ?_
                refine lv_iload hx hb dL_areMoves_168 (lv_at hl 10 rfl) ?_
                refine lv_ishr hx hb dL_areMoves_170 ?_
                refine sv_top (y := nI ((bnd Hd n p d) / 2 ^ r)) (sh_r (by omega) (lt_31 (bnd_lt hLR.1 (by omega)) (by omega))) ?_
                refine lv_iconst (v := nI 1) hx hb dL_areMoves_171 ci_1 ?_
                refine lv_iand hx hb dL_areMoves_172 ?_
                refine sv_top (y := nI ((bnd Hd n p d) / 2 ^ r % 2)) (an_1) ?_
                refine lv_iload hx hb dL_areMoves_173 (lv_at hl 1 rfl) ?_
                refine sn_if_eq (tgt := 193) hx hb dL_areMoves_175 (by decide) (by decide) (fun _ => ?_) (fun q => absurd q (by decide))
                refine lv_iconst (v := nI 0) hx hb dL_areMoves_193 ci_0 ?_
                refine sn_icmp_ne (tgt := 201) hx hb dL_areMoves_194 (by decide) (Nat.lt_trans (lz_m2 _) (by decide)) (by decide) (fun c42 => absurd (lz_w0 c37) c42) (fun c42 => ?_)
                refine lv_iconst (v := nI 1) hx hb dL_areMoves_197 ci_1 ?_
                refine lv_goto (tgt := 202) hx hb dL_areMoves_198 (by decide) ?_
                refine lv_istore (lv' := [(4, .int (nI 1)), (10, .int (nI 0)), (0, .ref x), (1, .ref o9), (2, .int (nI d)), (3, .int (nI (itr (grs Hd n d) p 0))), (5, .int (nI p)), (6, .int (nI (mov Hd n p d))), (7, .int (nI (bnd Hd n p d))), (8, .int (nI (itr (opp Hd n p d) r 0))), (9, .int (nI r))]) hx hb dL_areMoves_202 hl (by decide) rfl (fun ls hl => ?_)
                refine lv_iload hx hb dL_areMoves_204 (lv_at hl 9 rfl) ?_
                refine lv_aload_n hx hb dL_areMoves_206 rfl (lv_at hl 2 rfl) ?_
                refine lv_iload hx hb dL_areMoves_207 (lv_at hl 10 rfl) ?_
                refine lv_iload_n hx hb dL_areMoves_209 rfl (lv_at hl 4 rfl) ?_
                obtain ⟨fs0, g0⟩ := hap.at0
                refine mcV (c_X4_movesWith_0 hP hD hap hLR.1 (by omega) hd9) ⟨hx, hb, hml, hown, hts⟩ hK gL_areMoves_X4_movesWith rfl hd_X4_movesWith ⟨by omega, by omega⟩ (va_recv hK hP (ci := 4) (q0 := 0) rfl g0) rfl hl.1 rfl (Nat.le_of_ble_eq_true rfl) dL_areMoves_210 ⟨Nat.zero_le _, Nat.zero_le _⟩ hS (fun rv ws43 H locs hq45 hP hD hS => ?_)
                obtain ⟨hr46, hap, fr44⟩ := hq45
                replace f19 := (fr44 19 (by decide)).trans f19
                refine sv_top (y := nI (mov Hd n r d)) hr46 ?_
                refine lv_iload hx hb dL_areMoves_213 (lv_at hl 6 rfl) ?_
                refine lv_ishr hx hb dL_areMoves_215 ?_
                refine sv_top (y := nI ((mov Hd n r d) / 2 ^ p)) (sh_r (by omega) (lt_31 (mov_lt hLR.1 (by omega)) (by omega))) ?_
                refine lv_iconst (v := nI 1) hx hb dL_areMoves_216 ci_1 ?_
                refine lv_iand hx hb dL_areMoves_217 ?_
                refine sv_top (y := nI ((mov Hd n r d) / 2 ^ p % 2)) (an_1) ?_
                refine lv_iload hx hb dL_areMoves_218 (lv_at hl 10 rfl) ?_
                refine lv_ishl hx hb dL_areMoves_220 ?_
                refine sv_top (y := nI (((mov Hd n r d) / 2 ^ p % 2) * 2 ^ r)) (sh_l (by omega) (lz_b31 (lz_m2 _) (by omega))) ?_
                refine lv_ior hx hb dL_areMoves_221 ?_
                refine sv_top (y := nI ((itr (opp Hd n p d) r 0) ||| (((mov Hd n r d) / 2 ^ p % 2) * 2 ^ r))) (an_or _ _) ?_
                refine lv_istore (lv' := [(8, .int (nI ((itr (opp Hd n p d) r 0) ||| (((mov Hd n r d) / 2 ^ p % 2) * 2 ^ r)))), (4, .int (nI 1)), (10, .int (nI 0)), (0, .ref x), (1, .ref o9), (2, .int (nI d)), (3, .int (nI (itr (grs Hd n d) p 0))), (5, .int (nI p)), (6, .int (nI (mov Hd n p d))), (7, .int (nI (bnd Hd n p d))), (9, .int (nI r))]) hx hb dL_areMoves_222 hl (by decide) rfl (fun ls hl => ?_)
                refine lv_iinc (v := nI (r + 1)) (lv' := [(9, .int (nI (r + 1))), (8, .int (nI ((itr (opp Hd n p d) r 0) ||| (((mov Hd n r d) / 2 ^ p % 2) * 2 ^ r)))), (4, .int (nI 1)), (10, .int (nI 0)), (0, .ref x), (1, .ref o9), (2, .int (nI d)), (3, .int (nI (itr (grs Hd n d) p 0))), (5, .int (nI p)), (6, .int (nI (mov Hd n p d))), (7, .int (nI (bnd Hd n p d)))]) hx hb dL_areMoves_224 hl (k := 10) rfl (nI_1 _) (by decide) rfl (fun ls hl => ?_)
                refine lv_goto (tgt := 85) hx hb dL_areMoves_227 (by decide) ?_
                exact ih85 (r + 1) (by omega) _ _ (by omega) hP hD f19 hap ((fr.wd frwl85 : fr _ _ 0 18).tr fr44) ls locs (lv_sub hl [4, 5, 6, 7, 2, 8, 9, 10, 1, 0] rfl) hS
              · refine lv_iconst (v := nI 1) hx hb dL_areMoves_105 ci_1 ?_
                refine lv_goto (tgt := 110) hx hb dL_areMoves_106 (by decide) ?_
                refine lv_istore (lv' := [(10, .int (nI 1)), (0, .ref x), (1, .ref o9), (2, .int (nI d)), (3, .int (nI (itr (grs Hd n d) p 0))), (4, .int (nI 1)), (5, .int (nI p)), (6, .int (nI (mov Hd n p d))), (7, .int (nI (bnd Hd n p d))), (8, .int (nI (itr (opp Hd n p d) r 0))), (9, .int (nI r))]) hx hb dL_areMoves_110 hl (by decide) rfl (fun ls hl => ?_)
                refine lv_iload hx hb dL_areMoves_112 (lv_at hl 5 rfl) ?_
                refine sn_if_eq (tgt := 158) hx hb dL_areMoves_114 (by decide) (by decide) (fun q => absurd q (by decide)) (fun _ => ?_)
                refine lv_iload hx hb dL_areMoves_117 (lv_at hl 0 rfl) ?_
                refine sn_if_eq (tgt := 154) hx hb dL_areMoves_119 (by decide) (by decide) (fun q => absurd q (by decide)) (fun _ => ?_)
                refine lv_aload_n hx hb dL_areMoves_122 rfl (lv_at hl 2 rfl) ?_
                refine lv_bipush (v := nI 8) hx hb dL_areMoves_123 bi_8 ?_
                refine lv_iload_n hx hb dL_areMoves_125 rfl (lv_at hl 3 rfl) ?_
                refine lv_imul hx hb dL_areMoves_126 ?_
                refine sv_top (y := nI (8 * d)) (mul_n _ _) ?_
                refine lv_iload hx hb dL_areMoves_127 (lv_at hl 10 rfl) ?_
                refine lv_iadd hx hb dL_areMoves_129 ?_
                refine sv_top (y := nI (8 * d + r)) (nI_add _ _) ?_
                refine sv_iald hx hb hK hP 19 f19 (j := 8 * d + r) (by omega) (by decide) dL_areMoves_130 ?_
                refine W.eq (g2 := F0 mi 131 ls (.int (nI (f (8 * d + r))) :: [])) rfl ?_
                refine sv_top (y := nI (Hd (8 * d + r))) (by rw [hTI.1 (8 * d + r) (by omega)]) ?_
                refine lv_iload hx hb dL_areMoves_131 (lv_at hl 7 rfl) ?_
                refine lv_iconst (v := -1) hx hb dL_areMoves_133 ci_m1 ?_
                refine lv_ixor hx hb dL_areMoves_134 ?_
                refine lv_iand hx hb dL_areMoves_135 ?_
                refine sv_top (y := nI (clr (Hd (8 * d + r)) (mov Hd n p d))) (an_not _ _) ?_
                refine sn_if_ne (tgt := 158) hx hb dL_areMoves_136 (by decide) (lt_31 (clr_lt (b := _) (by first | exact bnd_lt hLR.1 (by omega) | exact hLR.1.2.2.2.1 _ | exact mov_lt hLR.1 (by omega))) (by omega)) (fun c49 => absurd (lz_clr0 (mov_cld hLR.1 (show p < n by omega) r (by omega) c37)) c49) (fun c49 => ?_)
                refine lv_aload_n hx hb dL_areMoves_139 rfl (lv_at hl 1 rfl) ?_
                refine lv_iload hx hb dL_areMoves_140 (lv_at hl 10 rfl) ?_
                refine lv_iload_n hx hb dL_areMoves_142 rfl (lv_at hl 3 rfl) ?_
                obtain ⟨fs0, g0⟩ := hap.at0
                refine mcV (c_X4_movesWith_0 hP hD hap hLR.1 (by omega) hd9) ⟨hx, hb, hml, hown, hts⟩ hK gL_areMoves_X4_movesWith rfl hd_X4_movesWith ⟨by omega, by omega⟩ (va_recv hK hP (ci := 4) (q0 := 0) rfl g0) rfl hl.1 rfl (Nat.le_of_ble_eq_true rfl) dL_areMoves_143 ⟨Nat.zero_le _, Nat.zero_le _⟩ hS (fun rv ws50 H locs hq52 hP hD hS => ?_)
                obtain ⟨hr53, hap, fr51⟩ := hq52
                replace f19 := (fr51 19 (by decide)).trans f19
                refine sv_top (y := nI (mov Hd n r d)) hr53 ?_
                refine lv_iload hx hb dL_areMoves_146 (lv_at hl 7 rfl) ?_
                refine lv_iconst (v := -1) hx hb dL_areMoves_148 ci_m1 ?_
                refine lv_ixor hx hb dL_areMoves_149 ?_
                refine lv_iand hx hb dL_areMoves_150 ?_
                refine sv_top (y := nI (clr (mov Hd n r d) (mov Hd n p d))) (an_not _ _) ?_
                refine sn_if_ne (tgt := 158) hx hb dL_areMoves_151 (by decide) (lt_31 (clr_lt (b := _) (by first | exact bnd_lt hLR.1 (by omega) | exact hLR.1.2.2.2.1 _ | exact mov_lt hLR.1 (by omega))) (by omega)) (fun c54 => absurd (lz_clr0 (mov_in hLR.1 (show p < n by omega) c37)) c54) (fun c54 => ?_)
                refine lv_iconst (v := nI 1) hx hb dL_areMoves_154 ci_1 ?_
                refine lv_goto (tgt := 159) hx hb dL_areMoves_155 (by decide) ?_
                refine lv_istore (lv' := [(4, .int (nI 1)), (10, .int (nI 1)), (0, .ref x), (1, .ref o9), (2, .int (nI d)), (3, .int (nI (itr (grs Hd n d) p 0))), (5, .int (nI p)), (6, .int (nI (mov Hd n p d))), (7, .int (nI (bnd Hd n p d))), (8, .int (nI (itr (opp Hd n p d) r 0))), (9, .int (nI r))]) hx hb dL_areMoves_159 hl (by decide) rfl (fun ls hl => ?_)
                refine lv_iload hx hb dL_areMoves_161 (lv_at hl 0 rfl) ?_
                refine sn_if_eq (tgt := 201) hx hb dL_areMoves_163 (by decide) (by decide) (fun q => absurd q (by decide)) (fun _ => ?_)
                refine lv_iload hx hb dL_areMoves_166 (lv_at hl 8 rfl) ?_
                refine lv_iload hx hb dL_areMoves_168 (lv_at hl 10 rfl) ?_
                refine lv_ishr hx hb dL_areMoves_170 ?_
                refine sv_top (y := nI ((bnd Hd n p d) / 2 ^ r)) (sh_r (by omega) (lt_31 (bnd_lt hLR.1 (by omega)) (by omega))) ?_
                refine lv_iconst (v := nI 1) hx hb dL_areMoves_171 ci_1 ?_
                refine lv_iand hx hb dL_areMoves_172 ?_
                refine sv_top (y := nI ((bnd Hd n p d) / 2 ^ r % 2)) (an_1) ?_
                refine lv_iload hx hb dL_areMoves_173 (lv_at hl 1 rfl) ?_
                refine sn_if_eq (tgt := 193) hx hb dL_areMoves_175 (by decide) (by decide) (fun q => absurd q (by decide)) (fun _ => ?_)
                refine lv_aload_n hx hb dL_areMoves_178 rfl (lv_at hl 2 rfl) ?_
                refine lv_iload hx hb dL_areMoves_179 (lv_at hl 10 rfl) ?_
                refine lv_iload_n hx hb dL_areMoves_181 rfl (lv_at hl 4 rfl) ?_
                obtain ⟨fs0, g0⟩ := hap.at0
                refine mcV (c_X4_movesWith_0 hP hD hap hLR.1 (by omega) hd9) ⟨hx, hb, hml, hown, hts⟩ hK gL_areMoves_X4_movesWith rfl hd_X4_movesWith ⟨by omega, by omega⟩ (va_recv hK hP (ci := 4) (q0 := 0) rfl g0) rfl hl.1 rfl (Nat.le_of_ble_eq_true rfl) dL_areMoves_182 ⟨Nat.zero_le _, Nat.zero_le _⟩ hS (fun rv ws57 H locs hq59 hP hD hS => ?_)
                obtain ⟨hr60, hap, fr58⟩ := hq59
                replace f19 := (fr58 19 (by decide)).trans f19
                refine sv_top (y := nI (mov Hd n r d)) hr60 ?_
                refine lv_iload hx hb dL_areMoves_185 (lv_at hl 6 rfl) ?_
                refine lv_ishr hx hb dL_areMoves_187 ?_
                refine sv_top (y := nI ((mov Hd n r d) / 2 ^ p)) (sh_r (by omega) (lt_31 (mov_lt hLR.1 (by omega)) (by omega))) ?_
                refine lv_iconst (v := nI 1) hx hb dL_areMoves_188 ci_1 ?_
                refine lv_iand hx hb dL_areMoves_189 ?_
                refine sv_top (y := nI ((mov Hd n r d) / 2 ^ p % 2)) (an_1) ?_
                refine lv_goto (tgt := 194) hx hb dL_areMoves_190 (by decide) ?_
                refine sn_icmp_ne (tgt := 201) hx hb dL_areMoves_194 (by decide) (Nat.lt_trans (lz_m2 _) (by decide)) (Nat.lt_trans (lz_m2 _) (by decide)) (fun c61 => absurd (lz_w1 hLR.1 (show p < n by omega) (show r < n by omega) hd9 c37) c61) (fun c61 => ?_)
                refine lv_iconst (v := nI 1) hx hb dL_areMoves_197 ci_1 ?_
                refine lv_goto (tgt := 202) hx hb dL_areMoves_198 (by decide) ?_
                refine lv_istore (lv' := [(4, .int (nI 1)), (10, .int (nI 1)), (0, .ref x), (1, .ref o9), (2, .int (nI d)), (3, .int (nI (itr (grs Hd n d) p 0))), (5, .int (nI p)), (6, .int (nI (mov Hd n p d))), (7, .int (nI (bnd Hd n p d))), (8, .int (nI (itr (opp Hd n p d) r 0))), (9, .int (nI r))]) hx hb dL_areMoves_202 hl (by decide) rfl (fun ls hl => ?_)
                refine lv_iload hx hb dL_areMoves_204 (lv_at hl 9 rfl) ?_
                refine lv_aload_n hx hb dL_areMoves_206 rfl (lv_at hl 2 rfl) ?_
                refine lv_iload hx hb dL_areMoves_207 (lv_at hl 10 rfl) ?_
                refine lv_iload_n hx hb dL_areMoves_209 rfl (lv_at hl 4 rfl) ?_
                obtain ⟨fs0, g0⟩ := hap.at0
                refine mcV (c_X4_movesWith_0 hP hD hap hLR.1 (by omega) hd9) ⟨hx, hb, hml, hown, hts⟩ hK gL_areMoves_X4_movesWith rfl hd_X4_movesWith ⟨by omega, by omega⟩ (va_recv hK hP (ci := 4) (q0 := 0) rfl g0) rfl hl.1 rfl (Nat.le_of_ble_eq_true rfl) dL_areMoves_210 ⟨Nat.zero_le _, Nat.zero_le _⟩ hS (fun rv ws62 H locs hq64 hP hD hS => ?_)
                obtain ⟨hr65, hap, fr63⟩ := hq64
                replace f19 := (fr63 19 (by decide)).trans f19
                refine sv_top (y := nI (mov Hd n r d)) hr65 ?_
                refine lv_iload hx hb dL_areMoves_213 (lv_at hl 6 rfl) ?_
                refine lv_ishr hx hb dL_areMoves_215 ?_
                refine sv_top (y := nI ((mov Hd n r d) / 2 ^ p)) (sh_r (by omega) (lt_31 (mov_lt hLR.1 (by omega)) (by omega))) ?_
                refine lv_iconst (v := nI 1) hx hb dL_areMoves_216 ci_1 ?_
                refine lv_iand hx hb dL_areMoves_217 ?_
                refine sv_top (y := nI ((mov Hd n r d) / 2 ^ p % 2)) (an_1) ?_
                refine lv_iload hx hb dL_areMoves_218 (lv_at hl 10 rfl) ?_
                refine lv_ishl hx hb dL_areMoves_220 ?_
                refine sv_top (y := nI (((mov Hd n r d) / 2 ^ p % 2) * 2 ^ r)) (sh_l (by omega) (lz_b31 (lz_m2 _) (by omega))) ?_
                refine lv_ior hx hb dL_areMoves_221 ?_
                refine sv_top (y := nI ((itr (opp Hd n p d) r 0) ||| (((mov Hd n r d) / 2 ^ p % 2) * 2 ^ r))) (an_or _ _) ?_
                refine lv_istore (lv' := [(8, .int (nI ((itr (opp Hd n p d) r 0) ||| (((mov Hd n r d) / 2 ^ p % 2) * 2 ^ r)))), (4, .int (nI 1)), (10, .int (nI 1)), (0, .ref x), (1, .ref o9), (2, .int (nI d)), (3, .int (nI (itr (grs Hd n d) p 0))), (5, .int (nI p)), (6, .int (nI (mov Hd n p d))), (7, .int (nI (bnd Hd n p d))), (9, .int (nI r))]) hx hb dL_areMoves_222 hl (by decide) rfl (fun ls hl => ?_)
                refine lv_iinc (v := nI (r + 1)) (lv' := [(9, .int (nI (r + 1))), (8, .int (nI ((itr (opp Hd n p d) r 0) ||| (((mov Hd n r d) / 2 ^ p % 2) * 2 ^ r)))), (4, .int (nI 1)), (10, .int (nI 1)), (0, .ref x), (1, .ref o9), (2, .int (nI d)), (3, .int (nI (itr (grs Hd n d) p 0))), (5, .int (nI p)), (6, .int (nI (mov Hd n p d))), (7, .int (nI (bnd Hd n p d)))]) hx hb dL_areMoves_224 hl (k := 10) rfl (nI_1 _) (by decide) rfl (fun ls hl => ?_)
                refine lv_goto (tgt := 85) hx hb dL_areMoves_227 (by decide) ?_
                exact ih85 (r + 1) (by omega) _ _ (by omega) hP hD f19 hap ((((fr.wd frwl85 : fr _ _ 0 18).tr fr51).tr fr58).tr fr63) ls locs (lv_sub hl [4, 5, 6, 7, 2, 8, 9, 10, 1, 0] rfl) hS
        exact L85 ((n - 0) + 1) 0 (Nat.lt_succ_self _) _ _ (Nat.zero_le _) hP hD f19 hap (((fr.wd frwl8 : fr _ _ 0 18).tr fr14).tr fr18) ls locs (lv_sub hl [5, 6, 7, 8, 1, 9, 4, 3, 2, 0] rfl) hS
  exact L8 ((n - 0) + 1) 0 (Nat.lt_succ_self _) _ _ (Nat.zero_le _) hP hD f19 hap fr.rf ls locs (lv_sub hl [3, 4, 5, 2, 1, 0] rfl) hS
