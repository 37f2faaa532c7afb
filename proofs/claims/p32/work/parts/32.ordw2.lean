theorem hd_X1_fewestFrom : yX1_fewestFrom.cls = RX1 ∧ yX1_fewestFrom.cls ≠ "java/lang/invoke/MethodHandle" ∧ yX1_fewestFrom.cls ≠ "java/lang/invoke/VarHandle" ∧ (parseMethodDescriptor yX1_fewestFrom.desc).map (fun d => d.parameters.length) = some 2 := by decide +kernel
theorem hd_X1_find : yX1_find.cls = RX1 ∧ yX1_find.cls ≠ "java/lang/invoke/MethodHandle" ∧ yX1_find.cls ≠ "java/lang/invoke/VarHandle" ∧ (parseMethodDescriptor yX1_find.desc).map (fun d => d.parameters.length) = some 0 := by decide +kernel
theorem hd_X1_findBest : yX1_findBest.cls = RX1 ∧ yX1_findBest.cls ≠ "java/lang/invoke/MethodHandle" ∧ yX1_findBest.cls ≠ "java/lang/invoke/VarHandle" ∧ (parseMethodDescriptor yX1_findBest.desc).map (fun d => d.parameters.length) = some 0 := by decide +kernel
theorem hd_X1_nextsOf : yX1_nextsOf.cls = RX1 ∧ yX1_nextsOf.cls ≠ "java/lang/invoke/MethodHandle" ∧ yX1_nextsOf.cls ≠ "java/lang/invoke/VarHandle" ∧ (parseMethodDescriptor yX1_nextsOf.desc).map (fun d => d.parameters.length) = some 1 := by decide +kernel
theorem hd_X1_orNone : yX1_orNone.cls ≠ "java/lang/invoke/MethodHandle" ∧ yX1_orNone.cls ≠ "java/lang/invoke/VarHandle" ∧ (parseMethodDescriptor yX1_orNone.desc).map (fun d => d.parameters.length) = some 1 := by decide +kernel
theorem hd_X1_ordersFrom : yX1_ordersFrom.cls = RX1 ∧ yX1_ordersFrom.cls ≠ "java/lang/invoke/MethodHandle" ∧ yX1_ordersFrom.cls ≠ "java/lang/invoke/VarHandle" ∧ (parseMethodDescriptor yX1_ordersFrom.desc).map (fun d => d.parameters.length) = some 1 := by decide +kernel
theorem or_up {C Hd : Nat → Nat} {b : Nat} {q : Bool} {T : Nat → Nat} {n sv : Nat} {Dn : Nat → Bool} {gx go gg gh : Nat → Int32} (h : orOK C Hd b q T n (sv + 1) Dn gx go gg) (h4 : ∀ s t, sv < s → s < 2 ^ n → t < 4 → gh (4 * s + t) = nI (cgv C Hd b q T n (4 * s + t))) (h5 : ∀ t, t < 4 → gh (4 * sv + t) = nI (cgv C Hd b q T n (4 * sv + t))) :
    orOK C Hd b q T n sv (upX Dn sv (sou C Hd b q sv)) (upX gx sv (nI (nxm C Hd b q n sv))) (upX go sv (nI (ord C Hd b q n sv))) gh := by
  intro s h1 h2
  by_cases e : s = sv
  · subst e; exact ⟨upX_s, upX_s, upX_s, h5⟩
  · obtain ⟨a1, a2, a3, a4⟩ := h s (by omega) h2
    exact ⟨(upX_n e).trans a1, (upX_n e).trans a2, (upX_n e).trans a3, fun t ht => h4 s t (by omega) h2 ht⟩
set_option maxHeartbeats 4000000 in
set_option maxRecDepth 100000 in
theorem c_X1_find {l : Launch} {D : va_G} {ky : kT} {A : Nat → Prop} {Hs : Heap} {ws : va_W} (hP : va_P D CL ws Hs) (hD : va_D A ws) {h hp b1 b2 b3 b4 b5 : Nat} {Sn : Nat → Bool} {fx fo fg fb : Nat → Int32} {fe : Int32} {kn : Bool} (hod : isOrd ky ws h hp b1 b2 b3 b4 b5 Sn fx fo fg fb fe kn) {n : Nat} {T C Hd : Nat → Nat} {b : Nat} {q : Bool} (hpr : isProd ky ws hp n T C Hd b q) (hI : PI0 n C Hd b) (hT : ∀ p, T p < 4) (hkn : kn = true → kdOK C Hd b q T n Sn fx fo fg fb fe) : MV l yX1_find wsX1_find 4 94 0 0 D ky A Hs [.ref h] (fun w => (∃ (Dn : Nat → Bool) (gx go gg gb : Nat → Int32) (ge : Int32), isOrd ky w h hp b1 b2 b3 b4 b5 Dn gx go gg gb ge true ∧ kdOK C Hd b q T n Dn gx go gg gb ge) ∧ fr ws w 10 15) := by
  refine MV.of (cc := cX1_find) (maxL := 3) (by decide) rfl (Nat.le_of_ble_eq_true rfl) ?_
  intro pg en Rm sg mi av below meth co Qo hRf hRl hRc hRs hx hb hml hown hin hts hK hret ls hl
  have hl : lv_has ls 3 [(0, .ref h)] := hl
  have hS : va_S A Hs Hs [] := va_S.rf
  generalize ([] : List Loc) = locs at hS ⊢
  obtain ⟨o10, o11, o12, o13, o14, o15⟩ := id hod
  obtain ⟨a1, a2, a3, f1, f2, f3, f4⟩ := id hpr
  have hn8 := hI.1
  have hp2 : 2 ^ n ≤ 256 := p2_le hn8
  have hpw : 0 < 2 ^ n := Nat.two_pow_pos n
  have k32 := hts (.fieldLink RX1 32 "AssemblyPlanner$Ordering" "known" "Z") (by decide +kernel)
  have hinX1 : ∀ w ∈ wsX10, w ∈ wsX1_find := by decide +kernel
  have k28 := hts (.fieldLink RX1 28 "AssemblyPlanner$Ordering" "product" "LAssemblyPlanner$Product;") (by decide +kernel)
  have k39 := hts (.fieldLink RX1 39 "AssemblyPlanner$Ordering" "fewest" "I") (by decide +kernel)
  have k9 := hts (.fieldLink RX1 9 "AssemblyPlanner$Ordering" "sound" "[Z") (by decide +kernel)
  have k15 := hts (.fieldLink RX1 15 "AssemblyPlanner$Ordering" "nexts" "[I") (by decide +kernel)
  have k19 := hts (.fieldLink RX1 19 "AssemblyPlanner$Ordering" "orders" "[I") (by decide +kernel)
  have k22 := hts (.fieldLink RX1 22 "AssemblyPlanner$Ordering" "changes" "[I") (by decide +kernel)
  refine lv_aload_n hx hb dX1_find_0 rfl (lv_at hl 0 rfl) ?_
  refine va_get (ci := 1) (C := RX1) (T := TX1) (N := 8) hx hb hts hinX1 hown hK hP 10 o10 rfl 7 (by decide) k32 (fun _ h9 => h9) rfl dX1_find_1 ?_
  refine sb_if_eq (tgt := 8) hx hb dX1_find_4 (by decide) (fun c1 => ?_) (fun c1 => ?_)
  · refine lv_aload_n hx hb dX1_find_8 rfl (lv_at hl 0 rfl) ?_
    refine va_get (ci := 1) (C := RX1) (T := TX1) (N := 8) hx hb hts hinX1 hown hK hP 10 o10 rfl 0 (by decide) k28 (fun _ h9 => h9) rfl dX1_find_9 ?_
    refine pcV (c_X3_all hP hpr hI) ⟨hx, hb, hml, hown, hts⟩ hK gX1_find_X3_all rfl hd_X3_all ⟨by omega, by omega⟩ (va_recv hK hP (ci := 3) (q0 := 1) rfl f1) rfl hl.1 rfl (Nat.le_of_ble_eq_true rfl) dX1_find_12 ⟨Nat.zero_le _, Nat.zero_le _⟩ hS (fun locs hS => ?_)
    refine lv_istore_n (lv' := [(1, .int (nI (2 ^ n - 1))), (0, .ref h)]) hx hb dX1_find_15 rfl hl (by decide) rfl (fun ls hl => ?_)
    have L16 : ∀ (L16d : Nat) (m : Nat) (Dn : Nat → Bool) (gx : Nat → Int32) (go : Nat → Int32) (gg : Nat → Int32), m < L16d → ∀ (wl16 : va_W) (H : Heap), m ≤ 2 ^ n → orOK C Hd b q T n m Dn gx go gg → va_P D CL wl16 H → va_D A wl16 → wl16[10]? = some (h, .inr (1, [.ref hp, .ref b1, .ref b2, .ref b3, .ref b4, .ref b5, .int fe, .int (bI kn)])) → wl16[11]? = some (b1, .inl (ky.2.1, 256, .inl (fun i => bI (Dn i)))) → wl16[12]? = some (b2, .inl (ky.1, 256, .inl gx)) → wl16[13]? = some (b3, .inl (ky.1, 256, .inl go)) → wl16[14]? = some (b4, .inl (ky.1, 1024, .inl gg)) → wl16[15]? = some (b5, .inl (ky.1, 8, .inl fb)) → wl16[1]? = some (hp, .inr (3, [.ref a1, .ref a2, .ref a3, .int (nI n), .int (nI b), .int (bI q)])) → wl16[2]? = some (a1, .inl (ky.1, 8, .inl (fun i => nI (T i)))) → wl16[3]? = some (a2, .inl (ky.1, 8, .inl (fun i => nI (C i)))) → wl16[4]? = some (a3, .inl (ky.1, 48, .inl (fun i => nI (Hd i)))) → isProd ky wl16 hp n T C Hd b q → fr ws wl16 10 15 → ∀ (ls : Array Slot) (locs : List Loc), lv_has ls 3 [(1, .int (smI m)), (0, .ref h)] → va_S A Hs H locs → W pg l en Rm sg mi av below meth co H locs 0 0 Qo (F0 mi 16 ls []) := by
      intro L16d
      induction L16d with
      | zero => intro m Dn gx go gg hfu; exact absurd hfu (Nat.not_lt_zero _)
      | succ L16d ih16 =>
        intro m Dn gx go gg hfu wl16 H i16_0 i16_1 hP hD o10 o11 o12 o13 o14 o15 f1 f2 f3 f4 hpr frwl16 ls locs hl hS
        refine lv_iload_n hx hb dX1_find_16 rfl (lv_at hl 0 rfl) ?_
        refine lv_if_lt (tgt := 91) hx hb dX1_find_17 (by decide) (fun c2 => ?_) (fun c2 => ?_)
        · obtain rfl : m = 0 := smI_0 c2 (by omega)
          refine lv_aload_n hx hb dX1_find_91 rfl (lv_at hl 1 rfl) ?_
          refine lv_aload_n hx hb dX1_find_92 rfl (lv_at hl 1 rfl) ?_
          refine lv_iconst (v := nI 0) hx hb dX1_find_93 ci_0 ?_
          refine lv_iconst (v := -1) hx hb dX1_find_94 ci_m1 ?_
          refine pcV (c_X1_fewestFrom hP ⟨o10, o11, o12, o13, o14, o15⟩ hpr hI (by omega) (i16_1 0 (Nat.zero_le _) hpw).2.1 hT (fun s t _ h2 ht => (i16_1 s (Nat.zero_le _) h2).2.2.2 t ht)) ⟨hx, hb, hml, hown, hts⟩ hK gX1_find_X1_fewestFrom rfl hd_X1_fewestFrom ⟨by omega, by omega⟩ (va_recv hK hP (ci := 1) (q0 := 10) rfl o10) rfl hl.1 rfl (Nat.le_of_ble_eq_true rfl) dX1_find_95 ⟨Nat.zero_le _, Nat.zero_le _⟩ hS (fun locs hS => ?_)
          refine sv_put (ci := 1) (C := RX1) (T := TX1) (N := 8) hx hb hts hinX1 tyX1 tyX1_ok nmX1 hown hK hP hD hS 10 o10 rfl 6 (by decide) k39 (fun _ h9 => h9) rfl .int (by decide +kernel) rfl rfl [.ref hp, .ref b1, .ref b2, .ref b3, .ref b4, .ref b5, .int (nI (fwF C Hd b q T n (cgv C Hd b q T n) (-1) 0)), .int (bI kn)] (Nat.le_of_ble_eq_true rfl) rfl dX1_find_98 (fun ws4 H locs hP hD hS o10 fr3 => ?_)
          replace o11 := (fr3 11 (by decide)).trans o11
          replace o12 := (fr3 12 (by decide)).trans o12
          replace o13 := (fr3 13 (by decide)).trans o13
          replace o14 := (fr3 14 (by decide)).trans o14
          replace o15 := (fr3 15 (by decide)).trans o15
          replace f1 := (fr3 1 (by decide)).trans f1
          replace f2 := (fr3 2 (by decide)).trans f2
          replace f3 := (fr3 3 (by decide)).trans f3
          replace f4 := (fr3 4 (by decide)).trans f4
          replace hpr := hpr.fr fr3
          refine lv_aload_n hx hb dX1_find_101 rfl (lv_at hl 1 rfl) ?_
          refine mvV (c_X1_findBest hP hD ⟨o10, o11, o12, o13, o14, o15⟩ hpr hI hT rfl (fun s hs => (i16_1 s (Nat.zero_le _) hs).2.1) (fun s t hs ht => (i16_1 s (Nat.zero_le _) hs).2.2.2 t ht)) ⟨hx, hb, hml, hown, hts⟩ hK gX1_find_X1_findBest rfl hd_X1_findBest ⟨by omega, by omega⟩ (va_recv hK hP (ci := 1) (q0 := 10) rfl o10) rfl hl.1 rfl (Nat.le_of_ble_eq_true rfl) dX1_find_102 ⟨Nat.zero_le _, Nat.zero_le _⟩ hS (fun ws5 H locs hq7 hP hD hS => ?_)
          obtain ⟨⟨gb, hod, hbe⟩, fr6⟩ := hq7
          replace f1 := (fr6 1 (by decide)).trans f1
          replace f2 := (fr6 2 (by decide)).trans f2
          replace f3 := (fr6 3 (by decide)).trans f3
          replace f4 := (fr6 4 (by decide)).trans f4
          replace hpr := hpr.fr fr6
          obtain ⟨o10, o11, o12, o13, o14, o15⟩ := hod
          refine lv_aload_n hx hb dX1_find_105 rfl (lv_at hl 1 rfl) ?_
          refine lv_iconst (v := nI 1) hx hb dX1_find_106 ci_1 ?_
          refine W.eq (g2 := F0 mi 107 ls (.int (bI true) :: .ref h :: [])) rfl ?_
          refine sv_put (ci := 1) (C := RX1) (T := TX1) (N := 8) hx hb hts hinX1 tyX1 tyX1_ok nmX1 hown hK hP hD hS 10 o10 rfl 7 (by decide) k32 (fun _ h9 => h9) rfl .boolean (by decide +kernel) (bI_nar _) (bI_fit _) [.ref hp, .ref b1, .ref b2, .ref b3, .ref b4, .ref b5, .int (nI (fwF C Hd b q T n (cgv C Hd b q T n) (-1) 0)), .int (bI true)] (Nat.le_of_ble_eq_true rfl) rfl dX1_find_107 (fun ws9 H locs hP hD hS o10 fr8 => ?_)
          replace o11 := (fr8 11 (by decide)).trans o11
          replace o12 := (fr8 12 (by decide)).trans o12
          replace o13 := (fr8 13 (by decide)).trans o13
          replace o14 := (fr8 14 (by decide)).trans o14
          replace o15 := (fr8 15 (by decide)).trans o15
          replace f1 := (fr8 1 (by decide)).trans f1
          replace f2 := (fr8 2 (by decide)).trans f2
          replace f3 := (fr8 3 (by decide)).trans f3
          replace f4 := (fr8 4 (by decide)).trans f4
          replace hpr := hpr.fr fr8
          exact hret 110 ls _ _ locs dX1_find_110 hP hD hS (⟨⟨Dn, gx, go, gg, gb, _, ⟨o10, o11, o12, o13, o14, o15⟩, i16_1, rfl, hbe⟩, ((((fr.wd frwl16 : fr _ _ 10 15).tr fr3).tr fr6).tr fr8)⟩)
        · have hm0 := smI_n c2
          obtain ⟨sv, rfl⟩ : ∃ z, m = z + 1 := ⟨m - 1, by omega⟩
          rw [smI_s] at hl
          refine lv_aload_n hx hb dX1_find_20 rfl (lv_at hl 1 rfl) ?_
          refine va_get (ci := 1) (C := RX1) (T := TX1) (N := 8) hx hb hts hinX1 hown hK hP 10 o10 rfl 1 (by decide) k9 (fun _ h9 => h9) rfl dX1_find_21 ?_
          refine lv_iload_n hx hb dX1_find_24 rfl (lv_at hl 0 rfl) ?_
          refine lv_aload_n hx hb dX1_find_25 rfl (lv_at hl 1 rfl) ?_
          refine va_get (ci := 1) (C := RX1) (T := TX1) (N := 8) hx hb hts hinX1 hown hK hP 10 o10 rfl 0 (by decide) k28 (fun _ h9 => h9) rfl dX1_find_26 ?_
          refine lv_iload_n hx hb dX1_find_29 rfl (lv_at hl 0 rfl) ?_
          refine pcV (c_X3_sound hP hpr hI (by omega)) ⟨hx, hb, hml, hown, hts⟩ hK gX1_find_X3_sound rfl hd_X3_sound ⟨by omega, by omega⟩ (va_recv hK hP (ci := 3) (q0 := 1) rfl f1) rfl hl.1 rfl (Nat.le_of_ble_eq_true rfl) dX1_find_30 ⟨Nat.zero_le _, Nat.zero_le _⟩ hS (fun locs hS => ?_)
          refine sv_zast hx hb hK hP hD hS 11 o11 (j := sv) (by omega) (by decide) dX1_find_33 (fun ws11 H locs hP hD hS o11 fr10 => ?_)
          replace o10 := (fr10 10 (by decide)).trans o10
          replace o12 := (fr10 12 (by decide)).trans o12
          replace o13 := (fr10 13 (by decide)).trans o13
          replace o14 := (fr10 14 (by decide)).trans o14
          replace o15 := (fr10 15 (by decide)).trans o15
          replace f1 := (fr10 1 (by decide)).trans f1
          replace f2 := (fr10 2 (by decide)).trans f2
          replace f3 := (fr10 3 (by decide)).trans f3
          replace f4 := (fr10 4 (by decide)).trans f4
          replace hpr := hpr.fr fr10
          rw [upd_B] at o11
          refine lv_aload_n hx hb dX1_find_34 rfl (lv_at hl 1 rfl) ?_
          refine va_get (ci := 1) (C := RX1) (T := TX1) (N := 8) hx hb hts hinX1 hown hK hP 10 o10 rfl 2 (by decide) k15 (fun _ h9 => h9) rfl dX1_find_35 ?_
          refine lv_iload_n hx hb dX1_find_38 rfl (lv_at hl 0 rfl) ?_
          refine lv_aload_n hx hb dX1_find_39 rfl (lv_at hl 1 rfl) ?_
          refine lv_iload_n hx hb dX1_find_40 rfl (lv_at hl 0 rfl) ?_
          refine pcV (c_X1_nextsOf hP ⟨o10, o11, o12, o13, o14, o15⟩ hpr hI (by omega) (fun s h1 h2 => by by_cases e : s = sv; rw [e, upX_s]; rw [upX_n e]; exact (i16_1 s (by omega) h2).1)) ⟨hx, hb, hml, hown, hts⟩ hK gX1_find_X1_nextsOf rfl hd_X1_nextsOf ⟨by omega, by omega⟩ (va_recv hK hP (ci := 1) (q0 := 10) rfl o10) rfl hl.1 rfl (Nat.le_of_ble_eq_true rfl) dX1_find_41 ⟨Nat.zero_le _, Nat.zero_le _⟩ hS (fun locs hS => ?_)
          refine sv_iast hx hb hK hP hD hS 12 o12 (j := sv) (by omega) (by decide) dX1_find_44 (fun ws13 H locs hP hD hS o12 fr12 => ?_)
          replace o10 := (fr12 10 (by decide)).trans o10
          replace o11 := (fr12 11 (by decide)).trans o11
          replace o13 := (fr12 13 (by decide)).trans o13
          replace o14 := (fr12 14 (by decide)).trans o14
          replace o15 := (fr12 15 (by decide)).trans o15
          replace f1 := (fr12 1 (by decide)).trans f1
          replace f2 := (fr12 2 (by decide)).trans f2
          replace f3 := (fr12 3 (by decide)).trans f3
          replace f4 := (fr12 4 (by decide)).trans f4
          replace hpr := hpr.fr fr12
          rw [upd_X] at o12
          refine lv_aload_n hx hb dX1_find_45 rfl (lv_at hl 1 rfl) ?_
          refine va_get (ci := 1) (C := RX1) (T := TX1) (N := 8) hx hb hts hinX1 hown hK hP 10 o10 rfl 3 (by decide) k19 (fun _ h9 => h9) rfl dX1_find_46 ?_
          refine lv_iload_n hx hb dX1_find_49 rfl (lv_at hl 0 rfl) ?_
          refine lv_aload_n hx hb dX1_find_50 rfl (lv_at hl 1 rfl) ?_
          refine lv_iload_n hx hb dX1_find_51 rfl (lv_at hl 0 rfl) ?_
          refine pcV (c_X1_ordersFrom hP ⟨o10, o11, o12, o13, o14, o15⟩ hpr hI (by omega) upX_s (fun s h1 h2 => (i16_1 s (by omega) h2).2.2.1)) ⟨hx, hb, hml, hown, hts⟩ hK gX1_find_X1_ordersFrom rfl hd_X1_ordersFrom ⟨by omega, by omega⟩ (va_recv hK hP (ci := 1) (q0 := 10) rfl o10) rfl hl.1 rfl (Nat.le_of_ble_eq_true rfl) dX1_find_52 ⟨Nat.zero_le _, Nat.zero_le _⟩ hS (fun locs hS => ?_)
          refine sv_iast hx hb hK hP hD hS 13 o13 (j := sv) (by omega) (by decide) dX1_find_55 (fun ws15 H locs hP hD hS o13 fr14 => ?_)
          replace o10 := (fr14 10 (by decide)).trans o10
          replace o11 := (fr14 11 (by decide)).trans o11
          replace o12 := (fr14 12 (by decide)).trans o12
          replace o14 := (fr14 14 (by decide)).trans o14
          replace o15 := (fr14 15 (by decide)).trans o15
          replace f1 := (fr14 1 (by decide)).trans f1
          replace f2 := (fr14 2 (by decide)).trans f2
          replace f3 := (fr14 3 (by decide)).trans f3
          replace f4 := (fr14 4 (by decide)).trans f4
          replace hpr := hpr.fr fr14
          rw [upd_X] at o13
          refine lv_iconst (v := nI 0) hx hb dX1_find_56 ci_0 ?_
          refine lv_istore_n (lv' := [(2, .int (nI 0)), (1, .int (nI sv)), (0, .ref h)]) hx hb dX1_find_57 rfl hl (by decide) rfl (fun ls hl => ?_)
          have L58 : ∀ (L58d : Nat) (tl : Nat) (gh : Nat → Int32), 4 - tl < L58d → ∀ (wl58 : va_W) (H : Heap), tl ≤ 4 → (∀ s t, sv < s → s < 2 ^ n → t < 4 → gh (4 * s + t) = nI (cgv C Hd b q T n (4 * s + t))) → (∀ t, t < tl → gh (4 * sv + t) = nI (cgv C Hd b q T n (4 * sv + t))) → va_P D CL wl58 H → va_D A wl58 → wl58[10]? = some (h, .inr (1, [.ref hp, .ref b1, .ref b2, .ref b3, .ref b4, .ref b5, .int fe, .int (bI kn)])) → wl58[11]? = some (b1, .inl (ky.2.1, 256, .inl (fun i => bI ((upX Dn sv (sou C Hd b q sv)) i)))) → wl58[12]? = some (b2, .inl (ky.1, 256, .inl (upX gx sv (nI (nxm C Hd b q n sv))))) → wl58[13]? = some (b3, .inl (ky.1, 256, .inl (upX go sv (nI (ord C Hd b q n sv))))) → wl58[14]? = some (b4, .inl (ky.1, 1024, .inl gh)) → wl58[15]? = some (b5, .inl (ky.1, 8, .inl fb)) → wl58[1]? = some (hp, .inr (3, [.ref a1, .ref a2, .ref a3, .int (nI n), .int (nI b), .int (bI q)])) → wl58[2]? = some (a1, .inl (ky.1, 8, .inl (fun i => nI (T i)))) → wl58[3]? = some (a2, .inl (ky.1, 8, .inl (fun i => nI (C i)))) → wl58[4]? = some (a3, .inl (ky.1, 48, .inl (fun i => nI (Hd i)))) → isProd ky wl58 hp n T C Hd b q → fr ws wl58 10 15 → ∀ (ls : Array Slot) (locs : List Loc), lv_has ls 3 [(2, .int (nI tl)), (1, .int (nI sv)), (0, .ref h)] → va_S A Hs H locs → W pg l en Rm sg mi av below meth co H locs 0 0 Qo (F0 mi 58 ls []) := by
            intro L58d
            induction L58d with
            | zero => intro tl gh hfu; exact absurd hfu (Nat.not_lt_zero _)
            | succ L58d ih58 =>
              intro tl gh hfu wl58 H i58_0 i58_1 i58_2 hP hD o10 o11 o12 o13 o14 o15 f1 f2 f3 f4 hpr frwl58 ls locs hl hS
              refine lv_iload_n hx hb dX1_find_58 rfl (lv_at hl 0 rfl) ?_
              refine lv_iconst (v := nI 4) hx hb dX1_find_59 ci_4 ?_
              refine sn_icmp_ge (tgt := 85) hx hb dX1_find_60 (by decide) (by omega) (by decide) (fun c16 => ?_) (fun c16 => ?_)
              · refine lv_iinc (v := smI sv) (lv' := [(1, .int (smI sv)), (2, .int (nI tl)), (0, .ref h)]) hx hb dX1_find_85 hl (k := 1) rfl (smI_p _) (by decide) rfl (fun ls hl => ?_)
                refine lv_goto (tgt := 16) hx hb dX1_find_88 (by decide) ?_
                exact ih16 sv ((upX Dn sv (sou C Hd b q sv))) ((upX gx sv (nI (nxm C Hd b q n sv)))) ((upX go sv (nI (ord C Hd b q n sv)))) gh (by omega) _ _ (by omega) (or_up i16_1 i58_1 (fun t ht => i58_2 t (by omega))) hP hD o10 o11 o12 o13 o14 o15 f1 f2 f3 f4 hpr (fr.wd frwl58 : fr _ _ 10 15) ls locs (lv_sub hl [0, 2] rfl) hS
              · refine lv_aload_n hx hb dX1_find_63 rfl (lv_at hl 2 rfl) ?_
                refine va_get (ci := 1) (C := RX1) (T := TX1) (N := 8) hx hb hts hinX1 hown hK hP 10 o10 rfl 4 (by decide) k22 (fun _ h9 => h9) rfl dX1_find_64 ?_
                refine lv_iload_n hx hb dX1_find_67 rfl (lv_at hl 1 rfl) ?_
                refine lv_iconst (v := nI 4) hx hb dX1_find_68 ci_4 ?_
                refine lv_imul hx hb dX1_find_69 ?_
                refine sv_top (y := nI (4 * sv)) (mul_c _ _) ?_
                refine lv_iload_n hx hb dX1_find_70 rfl (lv_at hl 0 rfl) ?_
                refine lv_iadd hx hb dX1_find_71 ?_
                refine sv_top (y := nI (4 * sv + tl)) (nI_add _ _) ?_
                refine lv_aload_n hx hb dX1_find_72 rfl (lv_at hl 2 rfl) ?_
                refine lv_iload_n hx hb dX1_find_73 rfl (lv_at hl 1 rfl) ?_
                refine lv_iload_n hx hb dX1_find_74 rfl (lv_at hl 0 rfl) ?_
                refine pcV (c_X1_fewestFrom hP ⟨o10, o11, o12, o13, o14, o15⟩ hpr hI (by omega) upX_s hT i58_1) ⟨hx, hb, hml, hown, hts⟩ hK gX1_find_X1_fewestFrom rfl hd_X1_fewestFrom ⟨by omega, by omega⟩ (va_recv hK hP (ci := 1) (q0 := 10) rfl o10) rfl hl.1 rfl (Nat.le_of_ble_eq_true rfl) dX1_find_75 ⟨Nat.zero_le _, Nat.zero_le _⟩ hS (fun locs hS => ?_)
                refine sv_iast hx hb hK hP hD hS 14 o14 (j := 4 * sv + tl) (by omega) (by decide) dX1_find_78 (fun ws18 H locs hP hD hS o14 fr17 => ?_)
                replace o10 := (fr17 10 (by decide)).trans o10
                replace o11 := (fr17 11 (by decide)).trans o11
                replace o12 := (fr17 12 (by decide)).trans o12
                replace o13 := (fr17 13 (by decide)).trans o13
                replace o15 := (fr17 15 (by decide)).trans o15
                replace f1 := (fr17 1 (by decide)).trans f1
                replace f2 := (fr17 2 (by decide)).trans f2
                replace f3 := (fr17 3 (by decide)).trans f3
                replace f4 := (fr17 4 (by decide)).trans f4
                replace hpr := hpr.fr fr17
                rw [upd_X] at o14
                refine lv_iinc (v := nI (tl + 1)) (lv' := [(2, .int (nI (tl + 1))), (1, .int (nI sv)), (0, .ref h)]) hx hb dX1_find_79 hl (k := 0) rfl (nI_1 _) (by decide) rfl (fun ls hl => ?_)
                refine lv_goto (tgt := 58) hx hb dX1_find_82 (by decide) ?_
                exact ih58 (tl + 1) ((upX gh (4 * sv + tl) (nI (fwF C Hd b q T n (cgv C Hd b q T n) (nI tl) sv)))) (by omega) _ _ (by omega) (fun s t h1 h2 ht => by rw [upX_n (by omega)]; exact i58_1 s t h1 h2 ht) (fun t ht => by rcases Nat.lt_or_ge t tl with w | w; rw [upX_n (by omega)]; exact i58_2 t w; rw [show t = tl by omega, upX_s, cgv_eq hT (by omega) (by omega)]) hP hD o10 o11 o12 o13 o14 o15 f1 f2 f3 f4 hpr ((fr.wd frwl58 : fr _ _ 10 15).tr fr17) ls locs (lv_sub hl [0, 1, 2] rfl) hS
          exact L58 ((4 - 0) + 1) 0 gg (Nat.lt_succ_self _) _ _ (by omega) (fun s t h1 h2 ht => (i16_1 s (by omega) h2).2.2.2 t ht) (fun t ht => absurd ht (Nat.not_lt_zero _)) hP hD o10 o11 o12 o13 o14 o15 f1 f2 f3 f4 hpr ((((fr.wd frwl16 : fr _ _ 10 15).tr fr10).tr fr12).tr fr14) ls locs (lv_sub hl [0, 1, 2] rfl) hS
    have e1 : nI (2 ^ n - 1) = smI (2 ^ n) := (show _ = smI (2 ^ n) from (if_neg (by omega)).symm)
    rw [e1] at hl
    exact L16 (((2 ^ n)) + 1) (2 ^ n) Sn fx fo fg (Nat.lt_succ_self _) _ _ (Nat.le_refl _) (fun s h1 h2 => absurd h1 (by omega)) hP hD o10 o11 o12 o13 o14 o15 f1 f2 f3 f4 hpr fr.rf ls locs (lv_sub hl [0, 1] rfl) hS
  · exact hret 7 ls _ _ locs dX1_find_7 hP hD hS (⟨⟨Sn, fx, fo, fg, fb, fe, by rw [c1] at o10; exact ⟨o10, o11, o12, o13, o14, o15⟩, hkn c1⟩, fr.rf⟩)
set_option maxHeartbeats 4000000 in
set_option maxRecDepth 100000 in
theorem c_X1_forget {l : Launch} {D : va_G} {ky : kT} {A : Nat → Prop} {Hs : Heap} {ws : va_W} (hP : va_P D CL ws Hs) (hD : va_D A ws) {h hp b1 b2 b3 b4 b5 : Nat} {Sn : Nat → Bool} {fx fo fg fb : Nat → Int32} {fe : Int32} {kn : Bool} (hod : isOrd ky ws h hp b1 b2 b3 b4 b5 Sn fx fo fg fb fe kn) : MV l yX1_forget wsX1_forget 0 0 0 0 D ky A Hs [.ref h] (fun w => isOrd ky w h hp b1 b2 b3 b4 b5 Sn fx fo fg fb fe false ∧ fr ws w 10 15) := by
  refine MV.of (cc := cX1_forget) (maxL := 1) (by decide) rfl (Nat.le_of_ble_eq_true rfl) ?_
  intro pg en Rm sg mi av below meth co Qo hRf hRl hRc hRs hx hb hml hown hin hts hK hret ls hl
  have hl : lv_has ls 1 [(0, .ref h)] := hl
  have hS : va_S A Hs Hs [] := va_S.rf
  generalize ([] : List Loc) = locs at hS ⊢
  obtain ⟨o10, o11, o12, o13, o14, o15⟩ := id hod
  have k32 := hts (.fieldLink RX1 32 "AssemblyPlanner$Ordering" "known" "Z") (by decide +kernel)
  have hinX1 : ∀ w ∈ wsX10, w ∈ wsX1_forget := by decide +kernel
  refine lv_aload_n hx hb dX1_forget_0 rfl (lv_at hl 0 rfl) ?_
  refine lv_iconst (v := nI 0) hx hb dX1_forget_1 ci_0 ?_
  refine W.eq (g2 := F0 mi 2 ls (.int (bI false) :: .ref h :: [])) rfl ?_
  refine sv_put (ci := 1) (C := RX1) (T := TX1) (N := 8) hx hb hts hinX1 tyX1 tyX1_ok nmX1 hown hK hP hD hS 10 o10 rfl 7 (by decide) k32 (fun _ h9 => h9) rfl .boolean (by decide +kernel) (bI_nar _) (bI_fit _) [.ref hp, .ref b1, .ref b2, .ref b3, .ref b4, .ref b5, .int fe, .int (bI false)] (Nat.le_of_ble_eq_true rfl) rfl dX1_forget_2 (fun ws2 H locs hP hD hS o10 fr1 => ?_)
  replace o11 := (fr1 11 (by decide)).trans o11
  replace o12 := (fr1 12 (by decide)).trans o12
  replace o13 := (fr1 13 (by decide)).trans o13
  replace o14 := (fr1 14 (by decide)).trans o14
  replace o15 := (fr1 15 (by decide)).trans o15
  exact hret 5 ls _ _ locs dX1_forget_5 hP hD hS (⟨⟨o10, o11, o12, o13, o14, o15⟩, (fr.wd fr1 : fr _ _ 10 15)⟩)
set_option maxHeartbeats 4000000 in
set_option maxRecDepth 100000 in
theorem c_X1_possible {l : Launch} {D : va_G} {ky : kT} {A : Nat → Prop} {Hs : Heap} {ws : va_W} (hP : va_P D CL ws Hs) (hD : va_D A ws) {h hp b1 b2 b3 b4 b5 : Nat} {Sn : Nat → Bool} {fx fo fg fb : Nat → Int32} {fe : Int32} {kn : Bool} (hod : isOrd ky ws h hp b1 b2 b3 b4 b5 Sn fx fo fg fb fe kn) {n : Nat} {T C Hd : Nat → Nat} {b : Nat} {q : Bool} (hpr : isProd ky ws hp n T C Hd b q) (hI : PI0 n C Hd b) (hT : ∀ p, T p < 4) (hkn : kn = true → kdOK C Hd b q T n Sn fx fo fg fb fe) : MU l yX1_possible wsX1_possible 5 116 0 0 D ky A Hs [.ref h] (fun r w => r = nI (ord C Hd b q n 0) ∧ OTG ky w h hp b1 b2 b3 b4 b5 n T C Hd b q ∧ fr ws w 10 15) := by
  refine MU.of (cc := cX1_possible) (maxL := 1) (ty := .int) (by decide) rfl (Nat.le_of_ble_eq_true rfl) ?_
  intro pg en Rm sg mi av below meth co Qo hRf hRl hRc hRs hx hb hml hown hts hK hret ls hl
  have hl : lv_has ls 1 [(0, .ref h)] := hl
  have hS : va_S A Hs Hs [] := va_S.rf
  generalize ([] : List Loc) = locs at hS ⊢
  obtain ⟨o10, o11, o12, o13, o14, o15⟩ := id hod
  obtain ⟨a1, a2, a3, f1, f2, f3, f4⟩ := id hpr
  have hn8 := hI.1
  have hp2 : 2 ^ n ≤ 256 := p2_le hn8
  have k19 := hts (.fieldLink RX1 19 "AssemblyPlanner$Ordering" "orders" "[I") (by decide +kernel)
  have hinX1 : ∀ w ∈ wsX10, w ∈ wsX1_possible := by decide +kernel
  refine lv_aload_n hx hb dX1_possible_0 rfl (lv_at hl 0 rfl) ?_
  refine mvV (c_X1_find hP hD ⟨o10, o11, o12, o13, o14, o15⟩ hpr hI hT hkn) ⟨hx, hb, hml, hown, hts⟩ hK gX1_possible_X1_find rfl hd_X1_find ⟨by omega, by omega⟩ (va_recv hK hP (ci := 1) (q0 := 10) rfl o10) rfl hl.1 rfl (Nat.le_of_ble_eq_true rfl) dX1_possible_1 ⟨Nat.zero_le _, Nat.zero_le _⟩ hS (fun ws1 H locs hq3 hP hD hS => ?_)
  obtain ⟨⟨Dn, gx, go, gg, gb, ge, hod, hok1, rfl, hbe⟩, fr2⟩ := hq3
  replace f1 := (fr2 1 (by decide)).trans f1
  replace f2 := (fr2 2 (by decide)).trans f2
  replace f3 := (fr2 3 (by decide)).trans f3
  replace f4 := (fr2 4 (by decide)).trans f4
  replace hpr := hpr.fr fr2
  obtain ⟨o10, o11, o12, o13, o14, o15⟩ := hod
  refine lv_aload_n hx hb dX1_possible_4 rfl (lv_at hl 0 rfl) ?_
  refine va_get (ci := 1) (C := RX1) (T := TX1) (N := 8) hx hb hts hinX1 hown hK hP 10 o10 rfl 3 (by decide) k19 (fun _ h9 => h9) rfl dX1_possible_5 ?_
  refine lv_iconst (v := nI 0) hx hb dX1_possible_8 ci_0 ?_
  refine sv_iald hx hb hK hP 13 o13 (j := 0) (by omega) (by decide) dX1_possible_9 ?_
  refine W.eq (g2 := F0 mi 10 ls (.int (go 0) :: [])) rfl ?_
  exact hret 10 ls _ _ locs _ dX1_possible_10 hP hD hS rfl (⟨(hok1 0 (Nat.zero_le _) (Nat.two_pow_pos n)).2.2.1, ⟨Dn, gx, go, gg, gb, _, true, ⟨o10, o11, o12, o13, o14, o15⟩, fun _ => ⟨hok1, rfl, hbe⟩⟩, (fr.wd fr2 : fr _ _ 10 15)⟩)
set_option maxHeartbeats 4000000 in
set_option maxRecDepth 100000 in
theorem c_X1_fewestBySets {l : Launch} {D : va_G} {ky : kT} {A : Nat → Prop} {Hs : Heap} {ws : va_W} (hP : va_P D CL ws Hs) (hD : va_D A ws) {h hp b1 b2 b3 b4 b5 : Nat} {Sn : Nat → Bool} {fx fo fg fb : Nat → Int32} {fe : Int32} {kn : Bool} (hod : isOrd ky ws h hp b1 b2 b3 b4 b5 Sn fx fo fg fb fe kn) {n : Nat} {T C Hd : Nat → Nat} {b : Nat} {q : Bool} (hpr : isProd ky ws hp n T C Hd b q) (hI : PI0 n C Hd b) (hT : ∀ p, T p < 4) (hkn : kn = true → kdOK C Hd b q T n Sn fx fo fg fb fe) : MU l yX1_fewestBySets wsX1_fewestBySets 5 116 0 0 D ky A Hs [.ref h] (fun r w => r = orN (few C Hd b q T n) ∧ OTG ky w h hp b1 b2 b3 b4 b5 n T C Hd b q ∧ fr ws w 10 15) := by
  refine MU.of (cc := cX1_fewestBySets) (maxL := 1) (ty := .int) (by decide) rfl (Nat.le_of_ble_eq_true rfl) ?_
  intro pg en Rm sg mi av below meth co Qo hRf hRl hRc hRs hx hb hml hown hts hK hret ls hl
  have hl : lv_has ls 1 [(0, .ref h)] := hl
  have hS : va_S A Hs Hs [] := va_S.rf
  generalize ([] : List Loc) = locs at hS ⊢
  obtain ⟨o10, o11, o12, o13, o14, o15⟩ := id hod
  obtain ⟨a1, a2, a3, f1, f2, f3, f4⟩ := id hpr
  have hn8 := hI.1
  have hp2 : 2 ^ n ≤ 256 := p2_le hn8
  have k39 := hts (.fieldLink RX1 39 "AssemblyPlanner$Ordering" "fewest" "I") (by decide +kernel)
  have hinX1 : ∀ w ∈ wsX10, w ∈ wsX1_fewestBySets := by decide +kernel
  refine lv_aload_n hx hb dX1_fewestBySets_0 rfl (lv_at hl 0 rfl) ?_
  refine mvV (c_X1_find hP hD ⟨o10, o11, o12, o13, o14, o15⟩ hpr hI hT hkn) ⟨hx, hb, hml, hown, hts⟩ hK gX1_fewestBySets_X1_find rfl hd_X1_find ⟨by omega, by omega⟩ (va_recv hK hP (ci := 1) (q0 := 10) rfl o10) rfl hl.1 rfl (Nat.le_of_ble_eq_true rfl) dX1_fewestBySets_1 ⟨Nat.zero_le _, Nat.zero_le _⟩ hS (fun ws1 H locs hq3 hP hD hS => ?_)
  obtain ⟨⟨Dn, gx, go, gg, gb, ge, hod, hok1, rfl, hbe⟩, fr2⟩ := hq3
  replace f1 := (fr2 1 (by decide)).trans f1
  replace f2 := (fr2 2 (by decide)).trans f2
  replace f3 := (fr2 3 (by decide)).trans f3
  replace f4 := (fr2 4 (by decide)).trans f4
  replace hpr := hpr.fr fr2
  obtain ⟨o10, o11, o12, o13, o14, o15⟩ := hod
  refine lv_aload_n hx hb dX1_fewestBySets_4 rfl (lv_at hl 0 rfl) ?_
  refine va_get (ci := 1) (C := RX1) (T := TX1) (N := 8) hx hb hts hinX1 hown hK hP 10 o10 rfl 6 (by decide) k39 (fun _ h9 => h9) rfl dX1_fewestBySets_5 ?_
  refine pcS (c_X1_orNone (Nat.lt_of_le_of_lt fwF_1000 (by decide) : few C Hd b q T n < 2 ^ 31)) ⟨hx, hb, hml, hown, hts⟩ hK gX1_fewestBySets_X1_orNone rfl hd_X1_orNone ⟨by omega, by omega⟩ rfl hl.1 rfl (Nat.le_of_ble_eq_true rfl) dX1_fewestBySets_8 ⟨Nat.zero_le _, Nat.zero_le _⟩ hS (fun locs hS => ?_)
  exact hret 11 ls _ _ locs _ dX1_fewestBySets_11 hP hD hS rfl (⟨rfl, ⟨Dn, gx, go, gg, gb, _, true, ⟨o10, o11, o12, o13, o14, o15⟩, fun _ => ⟨hok1, rfl, hbe⟩⟩, (fr.wd fr2 : fr _ _ 10 15)⟩)
set_option maxHeartbeats 4000000 in
set_option maxRecDepth 100000 in
theorem c_X1_bestAt {l : Launch} {D : va_G} {ky : kT} {A : Nat → Prop} {Hs : Heap} {ws : va_W} (hP : va_P D CL ws Hs) (hD : va_D A ws) {h hp b1 b2 b3 b4 b5 : Nat} {Sn : Nat → Bool} {fx fo fg fb : Nat → Int32} {fe : Int32} {kn : Bool} (hod : isOrd ky ws h hp b1 b2 b3 b4 b5 Sn fx fo fg fb fe kn) {n : Nat} {T C Hd : Nat → Nat} {b : Nat} {q : Bool} (hpr : isProd ky ws hp n T C Hd b q) (hI : PI0 n C Hd b) (hT : ∀ p, T p < 4) (hkn : kn = true → kdOK C Hd b q T n Sn fx fo fg fb fe) {x : Int32} : MU l yX1_bestAt wsX1_bestAt 5 116 0 0 D ky A Hs [.ref h, .int x] (fun r w => r = baV C Hd b q T n x ∧ OTG ky w h hp b1 b2 b3 b4 b5 n T C Hd b q ∧ fr ws w 10 15) := by
  refine MU.of (cc := cX1_bestAt) (maxL := 2) (ty := .int) (by decide) rfl (Nat.le_of_ble_eq_true rfl) ?_
  intro pg en Rm sg mi av below meth co Qo hRf hRl hRc hRs hx hb hml hown hts hK hret ls hl
  have hl : lv_has ls 2 [(0, .ref h), (1, .int x)] := hl
  have hS : va_S A Hs Hs [] := va_S.rf
  generalize ([] : List Loc) = locs at hS ⊢
  obtain ⟨o10, o11, o12, o13, o14, o15⟩ := id hod
  obtain ⟨a1, a2, a3, f1, f2, f3, f4⟩ := id hpr
  have hn8 := hI.1
  have hp2 : 2 ^ n ≤ 256 := p2_le hn8
  have k28 := hts (.fieldLink RX1 28 "AssemblyPlanner$Ordering" "product" "LAssemblyPlanner$Product;") (by decide +kernel)
  have hinX1 : ∀ w ∈ wsX10, w ∈ wsX1_bestAt := by decide +kernel
  have k39 := hts (.fieldLink RX1 39 "AssemblyPlanner$Ordering" "fewest" "I") (by decide +kernel)
  have k25 := hts (.fieldLink RX1 25 "AssemblyPlanner$Ordering" "best" "[I") (by decide +kernel)
  refine lv_iload_n hx hb dX1_bestAt_0 rfl (lv_at hl 1 rfl) ?_
  refine lv_if_lt (tgt := 15) hx hb dX1_bestAt_1 (by decide) (fun c1 => ?_) (fun c1 => ?_)
  · refine lv_iconst (v := -1) hx hb dX1_bestAt_15 ci_m1 ?_
    exact hret 16 ls _ _ locs _ dX1_bestAt_16 hP hD hS rfl (⟨(if_pos c1).symm, ⟨Sn, fx, fo, fg, fb, fe, kn, ⟨o10, o11, o12, o13, o14, o15⟩, hkn⟩, fr.rf⟩)
  · refine lv_iload_n hx hb dX1_bestAt_4 rfl (lv_at hl 1 rfl) ?_
    refine lv_aload_n hx hb dX1_bestAt_5 rfl (lv_at hl 0 rfl) ?_
    refine va_get (ci := 1) (C := RX1) (T := TX1) (N := 8) hx hb hts hinX1 hown hK hP 10 o10 rfl 0 (by decide) k28 (fun _ h9 => h9) rfl dX1_bestAt_6 ?_
    refine pcV (c_X3_count hP hpr hI) ⟨hx, hb, hml, hown, hts⟩ hK gX1_bestAt_X3_count rfl hd_X3_count ⟨by omega, by omega⟩ (va_recv hK hP (ci := 3) (q0 := 1) rfl f1) rfl hl.1 rfl (Nat.le_of_ble_eq_true rfl) dX1_bestAt_9 ⟨Nat.zero_le _, Nat.zero_le _⟩ hS (fun locs hS => ?_)
    refine lv_icmp_lt (tgt := 17) hx hb dX1_bestAt_12 (by decide) (fun c2 => ?_) (fun c2 => ?_)
    · obtain ⟨pl, hpl, rfl⟩ := ap_ix c1 c2 hn8
      refine lv_aload_n hx hb dX1_bestAt_17 rfl (lv_at hl 0 rfl) ?_
      refine mvV (c_X1_find hP hD ⟨o10, o11, o12, o13, o14, o15⟩ hpr hI hT hkn) ⟨hx, hb, hml, hown, hts⟩ hK gX1_bestAt_X1_find rfl hd_X1_find ⟨by omega, by omega⟩ (va_recv hK hP (ci := 1) (q0 := 10) rfl o10) rfl hl.1 rfl (Nat.le_of_ble_eq_true rfl) dX1_bestAt_18 ⟨Nat.zero_le _, Nat.zero_le _⟩ hS (fun ws3 H locs hq5 hP hD hS => ?_)
      obtain ⟨⟨Dn, gx, go, gg, gb, ge, hod, hok1, rfl, hbe⟩, fr4⟩ := hq5
      replace f1 := (fr4 1 (by decide)).trans f1
      replace f2 := (fr4 2 (by decide)).trans f2
      replace f3 := (fr4 3 (by decide)).trans f3
      replace f4 := (fr4 4 (by decide)).trans f4
      replace hpr := hpr.fr fr4
      obtain ⟨o10, o11, o12, o13, o14, o15⟩ := hod
      refine lv_aload_n hx hb dX1_bestAt_21 rfl (lv_at hl 0 rfl) ?_
      refine va_get (ci := 1) (C := RX1) (T := TX1) (N := 8) hx hb hts hinX1 hown hK hP 10 o10 rfl 6 (by decide) k39 (fun _ h9 => h9) rfl dX1_bestAt_22 ?_
      refine lv_sipush (v := nI 1000) hx hb dX1_bestAt_25 si_1000 ?_
      refine sn_icmp_ne (tgt := 35) hx hb dX1_bestAt_28 (by decide) (Nat.lt_of_le_of_lt fwF_1000 (by decide) : few C Hd b q T n < 2 ^ 31) (by decide) (fun c6 => ?_) (fun c6 => ?_)
      · refine lv_aload_n hx hb dX1_bestAt_35 rfl (lv_at hl 0 rfl) ?_
        refine va_get (ci := 1) (C := RX1) (T := TX1) (N := 8) hx hb hts hinX1 hown hK hP 10 o10 rfl 5 (by decide) k25 (fun _ h9 => h9) rfl dX1_bestAt_36 ?_
        refine lv_iload_n hx hb dX1_bestAt_39 rfl (lv_at hl 1 rfl) ?_
        refine sv_iald hx hb hK hP 15 o15 (j := pl) (by omega) (by decide) dX1_bestAt_40 ?_
        refine W.eq (g2 := F0 mi 41 ls (.int (gb pl) :: [])) rfl ?_
        exact hret 41 ls _ _ locs _ dX1_bestAt_41 hP hD hS rfl (⟨by rw [baV_in hpl hn8, if_neg c6]; exact hbe pl hpl (fun i hi => bp_ok hn8 hT (Nat.lt_of_le_of_ne fwF_1000 c6) (by omega)), ⟨Dn, gx, go, gg, gb, _, true, ⟨o10, o11, o12, o13, o14, o15⟩, fun _ => ⟨hok1, rfl, hbe⟩⟩, (fr.wd fr4 : fr _ _ 10 15)⟩)
      · refine lv_iconst (v := -1) hx hb dX1_bestAt_31 ci_m1 ?_
        refine lv_goto (tgt := 41) hx hb dX1_bestAt_32 (by decide) ?_
        exact hret 41 ls _ _ locs _ dX1_bestAt_41 hP hD hS rfl (⟨by rw [baV_in hpl hn8, if_pos c6], ⟨Dn, gx, go, gg, gb, _, true, ⟨o10, o11, o12, o13, o14, o15⟩, fun _ => ⟨hok1, rfl, hbe⟩⟩, (fr.wd fr4 : fr _ _ 10 15)⟩)
    · refine lv_iconst (v := -1) hx hb dX1_bestAt_15 ci_m1 ?_
      exact hret 16 ls _ _ locs _ dX1_bestAt_16 hP hD hS rfl (⟨((if_neg c1).trans (if_neg c2)).symm, ⟨Sn, fx, fo, fg, fb, fe, kn, ⟨o10, o11, o12, o13, o14, o15⟩, hkn⟩, fr.rf⟩)

