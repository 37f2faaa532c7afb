theorem hd_X5_best : yX5_best.cls = RX5 ∧ yX5_best.cls ≠ "java/lang/invoke/MethodHandle" ∧ yX5_best.cls ≠ "java/lang/invoke/VarHandle" ∧ (parseMethodDescriptor yX5_best.desc).map (fun d => d.parameters.length) = some 0 := by decide +kernel
theorem hd_X5_laysChanges : yX5_laysChanges.cls = RX5 ∧ yX5_laysChanges.cls ≠ "java/lang/invoke/MethodHandle" ∧ yX5_laysChanges.cls ≠ "java/lang/invoke/VarHandle" ∧ (parseMethodDescriptor yX5_laysChanges.desc).map (fun d => d.parameters.length) = some 0 := by decide +kernel
theorem sh8b : ∀ k, k < 8 → 8 * 2 ^ k < 2 ^ 32 := by decide
theorem m8b : ∀ k, k < 8 → 8 * 2 ^ k + k < 2048 := by decide
theorem fm_le {C Hd : Nat → Nat} {b : Nat} {q : Bool} {T : Nat → Nat} {n k : Nat} (hn1 : 0 < n) (hn : n ≤ 8) (hk : k ≤ n) : itr (fmS C Hd b q T n) k 1000 ≤ 1000 := by
  rw [few_mc hn1 hn k hk]; exact fwF_le k 1000
def fnI (n v : Nat) : Int32 := if v < n then nI v else -1
theorem bq_x {C Hd : Nat → Nat} {b : Nat} {q : Bool} {T : Nat → Nat} {n p : Nat} (h : ¬ p = 0) : (bq C Hd b q T n p).2.1 = nI (T (bp C Hd b q T n (p - 1))) := by
  obtain ⟨z, rfl⟩ : ∃ z, p = z + 1 := ⟨p - 1, by omega⟩
  rfl
theorem bq_left {C Hd : Nat → Nat} {b : Nat} {q : Bool} {T : Nat → Nat} {n p : Nat} (hT : ∀ p, T p < 4) (hS : (bq C Hd b q T n p).1 < 2 ^ n) (hb : bp C Hd b q T n p < n) : mcv C Hd b q T n ((bq C Hd b q T n p).1 ||| 2 ^ bp C Hd b q T n p) (bp C Hd b q T n p) = (bq C Hd b q T n (p + 1)).2.2 := by
  obtain ⟨l1, l2⟩ := lnx_yes hb
  have g := cad_gt l1 hS hb
  have e : (bq C Hd b q T n (p + 1)).2.2 = (bq C Hd b q T n p).2.2 - chI (bq C Hd b q T n p).2.1 (T (bp C Hd b q T n p)) := rfl
  have g1 : (bq C Hd b q T n p).1.testBit (bp C Hd b q T n p) = false := g.1
  have l3' : cad C Hd b q (bq C Hd b q T n p).1 (bp C Hd b q T n p) = true := l1
  rw [e, mcv_in g1, if_pos l3']
  show cgv C Hd b q T n (4 * ((bq C Hd b q T n p).1 ||| 2 ^ bp C Hd b q T n p) + T (bp C Hd b q T n p)) = _
  have l3 : chI (bq C Hd b q T n p).2.1 (T (bp C Hd b q T n p)) + cgv C Hd b q T n (4 * ((bq C Hd b q T n p).1 ||| 2 ^ bp C Hd b q T n p) + T (bp C Hd b q T n p)) = (bq C Hd b q T n p).2.2 := l2
  omega
set_option maxHeartbeats 4000000 in
set_option maxRecDepth 100000 in
theorem c_X5_best {l : Launch} {D : va_G} {ky : kT} {A : Nat → Prop} {Hs : Heap} {ws : va_W} (hP : va_P D CL ws Hs) (hD : va_D A ws) {h th n : Nat} {T C Hd : Nat → Nat} {b : Nat} {q : Bool} {J : Nat → Nat} {bg : Bool} {pu bu : Nat} {cl mo : Int32} {K : Nat → Nat} {fw fd fc fg fo : Nat → Int32} (hpr : isMod ky ws h th n T C Hd b q J bg pu bu cl mo K fw fd fc fg fo) (hI : PI0 n C Hd b) (hT : ∀ p, T p < 4) (hn1 : 0 < n) : MU l yX5_best wsX5_best 5 115 0 0 D ky A Hs [.ref h] (fun r w => r = orN (few C Hd b q T n) ∧ (∃ gg go : Nat → Int32, isMod ky w h th n T C Hd b q J bg pu bu cl mo K fw fd fc gg go ∧ (few C Hd b q T n < 1000 → ∀ j, j < n → go j = nI (bp C Hd b q T n j))) ∧ fr ws w 19 29) := by
  refine MU.of (cc := cX5_best) (maxL := 9) (ty := .int) (by decide) rfl (Nat.le_of_ble_eq_true rfl) ?_
  intro pg en Rm sg mi av below meth co Qo hRf hRl hRc hRs hx hb hml hown hts hK hret ls hl
  have hl : lv_has ls 9 [(0, .ref h)] := hl
  have hS : va_S A Hs Hs [] := va_S.rf
  generalize ([] : List Loc) = locs at hS ⊢
  obtain ⟨a1, a2, a3, a4, a5, a6, a7, a8, a9, a10, g19, g20, g21, g22, g23, g24, g25, g26, g27, g28, g29⟩ := id hpr
  have hn8 := hI.1
  have hp2 := p2_le hn8
  have k44 := hts (.fieldLink RX5 44 "AssemblyPlannerModel" "parts" "I") (by decide +kernel)
  have hinX5 : ∀ w ∈ wsX50, w ∈ wsX5_best := by decide +kernel
  have k34 := hts (.fieldLink RX5 34 "AssemblyPlannerModel" "changes" "[I") (by decide +kernel)
  have k37 := hts (.fieldLink RX5 37 "AssemblyPlannerModel" "order" "[I") (by decide +kernel)
  have k7 := hts (.fieldLink RX5 7 "AssemblyPlannerModel" "tools" "[I") (by decide +kernel)
  refine lv_aload_n hx hb dX5_best_0 rfl (lv_at hl 0 rfl) ?_
  refine mvV (c_X5_laysChanges hP hD ⟨a1, a2, a3, a4, a5, a6, a7, a8, a9, a10, g19, g20, g21, g22, g23, g24, g25, g26, g27, g28, g29⟩ hI hT) ⟨hx, hb, hml, hown, hts⟩ hK gX5_best_X5_laysChanges rfl hd_X5_laysChanges ⟨by omega, by omega⟩ (va_recv hK hP (ci := 5) (q0 := 19) rfl g19) rfl hl.1 rfl (Nat.le_of_ble_eq_true rfl) dX5_best_1 ⟨Nat.zero_le _, Nat.zero_le _⟩ hS (fun ws1 H locs hq3 hP hD hS => ?_)
  obtain ⟨⟨gg, hpr, hlc⟩, fr2⟩ := hq3
  obtain ⟨a1, a2, a3, a4, a5, a6, a7, a8, a9, a10, g19, g20, g21, g22, g23, g24, g25, g26, g27, g28, g29⟩ := id hpr
  refine lv_sipush (v := nI 1000) hx hb dX5_best_4 si_1000 ?_
  refine lv_istore_n (lv' := [(1, .int (nI 1000)), (0, .ref h)]) hx hb dX5_best_7 rfl hl (by decide) rfl (fun ls hl => ?_)
  refine lv_iconst (v := nI 0) hx hb dX5_best_8 ci_0 ?_
  refine lv_istore_n (lv' := [(2, .int (nI 0)), (1, .int (nI 1000)), (0, .ref h)]) hx hb dX5_best_9 rfl hl (by decide) rfl (fun ls hl => ?_)
  have L10 : ∀ (L10d : Nat) (k : Nat), n - k < L10d → ∀ (wl10 : va_W) (H : Heap), k ≤ n → va_P D CL wl10 H → va_D A wl10 → wl10[19]? = some (h, .inr (5, [.int (nI th), .int (nI n), .ref a1, .ref a2, .ref a3, .int (nI b), .int (bI q), .ref a4, .int (bI bg), .int (nI pu), .int (nI bu), .int cl, .int mo, .ref a5, .ref a6, .ref a7, .ref a8, .ref a9, .ref a10])) → wl10[20]? = some (a1, .inl (ky.1, 8, .inl (fun i => nI (T i)))) → wl10[21]? = some (a2, .inl (ky.1, 8, .inl (fun i => nI (C i)))) → wl10[22]? = some (a3, .inl (ky.1, 48, .inl (fun i => nI (Hd i)))) → wl10[23]? = some (a4, .inl (ky.1, 8, .inl (fun i => nI (J i)))) → wl10[24]? = some (a5, .inl (ky.1, 8, .inl (fun i => nI (K i)))) → wl10[25]? = some (a6, .inl (ky.1, 256, .inl fw)) → wl10[26]? = some (a7, .inl (ky.1, 256, .inl fd)) → wl10[27]? = some (a8, .inl (ky.1, 256, .inl fc)) → wl10[28]? = some (a9, .inl (ky.1, 2048, .inl gg)) → wl10[29]? = some (a10, .inl (ky.1, 8, .inl fo)) → fr ws wl10 19 29 → ∀ (ls : Array Slot) (locs : List Loc), lv_has ls 9 [(1, .int (nI (itr (fmS C Hd b q T n) k 1000))), (2, .int (nI k)), (0, .ref h)] → va_S A Hs H locs → W pg l en Rm sg mi av below meth co H locs 0 0 Qo (F0 mi 10 ls []) := by
    intro L10d
    induction L10d with
    | zero => intro k hfu; exact absurd hfu (Nat.not_lt_zero _)
    | succ L10d ih10 =>
      intro k hfu wl10 H i10_0 hP hD g19 g20 g21 g22 g23 g24 g25 g26 g27 g28 g29 frwl10 ls locs hl hS
      refine lv_iload_n hx hb dX5_best_10 rfl (lv_at hl 1 rfl) ?_
      refine lv_aload_n hx hb dX5_best_11 rfl (lv_at hl 2 rfl) ?_
      refine va_get (ci := 5) (C := RX5) (T := TX5) (N := 19) hx hb hts hinX5 hown hK hP 19 g19 rfl 1 (by decide) k44 (fun _ h9 => h9) rfl dX5_best_12 ?_
      refine sn_icmp_ge (tgt := 55) hx hb dX5_best_15 (by decide) (by omega) (by omega) (fun c4 => ?_) (fun c4 => ?_)
      · have hfw : itr (fmS C Hd b q T n) k 1000 = few C Hd b q T n := by rw [show k = n by omega]; exact few_eq hn1 hn8
        rw [hfw] at hl
        refine lv_iload_n hx hb dX5_best_55 rfl (lv_at hl 0 rfl) ?_
        refine lv_sipush (v := nI 1000) hx hb dX5_best_56 si_1000 ?_
        refine sn_icmp_lt (tgt := 64) hx hb dX5_best_59 (by decide) (Nat.lt_of_le_of_lt fwF_1000 (by decide)) (by omega) (fun c5 => ?_) (fun c5 => ?_)
        · have hf := c5
          refine lv_iconst (v := nI 0) hx hb dX5_best_64 ci_0 ?_
          refine lv_istore_n (lv' := [(2, .int (nI 0)), (1, .int (nI (few C Hd b q T n))), (0, .ref h)]) hx hb dX5_best_65 rfl hl (by decide) rfl (fun ls hl => ?_)
          refine lv_iload_n hx hb dX5_best_66 rfl (lv_at hl 1 rfl) ?_
          refine lv_istore_n (lv' := [(3, .int (nI (few C Hd b q T n))), (2, .int (nI 0)), (1, .int (nI (few C Hd b q T n))), (0, .ref h)]) hx hb dX5_best_67 rfl hl (by decide) rfl (fun ls hl => ?_)
          refine lv_iconst (v := nI 0) hx hb dX5_best_68 ci_0 ?_
          refine lv_istore (lv' := [(4, .int (nI 0)), (3, .int (nI (few C Hd b q T n))), (2, .int (nI 0)), (1, .int (nI (few C Hd b q T n))), (0, .ref h)]) hx hb dX5_best_69 hl (by decide) rfl (fun ls hl => ?_)
          have L71 : ∀ (L71d : Nat) (p : Nat) (go : Nat → Int32), n - p < L71d → ∀ (wl71 : va_W) (H : Heap), p ≤ n → (∀ j, j < p → go j = nI (bp C Hd b q T n j)) → va_P D CL wl71 H → va_D A wl71 → wl71[19]? = some (h, .inr (5, [.int (nI th), .int (nI n), .ref a1, .ref a2, .ref a3, .int (nI b), .int (bI q), .ref a4, .int (bI bg), .int (nI pu), .int (nI bu), .int cl, .int mo, .ref a5, .ref a6, .ref a7, .ref a8, .ref a9, .ref a10])) → wl71[20]? = some (a1, .inl (ky.1, 8, .inl (fun i => nI (T i)))) → wl71[21]? = some (a2, .inl (ky.1, 8, .inl (fun i => nI (C i)))) → wl71[22]? = some (a3, .inl (ky.1, 48, .inl (fun i => nI (Hd i)))) → wl71[23]? = some (a4, .inl (ky.1, 8, .inl (fun i => nI (J i)))) → wl71[24]? = some (a5, .inl (ky.1, 8, .inl (fun i => nI (K i)))) → wl71[25]? = some (a6, .inl (ky.1, 256, .inl fw)) → wl71[26]? = some (a7, .inl (ky.1, 256, .inl fd)) → wl71[27]? = some (a8, .inl (ky.1, 256, .inl fc)) → wl71[28]? = some (a9, .inl (ky.1, 2048, .inl gg)) → wl71[29]? = some (a10, .inl (ky.1, 8, .inl go)) → fr ws wl71 19 29 → ∀ (ls : Array Slot) (locs : List Loc), lv_has ls 9 [(2, .int (nI ((bq C Hd b q T n p).1))), (3, .int (nI ((bq C Hd b q T n p).2.2))), (4, .int (nI p)), (1, .int (nI (few C Hd b q T n))), (0, .ref h)] → va_S A Hs H locs → W pg l en Rm sg mi av below meth co H locs 0 0 Qo (F0 mi 71 ls []) := by
            intro L71d
            induction L71d with
            | zero => intro p go hfu; exact absurd hfu (Nat.not_lt_zero _)
            | succ L71d ih71 =>
              intro p go hfu wl71 H i71_0 i71_1 hP hD g19 g20 g21 g22 g23 g24 g25 g26 g27 g28 g29 frwl71 ls locs hl hS
              refine lv_iload hx hb dX5_best_71 (lv_at hl 2 rfl) ?_
              refine lv_aload_n hx hb dX5_best_73 rfl (lv_at hl 4 rfl) ?_
              refine va_get (ci := 5) (C := RX5) (T := TX5) (N := 19) hx hb hts hinX5 hown hK hP 19 g19 rfl 1 (by decide) k44 (fun _ h9 => h9) rfl dX5_best_74 ?_
              refine sn_icmp_ge (tgt := 232) hx hb dX5_best_77 (by decide) (by omega) (by omega) (fun c6 => ?_) (fun c6 => ?_)
              · refine lv_iload_n hx hb dX5_best_232 rfl (lv_at hl 3 rfl) ?_
                exact hret 233 ls _ _ locs _ dX5_best_233 hP hD hS rfl (⟨by unfold orN; rw [if_neg (by omega)], ⟨gg, go, ⟨a1, a2, a3, a4, a5, a6, a7, a8, a9, a10, g19, g20, g21, g22, g23, g24, g25, g26, g27, g28, g29⟩, fun _ j hj => i71_1 j (by omega)⟩, (fr.wd frwl71 : fr _ _ 19 29)⟩)
              · have hq := bq_ok (C := C) (Hd := Hd) (b := b) (q := q) hn8 hT hf p i71_0
                have hbp := hq.2.2.2.2 c6
                have hq1 : (bq C Hd b q T n p).1 < 2 ^ 31 := lt_31 hq.1 hn8
                refine lv_iconst (v := -1) hx hb dX5_best_80 ci_m1 ?_
                refine lv_istore (lv' := [(5, .int (-1)), (2, .int (nI ((bq C Hd b q T n p).1))), (3, .int (nI ((bq C Hd b q T n p).2.2))), (4, .int (nI p)), (1, .int (nI (few C Hd b q T n))), (0, .ref h)]) hx hb dX5_best_81 hl (by decide) rfl (fun ls hl => ?_)
                refine lv_aload_n hx hb dX5_best_83 rfl (lv_at hl 5 rfl) ?_
                refine va_get (ci := 5) (C := RX5) (T := TX5) (N := 19) hx hb hts hinX5 hown hK hP 19 g19 rfl 1 (by decide) k44 (fun _ h9 => h9) rfl dX5_best_84 ?_
                refine lv_iconst (v := nI 1) hx hb dX5_best_87 ci_1 ?_
                refine lv_isub hx hb dX5_best_88 ?_
                refine sv_top (y := nI (n - 1)) (pk_sub (by omega)) ?_
                refine lv_istore (lv' := [(6, .int (nI (n - 1))), (5, .int (-1)), (2, .int (nI ((bq C Hd b q T n p).1))), (3, .int (nI ((bq C Hd b q T n p).2.2))), (4, .int (nI p)), (1, .int (nI (few C Hd b q T n))), (0, .ref h)]) hx hb dX5_best_89 hl (by decide) rfl (fun ls hl => ?_)
                have L91 : ∀ (L91d : Nat) (m : Nat) (v : Nat), m < L91d → ∀ (wl91 : va_W) (H : Heap), m ≤ n → m ≤ v → v ≤ n → ((∀ (_ : v < n), lnP C Hd b q T n (bq C Hd b q T n p).1 (bq C Hd b q T n p).2.1 (bq C Hd b q T n p).2.2 v = true)) → (∀ j, m ≤ j → j < v → lnP C Hd b q T n (bq C Hd b q T n p).1 (bq C Hd b q T n p).2.1 (bq C Hd b q T n p).2.2 j = false) → va_P D CL wl91 H → va_D A wl91 → wl91[19]? = some (h, .inr (5, [.int (nI th), .int (nI n), .ref a1, .ref a2, .ref a3, .int (nI b), .int (bI q), .ref a4, .int (bI bg), .int (nI pu), .int (nI bu), .int cl, .int mo, .ref a5, .ref a6, .ref a7, .ref a8, .ref a9, .ref a10])) → wl91[20]? = some (a1, .inl (ky.1, 8, .inl (fun i => nI (T i)))) → wl91[21]? = some (a2, .inl (ky.1, 8, .inl (fun i => nI (C i)))) → wl91[22]? = some (a3, .inl (ky.1, 48, .inl (fun i => nI (Hd i)))) → wl91[23]? = some (a4, .inl (ky.1, 8, .inl (fun i => nI (J i)))) → wl91[24]? = some (a5, .inl (ky.1, 8, .inl (fun i => nI (K i)))) → wl91[25]? = some (a6, .inl (ky.1, 256, .inl fw)) → wl91[26]? = some (a7, .inl (ky.1, 256, .inl fd)) → wl91[27]? = some (a8, .inl (ky.1, 256, .inl fc)) → wl91[28]? = some (a9, .inl (ky.1, 2048, .inl gg)) → wl91[29]? = some (a10, .inl (ky.1, 8, .inl go)) → fr ws wl91 19 29 → ∀ (ls : Array Slot) (locs : List Loc), lv_has ls 9 [(5, .int (fnI n v)), (6, .int (smI m)), (2, .int (nI ((bq C Hd b q T n p).1))), (3, .int (nI ((bq C Hd b q T n p).2.2))), (4, .int (nI p)), (1, .int (nI (few C Hd b q T n))), (0, .ref h)] → va_S A Hs H locs → W pg l en Rm sg mi av below meth co H locs 0 0 Qo (F0 mi 91 ls []) := by
                  intro L91d
                  induction L91d with
                  | zero => intro m v hfu; exact absurd hfu (Nat.not_lt_zero _)
                  | succ L91d ih91 =>
                    intro m v hfu wl91 H i91_0 i91_1 i91_2 i91_3 i91_4 hP hD g19 g20 g21 g22 g23 g24 g25 g26 g27 g28 g29 frwl91 ls locs hl hS
                    refine lv_iload hx hb dX5_best_91 (lv_at hl 1 rfl) ?_
                    refine lv_if_lt (tgt := 192) hx hb dX5_best_93 (by decide) (fun c7 => ?_) (fun c7 => ?_)
                    · obtain rfl : m = 0 := smI_0 c7 (by omega)
                      have hv : v = bp C Hd b q T n p := by
                        rcases Nat.lt_or_ge v n with z | z
                        · exact (lfi_eq z (i91_3 z) (fun j hj => i91_4 j (Nat.zero_le _) hj)).symm
                        · have h9 : bp C Hd b q T n p = n := lfi_none (fun j hj => i91_4 j (Nat.zero_le _) (by omega))
                          omega
                      rw [hv] at hl
                      have e5 : fnI n (bp C Hd b q T n p) = nI (bp C Hd b q T n p) := if_pos hbp
                      rw [e5] at hl
                      have hbl := bq_left hT hq.1 hbp
                      have hor : (bq C Hd b q T n p).1 ||| 2 ^ bp C Hd b q T n p < 2 ^ n := or_lt hq.1 (Nat.pow_lt_pow_right (by decide) hbp)
                      have hgb : 0 < (bq C Hd b q T n p).1 ||| 2 ^ bp C Hd b q T n p := Nat.lt_of_lt_of_le (Nat.two_pow_pos _) (sbs_le sbs_or2)
                      refine lv_aload_n hx hb dX5_best_192 rfl (lv_at hl 6 rfl) ?_
                      refine va_get (ci := 5) (C := RX5) (T := TX5) (N := 19) hx hb hts hinX5 hown hK hP 19 g19 rfl 17 (by decide) k34 (fun _ h9 => h9) rfl dX5_best_193 ?_
                      refine lv_bipush (v := nI 8) hx hb dX5_best_196 bi_8 ?_
                      refine lv_iload_n hx hb dX5_best_198 rfl (lv_at hl 2 rfl) ?_
                      refine lv_iconst (v := nI 1) hx hb dX5_best_199 ci_1 ?_
                      refine lv_iload hx hb dX5_best_200 (lv_at hl 0 rfl) ?_
                      refine lv_ishl hx hb dX5_best_202 ?_
                      refine sv_top (y := nI (2 ^ (bp C Hd b q T n p))) (sh_l1 (by omega)) ?_
                      refine lv_ior hx hb dX5_best_203 ?_
                      refine sv_top (y := nI (((bq C Hd b q T n p).1) ||| (2 ^ (bp C Hd b q T n p)))) (an_or _ _) ?_
                      refine lv_imul hx hb dX5_best_204 ?_
                      refine sv_top (y := nI (8 * (((bq C Hd b q T n p).1) ||| (2 ^ (bp C Hd b q T n p))))) (mul_n _ _) ?_
                      refine lv_iload hx hb dX5_best_205 (lv_at hl 0 rfl) ?_
                      refine lv_iadd hx hb dX5_best_207 ?_
                      refine sv_top (y := nI ((8 * (((bq C Hd b q T n p).1) ||| (2 ^ (bp C Hd b q T n p)))) + (bp C Hd b q T n p))) (nI_add _ _) ?_
                      refine sv_iald hx hb hK hP 28 g28 (j := (8 * (((bq C Hd b q T n p).1) ||| (2 ^ (bp C Hd b q T n p)))) + (bp C Hd b q T n p)) (by omega) (by decide) dX5_best_208 ?_
                      refine W.eq (g2 := F0 mi 209 ls (.int (gg ((8 * (((bq C Hd b q T n p).1) ||| (2 ^ (bp C Hd b q T n p)))) + (bp C Hd b q T n p))) :: [])) rfl ?_
                      refine sv_top (y := nI ((bq C Hd b q T n (p + 1)).2.2)) (by rw [← hbl]; exact hlc _ _ hgb hor hbp) ?_
                      refine lv_istore_n (lv' := [(3, .int (nI ((bq C Hd b q T n (p + 1)).2.2))), (5, .int (nI (bp C Hd b q T n p))), (6, .int (smI 0)), (2, .int (nI ((bq C Hd b q T n p).1))), (4, .int (nI p)), (1, .int (nI (few C Hd b q T n))), (0, .ref h)]) hx hb dX5_best_209 rfl hl (by decide) rfl (fun ls hl => ?_)
                      refine lv_iload_n hx hb dX5_best_210 rfl (lv_at hl 3 rfl) ?_
                      refine lv_iconst (v := nI 1) hx hb dX5_best_211 ci_1 ?_
                      refine lv_iload hx hb dX5_best_212 (lv_at hl 1 rfl) ?_
                      refine lv_ishl hx hb dX5_best_214 ?_
                      refine sv_top (y := nI (2 ^ (bp C Hd b q T n p))) (sh_l1 (by omega)) ?_
                      refine lv_ior hx hb dX5_best_215 ?_
                      refine sv_top (y := nI (((bq C Hd b q T n p).1) ||| (2 ^ (bp C Hd b q T n p)))) (an_or _ _) ?_
                      refine lv_istore_n (lv' := [(2, .int (nI (((bq C Hd b q T n p).1) ||| (2 ^ (bp C Hd b q T n p))))), (3, .int (nI ((bq C Hd b q T n (p + 1)).2.2))), (5, .int (nI (bp C Hd b q T n p))), (6, .int (smI 0)), (4, .int (nI p)), (1, .int (nI (few C Hd b q T n))), (0, .ref h)]) hx hb dX5_best_216 rfl hl (by decide) rfl (fun ls hl => ?_)
                      refine lv_aload_n hx hb dX5_best_217 rfl (lv_at hl 6 rfl) ?_
                      refine va_get (ci := 5) (C := RX5) (T := TX5) (N := 19) hx hb hts hinX5 hown hK hP 19 g19 rfl 18 (by decide) k37 (fun _ h9 => h9) rfl dX5_best_218 ?_
                      refine lv_iload hx hb dX5_best_221 (lv_at hl 4 rfl) ?_
                      refine lv_iload hx hb dX5_best_223 (lv_at hl 2 rfl) ?_
                      refine sv_iast hx hb hK hP hD hS 29 g29 (j := p) (by omega) (by decide) dX5_best_225 (fun ws9 H locs hP hD hS g29 fr8 => ?_)
                      replace g19 := (fr8 19 (by decide)).trans g19
                      replace g20 := (fr8 20 (by decide)).trans g20
                      replace g21 := (fr8 21 (by decide)).trans g21
                      replace g22 := (fr8 22 (by decide)).trans g22
                      replace g23 := (fr8 23 (by decide)).trans g23
                      replace g24 := (fr8 24 (by decide)).trans g24
                      replace g25 := (fr8 25 (by decide)).trans g25
                      replace g26 := (fr8 26 (by decide)).trans g26
                      replace g27 := (fr8 27 (by decide)).trans g27
                      replace g28 := (fr8 28 (by decide)).trans g28
                      rw [upd_X] at g29
                      refine lv_iinc (v := nI (p + 1)) (lv' := [(4, .int (nI (p + 1))), (2, .int (nI (((bq C Hd b q T n p).1) ||| (2 ^ (bp C Hd b q T n p))))), (3, .int (nI ((bq C Hd b q T n (p + 1)).2.2))), (5, .int (nI (bp C Hd b q T n p))), (6, .int (smI 0)), (1, .int (nI (few C Hd b q T n))), (0, .ref h)]) hx hb dX5_best_226 hl (k := 4) rfl (nI_1 _) (by decide) rfl (fun ls hl => ?_)
                      refine lv_goto (tgt := 71) hx hb dX5_best_229 (by decide) ?_
                      exact ih71 (p + 1) ((upX go p (nI (bp C Hd b q T n p)))) (by omega) _ _ (by omega) (fun j hj => by rcases Nat.lt_or_ge j p with z | z; rw [upX_n (by omega)]; exact i71_1 j z; rw [show j = p by omega]; exact upX_s) hP hD g19 g20 g21 g22 g23 g24 g25 g26 g27 g28 g29 ((fr.wd frwl91 : fr _ _ 19 29).tr fr8) ls locs (lv_sub hl [1, 2, 0, 5, 6] rfl) hS
                    · have hm0 := smI_n c7
                      obtain ⟨k, rfl⟩ : ∃ z, m = z + 1 := ⟨m - 1, by omega⟩
                      rw [smI_s] at hl
                      have hor : (bq C Hd b q T n p).1 ||| 2 ^ k < 2 ^ n := or_lt hq.1 (Nat.pow_lt_pow_right (by decide) (by omega))
                      have hmb := mcv_b (C := C) (Hd := Hd) (b := b) (q := q) (T := T) (n := n) (S := (bq C Hd b q T n p).1 ||| 2 ^ k) (k := k) hT hor
                      refine lv_iload hx hb dX5_best_96 (lv_at hl 4 rfl) ?_
                      refine sn_if_le (tgt := 129) hx hb dX5_best_98 (by decide) (by omega) (fun c10 => ?_) (fun c10 => ?_)
                      · have hch : chI (bq C Hd b q T n p).2.1 (T k) = 0 := by rw [c10]; exact if_pos rfl
                        have hln := lnP_mc (C := C) (Hd := Hd) (b := b) (q := q) (T := T) (n := n) (S := (bq C Hd b q T n p).1) hq.2.2.2.1 hch
                        refine lv_iconst (v := nI 0) hx hb dX5_best_129 ci_0 ?_
                        refine lv_istore (lv' := [(7, .int (nI 0)), (5, .int (fnI n v)), (6, .int (nI k)), (2, .int (nI ((bq C Hd b q T n p).1))), (3, .int (nI ((bq C Hd b q T n p).2.2))), (4, .int (nI p)), (1, .int (nI (few C Hd b q T n))), (0, .ref h)]) hx hb dX5_best_130 hl (by decide) rfl (fun ls hl => ?_)
                        refine lv_iload_n hx hb dX5_best_132 rfl (lv_at hl 3 rfl) ?_
                        refine lv_iload hx hb dX5_best_133 (lv_at hl 2 rfl) ?_
                        refine lv_ishr hx hb dX5_best_135 ?_
                        refine sv_top (y := nI (((bq C Hd b q T n p).1) / 2 ^ k)) (sh_r (by omega) hq1) ?_
                        refine lv_iconst (v := nI 1) hx hb dX5_best_136 ci_1 ?_
                        refine lv_iand hx hb dX5_best_137 ?_
                        refine sv_top (y := nI (((bq C Hd b q T n p).1) / 2 ^ k % 2)) (an_1) ?_
                        refine st_ifm_ne (tgt := 169) hx hb dX5_best_138 (by decide) (fun c11 => ?_) (fun c11 => ?_)
                        · refine lv_iconst (v := nI 0) hx hb dX5_best_169 ci_0 ?_
                          refine lv_istore (lv' := [(8, .int (nI 0)), (7, .int (nI 0)), (5, .int (fnI n v)), (6, .int (nI k)), (2, .int (nI ((bq C Hd b q T n p).1))), (3, .int (nI ((bq C Hd b q T n p).2.2))), (4, .int (nI p)), (1, .int (nI (few C Hd b q T n))), (0, .ref h)]) hx hb dX5_best_170 hl (by decide) rfl (fun ls hl => ?_)
                          refine lv_iload hx hb dX5_best_172 (lv_at hl 0 rfl) ?_
                          refine sn_if_eq (tgt := 182) hx hb dX5_best_174 (by decide) (by decide) (fun _ => ?_) (fun q => absurd q (by decide))
                          refine lv_iload hx hb dX5_best_182 (lv_at hl 2 rfl) ?_
                          refine lv_istore (lv' := [(5, .int (fnI n v)), (8, .int (nI 0)), (7, .int (nI 0)), (6, .int (nI k)), (2, .int (nI ((bq C Hd b q T n p).1))), (3, .int (nI ((bq C Hd b q T n p).2.2))), (4, .int (nI p)), (1, .int (nI (few C Hd b q T n))), (0, .ref h)]) hx hb dX5_best_184 hl (by decide) rfl (fun ls hl => ?_)
                          refine lv_iinc (v := smI k) (lv' := [(6, .int (smI k)), (5, .int (fnI n v)), (8, .int (nI 0)), (7, .int (nI 0)), (2, .int (nI ((bq C Hd b q T n p).1))), (3, .int (nI ((bq C Hd b q T n p).2.2))), (4, .int (nI p)), (1, .int (nI (few C Hd b q T n))), (0, .ref h)]) hx hb dX5_best_186 hl (k := 3) rfl (smI_p _) (by decide) rfl (fun ls hl => ?_)
                          refine lv_goto (tgt := 91) hx hb dX5_best_189 (by decide) ?_
                          exact ih91 k v (by omega) _ _ (by omega) (by omega) i91_2 i91_3 (fun j h1 h2 => by rcases Nat.lt_or_ge k j with z | z; exact i91_4 j z h2; rw [show j = k by omega]; exact (by rw [hln, c11]; rfl)) hP hD g19 g20 g21 g22 g23 g24 g25 g26 g27 g28 g29 (fr.wd frwl91 : fr _ _ 19 29) ls locs (lv_sub hl [1, 0, 4, 5, 6, 7, 8] rfl) hS
                        · refine lv_aload_n hx hb dX5_best_141 rfl (lv_at hl 7 rfl) ?_
                          refine va_get (ci := 5) (C := RX5) (T := TX5) (N := 19) hx hb hts hinX5 hown hK hP 19 g19 rfl 17 (by decide) k34 (fun _ h9 => h9) rfl dX5_best_142 ?_
                          refine lv_bipush (v := nI 8) hx hb dX5_best_145 bi_8 ?_
                          refine lv_iload_n hx hb dX5_best_147 rfl (lv_at hl 3 rfl) ?_
                          refine lv_iconst (v := nI 1) hx hb dX5_best_148 ci_1 ?_
                          refine lv_iload hx hb dX5_best_149 (lv_at hl 2 rfl) ?_
                          refine lv_ishl hx hb dX5_best_151 ?_
                          refine sv_top (y := nI (2 ^ k)) (sh_l1 (by omega)) ?_
                          refine lv_ior hx hb dX5_best_152 ?_
                          refine sv_top (y := nI (((bq C Hd b q T n p).1) ||| (2 ^ k))) (an_or _ _) ?_
                          refine lv_imul hx hb dX5_best_153 ?_
                          refine sv_top (y := nI (8 * (((bq C Hd b q T n p).1) ||| (2 ^ k)))) (mul_n _ _) ?_
                          refine lv_iload hx hb dX5_best_154 (lv_at hl 2 rfl) ?_
                          refine lv_iadd hx hb dX5_best_156 ?_
                          refine sv_top (y := nI ((8 * (((bq C Hd b q T n p).1) ||| (2 ^ k))) + k)) (nI_add _ _) ?_
                          refine sv_iald hx hb hK hP 28 g28 (j := (8 * (((bq C Hd b q T n p).1) ||| (2 ^ k))) + k) (by omega) (by decide) dX5_best_157 ?_
                          refine W.eq (g2 := F0 mi 158 ls (.int (gg ((8 * (((bq C Hd b q T n p).1) ||| (2 ^ k))) + k)) :: [])) rfl ?_
                          refine sv_top (y := nI (mcv C Hd b q T n ((bq C Hd b q T n p).1 ||| 2 ^ k) k)) (hlc _ _ (Nat.lt_of_lt_of_le (Nat.two_pow_pos k) (sbs_le sbs_or2)) hor (by omega)) ?_
                          refine lv_iload hx hb dX5_best_158 (lv_at hl 0 rfl) ?_
                          refine lv_iadd hx hb dX5_best_160 ?_
                          refine sv_top (y := nI ((mcv C Hd b q T n ((bq C Hd b q T n p).1 ||| 2 ^ k) k) + 0)) (nI_add _ _) ?_
                          refine lv_iload_n hx hb dX5_best_161 rfl (lv_at hl 4 rfl) ?_
                          refine sn_icmp_ne (tgt := 169) hx hb dX5_best_162 (by decide) (by omega) (Nat.lt_trans hq.2.2.2.1 (by decide)) (fun c13 => ?_) (fun c13 => ?_)
                          · refine lv_iconst (v := nI 0) hx hb dX5_best_169 ci_0 ?_
                            refine lv_istore (lv' := [(8, .int (nI 0)), (7, .int (nI 0)), (5, .int (fnI n v)), (6, .int (nI k)), (2, .int (nI ((bq C Hd b q T n p).1))), (3, .int (nI ((bq C Hd b q T n p).2.2))), (4, .int (nI p)), (1, .int (nI (few C Hd b q T n))), (0, .ref h)]) hx hb dX5_best_170 hl (by decide) rfl (fun ls hl => ?_)
                            refine lv_iload hx hb dX5_best_172 (lv_at hl 0 rfl) ?_
                            refine sn_if_eq (tgt := 182) hx hb dX5_best_174 (by decide) (by decide) (fun _ => ?_) (fun q => absurd q (by decide))
                            refine lv_iload hx hb dX5_best_182 (lv_at hl 2 rfl) ?_
                            refine lv_istore (lv' := [(5, .int (fnI n v)), (8, .int (nI 0)), (7, .int (nI 0)), (6, .int (nI k)), (2, .int (nI ((bq C Hd b q T n p).1))), (3, .int (nI ((bq C Hd b q T n p).2.2))), (4, .int (nI p)), (1, .int (nI (few C Hd b q T n))), (0, .ref h)]) hx hb dX5_best_184 hl (by decide) rfl (fun ls hl => ?_)
                            refine lv_iinc (v := smI k) (lv' := [(6, .int (smI k)), (5, .int (fnI n v)), (8, .int (nI 0)), (7, .int (nI 0)), (2, .int (nI ((bq C Hd b q T n p).1))), (3, .int (nI ((bq C Hd b q T n p).2.2))), (4, .int (nI p)), (1, .int (nI (few C Hd b q T n))), (0, .ref h)]) hx hb dX5_best_186 hl (k := 3) rfl (smI_p _) (by decide) rfl (fun ls hl => ?_)
                            refine lv_goto (tgt := 91) hx hb dX5_best_189 (by decide) ?_
                            exact ih91 k v (by omega) _ _ (by omega) (by omega) i91_2 i91_3 (fun j h1 h2 => by rcases Nat.lt_or_ge k j with z | z; exact i91_4 j z h2; rw [show j = k by omega]; exact (by rw [hln, decide_eq_false c13, Bool.and_false])) hP hD g19 g20 g21 g22 g23 g24 g25 g26 g27 g28 g29 (fr.wd frwl91 : fr _ _ 19 29) ls locs (lv_sub hl [1, 0, 4, 5, 6, 7, 8] rfl) hS
                          · refine lv_iconst (v := nI 1) hx hb dX5_best_165 ci_1 ?_
                            refine lv_goto (tgt := 170) hx hb dX5_best_166 (by decide) ?_
                            refine lv_istore (lv' := [(8, .int (nI 1)), (7, .int (nI 0)), (5, .int (fnI n v)), (6, .int (nI k)), (2, .int (nI ((bq C Hd b q T n p).1))), (3, .int (nI ((bq C Hd b q T n p).2.2))), (4, .int (nI p)), (1, .int (nI (few C Hd b q T n))), (0, .ref h)]) hx hb dX5_best_170 hl (by decide) rfl (fun ls hl => ?_)
                            refine lv_iload hx hb dX5_best_172 (lv_at hl 0 rfl) ?_
                            refine sn_if_eq (tgt := 182) hx hb dX5_best_174 (by decide) (by decide) (fun q => absurd q (by decide)) (fun _ => ?_)
                            refine lv_iload hx hb dX5_best_177 (lv_at hl 3 rfl) ?_
                            refine lv_goto (tgt := 184) hx hb dX5_best_179 (by decide) ?_
                            refine lv_istore (lv' := [(5, .int (nI k)), (8, .int (nI 1)), (7, .int (nI 0)), (6, .int (nI k)), (2, .int (nI ((bq C Hd b q T n p).1))), (3, .int (nI ((bq C Hd b q T n p).2.2))), (4, .int (nI p)), (1, .int (nI (few C Hd b q T n))), (0, .ref h)]) hx hb dX5_best_184 hl (by decide) rfl (fun ls hl => ?_)
                            refine lv_iinc (v := smI k) (lv' := [(6, .int (smI k)), (5, .int (nI k)), (8, .int (nI 1)), (7, .int (nI 0)), (2, .int (nI ((bq C Hd b q T n p).1))), (3, .int (nI ((bq C Hd b q T n p).2.2))), (4, .int (nI p)), (1, .int (nI (few C Hd b q T n))), (0, .ref h)]) hx hb dX5_best_186 hl (k := 3) rfl (smI_p _) (by decide) rfl (fun ls hl => ?_)
                            refine lv_goto (tgt := 91) hx hb dX5_best_189 (by decide) ?_
                            have e5 : nI k = fnI n k := (show _ = fnI n k from (if_pos (by omega)).symm)
                            rw [e5] at hl
                            exact ih91 k k (by omega) _ _ (by omega) (Nat.le_refl _) (by omega) (fun _ => by rw [hln, c11, decide_eq_true c13]; rfl) (fun j h1 h2 => absurd h1 (by omega)) hP hD g19 g20 g21 g22 g23 g24 g25 g26 g27 g28 g29 (fr.wd frwl91 : fr _ _ 19 29) ls locs (lv_sub hl [1, 0, 4, 5, 6, 7, 8] rfl) hS
                      · have hx9 := bq_x (C := C) (Hd := Hd) (b := b) (q := q) (T := T) (n := n) c10
                        refine lv_aload_n hx hb dX5_best_101 rfl (lv_at hl 6 rfl) ?_
                        refine va_get (ci := 5) (C := RX5) (T := TX5) (N := 19) hx hb hts hinX5 hown hK hP 19 g19 rfl 2 (by decide) k7 (fun _ h9 => h9) rfl dX5_best_102 ?_
                        refine lv_aload_n hx hb dX5_best_105 rfl (lv_at hl 6 rfl) ?_
                        refine va_get (ci := 5) (C := RX5) (T := TX5) (N := 19) hx hb hts hinX5 hown hK hP 19 g19 rfl 18 (by decide) k37 (fun _ h9 => h9) rfl dX5_best_106 ?_
                        refine lv_iload hx hb dX5_best_109 (lv_at hl 4 rfl) ?_
                        refine lv_iconst (v := nI 1) hx hb dX5_best_111 ci_1 ?_
                        refine lv_isub hx hb dX5_best_112 ?_
                        refine sv_top (y := nI (p - 1)) (pk_sub (by omega)) ?_
                        refine sv_iald hx hb hK hP 29 g29 (j := p - 1) (by omega) (by decide) dX5_best_113 ?_
                        refine W.eq (g2 := F0 mi 114 ls (.int (go (p - 1)) :: [.ref a1])) rfl ?_
                        refine sv_top (y := nI (bp C Hd b q T n (p - 1))) (i71_1 _ (by omega)) ?_
                        refine sv_iald hx hb hK hP 20 g20 (j := bp C Hd b q T n (p - 1)) (Nat.lt_of_lt_of_le (bp_ok hn8 hT hf (by omega)) hn8) (by decide) dX5_best_114 ?_
                        refine W.eq (g2 := F0 mi 115 ls (.int (nI (T (bp C Hd b q T n (p - 1)))) :: [])) rfl ?_
                        refine lv_aload_n hx hb dX5_best_115 rfl (lv_at hl 6 rfl) ?_
                        refine va_get (ci := 5) (C := RX5) (T := TX5) (N := 19) hx hb hts hinX5 hown hK hP 19 g19 rfl 2 (by decide) k7 (fun _ h9 => h9) rfl dX5_best_116 ?_
                        refine lv_iload hx hb dX5_best_119 (lv_at hl 1 rfl) ?_
                        refine sv_iald hx hb hK hP 20 g20 (j := k) (by omega) (by decide) dX5_best_121 ?_
                        refine W.eq (g2 := F0 mi 122 ls (.int (nI (T k)) :: [.int (nI (T (bp C Hd b q T n (p - 1))))])) rfl ?_
                        refine sn_icmp_eq (tgt := 129) hx hb dX5_best_122 (by decide) (Nat.lt_trans (hT _) (by decide)) (Nat.lt_trans (hT _) (by decide)) (fun c16 => ?_) (fun c16 => ?_)
                        · have hch : chI (bq C Hd b q T n p).2.1 (T k) = 0 := by rw [hx9, chI_T (hT _) (hT _), if_pos c16.symm]
                          have hln := lnP_mc (C := C) (Hd := Hd) (b := b) (q := q) (T := T) (n := n) (S := (bq C Hd b q T n p).1) hq.2.2.2.1 hch
                          refine lv_iconst (v := nI 0) hx hb dX5_best_129 ci_0 ?_
                          refine lv_istore (lv' := [(7, .int (nI 0)), (5, .int (fnI n v)), (6, .int (nI k)), (2, .int (nI ((bq C Hd b q T n p).1))), (3, .int (nI ((bq C Hd b q T n p).2.2))), (4, .int (nI p)), (1, .int (nI (few C Hd b q T n))), (0, .ref h)]) hx hb dX5_best_130 hl (by decide) rfl (fun ls hl => ?_)
                          refine lv_iload_n hx hb dX5_best_132 rfl (lv_at hl 3 rfl) ?_
                          refine lv_iload hx hb dX5_best_133 (lv_at hl 2 rfl) ?_
                          refine lv_ishr hx hb dX5_best_135 ?_
                          refine sv_top (y := nI (((bq C Hd b q T n p).1) / 2 ^ k)) (sh_r (by omega) hq1) ?_
                          refine lv_iconst (v := nI 1) hx hb dX5_best_136 ci_1 ?_
                          refine lv_iand hx hb dX5_best_137 ?_
                          refine sv_top (y := nI (((bq C Hd b q T n p).1) / 2 ^ k % 2)) (an_1) ?_
                          refine st_ifm_ne (tgt := 169) hx hb dX5_best_138 (by decide) (fun c17 => ?_) (fun c17 => ?_)
                          · refine lv_iconst (v := nI 0) hx hb dX5_best_169 ci_0 ?_
                            refine lv_istore (lv' := [(8, .int (nI 0)), (7, .int (nI 0)), (5, .int (fnI n v)), (6, .int (nI k)), (2, .int (nI ((bq C Hd b q T n p).1))), (3, .int (nI ((bq C Hd b q T n p).2.2))), (4, .int (nI p)), (1, .int (nI (few C Hd b q T n))), (0, .ref h)]) hx hb dX5_best_170 hl (by decide) rfl (fun ls hl => ?_)
                            refine lv_iload hx hb dX5_best_172 (lv_at hl 0 rfl) ?_
                            refine sn_if_eq (tgt := 182) hx hb dX5_best_174 (by decide) (by decide) (fun _ => ?_) (fun q => absurd q (by decide))
                            refine lv_iload hx hb dX5_best_182 (lv_at hl 2 rfl) ?_
                            refine lv_istore (lv' := [(5, .int (fnI n v)), (8, .int (nI 0)), (7, .int (nI 0)), (6, .int (nI k)), (2, .int (nI ((bq C Hd b q T n p).1))), (3, .int (nI ((bq C Hd b q T n p).2.2))), (4, .int (nI p)), (1, .int (nI (few C Hd b q T n))), (0, .ref h)]) hx hb dX5_best_184 hl (by decide) rfl (fun ls hl => ?_)
                            refine lv_iinc (v := smI k) (lv' := [(6, .int (smI k)), (5, .int (fnI n v)), (8, .int (nI 0)), (7, .int (nI 0)), (2, .int (nI ((bq C Hd b q T n p).1))), (3, .int (nI ((bq C Hd b q T n p).2.2))), (4, .int (nI p)), (1, .int (nI (few C Hd b q T n))), (0, .ref h)]) hx hb dX5_best_186 hl (k := 3) rfl (smI_p _) (by decide) rfl (fun ls hl => ?_)
                            refine lv_goto (tgt := 91) hx hb dX5_best_189 (by decide) ?_
                            exact ih91 k v (by omega) _ _ (by omega) (by omega) i91_2 i91_3 (fun j h1 h2 => by rcases Nat.lt_or_ge k j with z | z; exact i91_4 j z h2; rw [show j = k by omega]; exact (by rw [hln, c17]; rfl)) hP hD g19 g20 g21 g22 g23 g24 g25 g26 g27 g28 g29 (fr.wd frwl91 : fr _ _ 19 29) ls locs (lv_sub hl [1, 0, 4, 5, 6, 7, 8] rfl) hS
                          · refine lv_aload_n hx hb dX5_best_141 rfl (lv_at hl 7 rfl) ?_
                            refine va_get (ci := 5) (C := RX5) (T := TX5) (N := 19) hx hb hts hinX5 hown hK hP 19 g19 rfl 17 (by decide) k34 (fun _ h9 => h9) rfl dX5_best_142 ?_
                            refine lv_bipush (v := nI 8) hx hb dX5_best_145 bi_8 ?_
                            refine lv_iload_n hx hb dX5_best_147 rfl (lv_at hl 3 rfl) ?_
                            refine lv_iconst (v := nI 1) hx hb dX5_best_148 ci_1 ?_
                            refine lv_iload hx hb dX5_best_149 (lv_at hl 2 rfl) ?_
                            refine lv_ishl hx hb dX5_best_151 ?_
                            refine sv_top (y := nI (2 ^ k)) (sh_l1 (by omega)) ?_
                            refine lv_ior hx hb dX5_best_152 ?_
                            refine sv_top (y := nI (((bq C Hd b q T n p).1) ||| (2 ^ k))) (an_or _ _) ?_
                            refine lv_imul hx hb dX5_best_153 ?_
                            refine sv_top (y := nI (8 * (((bq C Hd b q T n p).1) ||| (2 ^ k)))) (mul_n _ _) ?_
                            refine lv_iload hx hb dX5_best_154 (lv_at hl 2 rfl) ?_
                            refine lv_iadd hx hb dX5_best_156 ?_
                            refine sv_top (y := nI ((8 * (((bq C Hd b q T n p).1) ||| (2 ^ k))) + k)) (nI_add _ _) ?_
                            refine sv_iald hx hb hK hP 28 g28 (j := (8 * (((bq C Hd b q T n p).1) ||| (2 ^ k))) + k) (by omega) (by decide) dX5_best_157 ?_
                            refine W.eq (g2 := F0 mi 158 ls (.int (gg ((8 * (((bq C Hd b q T n p).1) ||| (2 ^ k))) + k)) :: [])) rfl ?_
                            refine sv_top (y := nI (mcv C Hd b q T n ((bq C Hd b q T n p).1 ||| 2 ^ k) k)) (hlc _ _ (Nat.lt_of_lt_of_le (Nat.two_pow_pos k) (sbs_le sbs_or2)) hor (by omega)) ?_
                            refine lv_iload hx hb dX5_best_158 (lv_at hl 0 rfl) ?_
                            refine lv_iadd hx hb dX5_best_160 ?_
                            refine sv_top (y := nI ((mcv C Hd b q T n ((bq C Hd b q T n p).1 ||| 2 ^ k) k) + 0)) (nI_add _ _) ?_
                            refine lv_iload_n hx hb dX5_best_161 rfl (lv_at hl 4 rfl) ?_
                            refine sn_icmp_ne (tgt := 169) hx hb dX5_best_162 (by decide) (by omega) (Nat.lt_trans hq.2.2.2.1 (by decide)) (fun c19 => ?_) (fun c19 => ?_)
                            · refine lv_iconst (v := nI 0) hx hb dX5_best_169 ci_0 ?_
                              refine lv_istore (lv' := [(8, .int (nI 0)), (7, .int (nI 0)), (5, .int (fnI n v)), (6, .int (nI k)), (2, .int (nI ((bq C Hd b q T n p).1))), (3, .int (nI ((bq C Hd b q T n p).2.2))), (4, .int (nI p)), (1, .int (nI (few C Hd b q T n))), (0, .ref h)]) hx hb dX5_best_170 hl (by decide) rfl (fun ls hl => ?_)
                              refine lv_iload hx hb dX5_best_172 (lv_at hl 0 rfl) ?_
                              refine sn_if_eq (tgt := 182) hx hb dX5_best_174 (by decide) (by decide) (fun _ => ?_) (fun q => absurd q (by decide))
                              refine lv_iload hx hb dX5_best_182 (lv_at hl 2 rfl) ?_
                              refine lv_istore (lv' := [(5, .int (fnI n v)), (8, .int (nI 0)), (7, .int (nI 0)), (6, .int (nI k)), (2, .int (nI ((bq C Hd b q T n p).1))), (3, .int (nI ((bq C Hd b q T n p).2.2))), (4, .int (nI p)), (1, .int (nI (few C Hd b q T n))), (0, .ref h)]) hx hb dX5_best_184 hl (by decide) rfl (fun ls hl => ?_)
                              refine lv_iinc (v := smI k) (lv' := [(6, .int (smI k)), (5, .int (fnI n v)), (8, .int (nI 0)), (7, .int (nI 0)), (2, .int (nI ((bq C Hd b q T n p).1))), (3, .int (nI ((bq C Hd b q T n p).2.2))), (4, .int (nI p)), (1, .int (nI (few C Hd b q T n))), (0, .ref h)]) hx hb dX5_best_186 hl (k := 3) rfl (smI_p _) (by decide) rfl (fun ls hl => ?_)
                              refine lv_goto (tgt := 91) hx hb dX5_best_189 (by decide) ?_
                              exact ih91 k v (by omega) _ _ (by omega) (by omega) i91_2 i91_3 (fun j h1 h2 => by rcases Nat.lt_or_ge k j with z | z; exact i91_4 j z h2; rw [show j = k by omega]; exact (by rw [hln, decide_eq_false c19, Bool.and_false])) hP hD g19 g20 g21 g22 g23 g24 g25 g26 g27 g28 g29 (fr.wd frwl91 : fr _ _ 19 29) ls locs (lv_sub hl [1, 0, 4, 5, 6, 7, 8] rfl) hS
                            · refine lv_iconst (v := nI 1) hx hb dX5_best_165 ci_1 ?_
                              refine lv_goto (tgt := 170) hx hb dX5_best_166 (by decide) ?_
                              refine lv_istore (lv' := [(8, .int (nI 1)), (7, .int (nI 0)), (5, .int (fnI n v)), (6, .int (nI k)), (2, .int (nI ((bq C Hd b q T n p).1))), (3, .int (nI ((bq C Hd b q T n p).2.2))), (4, .int (nI p)), (1, .int (nI (few C Hd b q T n))), (0, .ref h)]) hx hb dX5_best_170 hl (by decide) rfl (fun ls hl => ?_)
                              refine lv_iload hx hb dX5_best_172 (lv_at hl 0 rfl) ?_
                              refine sn_if_eq (tgt := 182) hx hb dX5_best_174 (by decide) (by decide) (fun q => absurd q (by decide)) (fun _ => ?_)
                              refine lv_iload hx hb dX5_best_177 (lv_at hl 3 rfl) ?_
                              refine lv_goto (tgt := 184) hx hb dX5_best_179 (by decide) ?_
                              refine lv_istore (lv' := [(5, .int (nI k)), (8, .int (nI 1)), (7, .int (nI 0)), (6, .int (nI k)), (2, .int (nI ((bq C Hd b q T n p).1))), (3, .int (nI ((bq C Hd b q T n p).2.2))), (4, .int (nI p)), (1, .int (nI (few C Hd b q T n))), (0, .ref h)]) hx hb dX5_best_184 hl (by decide) rfl (fun ls hl => ?_)
                              refine lv_iinc (v := smI k) (lv' := [(6, .int (smI k)), (5, .int (nI k)), (8, .int (nI 1)), (7, .int (nI 0)), (2, .int (nI ((bq C Hd b q T n p).1))), (3, .int (nI ((bq C Hd b q T n p).2.2))), (4, .int (nI p)), (1, .int (nI (few C Hd b q T n))), (0, .ref h)]) hx hb dX5_best_186 hl (k := 3) rfl (smI_p _) (by decide) rfl (fun ls hl => ?_)
                              refine lv_goto (tgt := 91) hx hb dX5_best_189 (by decide) ?_
                              have e5 : nI k = fnI n k := (show _ = fnI n k from (if_pos (by omega)).symm)
                              rw [e5] at hl
                              exact ih91 k k (by omega) _ _ (by omega) (Nat.le_refl _) (by omega) (fun _ => by rw [hln, c17, decide_eq_true c19]; rfl) (fun j h1 h2 => absurd h1 (by omega)) hP hD g19 g20 g21 g22 g23 g24 g25 g26 g27 g28 g29 (fr.wd frwl91 : fr _ _ 19 29) ls locs (lv_sub hl [1, 0, 4, 5, 6, 7, 8] rfl) hS
                        · have hch : chI (bq C Hd b q T n p).2.1 (T k) = 1 := by rw [hx9, chI_T (hT _) (hT _), if_neg (fun z => c16 z.symm)]
                          have hln := lnP_mc (C := C) (Hd := Hd) (b := b) (q := q) (T := T) (n := n) (S := (bq C Hd b q T n p).1) hq.2.2.2.1 hch
                          refine lv_iconst (v := nI 1) hx hb dX5_best_125 ci_1 ?_
                          refine lv_goto (tgt := 130) hx hb dX5_best_126 (by decide) ?_
                          refine lv_istore (lv' := [(7, .int (nI 1)), (5, .int (fnI n v)), (6, .int (nI k)), (2, .int (nI ((bq C Hd b q T n p).1))), (3, .int (nI ((bq C Hd b q T n p).2.2))), (4, .int (nI p)), (1, .int (nI (few C Hd b q T n))), (0, .ref h)]) hx hb dX5_best_130 hl (by decide) rfl (fun ls hl => ?_)
                          refine lv_iload_n hx hb dX5_best_132 rfl (lv_at hl 3 rfl) ?_
                          refine lv_iload hx hb dX5_best_133 (lv_at hl 2 rfl) ?_
                          refine lv_ishr hx hb dX5_best_135 ?_
                          refine sv_top (y := nI (((bq C Hd b q T n p).1) / 2 ^ k)) (sh_r (by omega) hq1) ?_
                          refine lv_iconst (v := nI 1) hx hb dX5_best_136 ci_1 ?_
                          refine lv_iand hx hb dX5_best_137 ?_
                          refine sv_top (y := nI (((bq C Hd b q T n p).1) / 2 ^ k % 2)) (an_1) ?_
                          refine st_ifm_ne (tgt := 169) hx hb dX5_best_138 (by decide) (fun c22 => ?_) (fun c22 => ?_)
                          · refine lv_iconst (v := nI 0) hx hb dX5_best_169 ci_0 ?_
                            refine lv_istore (lv' := [(8, .int (nI 0)), (7, .int (nI 1)), (5, .int (fnI n v)), (6, .int (nI k)), (2, .int (nI ((bq C Hd b q T n p).1))), (3, .int (nI ((bq C Hd b q T n p).2.2))), (4, .int (nI p)), (1, .int (nI (few C Hd b q T n))), (0, .ref h)]) hx hb dX5_best_170 hl (by decide) rfl (fun ls hl => ?_)
                            refine lv_iload hx hb dX5_best_172 (lv_at hl 0 rfl) ?_
                            refine sn_if_eq (tgt := 182) hx hb dX5_best_174 (by decide) (by decide) (fun _ => ?_) (fun q => absurd q (by decide))
                            refine lv_iload hx hb dX5_best_182 (lv_at hl 2 rfl) ?_
                            refine lv_istore (lv' := [(5, .int (fnI n v)), (8, .int (nI 0)), (7, .int (nI 1)), (6, .int (nI k)), (2, .int (nI ((bq C Hd b q T n p).1))), (3, .int (nI ((bq C Hd b q T n p).2.2))), (4, .int (nI p)), (1, .int (nI (few C Hd b q T n))), (0, .ref h)]) hx hb dX5_best_184 hl (by decide) rfl (fun ls hl => ?_)
                            refine lv_iinc (v := smI k) (lv' := [(6, .int (smI k)), (5, .int (fnI n v)), (8, .int (nI 0)), (7, .int (nI 1)), (2, .int (nI ((bq C Hd b q T n p).1))), (3, .int (nI ((bq C Hd b q T n p).2.2))), (4, .int (nI p)), (1, .int (nI (few C Hd b q T n))), (0, .ref h)]) hx hb dX5_best_186 hl (k := 3) rfl (smI_p _) (by decide) rfl (fun ls hl => ?_)
                            refine lv_goto (tgt := 91) hx hb dX5_best_189 (by decide) ?_
                            exact ih91 k v (by omega) _ _ (by omega) (by omega) i91_2 i91_3 (fun j h1 h2 => by rcases Nat.lt_or_ge k j with z | z; exact i91_4 j z h2; rw [show j = k by omega]; exact (by rw [hln, c22]; rfl)) hP hD g19 g20 g21 g22 g23 g24 g25 g26 g27 g28 g29 (fr.wd frwl91 : fr _ _ 19 29) ls locs (lv_sub hl [1, 0, 4, 5, 6, 7, 8] rfl) hS
                          · refine lv_aload_n hx hb dX5_best_141 rfl (lv_at hl 7 rfl) ?_
                            refine va_get (ci := 5) (C := RX5) (T := TX5) (N := 19) hx hb hts hinX5 hown hK hP 19 g19 rfl 17 (by decide) k34 (fun _ h9 => h9) rfl dX5_best_142 ?_
                            refine lv_bipush (v := nI 8) hx hb dX5_best_145 bi_8 ?_
                            refine lv_iload_n hx hb dX5_best_147 rfl (lv_at hl 3 rfl) ?_
                            refine lv_iconst (v := nI 1) hx hb dX5_best_148 ci_1 ?_
                            refine lv_iload hx hb dX5_best_149 (lv_at hl 2 rfl) ?_
                            refine lv_ishl hx hb dX5_best_151 ?_
                            refine sv_top (y := nI (2 ^ k)) (sh_l1 (by omega)) ?_
                            refine lv_ior hx hb dX5_best_152 ?_
                            refine sv_top (y := nI (((bq C Hd b q T n p).1) ||| (2 ^ k))) (an_or _ _) ?_
                            refine lv_imul hx hb dX5_best_153 ?_
                            refine sv_top (y := nI (8 * (((bq C Hd b q T n p).1) ||| (2 ^ k)))) (mul_n _ _) ?_
                            refine lv_iload hx hb dX5_best_154 (lv_at hl 2 rfl) ?_
                            refine lv_iadd hx hb dX5_best_156 ?_
                            refine sv_top (y := nI ((8 * (((bq C Hd b q T n p).1) ||| (2 ^ k))) + k)) (nI_add _ _) ?_
                            refine sv_iald hx hb hK hP 28 g28 (j := (8 * (((bq C Hd b q T n p).1) ||| (2 ^ k))) + k) (by omega) (by decide) dX5_best_157 ?_
                            refine W.eq (g2 := F0 mi 158 ls (.int (gg ((8 * (((bq C Hd b q T n p).1) ||| (2 ^ k))) + k)) :: [])) rfl ?_
                            refine sv_top (y := nI (mcv C Hd b q T n ((bq C Hd b q T n p).1 ||| 2 ^ k) k)) (hlc _ _ (Nat.lt_of_lt_of_le (Nat.two_pow_pos k) (sbs_le sbs_or2)) hor (by omega)) ?_
                            refine lv_iload hx hb dX5_best_158 (lv_at hl 0 rfl) ?_
                            refine lv_iadd hx hb dX5_best_160 ?_
                            refine sv_top (y := nI ((mcv C Hd b q T n ((bq C Hd b q T n p).1 ||| 2 ^ k) k) + 1)) (nI_add _ _) ?_
                            refine lv_iload_n hx hb dX5_best_161 rfl (lv_at hl 4 rfl) ?_
                            refine sn_icmp_ne (tgt := 169) hx hb dX5_best_162 (by decide) (by omega) (Nat.lt_trans hq.2.2.2.1 (by decide)) (fun c24 => ?_) (fun c24 => ?_)
                            · refine lv_iconst (v := nI 0) hx hb dX5_best_169 ci_0 ?_
                              refine lv_istore (lv' := [(8, .int (nI 0)), (7, .int (nI 1)), (5, .int (fnI n v)), (6, .int (nI k)), (2, .int (nI ((bq C Hd b q T n p).1))), (3, .int (nI ((bq C Hd b q T n p).2.2))), (4, .int (nI p)), (1, .int (nI (few C Hd b q T n))), (0, .ref h)]) hx hb dX5_best_170 hl (by decide) rfl (fun ls hl => ?_)
                              refine lv_iload hx hb dX5_best_172 (lv_at hl 0 rfl) ?_
                              refine sn_if_eq (tgt := 182) hx hb dX5_best_174 (by decide) (by decide) (fun _ => ?_) (fun q => absurd q (by decide))
                              refine lv_iload hx hb dX5_best_182 (lv_at hl 2 rfl) ?_
                              refine lv_istore (lv' := [(5, .int (fnI n v)), (8, .int (nI 0)), (7, .int (nI 1)), (6, .int (nI k)), (2, .int (nI ((bq C Hd b q T n p).1))), (3, .int (nI ((bq C Hd b q T n p).2.2))), (4, .int (nI p)), (1, .int (nI (few C Hd b q T n))), (0, .ref h)]) hx hb dX5_best_184 hl (by decide) rfl (fun ls hl => ?_)
                              refine lv_iinc (v := smI k) (lv' := [(6, .int (smI k)), (5, .int (fnI n v)), (8, .int (nI 0)), (7, .int (nI 1)), (2, .int (nI ((bq C Hd b q T n p).1))), (3, .int (nI ((bq C Hd b q T n p).2.2))), (4, .int (nI p)), (1, .int (nI (few C Hd b q T n))), (0, .ref h)]) hx hb dX5_best_186 hl (k := 3) rfl (smI_p _) (by decide) rfl (fun ls hl => ?_)
                              refine lv_goto (tgt := 91) hx hb dX5_best_189 (by decide) ?_
                              exact ih91 k v (by omega) _ _ (by omega) (by omega) i91_2 i91_3 (fun j h1 h2 => by rcases Nat.lt_or_ge k j with z | z; exact i91_4 j z h2; rw [show j = k by omega]; exact (by rw [hln, decide_eq_false c24, Bool.and_false])) hP hD g19 g20 g21 g22 g23 g24 g25 g26 g27 g28 g29 (fr.wd frwl91 : fr _ _ 19 29) ls locs (lv_sub hl [1, 0, 4, 5, 6, 7, 8] rfl) hS
                            · refine lv_iconst (v := nI 1) hx hb dX5_best_165 ci_1 ?_
                              refine lv_goto (tgt := 170) hx hb dX5_best_166 (by decide) ?_
                              refine lv_istore (lv' := [(8, .int (nI 1)), (7, .int (nI 1)), (5, .int (fnI n v)), (6, .int (nI k)), (2, .int (nI ((bq C Hd b q T n p).1))), (3, .int (nI ((bq C Hd b q T n p).2.2))), (4, .int (nI p)), (1, .int (nI (few C Hd b q T n))), (0, .ref h)]) hx hb dX5_best_170 hl (by decide) rfl (fun ls hl => ?_)
                              refine lv_iload hx hb dX5_best_172 (lv_at hl 0 rfl) ?_
                              refine sn_if_eq (tgt := 182) hx hb dX5_best_174 (by decide) (by decide) (fun q => absurd q (by decide)) (fun _ => ?_)
                              refine lv_iload hx hb dX5_best_177 (lv_at hl 3 rfl) ?_
                              refine lv_goto (tgt := 184) hx hb dX5_best_179 (by decide) ?_
                              refine lv_istore (lv' := [(5, .int (nI k)), (8, .int (nI 1)), (7, .int (nI 1)), (6, .int (nI k)), (2, .int (nI ((bq C Hd b q T n p).1))), (3, .int (nI ((bq C Hd b q T n p).2.2))), (4, .int (nI p)), (1, .int (nI (few C Hd b q T n))), (0, .ref h)]) hx hb dX5_best_184 hl (by decide) rfl (fun ls hl => ?_)
                              refine lv_iinc (v := smI k) (lv' := [(6, .int (smI k)), (5, .int (nI k)), (8, .int (nI 1)), (7, .int (nI 1)), (2, .int (nI ((bq C Hd b q T n p).1))), (3, .int (nI ((bq C Hd b q T n p).2.2))), (4, .int (nI p)), (1, .int (nI (few C Hd b q T n))), (0, .ref h)]) hx hb dX5_best_186 hl (k := 3) rfl (smI_p _) (by decide) rfl (fun ls hl => ?_)
                              refine lv_goto (tgt := 91) hx hb dX5_best_189 (by decide) ?_
                              have e5 : nI k = fnI n k := (show _ = fnI n k from (if_pos (by omega)).symm)
                              rw [e5] at hl
                              exact ih91 k k (by omega) _ _ (by omega) (Nat.le_refl _) (by omega) (fun _ => by rw [hln, c22, decide_eq_true c24]; rfl) (fun j h1 h2 => absurd h1 (by omega)) hP hD g19 g20 g21 g22 g23 g24 g25 g26 g27 g28 g29 (fr.wd frwl91 : fr _ _ 19 29) ls locs (lv_sub hl [1, 0, 4, 5, 6, 7, 8] rfl) hS
                have e5 : -1 = fnI n n := (show _ = fnI n n from (if_neg (Nat.lt_irrefl _)).symm)
                rw [e5] at hl
                have e6 : nI (n - 1) = smI n := (show _ = smI n from (if_neg (by omega)).symm)
                rw [e6] at hl
                exact L91 (n + 1) n n (Nat.lt_succ_self _) _ _ (Nat.le_refl _) (Nat.le_refl _) (Nat.le_refl _) (fun z => absurd z (Nat.lt_irrefl _)) (fun j h1 h2 => absurd h1 (by omega)) hP hD g19 g20 g21 g22 g23 g24 g25 g26 g27 g28 g29 (fr.wd frwl71 : fr _ _ 19 29) ls locs (lv_sub hl [1, 0, 2, 3, 4, 5, 6] rfl) hS
          exact L71 ((n - 0) + 1) 0 fo (Nat.lt_succ_self _) _ _ (by omega) (fun j hj => absurd hj (Nat.not_lt_zero _)) hP hD g19 g20 g21 g22 g23 g24 g25 g26 g27 g28 g29 (fr.wd frwl10 : fr _ _ 19 29) ls locs (lv_sub hl [2, 1, 0, 3, 4] rfl) hS
        · refine lv_iconst (v := -1) hx hb dX5_best_62 ci_m1 ?_
          exact hret 63 ls _ _ locs _ dX5_best_63 hP hD hS rfl (⟨by unfold orN; rw [if_pos (show few C Hd b q T n = 1000 from Nat.le_antisymm fwF_1000 c5)], ⟨gg, fo, ⟨a1, a2, a3, a4, a5, a6, a7, a8, a9, a10, g19, g20, g21, g22, g23, g24, g25, g26, g27, g28, g29⟩, fun z => absurd c5 (Nat.not_le.mpr z)⟩, (fr.wd frwl10 : fr _ _ 19 29)⟩)
      · have hpk : 2 ^ k < 2 ^ n := Nat.pow_lt_pow_right (by decide) c4
        have hmk := mcv_b (C := C) (Hd := Hd) (b := b) (q := q) (T := T) (n := n) (S := 2 ^ k) (k := k) hT hpk
        have hfm := fm_le (C := C) (Hd := Hd) (b := b) (q := q) (T := T) (k := k) hn1 hn8 (by omega)
        refine lv_aload_n hx hb dX5_best_18 rfl (lv_at hl 2 rfl) ?_
        refine va_get (ci := 5) (C := RX5) (T := TX5) (N := 19) hx hb hts hinX5 hown hK hP 19 g19 rfl 17 (by decide) k34 (fun _ h9 => h9) rfl dX5_best_19 ?_
        refine lv_bipush (v := nI 8) hx hb dX5_best_22 bi_8 ?_
        refine lv_iload_n hx hb dX5_best_24 rfl (lv_at hl 1 rfl) ?_
        refine lv_ishl hx hb dX5_best_25 ?_
        refine sv_top (y := nI (8 * 2 ^ k)) (sh_l (by omega) (sh8b _ (by omega))) ?_
        refine lv_iload_n hx hb dX5_best_26 rfl (lv_at hl 1 rfl) ?_
        refine lv_ior hx hb dX5_best_27 ?_
        refine sv_top (y := nI (8 * 2 ^ k + k)) (m8_or (by omega)) ?_
        refine sv_iald hx hb hK hP 28 g28 (j := 8 * 2 ^ k + k) (m8b _ (by omega)) (by decide) dX5_best_28 ?_
        refine W.eq (g2 := F0 mi 29 ls (.int (gg (8 * 2 ^ k + k)) :: [])) rfl ?_
        refine sv_top (y := nI (mcv C Hd b q T n (2 ^ k) k)) (hlc _ _ (Nat.two_pow_pos k) hpk (by omega)) ?_
        refine lv_iload_n hx hb dX5_best_29 rfl (lv_at hl 0 rfl) ?_
        refine sn_icmp_ge (tgt := 47) hx hb dX5_best_30 (by decide) (Nat.lt_of_le_of_lt hmk (by decide)) (Nat.lt_of_le_of_lt hfm (by decide)) (fun c27 => ?_) (fun c27 => ?_)
        · refine lv_iload_n hx hb dX5_best_47 rfl (lv_at hl 0 rfl) ?_
          refine lv_istore_n (lv' := [(1, .int (nI (itr (fmS C Hd b q T n) k 1000))), (2, .int (nI k)), (0, .ref h)]) hx hb dX5_best_48 rfl hl (by decide) rfl (fun ls hl => ?_)
          refine lv_iinc (v := nI (k + 1)) (lv' := [(2, .int (nI (k + 1))), (1, .int (nI (itr (fmS C Hd b q T n) k 1000))), (0, .ref h)]) hx hb dX5_best_49 hl (k := 1) rfl (nI_1 _) (by decide) rfl (fun ls hl => ?_)
          refine lv_goto (tgt := 10) hx hb dX5_best_52 (by decide) ?_
          have e1 : nI (itr (fmS C Hd b q T n) k 1000) = nI (itr (fmS C Hd b q T n) (k + 1) 1000) := (congrArg nI (show _ = fmS C Hd b q T n k _ from (if_neg (Nat.not_lt.mpr c27)).symm))
          rw [e1] at hl
          exact ih10 (k + 1) (by omega) _ _ (by omega) hP hD g19 g20 g21 g22 g23 g24 g25 g26 g27 g28 g29 (fr.wd frwl10 : fr _ _ 19 29) ls locs (lv_sub hl [1, 0, 2] rfl) hS
        · refine lv_aload_n hx hb dX5_best_33 rfl (lv_at hl 2 rfl) ?_
          refine va_get (ci := 5) (C := RX5) (T := TX5) (N := 19) hx hb hts hinX5 hown hK hP 19 g19 rfl 17 (by decide) k34 (fun _ h9 => h9) rfl dX5_best_34 ?_
          refine lv_bipush (v := nI 8) hx hb dX5_best_37 bi_8 ?_
          refine lv_iload_n hx hb dX5_best_39 rfl (lv_at hl 1 rfl) ?_
          refine lv_ishl hx hb dX5_best_40 ?_
          refine sv_top (y := nI (8 * 2 ^ k)) (sh_l (by omega) (sh8b _ (by omega))) ?_
          refine lv_iload_n hx hb dX5_best_41 rfl (lv_at hl 1 rfl) ?_
          refine lv_ior hx hb dX5_best_42 ?_
          refine sv_top (y := nI (8 * 2 ^ k + k)) (m8_or (by omega)) ?_
          refine sv_iald hx hb hK hP 28 g28 (j := 8 * 2 ^ k + k) (m8b _ (by omega)) (by decide) dX5_best_43 ?_
          refine W.eq (g2 := F0 mi 44 ls (.int (gg (8 * 2 ^ k + k)) :: [])) rfl ?_
          refine sv_top (y := nI (mcv C Hd b q T n (2 ^ k) k)) (hlc _ _ (Nat.two_pow_pos k) hpk (by omega)) ?_
          refine lv_goto (tgt := 48) hx hb dX5_best_44 (by decide) ?_
          refine lv_istore_n (lv' := [(1, .int (nI (mcv C Hd b q T n (2 ^ k) k))), (2, .int (nI k)), (0, .ref h)]) hx hb dX5_best_48 rfl hl (by decide) rfl (fun ls hl => ?_)
          refine lv_iinc (v := nI (k + 1)) (lv' := [(2, .int (nI (k + 1))), (1, .int (nI (mcv C Hd b q T n (2 ^ k) k))), (0, .ref h)]) hx hb dX5_best_49 hl (k := 1) rfl (nI_1 _) (by decide) rfl (fun ls hl => ?_)
          refine lv_goto (tgt := 10) hx hb dX5_best_52 (by decide) ?_
          have e1 : nI (mcv C Hd b q T n (2 ^ k) k) = nI (itr (fmS C Hd b q T n) (k + 1) 1000) := (congrArg nI (show _ = fmS C Hd b q T n k _ from (if_pos c27).symm))
          rw [e1] at hl
          exact ih10 (k + 1) (by omega) _ _ (by omega) hP hD g19 g20 g21 g22 g23 g24 g25 g26 g27 g28 g29 (fr.wd frwl10 : fr _ _ 19 29) ls locs (lv_sub hl [1, 0, 2] rfl) hS
  exact L10 ((n - 0) + 1) 0 (Nat.lt_succ_self _) _ _ (by omega) hP hD g19 g20 g21 g22 g23 g24 g25 g26 g27 g28 g29 (fr.wd fr2 : fr _ _ 19 29) ls locs (lv_sub hl [1, 0, 2] rfl) hS
set_option maxHeartbeats 4000000 in
set_option maxRecDepth 100000 in
theorem c_X5_fewestChanges_1 {l : Launch} {D : va_G} {ky : kT} {A : Nat → Prop} {Hs : Heap} {ws : va_W} (hP : va_P D CL ws Hs) (hD : va_D A ws) {h th n : Nat} {T C Hd : Nat → Nat} {b : Nat} {q : Bool} {J : Nat → Nat} {bg : Bool} {pu bu : Nat} {cl mo : Int32} {K : Nat → Nat} {fw fd fc fg fo : Nat → Int32} (hpr : isMod ky ws h th n T C Hd b q J bg pu bu cl mo K fw fd fc fg fo) (hn0 : n = 0) : MU l yX5_fewestChanges wsX5_fewestChanges 1 21 0 0 D ky A Hs [.ref h] (fun r w => r = nI 0 ∧ isMod ky w h 1 n T C Hd b q J bg pu bu cl mo K fw fd fc fg fo ∧ fr ws w 19 29) := by
  refine MU.of (cc := cX5_fewestChanges) (maxL := 1) (ty := .int) (by decide) rfl (Nat.le_of_ble_eq_true rfl) ?_
  intro pg en Rm sg mi av below meth co Qo hRf hRl hRc hRs hx hb hml hown hts hK hret ls hl
  have hl : lv_has ls 1 [(0, .ref h)] := hl
  have hS : va_S A Hs Hs [] := va_S.rf
  generalize ([] : List Loc) = locs at hS ⊢
  obtain ⟨a1, a2, a3, a4, a5, a6, a7, a8, a9, a10, g19, g20, g21, g22, g23, g24, g25, g26, g27, g28, g29⟩ := id hpr
  have k44 := hts (.fieldLink RX5 44 "AssemblyPlannerModel" "parts" "I") (by decide +kernel)
  have hinX5 : ∀ w ∈ wsX50, w ∈ wsX5_fewestChanges := by decide +kernel
  refine lv_aload_n hx hb dX5_fewestChanges_0 rfl (lv_at hl 0 rfl) ?_
  refine lv_aload_n hx hb dX5_fewestChanges_1 rfl (lv_at hl 0 rfl) ?_
  refine va_get (ci := 5) (C := RX5) (T := TX5) (N := 19) hx hb hts hinX5 hown hK hP 19 g19 rfl 1 (by decide) k44 (fun _ h9 => h9) rfl dX5_fewestChanges_2 ?_
  refine sn_if_ne (tgt := 12) hx hb dX5_fewestChanges_5 (by decide) (by omega) (fun c1 => absurd hn0 c1) (fun c1 => ?_)
  refine lv_iconst (v := nI 1) hx hb dX5_fewestChanges_8 ci_1 ?_
  refine lv_goto (tgt := 13) hx hb dX5_fewestChanges_9 (by decide) ?_
  refine mcV (c_X5_holds hP hD ⟨a1, a2, a3, a4, a5, a6, a7, a8, a9, a10, g19, g20, g21, g22, g23, g24, g25, g26, g27, g28, g29⟩ (by decide)) ⟨hx, hb, hml, hown, hts⟩ hK gX5_fewestChanges_X5_holds rfl hd_X5_holds ⟨by omega, by omega⟩ (va_recv hK hP (ci := 5) (q0 := 19) rfl g19) rfl hl.1 rfl (Nat.le_of_ble_eq_true rfl) dX5_fewestChanges_13 ⟨Nat.zero_le _, Nat.zero_le _⟩ hS (fun r ws2 H locs hq4 hP hD hS => ?_)
  obtain ⟨rfl, hpr, fr3⟩ := hq4
  obtain ⟨a1, a2, a3, a4, a5, a6, a7, a8, a9, a10, g19, g20, g21, g22, g23, g24, g25, g26, g27, g28, g29⟩ := id hpr
  refine sv_top (y := nI 0) rfl ?_
  refine sn_if_eq (tgt := 26) hx hb dX5_fewestChanges_16 (by decide) (by decide) (fun _ => ?_) (fun q => absurd q (by decide))
  refine lv_iconst (v := nI 0) hx hb dX5_fewestChanges_26 ci_0 ?_
  exact hret 27 ls _ _ locs _ dX5_fewestChanges_27 hP hD hS rfl (⟨rfl, ⟨a1, a2, a3, a4, a5, a6, a7, a8, a9, a10, g19, g20, g21, g22, g23, g24, g25, g26, g27, g28, g29⟩, (fr.wd fr3 : fr _ _ 19 29)⟩)
set_option maxHeartbeats 4000000 in
set_option maxRecDepth 100000 in
theorem c_X5_fewestChanges_0 {l : Launch} {D : va_G} {ky : kT} {A : Nat → Prop} {Hs : Heap} {ws : va_W} (hP : va_P D CL ws Hs) (hD : va_D A ws) {h th n : Nat} {T C Hd : Nat → Nat} {b : Nat} {q : Bool} {J : Nat → Nat} {bg : Bool} {pu bu : Nat} {cl mo : Int32} {K : Nat → Nat} {fw fd fc fg fo : Nat → Int32} (hpr : isMod ky ws h th n T C Hd b q J bg pu bu cl mo K fw fd fc fg fo) (hI : PI0 n C Hd b) (hT : ∀ p, T p < 4) (hn1 : 0 < n) : MU l yX5_fewestChanges wsX5_fewestChanges 6 143 0 0 D ky A Hs [.ref h] (fun r w => r = orN (few C Hd b q T n) ∧ MD ky w h 0 n T C Hd b q J bg pu bu cl mo K ∧ fr ws w 19 29) := by
  refine MU.of (cc := cX5_fewestChanges) (maxL := 1) (ty := .int) (by decide) rfl (Nat.le_of_ble_eq_true rfl) ?_
  intro pg en Rm sg mi av below meth co Qo hRf hRl hRc hRs hx hb hml hown hts hK hret ls hl
  have hl : lv_has ls 1 [(0, .ref h)] := hl
  have hS : va_S A Hs Hs [] := va_S.rf
  generalize ([] : List Loc) = locs at hS ⊢
  obtain ⟨a1, a2, a3, a4, a5, a6, a7, a8, a9, a10, g19, g20, g21, g22, g23, g24, g25, g26, g27, g28, g29⟩ := id hpr
  have hn8 := hI.1
  have k44 := hts (.fieldLink RX5 44 "AssemblyPlannerModel" "parts" "I") (by decide +kernel)
  have hinX5 : ∀ w ∈ wsX50, w ∈ wsX5_fewestChanges := by decide +kernel
  refine lv_aload_n hx hb dX5_fewestChanges_0 rfl (lv_at hl 0 rfl) ?_
  refine lv_aload_n hx hb dX5_fewestChanges_1 rfl (lv_at hl 0 rfl) ?_
  refine va_get (ci := 5) (C := RX5) (T := TX5) (N := 19) hx hb hts hinX5 hown hK hP 19 g19 rfl 1 (by decide) k44 (fun _ h9 => h9) rfl dX5_fewestChanges_2 ?_
  refine sn_if_ne (tgt := 12) hx hb dX5_fewestChanges_5 (by decide) (by omega) (fun c1 => ?_) (fun c1 => absurd c1 (by omega))
  refine lv_iconst (v := nI 0) hx hb dX5_fewestChanges_12 ci_0 ?_
  refine mcV (c_X5_holds hP hD ⟨a1, a2, a3, a4, a5, a6, a7, a8, a9, a10, g19, g20, g21, g22, g23, g24, g25, g26, g27, g28, g29⟩ (by decide)) ⟨hx, hb, hml, hown, hts⟩ hK gX5_fewestChanges_X5_holds rfl hd_X5_holds ⟨by omega, by omega⟩ (va_recv hK hP (ci := 5) (q0 := 19) rfl g19) rfl hl.1 rfl (Nat.le_of_ble_eq_true rfl) dX5_fewestChanges_13 ⟨Nat.zero_le _, Nat.zero_le _⟩ hS (fun r ws2 H locs hq4 hP hD hS => ?_)
  obtain ⟨rfl, hpr, fr3⟩ := hq4
  obtain ⟨a1, a2, a3, a4, a5, a6, a7, a8, a9, a10, g19, g20, g21, g22, g23, g24, g25, g26, g27, g28, g29⟩ := id hpr
  refine sv_top (y := nI 1) rfl ?_
  refine sn_if_eq (tgt := 26) hx hb dX5_fewestChanges_16 (by decide) (by decide) (fun q => absurd q (by decide)) (fun _ => ?_)
  refine lv_aload_n hx hb dX5_fewestChanges_19 rfl (lv_at hl 0 rfl) ?_
  refine mcV (c_X5_best hP hD ⟨a1, a2, a3, a4, a5, a6, a7, a8, a9, a10, g19, g20, g21, g22, g23, g24, g25, g26, g27, g28, g29⟩ hI hT hn1) ⟨hx, hb, hml, hown, hts⟩ hK gX5_fewestChanges_X5_best rfl hd_X5_best ⟨by omega, by omega⟩ (va_recv hK hP (ci := 5) (q0 := 19) rfl g19) rfl hl.1 rfl (Nat.le_of_ble_eq_true rfl) dX5_fewestChanges_20 ⟨Nat.zero_le _, Nat.zero_le _⟩ hS (fun r ws6 H locs hq8 hP hD hS => ?_)
  obtain ⟨rfl, ⟨gg, go, hpr, hgo⟩, fr7⟩ := hq8
  obtain ⟨a1, a2, a3, a4, a5, a6, a7, a8, a9, a10, g19, g20, g21, g22, g23, g24, g25, g26, g27, g28, g29⟩ := id hpr
  refine lv_goto (tgt := 27) hx hb dX5_fewestChanges_23 (by decide) ?_
  exact hret 27 ls _ _ locs _ dX5_fewestChanges_27 hP hD hS rfl (⟨rfl, ⟨_, _, _, _, _, ⟨a1, a2, a3, a4, a5, a6, a7, a8, a9, a10, g19, g20, g21, g22, g23, g24, g25, g26, g27, g28, g29⟩⟩, ((fr.wd fr3 : fr _ _ 19 29).tr fr7)⟩)
set_option maxHeartbeats 4000000 in
set_option maxRecDepth 100000 in
theorem c_X5_fewestByListing_1a {l : Launch} {D : va_G} {ky : kT} {A : Nat → Prop} {Hs : Heap} {ws : va_W} (hP : va_P D CL ws Hs) (hD : va_D A ws) {h th n : Nat} {T C Hd : Nat → Nat} {b : Nat} {q : Bool} {J : Nat → Nat} {bg : Bool} {pu bu : Nat} {cl mo : Int32} {K : Nat → Nat} {fw fd fc fg fo : Nat → Int32} (hpr : isMod ky ws h th n T C Hd b q J bg pu bu cl mo K fw fd fc fg fo) (hn0 : n = 0) : MU l yX5_fewestByListing wsX5_fewestByListing 1 21 0 0 D ky A Hs [.ref h] (fun r w => r = nI 0 ∧ isMod ky w h 1 n T C Hd b q J bg pu bu cl mo K fw fd fc fg fo ∧ fr ws w 19 29) := by
  refine MU.of (cc := cX5_fewestByListing) (maxL := 1) (ty := .int) (by decide) rfl (Nat.le_of_ble_eq_true rfl) ?_
  intro pg en Rm sg mi av below meth co Qo hRf hRl hRc hRs hx hb hml hown hts hK hret ls hl
  have hl : lv_has ls 1 [(0, .ref h)] := hl
  have hS : va_S A Hs Hs [] := va_S.rf
  generalize ([] : List Loc) = locs at hS ⊢
  obtain ⟨a1, a2, a3, a4, a5, a6, a7, a8, a9, a10, g19, g20, g21, g22, g23, g24, g25, g26, g27, g28, g29⟩ := id hpr
  have k44 := hts (.fieldLink RX5 44 "AssemblyPlannerModel" "parts" "I") (by decide +kernel)
  have hinX5 : ∀ w ∈ wsX50, w ∈ wsX5_fewestByListing := by decide +kernel
  refine lv_aload_n hx hb dX5_fewestByListing_0 rfl (lv_at hl 0 rfl) ?_
  refine lv_aload_n hx hb dX5_fewestByListing_1 rfl (lv_at hl 0 rfl) ?_
  refine va_get (ci := 5) (C := RX5) (T := TX5) (N := 19) hx hb hts hinX5 hown hK hP 19 g19 rfl 1 (by decide) k44 (fun _ h9 => h9) rfl dX5_fewestByListing_2 ?_
  refine sn_if_eq (tgt := 17) hx hb dX5_fewestByListing_5 (by decide) (by omega) (fun c1 => ?_) (fun c1 => absurd hn0 c1)
  refine lv_iconst (v := nI 1) hx hb dX5_fewestByListing_17 ci_1 ?_
  refine lv_goto (tgt := 22) hx hb dX5_fewestByListing_18 (by decide) ?_
  refine mcV (c_X5_holds hP hD ⟨a1, a2, a3, a4, a5, a6, a7, a8, a9, a10, g19, g20, g21, g22, g23, g24, g25, g26, g27, g28, g29⟩ (by decide)) ⟨hx, hb, hml, hown, hts⟩ hK gX5_fewestByListing_X5_holds rfl hd_X5_holds ⟨by omega, by omega⟩ (va_recv hK hP (ci := 5) (q0 := 19) rfl g19) rfl hl.1 rfl (Nat.le_of_ble_eq_true rfl) dX5_fewestByListing_22 ⟨Nat.zero_le _, Nat.zero_le _⟩ hS (fun r ws2 H locs hq4 hP hD hS => ?_)
  obtain ⟨rfl, hpr, fr3⟩ := hq4
  obtain ⟨a1, a2, a3, a4, a5, a6, a7, a8, a9, a10, g19, g20, g21, g22, g23, g24, g25, g26, g27, g28, g29⟩ := id hpr
  refine sv_top (y := nI 0) rfl ?_
  refine sn_if_eq (tgt := 35) hx hb dX5_fewestByListing_25 (by decide) (by decide) (fun _ => ?_) (fun q => absurd q (by decide))
  refine lv_iconst (v := nI 0) hx hb dX5_fewestByListing_35 ci_0 ?_
  exact hret 36 ls _ _ locs _ dX5_fewestByListing_36 hP hD hS rfl (⟨rfl, ⟨a1, a2, a3, a4, a5, a6, a7, a8, a9, a10, g19, g20, g21, g22, g23, g24, g25, g26, g27, g28, g29⟩, (fr.wd fr3 : fr _ _ 19 29)⟩)
set_option maxHeartbeats 4000000 in
set_option maxRecDepth 100000 in
theorem c_X5_fewestByListing_1b {l : Launch} {D : va_G} {ky : kT} {A : Nat → Prop} {Hs : Heap} {ws : va_W} (hP : va_P D CL ws Hs) (hD : va_D A ws) {h th n : Nat} {T C Hd : Nat → Nat} {b : Nat} {q : Bool} {J : Nat → Nat} {bg : Bool} {pu bu : Nat} {cl mo : Int32} {K : Nat → Nat} {fw fd fc fg fo : Nat → Int32} (hpr : isMod ky ws h th n T C Hd b q J bg pu bu cl mo K fw fd fc fg fo) (hn8 : n ≤ 8) (hn7 : 7 < n) : MU l yX5_fewestByListing wsX5_fewestByListing 1 21 0 0 D ky A Hs [.ref h] (fun r w => r = nI 0 ∧ isMod ky w h 1 n T C Hd b q J bg pu bu cl mo K fw fd fc fg fo ∧ fr ws w 19 29) := by
  refine MU.of (cc := cX5_fewestByListing) (maxL := 1) (ty := .int) (by decide) rfl (Nat.le_of_ble_eq_true rfl) ?_
  intro pg en Rm sg mi av below meth co Qo hRf hRl hRc hRs hx hb hml hown hts hK hret ls hl
  have hl : lv_has ls 1 [(0, .ref h)] := hl
  have hS : va_S A Hs Hs [] := va_S.rf
  generalize ([] : List Loc) = locs at hS ⊢
  obtain ⟨a1, a2, a3, a4, a5, a6, a7, a8, a9, a10, g19, g20, g21, g22, g23, g24, g25, g26, g27, g28, g29⟩ := id hpr
  have k44 := hts (.fieldLink RX5 44 "AssemblyPlannerModel" "parts" "I") (by decide +kernel)
  have hinX5 : ∀ w ∈ wsX50, w ∈ wsX5_fewestByListing := by decide +kernel
  refine lv_aload_n hx hb dX5_fewestByListing_0 rfl (lv_at hl 0 rfl) ?_
  refine lv_aload_n hx hb dX5_fewestByListing_1 rfl (lv_at hl 0 rfl) ?_
  refine va_get (ci := 5) (C := RX5) (T := TX5) (N := 19) hx hb hts hinX5 hown hK hP 19 g19 rfl 1 (by decide) k44 (fun _ h9 => h9) rfl dX5_fewestByListing_2 ?_
  refine sn_if_eq (tgt := 17) hx hb dX5_fewestByListing_5 (by decide) (by omega) (fun c1 => absurd c1 (by omega)) (fun c1 => ?_)
  refine lv_aload_n hx hb dX5_fewestByListing_8 rfl (lv_at hl 0 rfl) ?_
  refine va_get (ci := 5) (C := RX5) (T := TX5) (N := 19) hx hb hts hinX5 hown hK hP 19 g19 rfl 1 (by decide) k44 (fun _ h9 => h9) rfl dX5_fewestByListing_9 ?_
  refine lv_bipush (v := nI 7) hx hb dX5_fewestByListing_12 bi_7 ?_
  refine sn_icmp_le (tgt := 21) hx hb dX5_fewestByListing_14 (by decide) (by omega) (by omega) (fun c2 => absurd c2 (by omega)) (fun c2 => ?_)
  refine lv_iconst (v := nI 1) hx hb dX5_fewestByListing_17 ci_1 ?_
  refine lv_goto (tgt := 22) hx hb dX5_fewestByListing_18 (by decide) ?_
  refine mcV (c_X5_holds hP hD ⟨a1, a2, a3, a4, a5, a6, a7, a8, a9, a10, g19, g20, g21, g22, g23, g24, g25, g26, g27, g28, g29⟩ (by decide)) ⟨hx, hb, hml, hown, hts⟩ hK gX5_fewestByListing_X5_holds rfl hd_X5_holds ⟨by omega, by omega⟩ (va_recv hK hP (ci := 5) (q0 := 19) rfl g19) rfl hl.1 rfl (Nat.le_of_ble_eq_true rfl) dX5_fewestByListing_22 ⟨Nat.zero_le _, Nat.zero_le _⟩ hS (fun r ws3 H locs hq5 hP hD hS => ?_)
  obtain ⟨rfl, hpr, fr4⟩ := hq5
  obtain ⟨a1, a2, a3, a4, a5, a6, a7, a8, a9, a10, g19, g20, g21, g22, g23, g24, g25, g26, g27, g28, g29⟩ := id hpr
  refine sv_top (y := nI 0) rfl ?_
  refine sn_if_eq (tgt := 35) hx hb dX5_fewestByListing_25 (by decide) (by decide) (fun _ => ?_) (fun q => absurd q (by decide))
  refine lv_iconst (v := nI 0) hx hb dX5_fewestByListing_35 ci_0 ?_
  exact hret 36 ls _ _ locs _ dX5_fewestByListing_36 hP hD hS rfl (⟨rfl, ⟨a1, a2, a3, a4, a5, a6, a7, a8, a9, a10, g19, g20, g21, g22, g23, g24, g25, g26, g27, g28, g29⟩, (fr.wd fr4 : fr _ _ 19 29)⟩)
set_option maxHeartbeats 4000000 in
set_option maxRecDepth 100000 in
theorem c_X5_fewestByListing_0 {l : Launch} {D : va_G} {ky : kT} {A : Nat → Prop} {Hs : Heap} {ws : va_W} (hP : va_P D CL ws Hs) (hD : va_D A ws) {h th n : Nat} {T C Hd : Nat → Nat} {b : Nat} {q : Bool} {J : Nat → Nat} {bg : Bool} {pu bu : Nat} {cl mo : Int32} {K : Nat → Nat} {fw fd fc fg fo : Nat → Int32} (hpr : isMod ky ws h th n T C Hd b q J bg pu bu cl mo K fw fd fc fg fo) (hI : PI0 n C Hd b) (hT : ∀ p, T p < 4) (hn1 : 0 < n) (hn7 : n ≤ 7) : MU l yX5_fewestByListing wsX5_fewestByListing 6 143 0 0 D ky A Hs [.ref h] (fun r w => r = orN (few C Hd b q T n) ∧ MD ky w h 0 n T C Hd b q J bg pu bu cl mo K ∧ fr ws w 19 29) := by
  refine MU.of (cc := cX5_fewestByListing) (maxL := 1) (ty := .int) (by decide) rfl (Nat.le_of_ble_eq_true rfl) ?_
  intro pg en Rm sg mi av below meth co Qo hRf hRl hRc hRs hx hb hml hown hts hK hret ls hl
  have hl : lv_has ls 1 [(0, .ref h)] := hl
  have hS : va_S A Hs Hs [] := va_S.rf
  generalize ([] : List Loc) = locs at hS ⊢
  obtain ⟨a1, a2, a3, a4, a5, a6, a7, a8, a9, a10, g19, g20, g21, g22, g23, g24, g25, g26, g27, g28, g29⟩ := id hpr
  have hn8 := hI.1
  have k44 := hts (.fieldLink RX5 44 "AssemblyPlannerModel" "parts" "I") (by decide +kernel)
  have hinX5 : ∀ w ∈ wsX50, w ∈ wsX5_fewestByListing := by decide +kernel
  refine lv_aload_n hx hb dX5_fewestByListing_0 rfl (lv_at hl 0 rfl) ?_
  refine lv_aload_n hx hb dX5_fewestByListing_1 rfl (lv_at hl 0 rfl) ?_
  refine va_get (ci := 5) (C := RX5) (T := TX5) (N := 19) hx hb hts hinX5 hown hK hP 19 g19 rfl 1 (by decide) k44 (fun _ h9 => h9) rfl dX5_fewestByListing_2 ?_
  refine sn_if_eq (tgt := 17) hx hb dX5_fewestByListing_5 (by decide) (by omega) (fun c1 => absurd c1 (by omega)) (fun c1 => ?_)
  refine lv_aload_n hx hb dX5_fewestByListing_8 rfl (lv_at hl 0 rfl) ?_
  refine va_get (ci := 5) (C := RX5) (T := TX5) (N := 19) hx hb hts hinX5 hown hK hP 19 g19 rfl 1 (by decide) k44 (fun _ h9 => h9) rfl dX5_fewestByListing_9 ?_
  refine lv_bipush (v := nI 7) hx hb dX5_fewestByListing_12 bi_7 ?_
  refine sn_icmp_le (tgt := 21) hx hb dX5_fewestByListing_14 (by decide) (by omega) (by decide) (fun c2 => ?_) (fun c2 => absurd c2 (by omega))
  refine lv_iconst (v := nI 0) hx hb dX5_fewestByListing_21 ci_0 ?_
  refine mcV (c_X5_holds hP hD ⟨a1, a2, a3, a4, a5, a6, a7, a8, a9, a10, g19, g20, g21, g22, g23, g24, g25, g26, g27, g28, g29⟩ (by decide)) ⟨hx, hb, hml, hown, hts⟩ hK gX5_fewestByListing_X5_holds rfl hd_X5_holds ⟨by omega, by omega⟩ (va_recv hK hP (ci := 5) (q0 := 19) rfl g19) rfl hl.1 rfl (Nat.le_of_ble_eq_true rfl) dX5_fewestByListing_22 ⟨Nat.zero_le _, Nat.zero_le _⟩ hS (fun r ws3 H locs hq5 hP hD hS => ?_)
  obtain ⟨rfl, hpr, fr4⟩ := hq5
  obtain ⟨a1, a2, a3, a4, a5, a6, a7, a8, a9, a10, g19, g20, g21, g22, g23, g24, g25, g26, g27, g28, g29⟩ := id hpr
  refine sv_top (y := nI 1) rfl ?_
  refine sn_if_eq (tgt := 35) hx hb dX5_fewestByListing_25 (by decide) (by decide) (fun q => absurd q (by decide)) (fun _ => ?_)
  refine lv_aload_n hx hb dX5_fewestByListing_28 rfl (lv_at hl 0 rfl) ?_
  refine mcV (c_X5_best hP hD ⟨a1, a2, a3, a4, a5, a6, a7, a8, a9, a10, g19, g20, g21, g22, g23, g24, g25, g26, g27, g28, g29⟩ hI hT hn1) ⟨hx, hb, hml, hown, hts⟩ hK gX5_fewestByListing_X5_best rfl hd_X5_best ⟨by omega, by omega⟩ (va_recv hK hP (ci := 5) (q0 := 19) rfl g19) rfl hl.1 rfl (Nat.le_of_ble_eq_true rfl) dX5_fewestByListing_29 ⟨Nat.zero_le _, Nat.zero_le _⟩ hS (fun r ws7 H locs hq9 hP hD hS => ?_)
  obtain ⟨rfl, ⟨gg, go, hpr, hgo⟩, fr8⟩ := hq9
  obtain ⟨a1, a2, a3, a4, a5, a6, a7, a8, a9, a10, g19, g20, g21, g22, g23, g24, g25, g26, g27, g28, g29⟩ := id hpr
  refine lv_goto (tgt := 36) hx hb dX5_fewestByListing_32 (by decide) ?_
  exact hret 36 ls _ _ locs _ dX5_fewestByListing_36 hP hD hS rfl (⟨rfl, ⟨_, _, _, _, _, ⟨a1, a2, a3, a4, a5, a6, a7, a8, a9, a10, g19, g20, g21, g22, g23, g24, g25, g26, g27, g28, g29⟩⟩, ((fr.wd fr4 : fr _ _ 19 29).tr fr8)⟩)
set_option maxHeartbeats 4000000 in
set_option maxRecDepth 100000 in
theorem c_X5_orderAt_1a {l : Launch} {D : va_G} {ky : kT} {A : Nat → Prop} {Hs : Heap} {ws : va_W} (hP : va_P D CL ws Hs) (hD : va_D A ws) {h th n : Nat} {T C Hd : Nat → Nat} {b : Nat} {q : Bool} {J : Nat → Nat} {bg : Bool} {pu bu : Nat} {cl mo : Int32} {K : Nat → Nat} {fw fd fc fg fo : Nat → Int32} (hpr : isMod ky ws h th n T C Hd b q J bg pu bu cl mo K fw fd fc fg fo) {x : Int32} (hk : prt n x = false) : MU l yX5_orderAt wsX5_orderAt 1 21 0 0 D ky A Hs [.ref h, .int x] (fun r w => r = nI 0 ∧ isMod ky w h 1 n T C Hd b q J bg pu bu cl mo K fw fd fc fg fo ∧ fr ws w 19 29) := by
  refine MU.of (cc := cX5_orderAt) (maxL := 3) (ty := .int) (by decide) rfl (Nat.le_of_ble_eq_true rfl) ?_
  intro pg en Rm sg mi av below meth co Qo hRf hRl hRc hRs hx hb hml hown hts hK hret ls hl
  have hl : lv_has ls 3 [(0, .ref h), (1, .int x)] := hl
  have hS : va_S A Hs Hs [] := va_S.rf
  generalize ([] : List Loc) = locs at hS ⊢
  obtain ⟨a1, a2, a3, a4, a5, a6, a7, a8, a9, a10, g19, g20, g21, g22, g23, g24, g25, g26, g27, g28, g29⟩ := id hpr
  have k44 := hts (.fieldLink RX5 44 "AssemblyPlannerModel" "parts" "I") (by decide +kernel)
  have hinX5 : ∀ w ∈ wsX50, w ∈ wsX5_orderAt := by decide +kernel
  refine lv_iload_n hx hb dX5_orderAt_0 rfl (lv_at hl 1 rfl) ?_
  refine lv_if_lt (tgt := 24) hx hb dX5_orderAt_1 (by decide) (fun c1 => ?_) (fun c1 => ?_)
  · refine lv_iconst (v := nI 0) hx hb dX5_orderAt_24 ci_0 ?_
    refine lv_istore_n (lv' := [(2, .int (nI 0)), (0, .ref h), (1, .int x)]) hx hb dX5_orderAt_25 rfl hl (by decide) rfl (fun ls hl => ?_)
    refine lv_aload_n hx hb dX5_orderAt_26 rfl (lv_at hl 1 rfl) ?_
    refine lv_iload_n hx hb dX5_orderAt_27 rfl (lv_at hl 0 rfl) ?_
    refine sn_if_eq (tgt := 35) hx hb dX5_orderAt_28 (by decide) (by decide) (fun _ => ?_) (fun q => absurd q (by decide))
    refine lv_iconst (v := nI 1) hx hb dX5_orderAt_35 ci_1 ?_
    refine mcV (c_X5_holds hP hD ⟨a1, a2, a3, a4, a5, a6, a7, a8, a9, a10, g19, g20, g21, g22, g23, g24, g25, g26, g27, g28, g29⟩ (by decide)) ⟨hx, hb, hml, hown, hts⟩ hK gX5_orderAt_X5_holds rfl hd_X5_holds ⟨by omega, by omega⟩ (va_recv hK hP (ci := 5) (q0 := 19) rfl g19) rfl hl.1 rfl (Nat.le_of_ble_eq_true rfl) dX5_orderAt_36 ⟨Nat.zero_le _, Nat.zero_le _⟩ hS (fun r ws3 H locs hq5 hP hD hS => ?_)
    obtain ⟨rfl, hpr, fr4⟩ := hq5
    obtain ⟨a1, a2, a3, a4, a5, a6, a7, a8, a9, a10, g19, g20, g21, g22, g23, g24, g25, g26, g27, g28, g29⟩ := id hpr
    refine sv_top (y := nI 0) rfl ?_
    refine sn_if_eq (tgt := 51) hx hb dX5_orderAt_39 (by decide) (by decide) (fun _ => ?_) (fun q => absurd q (by decide))
    refine lv_iconst (v := nI 0) hx hb dX5_orderAt_51 ci_0 ?_
    exact hret 52 ls _ _ locs _ dX5_orderAt_52 hP hD hS rfl (⟨rfl, ⟨a1, a2, a3, a4, a5, a6, a7, a8, a9, a10, g19, g20, g21, g22, g23, g24, g25, g26, g27, g28, g29⟩, (fr.wd fr4 : fr _ _ 19 29)⟩)
  · refine lv_iload_n hx hb dX5_orderAt_4 rfl (lv_at hl 1 rfl) ?_
    refine lv_aload_n hx hb dX5_orderAt_5 rfl (lv_at hl 0 rfl) ?_
    refine va_get (ci := 5) (C := RX5) (T := TX5) (N := 19) hx hb hts hinX5 hown hK hP 19 g19 rfl 1 (by decide) k44 (fun _ h9 => h9) rfl dX5_orderAt_6 ?_
    refine lv_icmp_ge (tgt := 24) hx hb dX5_orderAt_9 (by decide) (fun c7 => ?_) (fun c7 => absurd hk (by unfold prt; rw [decide_eq_true c1, decide_eq_true (Int32.not_le.mp c7)]; decide))
    refine lv_iconst (v := nI 0) hx hb dX5_orderAt_24 ci_0 ?_
    refine lv_istore_n (lv' := [(2, .int (nI 0)), (0, .ref h), (1, .int x)]) hx hb dX5_orderAt_25 rfl hl (by decide) rfl (fun ls hl => ?_)
    refine lv_aload_n hx hb dX5_orderAt_26 rfl (lv_at hl 1 rfl) ?_
    refine lv_iload_n hx hb dX5_orderAt_27 rfl (lv_at hl 0 rfl) ?_
    refine sn_if_eq (tgt := 35) hx hb dX5_orderAt_28 (by decide) (by decide) (fun _ => ?_) (fun q => absurd q (by decide))
    refine lv_iconst (v := nI 1) hx hb dX5_orderAt_35 ci_1 ?_
    refine mcV (c_X5_holds hP hD ⟨a1, a2, a3, a4, a5, a6, a7, a8, a9, a10, g19, g20, g21, g22, g23, g24, g25, g26, g27, g28, g29⟩ (by decide)) ⟨hx, hb, hml, hown, hts⟩ hK gX5_orderAt_X5_holds rfl hd_X5_holds ⟨by omega, by omega⟩ (va_recv hK hP (ci := 5) (q0 := 19) rfl g19) rfl hl.1 rfl (Nat.le_of_ble_eq_true rfl) dX5_orderAt_36 ⟨Nat.zero_le _, Nat.zero_le _⟩ hS (fun r ws9 H locs hq11 hP hD hS => ?_)
    obtain ⟨rfl, hpr, fr10⟩ := hq11
    obtain ⟨a1, a2, a3, a4, a5, a6, a7, a8, a9, a10, g19, g20, g21, g22, g23, g24, g25, g26, g27, g28, g29⟩ := id hpr
    refine sv_top (y := nI 0) rfl ?_
    refine sn_if_eq (tgt := 51) hx hb dX5_orderAt_39 (by decide) (by decide) (fun _ => ?_) (fun q => absurd q (by decide))
    refine lv_iconst (v := nI 0) hx hb dX5_orderAt_51 ci_0 ?_
    exact hret 52 ls _ _ locs _ dX5_orderAt_52 hP hD hS rfl (⟨rfl, ⟨a1, a2, a3, a4, a5, a6, a7, a8, a9, a10, g19, g20, g21, g22, g23, g24, g25, g26, g27, g28, g29⟩, (fr.wd fr10 : fr _ _ 19 29)⟩)
set_option maxHeartbeats 4000000 in
set_option maxRecDepth 100000 in
theorem c_X5_orderAt_1b {l : Launch} {D : va_G} {ky : kT} {A : Nat → Prop} {Hs : Heap} {ws : va_W} (hP : va_P D CL ws Hs) (hD : va_D A ws) {h th n : Nat} {T C Hd : Nat → Nat} {b : Nat} {q : Bool} {J : Nat → Nat} {bg : Bool} {pu bu : Nat} {cl mo : Int32} {K : Nat → Nat} {fw fd fc fg fo : Nat → Int32} (hpr : isMod ky ws h th n T C Hd b q J bg pu bu cl mo K fw fd fc fg fo) (hI : PI0 n C Hd b) (hT : ∀ p, T p < 4) {pt : Nat} (hp : pt < n) (hf : few C Hd b q T n = 1000) : MU l yX5_orderAt wsX5_orderAt 6 143 0 0 D ky A Hs [.ref h, .int (nI pt)] (fun r w => r = nI 0 ∧ MD ky w h 1 n T C Hd b q J bg pu bu cl mo K ∧ fr ws w 19 29) := by
  refine MU.of (cc := cX5_orderAt) (maxL := 3) (ty := .int) (by decide) rfl (Nat.le_of_ble_eq_true rfl) ?_
  intro pg en Rm sg mi av below meth co Qo hRf hRl hRc hRs hx hb hml hown hts hK hret ls hl
  have hl : lv_has ls 3 [(0, .ref h), (1, .int (nI pt))] := hl
  have hS : va_S A Hs Hs [] := va_S.rf
  generalize ([] : List Loc) = locs at hS ⊢
  obtain ⟨a1, a2, a3, a4, a5, a6, a7, a8, a9, a10, g19, g20, g21, g22, g23, g24, g25, g26, g27, g28, g29⟩ := id hpr
  have hn8 := hI.1
  have k44 := hts (.fieldLink RX5 44 "AssemblyPlannerModel" "parts" "I") (by decide +kernel)
  have hinX5 : ∀ w ∈ wsX50, w ∈ wsX5_orderAt := by decide +kernel
  refine lv_iload_n hx hb dX5_orderAt_0 rfl (lv_at hl 1 rfl) ?_
  refine lv_if_lt (tgt := 24) hx hb dX5_orderAt_1 (by decide) (fun q => absurd q (nI_pos (by omega))) (fun _ => ?_)
  refine lv_iload_n hx hb dX5_orderAt_4 rfl (lv_at hl 1 rfl) ?_
  refine lv_aload_n hx hb dX5_orderAt_5 rfl (lv_at hl 0 rfl) ?_
  refine va_get (ci := 5) (C := RX5) (T := TX5) (N := 19) hx hb hts hinX5 hown hK hP 19 g19 rfl 1 (by decide) k44 (fun _ h9 => h9) rfl dX5_orderAt_6 ?_
  refine sn_icmp_ge (tgt := 24) hx hb dX5_orderAt_9 (by decide) (by omega) (by omega) (fun c2 => absurd c2 (by omega)) (fun c2 => ?_)
  refine lv_aload_n hx hb dX5_orderAt_12 rfl (lv_at hl 0 rfl) ?_
  refine mcV (c_X5_best hP hD ⟨a1, a2, a3, a4, a5, a6, a7, a8, a9, a10, g19, g20, g21, g22, g23, g24, g25, g26, g27, g28, g29⟩ hI hT (by omega)) ⟨hx, hb, hml, hown, hts⟩ hK gX5_orderAt_X5_best rfl hd_X5_best ⟨by omega, by omega⟩ (va_recv hK hP (ci := 5) (q0 := 19) rfl g19) rfl hl.1 rfl (Nat.le_of_ble_eq_true rfl) dX5_orderAt_13 ⟨Nat.zero_le _, Nat.zero_le _⟩ hS (fun r ws3 H locs hq5 hP hD hS => ?_)
  obtain ⟨rfl, ⟨gg, go, hpr, hgo⟩, fr4⟩ := hq5
  obtain ⟨a1, a2, a3, a4, a5, a6, a7, a8, a9, a10, g19, g20, g21, g22, g23, g24, g25, g26, g27, g28, g29⟩ := id hpr
  refine lv_iconst (v := -1) hx hb dX5_orderAt_16 ci_m1 ?_
  refine lv_icmp_eq (tgt := 24) hx hb dX5_orderAt_17 (by decide) (fun c6 => ?_) (fun c6 => absurd (show orN (few C Hd b q T n) = -1 by unfold orN; rw [if_pos hf]) c6)
  refine lv_iconst (v := nI 0) hx hb dX5_orderAt_24 ci_0 ?_
  refine lv_istore_n (lv' := [(2, .int (nI 0)), (0, .ref h), (1, .int (nI pt))]) hx hb dX5_orderAt_25 rfl hl (by decide) rfl (fun ls hl => ?_)
  refine lv_aload_n hx hb dX5_orderAt_26 rfl (lv_at hl 1 rfl) ?_
  refine lv_iload_n hx hb dX5_orderAt_27 rfl (lv_at hl 0 rfl) ?_
  refine sn_if_eq (tgt := 35) hx hb dX5_orderAt_28 (by decide) (by decide) (fun _ => ?_) (fun q => absurd q (by decide))
  refine lv_iconst (v := nI 1) hx hb dX5_orderAt_35 ci_1 ?_
  refine mcV (c_X5_holds hP hD ⟨a1, a2, a3, a4, a5, a6, a7, a8, a9, a10, g19, g20, g21, g22, g23, g24, g25, g26, g27, g28, g29⟩ (by decide)) ⟨hx, hb, hml, hown, hts⟩ hK gX5_orderAt_X5_holds rfl hd_X5_holds ⟨by omega, by omega⟩ (va_recv hK hP (ci := 5) (q0 := 19) rfl g19) rfl hl.1 rfl (Nat.le_of_ble_eq_true rfl) dX5_orderAt_36 ⟨Nat.zero_le _, Nat.zero_le _⟩ hS (fun r ws8 H locs hq10 hP hD hS => ?_)
  obtain ⟨rfl, hpr, fr9⟩ := hq10
  obtain ⟨a1, a2, a3, a4, a5, a6, a7, a8, a9, a10, g19, g20, g21, g22, g23, g24, g25, g26, g27, g28, g29⟩ := id hpr
  refine sv_top (y := nI 0) rfl ?_
  refine sn_if_eq (tgt := 51) hx hb dX5_orderAt_39 (by decide) (by decide) (fun _ => ?_) (fun q => absurd q (by decide))
  refine lv_iconst (v := nI 0) hx hb dX5_orderAt_51 ci_0 ?_
  exact hret 52 ls _ _ locs _ dX5_orderAt_52 hP hD hS rfl (⟨rfl, ⟨_, _, _, _, _, ⟨a1, a2, a3, a4, a5, a6, a7, a8, a9, a10, g19, g20, g21, g22, g23, g24, g25, g26, g27, g28, g29⟩⟩, ((fr.wd fr4 : fr _ _ 19 29).tr fr9)⟩)
set_option maxHeartbeats 4000000 in
set_option maxRecDepth 100000 in
theorem c_X5_orderAt_0 {l : Launch} {D : va_G} {ky : kT} {A : Nat → Prop} {Hs : Heap} {ws : va_W} (hP : va_P D CL ws Hs) (hD : va_D A ws) {h th n : Nat} {T C Hd : Nat → Nat} {b : Nat} {q : Bool} {J : Nat → Nat} {bg : Bool} {pu bu : Nat} {cl mo : Int32} {K : Nat → Nat} {fw fd fc fg fo : Nat → Int32} (hpr : isMod ky ws h th n T C Hd b q J bg pu bu cl mo K fw fd fc fg fo) (hI : PI0 n C Hd b) (hT : ∀ p, T p < 4) {pt : Nat} (hp : pt < n) (hf : few C Hd b q T n < 1000) : MU l yX5_orderAt wsX5_orderAt 6 143 0 0 D ky A Hs [.ref h, .int (nI pt)] (fun r w => r = nI (bp C Hd b q T n pt) ∧ MD ky w h 0 n T C Hd b q J bg pu bu cl mo K ∧ fr ws w 19 29) := by
  refine MU.of (cc := cX5_orderAt) (maxL := 3) (ty := .int) (by decide) rfl (Nat.le_of_ble_eq_true rfl) ?_
  intro pg en Rm sg mi av below meth co Qo hRf hRl hRc hRs hx hb hml hown hts hK hret ls hl
  have hl : lv_has ls 3 [(0, .ref h), (1, .int (nI pt))] := hl
  have hS : va_S A Hs Hs [] := va_S.rf
  generalize ([] : List Loc) = locs at hS ⊢
  obtain ⟨a1, a2, a3, a4, a5, a6, a7, a8, a9, a10, g19, g20, g21, g22, g23, g24, g25, g26, g27, g28, g29⟩ := id hpr
  have hn8 := hI.1
  have k44 := hts (.fieldLink RX5 44 "AssemblyPlannerModel" "parts" "I") (by decide +kernel)
  have hinX5 : ∀ w ∈ wsX50, w ∈ wsX5_orderAt := by decide +kernel
  have k37 := hts (.fieldLink RX5 37 "AssemblyPlannerModel" "order" "[I") (by decide +kernel)
  refine lv_iload_n hx hb dX5_orderAt_0 rfl (lv_at hl 1 rfl) ?_
  refine lv_if_lt (tgt := 24) hx hb dX5_orderAt_1 (by decide) (fun q => absurd q (nI_pos (by omega))) (fun _ => ?_)
  refine lv_iload_n hx hb dX5_orderAt_4 rfl (lv_at hl 1 rfl) ?_
  refine lv_aload_n hx hb dX5_orderAt_5 rfl (lv_at hl 0 rfl) ?_
  refine va_get (ci := 5) (C := RX5) (T := TX5) (N := 19) hx hb hts hinX5 hown hK hP 19 g19 rfl 1 (by decide) k44 (fun _ h9 => h9) rfl dX5_orderAt_6 ?_
  refine sn_icmp_ge (tgt := 24) hx hb dX5_orderAt_9 (by decide) (by omega) (by omega) (fun c2 => absurd c2 (by omega)) (fun c2 => ?_)
  refine lv_aload_n hx hb dX5_orderAt_12 rfl (lv_at hl 0 rfl) ?_
  refine mcV (c_X5_best hP hD ⟨a1, a2, a3, a4, a5, a6, a7, a8, a9, a10, g19, g20, g21, g22, g23, g24, g25, g26, g27, g28, g29⟩ hI hT (by omega)) ⟨hx, hb, hml, hown, hts⟩ hK gX5_orderAt_X5_best rfl hd_X5_best ⟨by omega, by omega⟩ (va_recv hK hP (ci := 5) (q0 := 19) rfl g19) rfl hl.1 rfl (Nat.le_of_ble_eq_true rfl) dX5_orderAt_13 ⟨Nat.zero_le _, Nat.zero_le _⟩ hS (fun r ws3 H locs hq5 hP hD hS => ?_)
  obtain ⟨rfl, ⟨gg, go, hpr, hgo⟩, fr4⟩ := hq5
  obtain ⟨a1, a2, a3, a4, a5, a6, a7, a8, a9, a10, g19, g20, g21, g22, g23, g24, g25, g26, g27, g28, g29⟩ := id hpr
  refine lv_iconst (v := -1) hx hb dX5_orderAt_16 ci_m1 ?_
  refine lv_icmp_eq (tgt := 24) hx hb dX5_orderAt_17 (by decide) (fun c6 => absurd c6 (show ¬ orN (few C Hd b q T n) = -1 by unfold orN; rw [if_neg (by omega)]; exact fun z => m1_ne (by omega) z.symm)) (fun c6 => ?_)
  refine lv_iconst (v := nI 1) hx hb dX5_orderAt_20 ci_1 ?_
  refine lv_goto (tgt := 25) hx hb dX5_orderAt_21 (by decide) ?_
  refine lv_istore_n (lv' := [(2, .int (nI 1)), (0, .ref h), (1, .int (nI pt))]) hx hb dX5_orderAt_25 rfl hl (by decide) rfl (fun ls hl => ?_)
  refine lv_aload_n hx hb dX5_orderAt_26 rfl (lv_at hl 1 rfl) ?_
  refine lv_iload_n hx hb dX5_orderAt_27 rfl (lv_at hl 0 rfl) ?_
  refine sn_if_eq (tgt := 35) hx hb dX5_orderAt_28 (by decide) (by decide) (fun q => absurd q (by decide)) (fun _ => ?_)
  refine lv_iconst (v := nI 0) hx hb dX5_orderAt_31 ci_0 ?_
  refine lv_goto (tgt := 36) hx hb dX5_orderAt_32 (by decide) ?_
  refine mcV (c_X5_holds hP hD ⟨a1, a2, a3, a4, a5, a6, a7, a8, a9, a10, g19, g20, g21, g22, g23, g24, g25, g26, g27, g28, g29⟩ (by decide)) ⟨hx, hb, hml, hown, hts⟩ hK gX5_orderAt_X5_holds rfl hd_X5_holds ⟨by omega, by omega⟩ (va_recv hK hP (ci := 5) (q0 := 19) rfl g19) rfl hl.1 rfl (Nat.le_of_ble_eq_true rfl) dX5_orderAt_36 ⟨Nat.zero_le _, Nat.zero_le _⟩ hS (fun r ws8 H locs hq10 hP hD hS => ?_)
  obtain ⟨rfl, hpr, fr9⟩ := hq10
  obtain ⟨a1, a2, a3, a4, a5, a6, a7, a8, a9, a10, g19, g20, g21, g22, g23, g24, g25, g26, g27, g28, g29⟩ := id hpr
  refine sv_top (y := nI 1) rfl ?_
  refine sn_if_eq (tgt := 51) hx hb dX5_orderAt_39 (by decide) (by decide) (fun q => absurd q (by decide)) (fun _ => ?_)
  refine lv_aload_n hx hb dX5_orderAt_42 rfl (lv_at hl 1 rfl) ?_
  refine va_get (ci := 5) (C := RX5) (T := TX5) (N := 19) hx hb hts hinX5 hown hK hP 19 g19 rfl 18 (by decide) k37 (fun _ h9 => h9) rfl dX5_orderAt_43 ?_
  refine lv_iload_n hx hb dX5_orderAt_46 rfl (lv_at hl 2 rfl) ?_
  refine sv_iald hx hb hK hP 29 g29 (j := pt) (by omega) (by decide) dX5_orderAt_47 ?_
  refine W.eq (g2 := F0 mi 48 ls (.int (go pt) :: [])) rfl ?_
  refine sv_top (y := nI (bp C Hd b q T n pt)) (hgo hf pt hp) ?_
  refine lv_goto (tgt := 52) hx hb dX5_orderAt_48 (by decide) ?_
  exact hret 52 ls _ _ locs _ dX5_orderAt_52 hP hD hS rfl (⟨rfl, ⟨_, _, _, _, _, ⟨a1, a2, a3, a4, a5, a6, a7, a8, a9, a10, g19, g20, g21, g22, g23, g24, g25, g26, g27, g28, g29⟩⟩, ((fr.wd fr4 : fr _ _ 19 29).tr fr9)⟩)
set_option maxHeartbeats 4000000 in
set_option maxRecDepth 100000 in
theorem c_X5_begin_1a {l : Launch} {D : va_G} {ky : kT} {A : Nat → Prop} {Hs : Heap} {ws : va_W} (hP : va_P D CL ws Hs) (hD : va_D A ws) {h th n : Nat} {T C Hd : Nat → Nat} {b : Nat} {q : Bool} {J : Nat → Nat} {bg : Bool} {pu bu : Nat} {cl mo : Int32} {K : Nat → Nat} {fw fd fc fg fo : Nat → Int32} (hpr : isMod ky ws h th n T C Hd b q J bg pu bu cl mo K fw fd fc fg fo) (hn0 : n = 0) : MU l yX5_begin wsX5_begin 1 21 0 0 D ky A Hs [.ref h] (fun r w => r = nI 0 ∧ isMod ky w h 1 n T C Hd b q J bg pu bu cl mo K fw fd fc fg fo ∧ fr ws w 19 29) := by
  refine MU.of (cc := cX5_begin) (maxL := 2) (ty := .int) (by decide) rfl (Nat.le_of_ble_eq_true rfl) ?_
  intro pg en Rm sg mi av below meth co Qo hRf hRl hRc hRs hx hb hml hown hts hK hret ls hl
  have hl : lv_has ls 2 [(0, .ref h)] := hl
  have hS : va_S A Hs Hs [] := va_S.rf
  generalize ([] : List Loc) = locs at hS ⊢
  obtain ⟨a1, a2, a3, a4, a5, a6, a7, a8, a9, a10, g19, g20, g21, g22, g23, g24, g25, g26, g27, g28, g29⟩ := id hpr
  have k44 := hts (.fieldLink RX5 44 "AssemblyPlannerModel" "parts" "I") (by decide +kernel)
  have hinX5 : ∀ w ∈ wsX50, w ∈ wsX5_begin := by decide +kernel
  refine lv_aload_n hx hb dX5_begin_0 rfl (lv_at hl 0 rfl) ?_
  refine lv_aload_n hx hb dX5_begin_1 rfl (lv_at hl 0 rfl) ?_
  refine va_get (ci := 5) (C := RX5) (T := TX5) (N := 19) hx hb hts hinX5 hown hK hP 19 g19 rfl 1 (by decide) k44 (fun _ h9 => h9) rfl dX5_begin_2 ?_
  refine sn_if_eq (tgt := 16) hx hb dX5_begin_5 (by decide) (by omega) (fun c1 => ?_) (fun c1 => absurd hn0 c1)
  refine lv_iconst (v := nI 1) hx hb dX5_begin_16 ci_1 ?_
  refine lv_goto (tgt := 21) hx hb dX5_begin_17 (by decide) ?_
  refine mcV (c_X5_holds hP hD ⟨a1, a2, a3, a4, a5, a6, a7, a8, a9, a10, g19, g20, g21, g22, g23, g24, g25, g26, g27, g28, g29⟩ (by decide)) ⟨hx, hb, hml, hown, hts⟩ hK gX5_begin_X5_holds rfl hd_X5_holds ⟨by omega, by omega⟩ (va_recv hK hP (ci := 5) (q0 := 19) rfl g19) rfl hl.1 rfl (Nat.le_of_ble_eq_true rfl) dX5_begin_21 ⟨Nat.zero_le _, Nat.zero_le _⟩ hS (fun r ws2 H locs hq4 hP hD hS => ?_)
  obtain ⟨rfl, hpr, fr3⟩ := hq4
  obtain ⟨a1, a2, a3, a4, a5, a6, a7, a8, a9, a10, g19, g20, g21, g22, g23, g24, g25, g26, g27, g28, g29⟩ := id hpr
  refine sv_top (y := nI 0) rfl ?_
  refine sn_if_ne (tgt := 29) hx hb dX5_begin_24 (by decide) (by decide) (fun q => absurd q (by decide)) (fun _ => ?_)
  refine lv_iconst (v := nI 0) hx hb dX5_begin_27 ci_0 ?_
  exact hret 28 ls _ _ locs _ dX5_begin_28 hP hD hS rfl (⟨rfl, ⟨a1, a2, a3, a4, a5, a6, a7, a8, a9, a10, g19, g20, g21, g22, g23, g24, g25, g26, g27, g28, g29⟩, (fr.wd fr3 : fr _ _ 19 29)⟩)
set_option maxHeartbeats 4000000 in
set_option maxRecDepth 100000 in
theorem c_X5_begin_1b {l : Launch} {D : va_G} {ky : kT} {A : Nat → Prop} {Hs : Heap} {ws : va_W} (hP : va_P D CL ws Hs) (hD : va_D A ws) {h th n : Nat} {T C Hd : Nat → Nat} {b : Nat} {q : Bool} {J : Nat → Nat} {bg : Bool} {pu bu : Nat} {cl mo : Int32} {K : Nat → Nat} {fw fd fc fg fo : Nat → Int32} (hpr : isMod ky ws h th n T C Hd b q J bg pu bu cl mo K fw fd fc fg fo) (hI : PI0 n C Hd b) (hT : ∀ p, T p < 4) (hn1 : 0 < n) (hf : few C Hd b q T n = 1000) : MU l yX5_begin wsX5_begin 6 143 0 0 D ky A Hs [.ref h] (fun r w => r = nI 0 ∧ MD ky w h 1 n T C Hd b q J bg pu bu cl mo K ∧ fr ws w 19 29) := by
  refine MU.of (cc := cX5_begin) (maxL := 2) (ty := .int) (by decide) rfl (Nat.le_of_ble_eq_true rfl) ?_
  intro pg en Rm sg mi av below meth co Qo hRf hRl hRc hRs hx hb hml hown hts hK hret ls hl
  have hl : lv_has ls 2 [(0, .ref h)] := hl
  have hS : va_S A Hs Hs [] := va_S.rf
  generalize ([] : List Loc) = locs at hS ⊢
  obtain ⟨a1, a2, a3, a4, a5, a6, a7, a8, a9, a10, g19, g20, g21, g22, g23, g24, g25, g26, g27, g28, g29⟩ := id hpr
  have hn8 := hI.1
  have k44 := hts (.fieldLink RX5 44 "AssemblyPlannerModel" "parts" "I") (by decide +kernel)
  have hinX5 : ∀ w ∈ wsX50, w ∈ wsX5_begin := by decide +kernel
  refine lv_aload_n hx hb dX5_begin_0 rfl (lv_at hl 0 rfl) ?_
  refine lv_aload_n hx hb dX5_begin_1 rfl (lv_at hl 0 rfl) ?_
  refine va_get (ci := 5) (C := RX5) (T := TX5) (N := 19) hx hb hts hinX5 hown hK hP 19 g19 rfl 1 (by decide) k44 (fun _ h9 => h9) rfl dX5_begin_2 ?_
  refine sn_if_eq (tgt := 16) hx hb dX5_begin_5 (by decide) (by omega) (fun c1 => absurd c1 (by omega)) (fun c1 => ?_)
  refine lv_aload_n hx hb dX5_begin_8 rfl (lv_at hl 0 rfl) ?_
  refine mcV (c_X5_best hP hD ⟨a1, a2, a3, a4, a5, a6, a7, a8, a9, a10, g19, g20, g21, g22, g23, g24, g25, g26, g27, g28, g29⟩ hI hT hn1) ⟨hx, hb, hml, hown, hts⟩ hK gX5_begin_X5_best rfl hd_X5_best ⟨by omega, by omega⟩ (va_recv hK hP (ci := 5) (q0 := 19) rfl g19) rfl hl.1 rfl (Nat.le_of_ble_eq_true rfl) dX5_begin_9 ⟨Nat.zero_le _, Nat.zero_le _⟩ hS (fun r ws2 H locs hq4 hP hD hS => ?_)
  obtain ⟨rfl, ⟨gg, go, hpr, hgo⟩, fr3⟩ := hq4
  obtain ⟨a1, a2, a3, a4, a5, a6, a7, a8, a9, a10, g19, g20, g21, g22, g23, g24, g25, g26, g27, g28, g29⟩ := id hpr
  refine lv_iconst (v := -1) hx hb dX5_begin_12 ci_m1 ?_
  refine lv_icmp_ne (tgt := 20) hx hb dX5_begin_13 (by decide) (fun c5 => absurd (show orN (few C Hd b q T n) = -1 by unfold orN; rw [if_pos hf]) c5) (fun c5 => ?_)
  refine lv_iconst (v := nI 1) hx hb dX5_begin_16 ci_1 ?_
  refine lv_goto (tgt := 21) hx hb dX5_begin_17 (by decide) ?_
  refine mcV (c_X5_holds hP hD ⟨a1, a2, a3, a4, a5, a6, a7, a8, a9, a10, g19, g20, g21, g22, g23, g24, g25, g26, g27, g28, g29⟩ (by decide)) ⟨hx, hb, hml, hown, hts⟩ hK gX5_begin_X5_holds rfl hd_X5_holds ⟨by omega, by omega⟩ (va_recv hK hP (ci := 5) (q0 := 19) rfl g19) rfl hl.1 rfl (Nat.le_of_ble_eq_true rfl) dX5_begin_21 ⟨Nat.zero_le _, Nat.zero_le _⟩ hS (fun r ws6 H locs hq8 hP hD hS => ?_)
  obtain ⟨rfl, hpr, fr7⟩ := hq8
  obtain ⟨a1, a2, a3, a4, a5, a6, a7, a8, a9, a10, g19, g20, g21, g22, g23, g24, g25, g26, g27, g28, g29⟩ := id hpr
  refine sv_top (y := nI 0) rfl ?_
  refine sn_if_ne (tgt := 29) hx hb dX5_begin_24 (by decide) (by decide) (fun q => absurd q (by decide)) (fun _ => ?_)
  refine lv_iconst (v := nI 0) hx hb dX5_begin_27 ci_0 ?_
  exact hret 28 ls _ _ locs _ dX5_begin_28 hP hD hS rfl (⟨rfl, ⟨_, _, _, _, _, ⟨a1, a2, a3, a4, a5, a6, a7, a8, a9, a10, g19, g20, g21, g22, g23, g24, g25, g26, g27, g28, g29⟩⟩, ((fr.wd fr3 : fr _ _ 19 29).tr fr7)⟩)
set_option maxHeartbeats 4000000 in
set_option maxRecDepth 100000 in
theorem c_X5_begin_0 {l : Launch} {D : va_G} {ky : kT} {A : Nat → Prop} {Hs : Heap} {ws : va_W} (hP : va_P D CL ws Hs) (hD : va_D A ws) {h th n : Nat} {T C Hd : Nat → Nat} {b : Nat} {q : Bool} {J : Nat → Nat} {bg : Bool} {pu bu : Nat} {cl mo : Int32} {K : Nat → Nat} {fw fd fc fg fo : Nat → Int32} (hpr : isMod ky ws h th n T C Hd b q J bg pu bu cl mo K fw fd fc fg fo) (hI : PI0 n C Hd b) (hT : ∀ p, T p < 4) (hn1 : 0 < n) (hf : few C Hd b q T n < 1000) : MU l yX5_begin wsX5_begin 6 143 0 0 D ky A Hs [.ref h] (fun r w => r = nI n ∧ MD ky w h 0 n T C Hd b q J true 0 0 ((nI 0)) ((-1)) ((zro K 8)) ∧ fr ws w 19 29) := by
  refine MU.of (cc := cX5_begin) (maxL := 2) (ty := .int) (by decide) rfl (Nat.le_of_ble_eq_true rfl) ?_
  intro pg en Rm sg mi av below meth co Qo hRf hRl hRc hRs hx hb hml hown hts hK hret ls hl
  have hl : lv_has ls 2 [(0, .ref h)] := hl
  have hS : va_S A Hs Hs [] := va_S.rf
  generalize ([] : List Loc) = locs at hS ⊢
  obtain ⟨a1, a2, a3, a4, a5, a6, a7, a8, a9, a10, g19, g20, g21, g22, g23, g24, g25, g26, g27, g28, g29⟩ := id hpr
  have hn8 := hI.1
  have k44 := hts (.fieldLink RX5 44 "AssemblyPlannerModel" "parts" "I") (by decide +kernel)
  have hinX5 : ∀ w ∈ wsX50, w ∈ wsX5_begin := by decide +kernel
  have k54 := hts (.fieldLink RX5 54 "AssemblyPlannerModel" "isBegun" "Z") (by decide +kernel)
  have k125 := hts (.fieldLink RX5 125 "AssemblyPlannerModel" "putIn" "I") (by decide +kernel)
  have k128 := hts (.fieldLink RX5 128 "AssemblyPlannerModel" "built" "I") (by decide +kernel)
  have k131 := hts (.fieldLink RX5 131 "AssemblyPlannerModel" "clock" "I") (by decide +kernel)
  have k134 := hts (.fieldLink RX5 134 "AssemblyPlannerModel" "mounted" "I") (by decide +kernel)
  have k22 := hts (.fieldLink RX5 22 "AssemblyPlannerModel" "cleared" "[I") (by decide +kernel)
  refine lv_aload_n hx hb dX5_begin_0 rfl (lv_at hl 0 rfl) ?_
  refine lv_aload_n hx hb dX5_begin_1 rfl (lv_at hl 0 rfl) ?_
  refine va_get (ci := 5) (C := RX5) (T := TX5) (N := 19) hx hb hts hinX5 hown hK hP 19 g19 rfl 1 (by decide) k44 (fun _ h9 => h9) rfl dX5_begin_2 ?_
  refine sn_if_eq (tgt := 16) hx hb dX5_begin_5 (by decide) (by omega) (fun c1 => absurd c1 (by omega)) (fun c1 => ?_)
  refine lv_aload_n hx hb dX5_begin_8 rfl (lv_at hl 0 rfl) ?_
  refine mcV (c_X5_best hP hD ⟨a1, a2, a3, a4, a5, a6, a7, a8, a9, a10, g19, g20, g21, g22, g23, g24, g25, g26, g27, g28, g29⟩ hI hT hn1) ⟨hx, hb, hml, hown, hts⟩ hK gX5_begin_X5_best rfl hd_X5_best ⟨by omega, by omega⟩ (va_recv hK hP (ci := 5) (q0 := 19) rfl g19) rfl hl.1 rfl (Nat.le_of_ble_eq_true rfl) dX5_begin_9 ⟨Nat.zero_le _, Nat.zero_le _⟩ hS (fun r ws2 H locs hq4 hP hD hS => ?_)
  obtain ⟨rfl, ⟨gg, go, hpr, hgo⟩, fr3⟩ := hq4
  obtain ⟨a1, a2, a3, a4, a5, a6, a7, a8, a9, a10, g19, g20, g21, g22, g23, g24, g25, g26, g27, g28, g29⟩ := id hpr
  refine lv_iconst (v := -1) hx hb dX5_begin_12 ci_m1 ?_
  refine lv_icmp_ne (tgt := 20) hx hb dX5_begin_13 (by decide) (fun c5 => ?_) (fun c5 => absurd c5 (show ¬ orN (few C Hd b q T n) = -1 by unfold orN; rw [if_neg (by omega)]; exact fun z => m1_ne (by omega) z.symm))
  refine lv_iconst (v := nI 0) hx hb dX5_begin_20 ci_0 ?_
  refine mcV (c_X5_holds hP hD ⟨a1, a2, a3, a4, a5, a6, a7, a8, a9, a10, g19, g20, g21, g22, g23, g24, g25, g26, g27, g28, g29⟩ (by decide)) ⟨hx, hb, hml, hown, hts⟩ hK gX5_begin_X5_holds rfl hd_X5_holds ⟨by omega, by omega⟩ (va_recv hK hP (ci := 5) (q0 := 19) rfl g19) rfl hl.1 rfl (Nat.le_of_ble_eq_true rfl) dX5_begin_21 ⟨Nat.zero_le _, Nat.zero_le _⟩ hS (fun r ws6 H locs hq8 hP hD hS => ?_)
  obtain ⟨rfl, hpr, fr7⟩ := hq8
  obtain ⟨a1, a2, a3, a4, a5, a6, a7, a8, a9, a10, g19, g20, g21, g22, g23, g24, g25, g26, g27, g28, g29⟩ := id hpr
  refine sv_top (y := nI 1) rfl ?_
  refine sn_if_ne (tgt := 29) hx hb dX5_begin_24 (by decide) (by decide) (fun _ => ?_) (fun q => absurd q (by decide))
  refine lv_aload_n hx hb dX5_begin_29 rfl (lv_at hl 0 rfl) ?_
  refine lv_iconst (v := nI 1) hx hb dX5_begin_30 ci_1 ?_
  refine W.eq (g2 := F0 mi 31 ls (.int (bI true) :: .ref h :: [])) rfl ?_
  refine sv_put (ci := 5) (C := RX5) (T := TX5) (N := 19) hx hb hts hinX5 tyX5 tyX5_ok nmX5 hown hK hP hD hS 19 g19 rfl 8 (by decide) k54 (fun _ h9 => h9) rfl .boolean (by decide +kernel) (bI_nar _) (bI_fit _) [.int (nI 0), .int (nI n), .ref a1, .ref a2, .ref a3, .int (nI b), .int (bI q), .ref a4, .int (bI true), .int (nI pu), .int (nI bu), .int cl, .int mo, .ref a5, .ref a6, .ref a7, .ref a8, .ref a9, .ref a10] (Nat.le_of_ble_eq_true rfl) rfl dX5_begin_31 (fun ws11 H locs hP hD hS g19 fr10 => ?_)
  replace g20 := (fr10 20 (by decide)).trans g20
  replace g21 := (fr10 21 (by decide)).trans g21
  replace g22 := (fr10 22 (by decide)).trans g22
  replace g23 := (fr10 23 (by decide)).trans g23
  replace g24 := (fr10 24 (by decide)).trans g24
  replace g25 := (fr10 25 (by decide)).trans g25
  replace g26 := (fr10 26 (by decide)).trans g26
  replace g27 := (fr10 27 (by decide)).trans g27
  replace g28 := (fr10 28 (by decide)).trans g28
  replace g29 := (fr10 29 (by decide)).trans g29
  refine lv_aload_n hx hb dX5_begin_34 rfl (lv_at hl 0 rfl) ?_
  refine lv_iconst (v := nI 0) hx hb dX5_begin_35 ci_0 ?_
  refine sv_put (ci := 5) (C := RX5) (T := TX5) (N := 19) hx hb hts hinX5 tyX5 tyX5_ok nmX5 hown hK hP hD hS 19 g19 rfl 9 (by decide) k125 (fun _ h9 => h9) rfl .int (by decide +kernel) rfl rfl [.int (nI 0), .int (nI n), .ref a1, .ref a2, .ref a3, .int (nI b), .int (bI q), .ref a4, .int (bI true), .int (nI 0), .int (nI bu), .int cl, .int mo, .ref a5, .ref a6, .ref a7, .ref a8, .ref a9, .ref a10] (Nat.le_of_ble_eq_true rfl) rfl dX5_begin_36 (fun ws13 H locs hP hD hS g19 fr12 => ?_)
  replace g20 := (fr12 20 (by decide)).trans g20
  replace g21 := (fr12 21 (by decide)).trans g21
  replace g22 := (fr12 22 (by decide)).trans g22
  replace g23 := (fr12 23 (by decide)).trans g23
  replace g24 := (fr12 24 (by decide)).trans g24
  replace g25 := (fr12 25 (by decide)).trans g25
  replace g26 := (fr12 26 (by decide)).trans g26
  replace g27 := (fr12 27 (by decide)).trans g27
  replace g28 := (fr12 28 (by decide)).trans g28
  replace g29 := (fr12 29 (by decide)).trans g29
  refine lv_aload_n hx hb dX5_begin_39 rfl (lv_at hl 0 rfl) ?_
  refine lv_iconst (v := nI 0) hx hb dX5_begin_40 ci_0 ?_
  refine sv_put (ci := 5) (C := RX5) (T := TX5) (N := 19) hx hb hts hinX5 tyX5 tyX5_ok nmX5 hown hK hP hD hS 19 g19 rfl 10 (by decide) k128 (fun _ h9 => h9) rfl .int (by decide +kernel) rfl rfl [.int (nI 0), .int (nI n), .ref a1, .ref a2, .ref a3, .int (nI b), .int (bI q), .ref a4, .int (bI true), .int (nI 0), .int (nI 0), .int cl, .int mo, .ref a5, .ref a6, .ref a7, .ref a8, .ref a9, .ref a10] (Nat.le_of_ble_eq_true rfl) rfl dX5_begin_41 (fun ws15 H locs hP hD hS g19 fr14 => ?_)
  replace g20 := (fr14 20 (by decide)).trans g20
  replace g21 := (fr14 21 (by decide)).trans g21
  replace g22 := (fr14 22 (by decide)).trans g22
  replace g23 := (fr14 23 (by decide)).trans g23
  replace g24 := (fr14 24 (by decide)).trans g24
  replace g25 := (fr14 25 (by decide)).trans g25
  replace g26 := (fr14 26 (by decide)).trans g26
  replace g27 := (fr14 27 (by decide)).trans g27
  replace g28 := (fr14 28 (by decide)).trans g28
  replace g29 := (fr14 29 (by decide)).trans g29
  refine lv_aload_n hx hb dX5_begin_44 rfl (lv_at hl 0 rfl) ?_
  refine lv_iconst (v := nI 0) hx hb dX5_begin_45 ci_0 ?_
  refine sv_put (ci := 5) (C := RX5) (T := TX5) (N := 19) hx hb hts hinX5 tyX5 tyX5_ok nmX5 hown hK hP hD hS 19 g19 rfl 11 (by decide) k131 (fun _ h9 => h9) rfl .int (by decide +kernel) rfl rfl [.int (nI 0), .int (nI n), .ref a1, .ref a2, .ref a3, .int (nI b), .int (bI q), .ref a4, .int (bI true), .int (nI 0), .int (nI 0), .int (nI 0), .int mo, .ref a5, .ref a6, .ref a7, .ref a8, .ref a9, .ref a10] (Nat.le_of_ble_eq_true rfl) rfl dX5_begin_46 (fun ws17 H locs hP hD hS g19 fr16 => ?_)
  replace g20 := (fr16 20 (by decide)).trans g20
  replace g21 := (fr16 21 (by decide)).trans g21
  replace g22 := (fr16 22 (by decide)).trans g22
  replace g23 := (fr16 23 (by decide)).trans g23
  replace g24 := (fr16 24 (by decide)).trans g24
  replace g25 := (fr16 25 (by decide)).trans g25
  replace g26 := (fr16 26 (by decide)).trans g26
  replace g27 := (fr16 27 (by decide)).trans g27
  replace g28 := (fr16 28 (by decide)).trans g28
  replace g29 := (fr16 29 (by decide)).trans g29
  refine lv_aload_n hx hb dX5_begin_49 rfl (lv_at hl 0 rfl) ?_
  refine lv_iconst (v := -1) hx hb dX5_begin_50 ci_m1 ?_
  refine sv_put (ci := 5) (C := RX5) (T := TX5) (N := 19) hx hb hts hinX5 tyX5 tyX5_ok nmX5 hown hK hP hD hS 19 g19 rfl 12 (by decide) k134 (fun _ h9 => h9) rfl .int (by decide +kernel) rfl rfl [.int (nI 0), .int (nI n), .ref a1, .ref a2, .ref a3, .int (nI b), .int (bI q), .ref a4, .int (bI true), .int (nI 0), .int (nI 0), .int (nI 0), .int (-1), .ref a5, .ref a6, .ref a7, .ref a8, .ref a9, .ref a10] (Nat.le_of_ble_eq_true rfl) rfl dX5_begin_51 (fun ws19 H locs hP hD hS g19 fr18 => ?_)
  replace g20 := (fr18 20 (by decide)).trans g20
  replace g21 := (fr18 21 (by decide)).trans g21
  replace g22 := (fr18 22 (by decide)).trans g22
  replace g23 := (fr18 23 (by decide)).trans g23
  replace g24 := (fr18 24 (by decide)).trans g24
  replace g25 := (fr18 25 (by decide)).trans g25
  replace g26 := (fr18 26 (by decide)).trans g26
  replace g27 := (fr18 27 (by decide)).trans g27
  replace g28 := (fr18 28 (by decide)).trans g28
  replace g29 := (fr18 29 (by decide)).trans g29
  refine lv_iconst (v := nI 0) hx hb dX5_begin_54 ci_0 ?_
  refine lv_istore_n (lv' := [(1, .int (nI 0)), (0, .ref h)]) hx hb dX5_begin_55 rfl hl (by decide) rfl (fun ls hl => ?_)
  have L56 : ∀ (L56d : Nat) (t : Nat), 8 - t < L56d → ∀ (wl56 : va_W) (H : Heap), t ≤ 8 → va_P D CL wl56 H → va_D A wl56 → wl56[19]? = some (h, .inr (5, [.int (nI 0), .int (nI n), .ref a1, .ref a2, .ref a3, .int (nI b), .int (bI q), .ref a4, .int (bI true), .int (nI 0), .int (nI 0), .int (nI 0), .int (-1), .ref a5, .ref a6, .ref a7, .ref a8, .ref a9, .ref a10])) → wl56[20]? = some (a1, .inl (ky.1, 8, .inl (fun i => nI (T i)))) → wl56[21]? = some (a2, .inl (ky.1, 8, .inl (fun i => nI (C i)))) → wl56[22]? = some (a3, .inl (ky.1, 48, .inl (fun i => nI (Hd i)))) → wl56[23]? = some (a4, .inl (ky.1, 8, .inl (fun i => nI (J i)))) → wl56[24]? = some (a5, .inl (ky.1, 8, .inl (fun i => nI ((zro K t) i)))) → wl56[25]? = some (a6, .inl (ky.1, 256, .inl fw)) → wl56[26]? = some (a7, .inl (ky.1, 256, .inl fd)) → wl56[27]? = some (a8, .inl (ky.1, 256, .inl fc)) → wl56[28]? = some (a9, .inl (ky.1, 2048, .inl gg)) → wl56[29]? = some (a10, .inl (ky.1, 8, .inl go)) → fr ws wl56 19 29 → ∀ (ls : Array Slot) (locs : List Loc), lv_has ls 2 [(1, .int (nI t)), (0, .ref h)] → va_S A Hs H locs → W pg l en Rm sg mi av below meth co H locs 0 0 Qo (F0 mi 56 ls []) := by
    intro L56d
    induction L56d with
    | zero => intro t hfu; exact absurd hfu (Nat.not_lt_zero _)
    | succ L56d ih56 =>
      intro t hfu wl56 H i56_0 hP hD g19 g20 g21 g22 g23 g24 g25 g26 g27 g28 g29 frwl56 ls locs hl hS
      refine lv_iload_n hx hb dX5_begin_56 rfl (lv_at hl 0 rfl) ?_
      refine lv_bipush (v := nI 8) hx hb dX5_begin_57 bi_8 ?_
      refine sn_icmp_ge (tgt := 75) hx hb dX5_begin_59 (by decide) (by omega) (by decide) (fun c20 => ?_) (fun c20 => ?_)
      · refine lv_aload_n hx hb dX5_begin_75 rfl (lv_at hl 1 rfl) ?_
        refine va_get (ci := 5) (C := RX5) (T := TX5) (N := 19) hx hb hts hinX5 hown hK hP 19 g19 rfl 1 (by decide) k44 (fun _ h9 => h9) rfl dX5_begin_76 ?_
        exact hret 79 ls _ _ locs _ dX5_begin_79 hP hD hS rfl (by rw [show t = 8 by omega] at g24; exact ⟨rfl, ⟨_, _, _, _, _, ⟨a1, a2, a3, a4, a5, a6, a7, a8, a9, a10, g19, g20, g21, g22, g23, g24, g25, g26, g27, g28, g29⟩⟩, (fr.wd frwl56 : fr _ _ 19 29)⟩)
      · refine lv_aload_n hx hb dX5_begin_62 rfl (lv_at hl 1 rfl) ?_
        refine va_get (ci := 5) (C := RX5) (T := TX5) (N := 19) hx hb hts hinX5 hown hK hP 19 g19 rfl 13 (by decide) k22 (fun _ h9 => h9) rfl dX5_begin_63 ?_
        refine lv_iload_n hx hb dX5_begin_66 rfl (lv_at hl 0 rfl) ?_
        refine lv_iconst (v := nI 0) hx hb dX5_begin_67 ci_0 ?_
        refine sv_iast hx hb hK hP hD hS 24 g24 (j := t) (by omega) (by decide) dX5_begin_68 (fun ws22 H locs hP hD hS g24 fr21 => ?_)
        replace g19 := (fr21 19 (by decide)).trans g19
        replace g20 := (fr21 20 (by decide)).trans g20
        replace g21 := (fr21 21 (by decide)).trans g21
        replace g22 := (fr21 22 (by decide)).trans g22
        replace g23 := (fr21 23 (by decide)).trans g23
        replace g25 := (fr21 25 (by decide)).trans g25
        replace g26 := (fr21 26 (by decide)).trans g26
        replace g27 := (fr21 27 (by decide)).trans g27
        replace g28 := (fr21 28 (by decide)).trans g28
        replace g29 := (fr21 29 (by decide)).trans g29
        rw [upd_N] at g24
        refine lv_iinc (v := nI (t + 1)) (lv' := [(1, .int (nI (t + 1))), (0, .ref h)]) hx hb dX5_begin_69 hl (k := 0) rfl (nI_1 _) (by decide) rfl (fun ls hl => ?_)
        refine lv_goto (tgt := 56) hx hb dX5_begin_72 (by decide) ?_
        exact ih56 (t + 1) (by omega) _ _ (by omega) hP hD g19 g20 g21 g22 g23 g24 g25 g26 g27 g28 g29 ((fr.wd frwl56 : fr _ _ 19 29).tr fr21) ls locs (lv_sub hl [0, 1] rfl) hS
  exact L56 ((8 - 0) + 1) 0 (Nat.lt_succ_self _) _ _ (by omega) hP hD g19 g20 g21 g22 g23 g24 g25 g26 g27 g28 g29 (((((((fr.wd fr3 : fr _ _ 19 29).tr fr7).tr fr10).tr fr12).tr fr14).tr fr16).tr fr18) ls locs (lv_sub hl [0, 1] rfl) hS
set_option maxHeartbeats 4000000 in
set_option maxRecDepth 100000 in
theorem c_X5_step_1a {l : Launch} {D : va_G} {ky : kT} {A : Nat → Prop} {Hs : Heap} {ws : va_W} (hP : va_P D CL ws Hs) (hD : va_D A ws) {h th n : Nat} {T C Hd : Nat → Nat} {b : Nat} {q : Bool} {J : Nat → Nat} {bg : Bool} {pu bu : Nat} {cl mo : Int32} {K : Nat → Nat} {fw fd fc fg fo : Nat → Int32} (hpr : isMod ky ws h th n T C Hd b q J bg pu bu cl mo K fw fd fc fg fo) (hbg : bg = false) : MU l yX5_step wsX5_step 1 21 0 0 D ky A Hs [.ref h] (fun r w => r = nI 0 ∧ isMod ky w h 1 n T C Hd b q J bg pu bu cl mo K fw fd fc fg fo ∧ fr ws w 19 29) := by
  refine MU.of (cc := cX5_step) (maxL := 3) (ty := .int) (by decide) rfl (Nat.le_of_ble_eq_true rfl) ?_
  intro pg en Rm sg mi av below meth co Qo hRf hRl hRc hRs hx hb hml hown hts hK hret ls hl
  have hl : lv_has ls 3 [(0, .ref h)] := hl
  have hS : va_S A Hs Hs [] := va_S.rf
  generalize ([] : List Loc) = locs at hS ⊢
  obtain ⟨a1, a2, a3, a4, a5, a6, a7, a8, a9, a10, g19, g20, g21, g22, g23, g24, g25, g26, g27, g28, g29⟩ := id hpr
  have k54 := hts (.fieldLink RX5 54 "AssemblyPlannerModel" "isBegun" "Z") (by decide +kernel)
  have hinX5 : ∀ w ∈ wsX50, w ∈ wsX5_step := by decide +kernel
  refine lv_aload_n hx hb dX5_step_0 rfl (lv_at hl 0 rfl) ?_
  refine lv_aload_n hx hb dX5_step_1 rfl (lv_at hl 0 rfl) ?_
  refine va_get (ci := 5) (C := RX5) (T := TX5) (N := 19) hx hb hts hinX5 hown hK hP 19 g19 rfl 8 (by decide) k54 (fun _ h9 => h9) rfl dX5_step_2 ?_
  refine sb_if_eq (tgt := 19) hx hb dX5_step_5 (by decide) (fun _ => ?_) (fun q => absurd q (by rw [hbg]; decide))
  refine lv_iconst (v := nI 1) hx hb dX5_step_19 ci_1 ?_
  refine lv_goto (tgt := 24) hx hb dX5_step_20 (by decide) ?_
  refine mcV (c_X5_holds hP hD ⟨a1, a2, a3, a4, a5, a6, a7, a8, a9, a10, g19, g20, g21, g22, g23, g24, g25, g26, g27, g28, g29⟩ (by decide)) ⟨hx, hb, hml, hown, hts⟩ hK gX5_step_X5_holds rfl hd_X5_holds ⟨by omega, by omega⟩ (va_recv hK hP (ci := 5) (q0 := 19) rfl g19) rfl hl.1 rfl (Nat.le_of_ble_eq_true rfl) dX5_step_24 ⟨Nat.zero_le _, Nat.zero_le _⟩ hS (fun r ws2 H locs hq4 hP hD hS => ?_)
  obtain ⟨rfl, hpr, fr3⟩ := hq4
  obtain ⟨a1, a2, a3, a4, a5, a6, a7, a8, a9, a10, g19, g20, g21, g22, g23, g24, g25, g26, g27, g28, g29⟩ := id hpr
  refine sv_top (y := nI 0) rfl ?_
  refine sn_if_ne (tgt := 32) hx hb dX5_step_27 (by decide) (by decide) (fun q => absurd q (by decide)) (fun _ => ?_)
  refine lv_iconst (v := nI 0) hx hb dX5_step_30 ci_0 ?_
  exact hret 31 ls _ _ locs _ dX5_step_31 hP hD hS rfl (⟨rfl, ⟨a1, a2, a3, a4, a5, a6, a7, a8, a9, a10, g19, g20, g21, g22, g23, g24, g25, g26, g27, g28, g29⟩, (fr.wd fr3 : fr _ _ 19 29)⟩)
set_option maxHeartbeats 4000000 in
set_option maxRecDepth 100000 in
theorem c_X5_step_1b {l : Launch} {D : va_G} {ky : kT} {A : Nat → Prop} {Hs : Heap} {ws : va_W} (hP : va_P D CL ws Hs) (hD : va_D A ws) {h th n : Nat} {T C Hd : Nat → Nat} {b : Nat} {q : Bool} {J : Nat → Nat} {bg : Bool} {pu bu : Nat} {cl mo : Int32} {K : Nat → Nat} {fw fd fc fg fo : Nat → Int32} (hpr : isMod ky ws h th n T C Hd b q J bg pu bu cl mo K fw fd fc fg fo) (hbg : bg = true) (hn8 : n ≤ 8) (hpu : pu = n) : MU l yX5_step wsX5_step 1 21 0 0 D ky A Hs [.ref h] (fun r w => r = nI 0 ∧ isMod ky w h 1 n T C Hd b q J bg pu bu cl mo K fw fd fc fg fo ∧ fr ws w 19 29) := by
  refine MU.of (cc := cX5_step) (maxL := 3) (ty := .int) (by decide) rfl (Nat.le_of_ble_eq_true rfl) ?_
  intro pg en Rm sg mi av below meth co Qo hRf hRl hRc hRs hx hb hml hown hts hK hret ls hl
  have hl : lv_has ls 3 [(0, .ref h)] := hl
  have hS : va_S A Hs Hs [] := va_S.rf
  generalize ([] : List Loc) = locs at hS ⊢
  obtain ⟨a1, a2, a3, a4, a5, a6, a7, a8, a9, a10, g19, g20, g21, g22, g23, g24, g25, g26, g27, g28, g29⟩ := id hpr
  have k54 := hts (.fieldLink RX5 54 "AssemblyPlannerModel" "isBegun" "Z") (by decide +kernel)
  have hinX5 : ∀ w ∈ wsX50, w ∈ wsX5_step := by decide +kernel
  have k125 := hts (.fieldLink RX5 125 "AssemblyPlannerModel" "putIn" "I") (by decide +kernel)
  have k44 := hts (.fieldLink RX5 44 "AssemblyPlannerModel" "parts" "I") (by decide +kernel)
  refine lv_aload_n hx hb dX5_step_0 rfl (lv_at hl 0 rfl) ?_
  refine lv_aload_n hx hb dX5_step_1 rfl (lv_at hl 0 rfl) ?_
  refine va_get (ci := 5) (C := RX5) (T := TX5) (N := 19) hx hb hts hinX5 hown hK hP 19 g19 rfl 8 (by decide) k54 (fun _ h9 => h9) rfl dX5_step_2 ?_
  refine sb_if_eq (tgt := 19) hx hb dX5_step_5 (by decide) (fun q => absurd q (by rw [hbg]; decide)) (fun _ => ?_)
  refine lv_aload_n hx hb dX5_step_8 rfl (lv_at hl 0 rfl) ?_
  refine va_get (ci := 5) (C := RX5) (T := TX5) (N := 19) hx hb hts hinX5 hown hK hP 19 g19 rfl 9 (by decide) k125 (fun _ h9 => h9) rfl dX5_step_9 ?_
  refine lv_aload_n hx hb dX5_step_12 rfl (lv_at hl 0 rfl) ?_
  refine va_get (ci := 5) (C := RX5) (T := TX5) (N := 19) hx hb hts hinX5 hown hK hP 19 g19 rfl 1 (by decide) k44 (fun _ h9 => h9) rfl dX5_step_13 ?_
  refine sn_icmp_ne (tgt := 23) hx hb dX5_step_16 (by decide) (by omega) (by omega) (fun c2 => absurd hpu c2) (fun c2 => ?_)
  refine lv_iconst (v := nI 1) hx hb dX5_step_19 ci_1 ?_
  refine lv_goto (tgt := 24) hx hb dX5_step_20 (by decide) ?_
  refine mcV (c_X5_holds hP hD ⟨a1, a2, a3, a4, a5, a6, a7, a8, a9, a10, g19, g20, g21, g22, g23, g24, g25, g26, g27, g28, g29⟩ (by decide)) ⟨hx, hb, hml, hown, hts⟩ hK gX5_step_X5_holds rfl hd_X5_holds ⟨by omega, by omega⟩ (va_recv hK hP (ci := 5) (q0 := 19) rfl g19) rfl hl.1 rfl (Nat.le_of_ble_eq_true rfl) dX5_step_24 ⟨Nat.zero_le _, Nat.zero_le _⟩ hS (fun r ws3 H locs hq5 hP hD hS => ?_)
  obtain ⟨rfl, hpr, fr4⟩ := hq5
  obtain ⟨a1, a2, a3, a4, a5, a6, a7, a8, a9, a10, g19, g20, g21, g22, g23, g24, g25, g26, g27, g28, g29⟩ := id hpr
  refine sv_top (y := nI 0) rfl ?_
  refine sn_if_ne (tgt := 32) hx hb dX5_step_27 (by decide) (by decide) (fun q => absurd q (by decide)) (fun _ => ?_)
  refine lv_iconst (v := nI 0) hx hb dX5_step_30 ci_0 ?_
  exact hret 31 ls _ _ locs _ dX5_step_31 hP hD hS rfl (⟨rfl, ⟨a1, a2, a3, a4, a5, a6, a7, a8, a9, a10, g19, g20, g21, g22, g23, g24, g25, g26, g27, g28, g29⟩, (fr.wd fr4 : fr _ _ 19 29)⟩)
set_option maxHeartbeats 4000000 in
set_option maxRecDepth 100000 in
theorem c_X5_step_0j {l : Launch} {D : va_G} {ky : kT} {A : Nat → Prop} {Hs : Heap} {ws : va_W} (hP : va_P D CL ws Hs) (hD : va_D A ws) {h th n : Nat} {T C Hd : Nat → Nat} {b : Nat} {q : Bool} {J : Nat → Nat} {bg : Bool} {pu bu : Nat} {cl mo : Int32} {K : Nat → Nat} {fw fd fc fg fo : Nat → Int32} (hpr : isMod ky ws h th n T C Hd b q J bg pu bu cl mo K fw fd fc fg fo) (hI : PI0 n C Hd b) (hT : ∀ p, T p < 4) (hbg : bg = true) (hpu : pu < n) (hf : few C Hd b q T n < 1000) (hJ2 : ∀ i, J i < 2 ^ 31) (hK2 : ∀ i, K i < 2 ^ 31) (hj : jm J K (bp C Hd b q T n pu) = true) : MU l yX5_step wsX5_step 6 143 0 0 D ky A Hs [.ref h] (fun r w => r = -1 ∧ MD ky w h 0 n T C Hd b q ((upX J (bp C Hd b q T n pu) (J (bp C Hd b q T n pu) - 1))) bg pu bu ((tmM cl mo (T (bp C Hd b q T n pu)) + nI 3)) ((nI (T (bp C Hd b q T n pu)))) ((upX K (bp C Hd b q T n pu) (K (bp C Hd b q T n pu) + 1))) ∧ fr ws w 19 29) := by
  refine MU.of (cc := cX5_step) (maxL := 3) (ty := .int) (by decide) rfl (Nat.le_of_ble_eq_true rfl) ?_
  intro pg en Rm sg mi av below meth co Qo hRf hRl hRc hRs hx hb hml hown hts hK hret ls hl
  have hl : lv_has ls 3 [(0, .ref h)] := hl
  have hS : va_S A Hs Hs [] := va_S.rf
  generalize ([] : List Loc) = locs at hS ⊢
  obtain ⟨a1, a2, a3, a4, a5, a6, a7, a8, a9, a10, g19, g20, g21, g22, g23, g24, g25, g26, g27, g28, g29⟩ := id hpr
  have hn8 := hI.1
  have hb9 : (bp C Hd b q T n pu) < n := bp_ok hn8 hT hf hpu
  have hH := hI.2.2.2.1
  have k54 := hts (.fieldLink RX5 54 "AssemblyPlannerModel" "isBegun" "Z") (by decide +kernel)
  have hinX5 : ∀ w ∈ wsX50, w ∈ wsX5_step := by decide +kernel
  have k125 := hts (.fieldLink RX5 125 "AssemblyPlannerModel" "putIn" "I") (by decide +kernel)
  have k44 := hts (.fieldLink RX5 44 "AssemblyPlannerModel" "parts" "I") (by decide +kernel)
  have k37 := hts (.fieldLink RX5 37 "AssemblyPlannerModel" "order" "[I") (by decide +kernel)
  have k134 := hts (.fieldLink RX5 134 "AssemblyPlannerModel" "mounted" "I") (by decide +kernel)
  have k7 := hts (.fieldLink RX5 7 "AssemblyPlannerModel" "tools" "[I") (by decide +kernel)
  have k19 := hts (.fieldLink RX5 19 "AssemblyPlannerModel" "jams" "[I") (by decide +kernel)
  have k22 := hts (.fieldLink RX5 22 "AssemblyPlannerModel" "cleared" "[I") (by decide +kernel)
  have k131 := hts (.fieldLink RX5 131 "AssemblyPlannerModel" "clock" "I") (by decide +kernel)
  refine lv_aload_n hx hb dX5_step_0 rfl (lv_at hl 0 rfl) ?_
  refine lv_aload_n hx hb dX5_step_1 rfl (lv_at hl 0 rfl) ?_
  refine va_get (ci := 5) (C := RX5) (T := TX5) (N := 19) hx hb hts hinX5 hown hK hP 19 g19 rfl 8 (by decide) k54 (fun _ h9 => h9) rfl dX5_step_2 ?_
  refine sb_if_eq (tgt := 19) hx hb dX5_step_5 (by decide) (fun q => absurd q (by rw [hbg]; decide)) (fun _ => ?_)
  refine lv_aload_n hx hb dX5_step_8 rfl (lv_at hl 0 rfl) ?_
  refine va_get (ci := 5) (C := RX5) (T := TX5) (N := 19) hx hb hts hinX5 hown hK hP 19 g19 rfl 9 (by decide) k125 (fun _ h9 => h9) rfl dX5_step_9 ?_
  refine lv_aload_n hx hb dX5_step_12 rfl (lv_at hl 0 rfl) ?_
  refine va_get (ci := 5) (C := RX5) (T := TX5) (N := 19) hx hb hts hinX5 hown hK hP 19 g19 rfl 1 (by decide) k44 (fun _ h9 => h9) rfl dX5_step_13 ?_
  refine sn_icmp_ne (tgt := 23) hx hb dX5_step_16 (by decide) (by omega) (by omega) (fun c2 => ?_) (fun c2 => absurd c2 (by omega))
  refine lv_iconst (v := nI 0) hx hb dX5_step_23 ci_0 ?_
  refine mcV (c_X5_holds hP hD ⟨a1, a2, a3, a4, a5, a6, a7, a8, a9, a10, g19, g20, g21, g22, g23, g24, g25, g26, g27, g28, g29⟩ (by decide)) ⟨hx, hb, hml, hown, hts⟩ hK gX5_step_X5_holds rfl hd_X5_holds ⟨by omega, by omega⟩ (va_recv hK hP (ci := 5) (q0 := 19) rfl g19) rfl hl.1 rfl (Nat.le_of_ble_eq_true rfl) dX5_step_24 ⟨Nat.zero_le _, Nat.zero_le _⟩ hS (fun r ws3 H locs hq5 hP hD hS => ?_)
  obtain ⟨rfl, hpr, fr4⟩ := hq5
  obtain ⟨a1, a2, a3, a4, a5, a6, a7, a8, a9, a10, g19, g20, g21, g22, g23, g24, g25, g26, g27, g28, g29⟩ := id hpr
  refine sv_top (y := nI 1) rfl ?_
  refine sn_if_ne (tgt := 32) hx hb dX5_step_27 (by decide) (by decide) (fun _ => ?_) (fun q => absurd q (by decide))
  refine lv_aload_n hx hb dX5_step_32 rfl (lv_at hl 0 rfl) ?_
  refine mcV (c_X5_best hP hD ⟨a1, a2, a3, a4, a5, a6, a7, a8, a9, a10, g19, g20, g21, g22, g23, g24, g25, g26, g27, g28, g29⟩ hI hT (by omega)) ⟨hx, hb, hml, hown, hts⟩ hK gX5_step_X5_best rfl hd_X5_best ⟨by omega, by omega⟩ (va_recv hK hP (ci := 5) (q0 := 19) rfl g19) rfl hl.1 rfl (Nat.le_of_ble_eq_true rfl) dX5_step_33 ⟨Nat.zero_le _, Nat.zero_le _⟩ hS (fun r ws7 H locs hq9 hP hD hS => ?_)
  obtain ⟨rfl, ⟨gg, go, hpr, hgo⟩, fr8⟩ := hq9
  obtain ⟨a1, a2, a3, a4, a5, a6, a7, a8, a9, a10, g19, g20, g21, g22, g23, g24, g25, g26, g27, g28, g29⟩ := id hpr
  refine lv_istore_n (lv' := [(1, .int (orN (few C Hd b q T n))), (0, .ref h)]) hx hb dX5_step_36 rfl hl (by decide) rfl (fun ls hl => ?_)
  refine lv_aload_n hx hb dX5_step_37 rfl (lv_at hl 1 rfl) ?_
  refine va_get (ci := 5) (C := RX5) (T := TX5) (N := 19) hx hb hts hinX5 hown hK hP 19 g19 rfl 18 (by decide) k37 (fun _ h9 => h9) rfl dX5_step_38 ?_
  refine lv_aload_n hx hb dX5_step_41 rfl (lv_at hl 1 rfl) ?_
  refine va_get (ci := 5) (C := RX5) (T := TX5) (N := 19) hx hb hts hinX5 hown hK hP 19 g19 rfl 9 (by decide) k125 (fun _ h9 => h9) rfl dX5_step_42 ?_
  refine sv_iald hx hb hK hP 29 g29 (j := pu) (by omega) (by decide) dX5_step_45 ?_
  refine W.eq (g2 := F0 mi 46 ls (.int (go pu) :: [])) rfl ?_
  refine sv_top (y := nI (bp C Hd b q T n pu)) (hgo hf pu hpu) ?_
  refine lv_istore_n (lv' := [(2, .int (nI (bp C Hd b q T n pu))), (1, .int (orN (few C Hd b q T n))), (0, .ref h)]) hx hb dX5_step_46 rfl hl (by decide) rfl (fun ls hl => ?_)
  refine lv_aload_n hx hb dX5_step_47 rfl (lv_at hl 2 rfl) ?_
  refine va_get (ci := 5) (C := RX5) (T := TX5) (N := 19) hx hb hts hinX5 hown hK hP 19 g19 rfl 12 (by decide) k134 (fun _ h9 => h9) rfl dX5_step_48 ?_
  refine lv_aload_n hx hb dX5_step_51 rfl (lv_at hl 2 rfl) ?_
  refine va_get (ci := 5) (C := RX5) (T := TX5) (N := 19) hx hb hts hinX5 hown hK hP 19 g19 rfl 2 (by decide) k7 (fun _ h9 => h9) rfl dX5_step_52 ?_
  refine lv_iload_n hx hb dX5_step_55 rfl (lv_at hl 0 rfl) ?_
  refine sv_iald hx hb hK hP 20 g20 (j := bp C Hd b q T n pu) (by omega) (by decide) dX5_step_56 ?_
  refine W.eq (g2 := F0 mi 57 ls (.int (nI (T (bp C Hd b q T n pu))) :: [.int mo])) rfl ?_
  refine lv_icmp_eq (tgt := 80) hx hb dX5_step_57 (by decide) (fun c10 => ?_) (fun c10 => ?_)
  · refine lv_aload_n hx hb dX5_step_80 rfl (lv_at hl 2 rfl) ?_
    refine va_get (ci := 5) (C := RX5) (T := TX5) (N := 19) hx hb hts hinX5 hown hK hP 19 g19 rfl 7 (by decide) k19 (fun _ h9 => h9) rfl dX5_step_81 ?_
    refine lv_iload_n hx hb dX5_step_84 rfl (lv_at hl 0 rfl) ?_
    refine sv_iald hx hb hK hP 23 g23 (j := bp C Hd b q T n pu) (by omega) (by decide) dX5_step_85 ?_
    refine W.eq (g2 := F0 mi 86 ls (.int (nI (J (bp C Hd b q T n pu))) :: [])) rfl ?_
    refine sn_if_le (tgt := 129) hx hb dX5_step_86 (by decide) (hJ2 _) (fun c11 => absurd hj (by unfold jm; rw [decide_eq_false (fun z => z c11)]; simp)) (fun c11 => ?_)
    refine lv_aload_n hx hb dX5_step_89 rfl (lv_at hl 2 rfl) ?_
    refine lv_iload_n hx hb dX5_step_90 rfl (lv_at hl 0 rfl) ?_
    refine pcV (c_X5_isPassed hP ⟨a1, a2, a3, a4, a5, a6, a7, a8, a9, a10, g19, g20, g21, g22, g23, g24, g25, g26, g27, g28, g29⟩ (by omega) (hK2 _)) ⟨hx, hb, hml, hown, hts⟩ hK gX5_step_X5_isPassed rfl hd_X5_isPassed ⟨by omega, by omega⟩ (va_recv hK hP (ci := 5) (q0 := 19) rfl g19) rfl hl.1 rfl (Nat.le_of_ble_eq_true rfl) dX5_step_91 ⟨Nat.zero_le _, Nat.zero_le _⟩ hS (fun locs hS => ?_)
    refine sb_if_ne (tgt := 129) hx hb dX5_step_94 (by decide) (fun c12 => absurd hj (by unfold jm; rw [c12]; simp)) (fun c12 => ?_)
    refine lv_aload_n hx hb dX5_step_97 rfl (lv_at hl 2 rfl) ?_
    refine va_get (ci := 5) (C := RX5) (T := TX5) (N := 19) hx hb hts hinX5 hown hK hP 19 g19 rfl 7 (by decide) k19 (fun _ h9 => h9) rfl dX5_step_98 ?_
    refine lv_iload_n hx hb dX5_step_101 rfl (lv_at hl 0 rfl) ?_
    refine lv_dup2_11 hx hb dX5_step_102 rfl rfl ?_
    refine sv_iald hx hb hK hP 23 g23 (j := bp C Hd b q T n pu) (by omega) (by decide) dX5_step_103 ?_
    refine W.eq (g2 := F0 mi 104 ls (.int (nI (J (bp C Hd b q T n pu))) :: [.int (nI (bp C Hd b q T n pu)), .ref a4])) rfl ?_
    refine lv_iconst (v := nI 1) hx hb dX5_step_104 ci_1 ?_
    refine lv_isub hx hb dX5_step_105 ?_
    refine sv_top (y := nI ((J (bp C Hd b q T n pu)) - 1)) (pk_sub (by omega)) ?_
    refine sv_iast hx hb hK hP hD hS 23 g23 (j := bp C Hd b q T n pu) (by omega) (by decide) dX5_step_106 (fun ws14 H locs hP hD hS g23 fr13 => ?_)
    replace g19 := (fr13 19 (by decide)).trans g19
    replace g20 := (fr13 20 (by decide)).trans g20
    replace g21 := (fr13 21 (by decide)).trans g21
    replace g22 := (fr13 22 (by decide)).trans g22
    replace g24 := (fr13 24 (by decide)).trans g24
    replace g25 := (fr13 25 (by decide)).trans g25
    replace g26 := (fr13 26 (by decide)).trans g26
    replace g27 := (fr13 27 (by decide)).trans g27
    replace g28 := (fr13 28 (by decide)).trans g28
    replace g29 := (fr13 29 (by decide)).trans g29
    rw [upd_N] at g23
    refine lv_aload_n hx hb dX5_step_107 rfl (lv_at hl 2 rfl) ?_
    refine va_get (ci := 5) (C := RX5) (T := TX5) (N := 19) hx hb hts hinX5 hown hK hP 19 g19 rfl 13 (by decide) k22 (fun _ h9 => h9) rfl dX5_step_108 ?_
    refine lv_iload_n hx hb dX5_step_111 rfl (lv_at hl 0 rfl) ?_
    refine lv_dup2_11 hx hb dX5_step_112 rfl rfl ?_
    refine sv_iald hx hb hK hP 24 g24 (j := bp C Hd b q T n pu) (by omega) (by decide) dX5_step_113 ?_
    refine W.eq (g2 := F0 mi 114 ls (.int (nI (K (bp C Hd b q T n pu))) :: [.int (nI (bp C Hd b q T n pu)), .ref a5])) rfl ?_
    refine lv_iconst (v := nI 1) hx hb dX5_step_114 ci_1 ?_
    refine lv_iadd hx hb dX5_step_115 ?_
    refine sv_top (y := nI ((K (bp C Hd b q T n pu)) + 1)) (nI_add _ _) ?_
    refine sv_iast hx hb hK hP hD hS 24 g24 (j := bp C Hd b q T n pu) (by omega) (by decide) dX5_step_116 (fun ws16 H locs hP hD hS g24 fr15 => ?_)
    replace g19 := (fr15 19 (by decide)).trans g19
    replace g20 := (fr15 20 (by decide)).trans g20
    replace g21 := (fr15 21 (by decide)).trans g21
    replace g22 := (fr15 22 (by decide)).trans g22
    replace g23 := (fr15 23 (by decide)).trans g23
    replace g25 := (fr15 25 (by decide)).trans g25
    replace g26 := (fr15 26 (by decide)).trans g26
    replace g27 := (fr15 27 (by decide)).trans g27
    replace g28 := (fr15 28 (by decide)).trans g28
    replace g29 := (fr15 29 (by decide)).trans g29
    rw [upd_N] at g24
    refine lv_aload_n hx hb dX5_step_117 rfl (lv_at hl 2 rfl) ?_
    refine lv_dup hx hb dX5_step_118 rfl ?_
    refine va_get (ci := 5) (C := RX5) (T := TX5) (N := 19) hx hb hts hinX5 hown hK hP 19 g19 rfl 11 (by decide) k131 (fun _ h9 => h9) rfl dX5_step_119 ?_
    refine lv_iconst (v := nI 3) hx hb dX5_step_122 ci_3 ?_
    refine lv_iadd hx hb dX5_step_123 ?_
    refine sv_put (ci := 5) (C := RX5) (T := TX5) (N := 19) hx hb hts hinX5 tyX5 tyX5_ok nmX5 hown hK hP hD hS 19 g19 rfl 11 (by decide) k131 (fun _ h9 => h9) rfl .int (by decide +kernel) rfl rfl [.int (nI 0), .int (nI n), .ref a1, .ref a2, .ref a3, .int (nI b), .int (bI q), .ref a4, .int (bI bg), .int (nI pu), .int (nI bu), .int (cl + (nI 3)), .int mo, .ref a5, .ref a6, .ref a7, .ref a8, .ref a9, .ref a10] (Nat.le_of_ble_eq_true rfl) rfl dX5_step_124 (fun ws18 H locs hP hD hS g19 fr17 => ?_)
    replace g20 := (fr17 20 (by decide)).trans g20
    replace g21 := (fr17 21 (by decide)).trans g21
    replace g22 := (fr17 22 (by decide)).trans g22
    replace g23 := (fr17 23 (by decide)).trans g23
    replace g24 := (fr17 24 (by decide)).trans g24
    replace g25 := (fr17 25 (by decide)).trans g25
    replace g26 := (fr17 26 (by decide)).trans g26
    replace g27 := (fr17 27 (by decide)).trans g27
    replace g28 := (fr17 28 (by decide)).trans g28
    replace g29 := (fr17 29 (by decide)).trans g29
    refine lv_iconst (v := -1) hx hb dX5_step_127 ci_m1 ?_
    exact hret 128 ls _ _ locs _ dX5_step_128 hP hD hS rfl (by unfold tmM; rw [if_pos c10]; rw [c10] at g19; exact ⟨rfl, ⟨_, _, _, _, _, ⟨a1, a2, a3, a4, a5, a6, a7, a8, a9, a10, g19, g20, g21, g22, g23, g24, g25, g26, g27, g28, g29⟩⟩, (((((fr.wd fr4 : fr _ _ 19 29).tr fr8).tr fr13).tr fr15).tr fr17)⟩)
  · refine lv_aload_n hx hb dX5_step_60 rfl (lv_at hl 2 rfl) ?_
    refine lv_dup hx hb dX5_step_61 rfl ?_
    refine va_get (ci := 5) (C := RX5) (T := TX5) (N := 19) hx hb hts hinX5 hown hK hP 19 g19 rfl 11 (by decide) k131 (fun _ h9 => h9) rfl dX5_step_62 ?_
    refine lv_iconst (v := nI 5) hx hb dX5_step_65 ci_5 ?_
    refine lv_iadd hx hb dX5_step_66 ?_
    refine sv_put (ci := 5) (C := RX5) (T := TX5) (N := 19) hx hb hts hinX5 tyX5 tyX5_ok nmX5 hown hK hP hD hS 19 g19 rfl 11 (by decide) k131 (fun _ h9 => h9) rfl .int (by decide +kernel) rfl rfl [.int (nI 0), .int (nI n), .ref a1, .ref a2, .ref a3, .int (nI b), .int (bI q), .ref a4, .int (bI bg), .int (nI pu), .int (nI bu), .int (cl + (nI 5)), .int mo, .ref a5, .ref a6, .ref a7, .ref a8, .ref a9, .ref a10] (Nat.le_of_ble_eq_true rfl) rfl dX5_step_67 (fun ws20 H locs hP hD hS g19 fr19 => ?_)
    replace g20 := (fr19 20 (by decide)).trans g20
    replace g21 := (fr19 21 (by decide)).trans g21
    replace g22 := (fr19 22 (by decide)).trans g22
    replace g23 := (fr19 23 (by decide)).trans g23
    replace g24 := (fr19 24 (by decide)).trans g24
    replace g25 := (fr19 25 (by decide)).trans g25
    replace g26 := (fr19 26 (by decide)).trans g26
    replace g27 := (fr19 27 (by decide)).trans g27
    replace g28 := (fr19 28 (by decide)).trans g28
    replace g29 := (fr19 29 (by decide)).trans g29
    refine lv_aload_n hx hb dX5_step_70 rfl (lv_at hl 2 rfl) ?_
    refine lv_aload_n hx hb dX5_step_71 rfl (lv_at hl 2 rfl) ?_
    refine va_get (ci := 5) (C := RX5) (T := TX5) (N := 19) hx hb hts hinX5 hown hK hP 19 g19 rfl 2 (by decide) k7 (fun _ h9 => h9) rfl dX5_step_72 ?_
    refine lv_iload_n hx hb dX5_step_75 rfl (lv_at hl 0 rfl) ?_
    refine sv_iald hx hb hK hP 20 g20 (j := bp C Hd b q T n pu) (by omega) (by decide) dX5_step_76 ?_
    refine W.eq (g2 := F0 mi 77 ls (.int (nI (T (bp C Hd b q T n pu))) :: [.ref h])) rfl ?_
    refine sv_put (ci := 5) (C := RX5) (T := TX5) (N := 19) hx hb hts hinX5 tyX5 tyX5_ok nmX5 hown hK hP hD hS 19 g19 rfl 12 (by decide) k134 (fun _ h9 => h9) rfl .int (by decide +kernel) rfl rfl [.int (nI 0), .int (nI n), .ref a1, .ref a2, .ref a3, .int (nI b), .int (bI q), .ref a4, .int (bI bg), .int (nI pu), .int (nI bu), .int (cl + (nI 5)), .int (nI (T (bp C Hd b q T n pu))), .ref a5, .ref a6, .ref a7, .ref a8, .ref a9, .ref a10] (Nat.le_of_ble_eq_true rfl) rfl dX5_step_77 (fun ws22 H locs hP hD hS g19 fr21 => ?_)
    replace g20 := (fr21 20 (by decide)).trans g20
    replace g21 := (fr21 21 (by decide)).trans g21
    replace g22 := (fr21 22 (by decide)).trans g22
    replace g23 := (fr21 23 (by decide)).trans g23
    replace g24 := (fr21 24 (by decide)).trans g24
    replace g25 := (fr21 25 (by decide)).trans g25
    replace g26 := (fr21 26 (by decide)).trans g26
    replace g27 := (fr21 27 (by decide)).trans g27
    replace g28 := (fr21 28 (by decide)).trans g28
    replace g29 := (fr21 29 (by decide)).trans g29
    refine lv_aload_n hx hb dX5_step_80 rfl (lv_at hl 2 rfl) ?_
    refine va_get (ci := 5) (C := RX5) (T := TX5) (N := 19) hx hb hts hinX5 hown hK hP 19 g19 rfl 7 (by decide) k19 (fun _ h9 => h9) rfl dX5_step_81 ?_
    refine lv_iload_n hx hb dX5_step_84 rfl (lv_at hl 0 rfl) ?_
    refine sv_iald hx hb hK hP 23 g23 (j := bp C Hd b q T n pu) (by omega) (by decide) dX5_step_85 ?_
    refine W.eq (g2 := F0 mi 86 ls (.int (nI (J (bp C Hd b q T n pu))) :: [])) rfl ?_
    refine sn_if_le (tgt := 129) hx hb dX5_step_86 (by decide) (hJ2 _) (fun c23 => absurd hj (by unfold jm; rw [decide_eq_false (fun z => z c23)]; simp)) (fun c23 => ?_)
    refine lv_aload_n hx hb dX5_step_89 rfl (lv_at hl 2 rfl) ?_
    refine lv_iload_n hx hb dX5_step_90 rfl (lv_at hl 0 rfl) ?_
    refine pcV (c_X5_isPassed hP ⟨a1, a2, a3, a4, a5, a6, a7, a8, a9, a10, g19, g20, g21, g22, g23, g24, g25, g26, g27, g28, g29⟩ (by omega) (hK2 _)) ⟨hx, hb, hml, hown, hts⟩ hK gX5_step_X5_isPassed rfl hd_X5_isPassed ⟨by omega, by omega⟩ (va_recv hK hP (ci := 5) (q0 := 19) rfl g19) rfl hl.1 rfl (Nat.le_of_ble_eq_true rfl) dX5_step_91 ⟨Nat.zero_le _, Nat.zero_le _⟩ hS (fun locs hS => ?_)
    refine sb_if_ne (tgt := 129) hx hb dX5_step_94 (by decide) (fun c24 => absurd hj (by unfold jm; rw [c24]; simp)) (fun c24 => ?_)
    refine lv_aload_n hx hb dX5_step_97 rfl (lv_at hl 2 rfl) ?_
    refine va_get (ci := 5) (C := RX5) (T := TX5) (N := 19) hx hb hts hinX5 hown hK hP 19 g19 rfl 7 (by decide) k19 (fun _ h9 => h9) rfl dX5_step_98 ?_
    refine lv_iload_n hx hb dX5_step_101 rfl (lv_at hl 0 rfl) ?_
    refine lv_dup2_11 hx hb dX5_step_102 rfl rfl ?_
    refine sv_iald hx hb hK hP 23 g23 (j := bp C Hd b q T n pu) (by omega) (by decide) dX5_step_103 ?_
    refine W.eq (g2 := F0 mi 104 ls (.int (nI (J (bp C Hd b q T n pu))) :: [.int (nI (bp C Hd b q T n pu)), .ref a4])) rfl ?_
    refine lv_iconst (v := nI 1) hx hb dX5_step_104 ci_1 ?_
    refine lv_isub hx hb dX5_step_105 ?_
    refine sv_top (y := nI ((J (bp C Hd b q T n pu)) - 1)) (pk_sub (by omega)) ?_
    refine sv_iast hx hb hK hP hD hS 23 g23 (j := bp C Hd b q T n pu) (by omega) (by decide) dX5_step_106 (fun ws26 H locs hP hD hS g23 fr25 => ?_)
    replace g19 := (fr25 19 (by decide)).trans g19
    replace g20 := (fr25 20 (by decide)).trans g20
    replace g21 := (fr25 21 (by decide)).trans g21
    replace g22 := (fr25 22 (by decide)).trans g22
    replace g24 := (fr25 24 (by decide)).trans g24
    replace g25 := (fr25 25 (by decide)).trans g25
    replace g26 := (fr25 26 (by decide)).trans g26
    replace g27 := (fr25 27 (by decide)).trans g27
    replace g28 := (fr25 28 (by decide)).trans g28
    replace g29 := (fr25 29 (by decide)).trans g29
    rw [upd_N] at g23
    refine lv_aload_n hx hb dX5_step_107 rfl (lv_at hl 2 rfl) ?_
    refine va_get (ci := 5) (C := RX5) (T := TX5) (N := 19) hx hb hts hinX5 hown hK hP 19 g19 rfl 13 (by decide) k22 (fun _ h9 => h9) rfl dX5_step_108 ?_
    refine lv_iload_n hx hb dX5_step_111 rfl (lv_at hl 0 rfl) ?_
    refine lv_dup2_11 hx hb dX5_step_112 rfl rfl ?_
    refine sv_iald hx hb hK hP 24 g24 (j := bp C Hd b q T n pu) (by omega) (by decide) dX5_step_113 ?_
    refine W.eq (g2 := F0 mi 114 ls (.int (nI (K (bp C Hd b q T n pu))) :: [.int (nI (bp C Hd b q T n pu)), .ref a5])) rfl ?_
    refine lv_iconst (v := nI 1) hx hb dX5_step_114 ci_1 ?_
    refine lv_iadd hx hb dX5_step_115 ?_
    refine sv_top (y := nI ((K (bp C Hd b q T n pu)) + 1)) (nI_add _ _) ?_
    refine sv_iast hx hb hK hP hD hS 24 g24 (j := bp C Hd b q T n pu) (by omega) (by decide) dX5_step_116 (fun ws28 H locs hP hD hS g24 fr27 => ?_)
    replace g19 := (fr27 19 (by decide)).trans g19
    replace g20 := (fr27 20 (by decide)).trans g20
    replace g21 := (fr27 21 (by decide)).trans g21
    replace g22 := (fr27 22 (by decide)).trans g22
    replace g23 := (fr27 23 (by decide)).trans g23
    replace g25 := (fr27 25 (by decide)).trans g25
    replace g26 := (fr27 26 (by decide)).trans g26
    replace g27 := (fr27 27 (by decide)).trans g27
    replace g28 := (fr27 28 (by decide)).trans g28
    replace g29 := (fr27 29 (by decide)).trans g29
    rw [upd_N] at g24
    refine lv_aload_n hx hb dX5_step_117 rfl (lv_at hl 2 rfl) ?_
    refine lv_dup hx hb dX5_step_118 rfl ?_
    refine va_get (ci := 5) (C := RX5) (T := TX5) (N := 19) hx hb hts hinX5 hown hK hP 19 g19 rfl 11 (by decide) k131 (fun _ h9 => h9) rfl dX5_step_119 ?_
    refine lv_iconst (v := nI 3) hx hb dX5_step_122 ci_3 ?_
    refine lv_iadd hx hb dX5_step_123 ?_
    refine sv_put (ci := 5) (C := RX5) (T := TX5) (N := 19) hx hb hts hinX5 tyX5 tyX5_ok nmX5 hown hK hP hD hS 19 g19 rfl 11 (by decide) k131 (fun _ h9 => h9) rfl .int (by decide +kernel) rfl rfl [.int (nI 0), .int (nI n), .ref a1, .ref a2, .ref a3, .int (nI b), .int (bI q), .ref a4, .int (bI bg), .int (nI pu), .int (nI bu), .int ((cl + (nI 5)) + (nI 3)), .int (nI (T (bp C Hd b q T n pu))), .ref a5, .ref a6, .ref a7, .ref a8, .ref a9, .ref a10] (Nat.le_of_ble_eq_true rfl) rfl dX5_step_124 (fun ws30 H locs hP hD hS g19 fr29 => ?_)
    replace g20 := (fr29 20 (by decide)).trans g20
    replace g21 := (fr29 21 (by decide)).trans g21
    replace g22 := (fr29 22 (by decide)).trans g22
    replace g23 := (fr29 23 (by decide)).trans g23
    replace g24 := (fr29 24 (by decide)).trans g24
    replace g25 := (fr29 25 (by decide)).trans g25
    replace g26 := (fr29 26 (by decide)).trans g26
    replace g27 := (fr29 27 (by decide)).trans g27
    replace g28 := (fr29 28 (by decide)).trans g28
    replace g29 := (fr29 29 (by decide)).trans g29
    refine lv_iconst (v := -1) hx hb dX5_step_127 ci_m1 ?_
    exact hret 128 ls _ _ locs _ dX5_step_128 hP hD hS rfl (by unfold tmM; rw [if_neg c10]; exact ⟨rfl, ⟨_, _, _, _, _, ⟨a1, a2, a3, a4, a5, a6, a7, a8, a9, a10, g19, g20, g21, g22, g23, g24, g25, g26, g27, g28, g29⟩⟩, (((((((fr.wd fr4 : fr _ _ 19 29).tr fr8).tr fr19).tr fr21).tr fr25).tr fr27).tr fr29)⟩)
set_option maxHeartbeats 4000000 in
set_option maxRecDepth 100000 in
theorem c_X5_step_0n {l : Launch} {D : va_G} {ky : kT} {A : Nat → Prop} {Hs : Heap} {ws : va_W} (hP : va_P D CL ws Hs) (hD : va_D A ws) {h th n : Nat} {T C Hd : Nat → Nat} {b : Nat} {q : Bool} {J : Nat → Nat} {bg : Bool} {pu bu : Nat} {cl mo : Int32} {K : Nat → Nat} {fw fd fc fg fo : Nat → Int32} (hpr : isMod ky ws h th n T C Hd b q J bg pu bu cl mo K fw fd fc fg fo) (hI : PI0 n C Hd b) (hT : ∀ p, T p < 4) (hbg : bg = true) (hpu : pu < n) (hf : few C Hd b q T n < 1000) (hJ2 : ∀ i, J i < 2 ^ 31) (hK2 : ∀ i, K i < 2 ^ 31) (hj : jm J K (bp C Hd b q T n pu) = false) : MU l yX5_step wsX5_step 6 143 0 0 D ky A Hs [.ref h] (fun r w => r = nI (bp C Hd b q T n pu) ∧ MD ky w h 0 n T C Hd b q J bg ((pu + 1)) ((bu ||| 2 ^ (bp C Hd b q T n pu))) ((tmP (tmM cl mo (T (bp C Hd b q T n pu)) + (if 2 ≤ K (bp C Hd b q T n pu) then nI 4 else nI 1)) Hd (bu ||| 2 ^ (bp C Hd b q T n pu)) (bp C Hd b q T n pu))) ((nI (T (bp C Hd b q T n pu)))) K ∧ fr ws w 19 29) := by
  refine MU.of (cc := cX5_step) (maxL := 3) (ty := .int) (by decide) rfl (Nat.le_of_ble_eq_true rfl) ?_
  intro pg en Rm sg mi av below meth co Qo hRf hRl hRc hRs hx hb hml hown hts hK hret ls hl
  have hl : lv_has ls 3 [(0, .ref h)] := hl
  have hS : va_S A Hs Hs [] := va_S.rf
  generalize ([] : List Loc) = locs at hS ⊢
  obtain ⟨a1, a2, a3, a4, a5, a6, a7, a8, a9, a10, g19, g20, g21, g22, g23, g24, g25, g26, g27, g28, g29⟩ := id hpr
  have hn8 := hI.1
  have hb9 : (bp C Hd b q T n pu) < n := bp_ok hn8 hT hf hpu
  have hH := hI.2.2.2.1
  have k54 := hts (.fieldLink RX5 54 "AssemblyPlannerModel" "isBegun" "Z") (by decide +kernel)
  have hinX5 : ∀ w ∈ wsX50, w ∈ wsX5_step := by decide +kernel
  have k125 := hts (.fieldLink RX5 125 "AssemblyPlannerModel" "putIn" "I") (by decide +kernel)
  have k44 := hts (.fieldLink RX5 44 "AssemblyPlannerModel" "parts" "I") (by decide +kernel)
  have k37 := hts (.fieldLink RX5 37 "AssemblyPlannerModel" "order" "[I") (by decide +kernel)
  have k134 := hts (.fieldLink RX5 134 "AssemblyPlannerModel" "mounted" "I") (by decide +kernel)
  have k7 := hts (.fieldLink RX5 7 "AssemblyPlannerModel" "tools" "[I") (by decide +kernel)
  have k19 := hts (.fieldLink RX5 19 "AssemblyPlannerModel" "jams" "[I") (by decide +kernel)
  have k131 := hts (.fieldLink RX5 131 "AssemblyPlannerModel" "clock" "I") (by decide +kernel)
  have k128 := hts (.fieldLink RX5 128 "AssemblyPlannerModel" "built" "I") (by decide +kernel)
  have k16 := hts (.fieldLink RX5 16 "AssemblyPlannerModel" "hinders" "[I") (by decide +kernel)
  refine lv_aload_n hx hb dX5_step_0 rfl (lv_at hl 0 rfl) ?_
  refine lv_aload_n hx hb dX5_step_1 rfl (lv_at hl 0 rfl) ?_
  refine va_get (ci := 5) (C := RX5) (T := TX5) (N := 19) hx hb hts hinX5 hown hK hP 19 g19 rfl 8 (by decide) k54 (fun _ h9 => h9) rfl dX5_step_2 ?_
  refine sb_if_eq (tgt := 19) hx hb dX5_step_5 (by decide) (fun q => absurd q (by rw [hbg]; decide)) (fun _ => ?_)
  refine lv_aload_n hx hb dX5_step_8 rfl (lv_at hl 0 rfl) ?_
  refine va_get (ci := 5) (C := RX5) (T := TX5) (N := 19) hx hb hts hinX5 hown hK hP 19 g19 rfl 9 (by decide) k125 (fun _ h9 => h9) rfl dX5_step_9 ?_
  refine lv_aload_n hx hb dX5_step_12 rfl (lv_at hl 0 rfl) ?_
  refine va_get (ci := 5) (C := RX5) (T := TX5) (N := 19) hx hb hts hinX5 hown hK hP 19 g19 rfl 1 (by decide) k44 (fun _ h9 => h9) rfl dX5_step_13 ?_
  refine sn_icmp_ne (tgt := 23) hx hb dX5_step_16 (by decide) (by omega) (by omega) (fun c2 => ?_) (fun c2 => absurd c2 (by omega))
  refine lv_iconst (v := nI 0) hx hb dX5_step_23 ci_0 ?_
  refine mcV (c_X5_holds hP hD ⟨a1, a2, a3, a4, a5, a6, a7, a8, a9, a10, g19, g20, g21, g22, g23, g24, g25, g26, g27, g28, g29⟩ (by decide)) ⟨hx, hb, hml, hown, hts⟩ hK gX5_step_X5_holds rfl hd_X5_holds ⟨by omega, by omega⟩ (va_recv hK hP (ci := 5) (q0 := 19) rfl g19) rfl hl.1 rfl (Nat.le_of_ble_eq_true rfl) dX5_step_24 ⟨Nat.zero_le _, Nat.zero_le _⟩ hS (fun r ws3 H locs hq5 hP hD hS => ?_)
  obtain ⟨rfl, hpr, fr4⟩ := hq5
  obtain ⟨a1, a2, a3, a4, a5, a6, a7, a8, a9, a10, g19, g20, g21, g22, g23, g24, g25, g26, g27, g28, g29⟩ := id hpr
  refine sv_top (y := nI 1) rfl ?_
  refine sn_if_ne (tgt := 32) hx hb dX5_step_27 (by decide) (by decide) (fun _ => ?_) (fun q => absurd q (by decide))
  refine lv_aload_n hx hb dX5_step_32 rfl (lv_at hl 0 rfl) ?_
  refine mcV (c_X5_best hP hD ⟨a1, a2, a3, a4, a5, a6, a7, a8, a9, a10, g19, g20, g21, g22, g23, g24, g25, g26, g27, g28, g29⟩ hI hT (by omega)) ⟨hx, hb, hml, hown, hts⟩ hK gX5_step_X5_best rfl hd_X5_best ⟨by omega, by omega⟩ (va_recv hK hP (ci := 5) (q0 := 19) rfl g19) rfl hl.1 rfl (Nat.le_of_ble_eq_true rfl) dX5_step_33 ⟨Nat.zero_le _, Nat.zero_le _⟩ hS (fun r ws7 H locs hq9 hP hD hS => ?_)
  obtain ⟨rfl, ⟨gg, go, hpr, hgo⟩, fr8⟩ := hq9
  obtain ⟨a1, a2, a3, a4, a5, a6, a7, a8, a9, a10, g19, g20, g21, g22, g23, g24, g25, g26, g27, g28, g29⟩ := id hpr
  refine lv_istore_n (lv' := [(1, .int (orN (few C Hd b q T n))), (0, .ref h)]) hx hb dX5_step_36 rfl hl (by decide) rfl (fun ls hl => ?_)
  refine lv_aload_n hx hb dX5_step_37 rfl (lv_at hl 1 rfl) ?_
  refine va_get (ci := 5) (C := RX5) (T := TX5) (N := 19) hx hb hts hinX5 hown hK hP 19 g19 rfl 18 (by decide) k37 (fun _ h9 => h9) rfl dX5_step_38 ?_
  refine lv_aload_n hx hb dX5_step_41 rfl (lv_at hl 1 rfl) ?_
  refine va_get (ci := 5) (C := RX5) (T := TX5) (N := 19) hx hb hts hinX5 hown hK hP 19 g19 rfl 9 (by decide) k125 (fun _ h9 => h9) rfl dX5_step_42 ?_
  refine sv_iald hx hb hK hP 29 g29 (j := pu) (by omega) (by decide) dX5_step_45 ?_
  refine W.eq (g2 := F0 mi 46 ls (.int (go pu) :: [])) rfl ?_
  refine sv_top (y := nI (bp C Hd b q T n pu)) (hgo hf pu hpu) ?_
  refine lv_istore_n (lv' := [(2, .int (nI (bp C Hd b q T n pu))), (1, .int (orN (few C Hd b q T n))), (0, .ref h)]) hx hb dX5_step_46 rfl hl (by decide) rfl (fun ls hl => ?_)
  refine lv_aload_n hx hb dX5_step_47 rfl (lv_at hl 2 rfl) ?_
  refine va_get (ci := 5) (C := RX5) (T := TX5) (N := 19) hx hb hts hinX5 hown hK hP 19 g19 rfl 12 (by decide) k134 (fun _ h9 => h9) rfl dX5_step_48 ?_
  refine lv_aload_n hx hb dX5_step_51 rfl (lv_at hl 2 rfl) ?_
  refine va_get (ci := 5) (C := RX5) (T := TX5) (N := 19) hx hb hts hinX5 hown hK hP 19 g19 rfl 2 (by decide) k7 (fun _ h9 => h9) rfl dX5_step_52 ?_
  refine lv_iload_n hx hb dX5_step_55 rfl (lv_at hl 0 rfl) ?_
  refine sv_iald hx hb hK hP 20 g20 (j := bp C Hd b q T n pu) (by omega) (by decide) dX5_step_56 ?_
  refine W.eq (g2 := F0 mi 57 ls (.int (nI (T (bp C Hd b q T n pu))) :: [.int mo])) rfl ?_
  refine lv_icmp_eq (tgt := 80) hx hb dX5_step_57 (by decide) (fun c10 => ?_) (fun c10 => ?_)
  · refine lv_aload_n hx hb dX5_step_80 rfl (lv_at hl 2 rfl) ?_
    refine va_get (ci := 5) (C := RX5) (T := TX5) (N := 19) hx hb hts hinX5 hown hK hP 19 g19 rfl 7 (by decide) k19 (fun _ h9 => h9) rfl dX5_step_81 ?_
    refine lv_iload_n hx hb dX5_step_84 rfl (lv_at hl 0 rfl) ?_
    refine sv_iald hx hb hK hP 23 g23 (j := bp C Hd b q T n pu) (by omega) (by decide) dX5_step_85 ?_
    refine W.eq (g2 := F0 mi 86 ls (.int (nI (J (bp C Hd b q T n pu))) :: [])) rfl ?_
    refine sn_if_le (tgt := 129) hx hb dX5_step_86 (by decide) (hJ2 _) (fun c11 => ?_) (fun c11 => ?_)
    · refine lv_aload_n hx hb dX5_step_129 rfl (lv_at hl 2 rfl) ?_
      refine lv_dup hx hb dX5_step_130 rfl ?_
      refine va_get (ci := 5) (C := RX5) (T := TX5) (N := 19) hx hb hts hinX5 hown hK hP 19 g19 rfl 11 (by decide) k131 (fun _ h9 => h9) rfl dX5_step_131 ?_
      refine lv_aload_n hx hb dX5_step_134 rfl (lv_at hl 2 rfl) ?_
      refine lv_iload_n hx hb dX5_step_135 rfl (lv_at hl 0 rfl) ?_
      refine pcV (c_X5_isPassed hP ⟨a1, a2, a3, a4, a5, a6, a7, a8, a9, a10, g19, g20, g21, g22, g23, g24, g25, g26, g27, g28, g29⟩ (by omega) (hK2 _)) ⟨hx, hb, hml, hown, hts⟩ hK gX5_step_X5_isPassed rfl hd_X5_isPassed ⟨by omega, by omega⟩ (va_recv hK hP (ci := 5) (q0 := 19) rfl g19) rfl hl.1 rfl (Nat.le_of_ble_eq_true rfl) dX5_step_136 ⟨Nat.zero_le _, Nat.zero_le _⟩ hS (fun locs hS => ?_)
      refine sb_if_eq (tgt := 146) hx hb dX5_step_139 (by decide) (fun c12 => ?_) (fun c12 => ?_)
      · refine lv_iconst (v := nI 1) hx hb dX5_step_146 ci_1 ?_
        refine lv_iadd hx hb dX5_step_147 ?_
        refine sv_put (ci := 5) (C := RX5) (T := TX5) (N := 19) hx hb hts hinX5 tyX5 tyX5_ok nmX5 hown hK hP hD hS 19 g19 rfl 11 (by decide) k131 (fun _ h9 => h9) rfl .int (by decide +kernel) rfl rfl [.int (nI 0), .int (nI n), .ref a1, .ref a2, .ref a3, .int (nI b), .int (bI q), .ref a4, .int (bI bg), .int (nI pu), .int (nI bu), .int (cl + (nI 1)), .int mo, .ref a5, .ref a6, .ref a7, .ref a8, .ref a9, .ref a10] (Nat.le_of_ble_eq_true rfl) rfl dX5_step_148 (fun ws14 H locs hP hD hS g19 fr13 => ?_)
        replace g20 := (fr13 20 (by decide)).trans g20
        replace g21 := (fr13 21 (by decide)).trans g21
        replace g22 := (fr13 22 (by decide)).trans g22
        replace g23 := (fr13 23 (by decide)).trans g23
        replace g24 := (fr13 24 (by decide)).trans g24
        replace g25 := (fr13 25 (by decide)).trans g25
        replace g26 := (fr13 26 (by decide)).trans g26
        replace g27 := (fr13 27 (by decide)).trans g27
        replace g28 := (fr13 28 (by decide)).trans g28
        replace g29 := (fr13 29 (by decide)).trans g29
        refine lv_aload_n hx hb dX5_step_151 rfl (lv_at hl 2 rfl) ?_
        refine lv_dup hx hb dX5_step_152 rfl ?_
        refine va_get (ci := 5) (C := RX5) (T := TX5) (N := 19) hx hb hts hinX5 hown hK hP 19 g19 rfl 10 (by decide) k128 (fun _ h9 => h9) rfl dX5_step_153 ?_
        refine lv_iconst (v := nI 1) hx hb dX5_step_156 ci_1 ?_
        refine lv_iload_n hx hb dX5_step_157 rfl (lv_at hl 0 rfl) ?_
        refine lv_ishl hx hb dX5_step_158 ?_
        refine sv_top (y := nI (2 ^ (bp C Hd b q T n pu))) (sh_l1 (by omega)) ?_
        refine lv_ior hx hb dX5_step_159 ?_
        refine sv_top (y := nI (bu ||| (2 ^ (bp C Hd b q T n pu)))) (an_or _ _) ?_
        refine sv_put (ci := 5) (C := RX5) (T := TX5) (N := 19) hx hb hts hinX5 tyX5 tyX5_ok nmX5 hown hK hP hD hS 19 g19 rfl 10 (by decide) k128 (fun _ h9 => h9) rfl .int (by decide +kernel) rfl rfl [.int (nI 0), .int (nI n), .ref a1, .ref a2, .ref a3, .int (nI b), .int (bI q), .ref a4, .int (bI bg), .int (nI pu), .int (nI (bu ||| (2 ^ (bp C Hd b q T n pu)))), .int (cl + (nI 1)), .int mo, .ref a5, .ref a6, .ref a7, .ref a8, .ref a9, .ref a10] (Nat.le_of_ble_eq_true rfl) rfl dX5_step_160 (fun ws16 H locs hP hD hS g19 fr15 => ?_)
        replace g20 := (fr15 20 (by decide)).trans g20
        replace g21 := (fr15 21 (by decide)).trans g21
        replace g22 := (fr15 22 (by decide)).trans g22
        replace g23 := (fr15 23 (by decide)).trans g23
        replace g24 := (fr15 24 (by decide)).trans g24
        replace g25 := (fr15 25 (by decide)).trans g25
        replace g26 := (fr15 26 (by decide)).trans g26
        replace g27 := (fr15 27 (by decide)).trans g27
        replace g28 := (fr15 28 (by decide)).trans g28
        replace g29 := (fr15 29 (by decide)).trans g29
        refine lv_aload_n hx hb dX5_step_163 rfl (lv_at hl 2 rfl) ?_
        refine lv_dup hx hb dX5_step_164 rfl ?_
        refine va_get (ci := 5) (C := RX5) (T := TX5) (N := 19) hx hb hts hinX5 hown hK hP 19 g19 rfl 9 (by decide) k125 (fun _ h9 => h9) rfl dX5_step_165 ?_
        refine lv_iconst (v := nI 1) hx hb dX5_step_168 ci_1 ?_
        refine lv_iadd hx hb dX5_step_169 ?_
        refine sv_top (y := nI (pu + 1)) (nI_add _ _) ?_
        refine sv_put (ci := 5) (C := RX5) (T := TX5) (N := 19) hx hb hts hinX5 tyX5 tyX5_ok nmX5 hown hK hP hD hS 19 g19 rfl 9 (by decide) k125 (fun _ h9 => h9) rfl .int (by decide +kernel) rfl rfl [.int (nI 0), .int (nI n), .ref a1, .ref a2, .ref a3, .int (nI b), .int (bI q), .ref a4, .int (bI bg), .int (nI (pu + 1)), .int (nI (bu ||| (2 ^ (bp C Hd b q T n pu)))), .int (cl + (nI 1)), .int mo, .ref a5, .ref a6, .ref a7, .ref a8, .ref a9, .ref a10] (Nat.le_of_ble_eq_true rfl) rfl dX5_step_170 (fun ws18 H locs hP hD hS g19 fr17 => ?_)
        replace g20 := (fr17 20 (by decide)).trans g20
        replace g21 := (fr17 21 (by decide)).trans g21
        replace g22 := (fr17 22 (by decide)).trans g22
        replace g23 := (fr17 23 (by decide)).trans g23
        replace g24 := (fr17 24 (by decide)).trans g24
        replace g25 := (fr17 25 (by decide)).trans g25
        replace g26 := (fr17 26 (by decide)).trans g26
        replace g27 := (fr17 27 (by decide)).trans g27
        replace g28 := (fr17 28 (by decide)).trans g28
        replace g29 := (fr17 29 (by decide)).trans g29
        refine lv_aload_n hx hb dX5_step_173 rfl (lv_at hl 2 rfl) ?_
        refine lv_dup hx hb dX5_step_174 rfl ?_
        refine va_get (ci := 5) (C := RX5) (T := TX5) (N := 19) hx hb hts hinX5 hown hK hP 19 g19 rfl 11 (by decide) k131 (fun _ h9 => h9) rfl dX5_step_175 ?_
        refine lv_aload_n hx hb dX5_step_178 rfl (lv_at hl 2 rfl) ?_
        refine va_get (ci := 5) (C := RX5) (T := TX5) (N := 19) hx hb hts hinX5 hown hK hP 19 g19 rfl 4 (by decide) k16 (fun _ h9 => h9) rfl dX5_step_179 ?_
        refine lv_bipush (v := nI 32) hx hb dX5_step_182 bi_32 ?_
        refine lv_iload_n hx hb dX5_step_184 rfl (lv_at hl 0 rfl) ?_
        refine lv_iadd hx hb dX5_step_185 ?_
        refine sv_top (y := nI (32 + (bp C Hd b q T n pu))) (nI_add _ _) ?_
        refine sv_iald hx hb hK hP 22 g22 (j := 32 + (bp C Hd b q T n pu)) (by omega) (by decide) dX5_step_186 ?_
        refine W.eq (g2 := F0 mi 187 ls (.int (nI (Hd (32 + (bp C Hd b q T n pu)))) :: [.int (cl + (nI 1)), .ref h])) rfl ?_
        refine lv_aload_n hx hb dX5_step_187 rfl (lv_at hl 2 rfl) ?_
        refine va_get (ci := 5) (C := RX5) (T := TX5) (N := 19) hx hb hts hinX5 hown hK hP 19 g19 rfl 10 (by decide) k128 (fun _ h9 => h9) rfl dX5_step_188 ?_
        refine lv_iand hx hb dX5_step_191 ?_
        refine sv_top (y := nI ((Hd (32 + (bp C Hd b q T n pu))) &&& (bu ||| (2 ^ (bp C Hd b q T n pu))))) (an_and _ _) ?_
        refine sn_if_ne (tgt := 199) hx hb dX5_step_192 (by decide) (and_b1 (lt_31 (hH _) hn8)) (fun c19 => ?_) (fun c19 => ?_)
        · refine lv_iconst (v := nI 2) hx hb dX5_step_199 ci_2 ?_
          refine lv_iadd hx hb dX5_step_200 ?_
          refine sv_put (ci := 5) (C := RX5) (T := TX5) (N := 19) hx hb hts hinX5 tyX5 tyX5_ok nmX5 hown hK hP hD hS 19 g19 rfl 11 (by decide) k131 (fun _ h9 => h9) rfl .int (by decide +kernel) rfl rfl [.int (nI 0), .int (nI n), .ref a1, .ref a2, .ref a3, .int (nI b), .int (bI q), .ref a4, .int (bI bg), .int (nI (pu + 1)), .int (nI (bu ||| (2 ^ (bp C Hd b q T n pu)))), .int ((cl + (nI 1)) + (nI 2)), .int mo, .ref a5, .ref a6, .ref a7, .ref a8, .ref a9, .ref a10] (Nat.le_of_ble_eq_true rfl) rfl dX5_step_201 (fun ws21 H locs hP hD hS g19 fr20 => ?_)
          replace g20 := (fr20 20 (by decide)).trans g20
          replace g21 := (fr20 21 (by decide)).trans g21
          replace g22 := (fr20 22 (by decide)).trans g22
          replace g23 := (fr20 23 (by decide)).trans g23
          replace g24 := (fr20 24 (by decide)).trans g24
          replace g25 := (fr20 25 (by decide)).trans g25
          replace g26 := (fr20 26 (by decide)).trans g26
          replace g27 := (fr20 27 (by decide)).trans g27
          replace g28 := (fr20 28 (by decide)).trans g28
          replace g29 := (fr20 29 (by decide)).trans g29
          refine lv_iload_n hx hb dX5_step_204 rfl (lv_at hl 0 rfl) ?_
          exact hret 205 ls _ _ locs _ dX5_step_205 hP hD hS rfl (by unfold tmP tmM; rw [if_pos c10]; rw [c10] at g19; rw [if_neg (of_decide_eq_false c12)]; rw [if_neg c19]; exact ⟨rfl, ⟨_, _, _, _, _, ⟨a1, a2, a3, a4, a5, a6, a7, a8, a9, a10, g19, g20, g21, g22, g23, g24, g25, g26, g27, g28, g29⟩⟩, ((((((fr.wd fr4 : fr _ _ 19 29).tr fr8).tr fr13).tr fr15).tr fr17).tr fr20)⟩)
        · refine lv_iconst (v := nI 1) hx hb dX5_step_195 ci_1 ?_
          refine lv_goto (tgt := 200) hx hb dX5_step_196 (by decide) ?_
          refine lv_iadd hx hb dX5_step_200 ?_
          refine sv_put (ci := 5) (C := RX5) (T := TX5) (N := 19) hx hb hts hinX5 tyX5 tyX5_ok nmX5 hown hK hP hD hS 19 g19 rfl 11 (by decide) k131 (fun _ h9 => h9) rfl .int (by decide +kernel) rfl rfl [.int (nI 0), .int (nI n), .ref a1, .ref a2, .ref a3, .int (nI b), .int (bI q), .ref a4, .int (bI bg), .int (nI (pu + 1)), .int (nI (bu ||| (2 ^ (bp C Hd b q T n pu)))), .int ((cl + (nI 1)) + (nI 1)), .int mo, .ref a5, .ref a6, .ref a7, .ref a8, .ref a9, .ref a10] (Nat.le_of_ble_eq_true rfl) rfl dX5_step_201 (fun ws23 H locs hP hD hS g19 fr22 => ?_)
          replace g20 := (fr22 20 (by decide)).trans g20
          replace g21 := (fr22 21 (by decide)).trans g21
          replace g22 := (fr22 22 (by decide)).trans g22
          replace g23 := (fr22 23 (by decide)).trans g23
          replace g24 := (fr22 24 (by decide)).trans g24
          replace g25 := (fr22 25 (by decide)).trans g25
          replace g26 := (fr22 26 (by decide)).trans g26
          replace g27 := (fr22 27 (by decide)).trans g27
          replace g28 := (fr22 28 (by decide)).trans g28
          replace g29 := (fr22 29 (by decide)).trans g29
          refine lv_iload_n hx hb dX5_step_204 rfl (lv_at hl 0 rfl) ?_
          exact hret 205 ls _ _ locs _ dX5_step_205 hP hD hS rfl (by unfold tmP tmM; rw [if_pos c10]; rw [c10] at g19; rw [if_neg (of_decide_eq_false c12)]; rw [if_pos c19]; exact ⟨rfl, ⟨_, _, _, _, _, ⟨a1, a2, a3, a4, a5, a6, a7, a8, a9, a10, g19, g20, g21, g22, g23, g24, g25, g26, g27, g28, g29⟩⟩, ((((((fr.wd fr4 : fr _ _ 19 29).tr fr8).tr fr13).tr fr15).tr fr17).tr fr22)⟩)
      · refine lv_iconst (v := nI 4) hx hb dX5_step_142 ci_4 ?_
        refine lv_goto (tgt := 147) hx hb dX5_step_143 (by decide) ?_
        refine lv_iadd hx hb dX5_step_147 ?_
        refine sv_put (ci := 5) (C := RX5) (T := TX5) (N := 19) hx hb hts hinX5 tyX5 tyX5_ok nmX5 hown hK hP hD hS 19 g19 rfl 11 (by decide) k131 (fun _ h9 => h9) rfl .int (by decide +kernel) rfl rfl [.int (nI 0), .int (nI n), .ref a1, .ref a2, .ref a3, .int (nI b), .int (bI q), .ref a4, .int (bI bg), .int (nI pu), .int (nI bu), .int (cl + (nI 4)), .int mo, .ref a5, .ref a6, .ref a7, .ref a8, .ref a9, .ref a10] (Nat.le_of_ble_eq_true rfl) rfl dX5_step_148 (fun ws25 H locs hP hD hS g19 fr24 => ?_)
        replace g20 := (fr24 20 (by decide)).trans g20
        replace g21 := (fr24 21 (by decide)).trans g21
        replace g22 := (fr24 22 (by decide)).trans g22
        replace g23 := (fr24 23 (by decide)).trans g23
        replace g24 := (fr24 24 (by decide)).trans g24
        replace g25 := (fr24 25 (by decide)).trans g25
        replace g26 := (fr24 26 (by decide)).trans g26
        replace g27 := (fr24 27 (by decide)).trans g27
        replace g28 := (fr24 28 (by decide)).trans g28
        replace g29 := (fr24 29 (by decide)).trans g29
        refine lv_aload_n hx hb dX5_step_151 rfl (lv_at hl 2 rfl) ?_
        refine lv_dup hx hb dX5_step_152 rfl ?_
        refine va_get (ci := 5) (C := RX5) (T := TX5) (N := 19) hx hb hts hinX5 hown hK hP 19 g19 rfl 10 (by decide) k128 (fun _ h9 => h9) rfl dX5_step_153 ?_
        refine lv_iconst (v := nI 1) hx hb dX5_step_156 ci_1 ?_
        refine lv_iload_n hx hb dX5_step_157 rfl (lv_at hl 0 rfl) ?_
        refine lv_ishl hx hb dX5_step_158 ?_
        refine sv_top (y := nI (2 ^ (bp C Hd b q T n pu))) (sh_l1 (by omega)) ?_
        refine lv_ior hx hb dX5_step_159 ?_
        refine sv_top (y := nI (bu ||| (2 ^ (bp C Hd b q T n pu)))) (an_or _ _) ?_
        refine sv_put (ci := 5) (C := RX5) (T := TX5) (N := 19) hx hb hts hinX5 tyX5 tyX5_ok nmX5 hown hK hP hD hS 19 g19 rfl 10 (by decide) k128 (fun _ h9 => h9) rfl .int (by decide +kernel) rfl rfl [.int (nI 0), .int (nI n), .ref a1, .ref a2, .ref a3, .int (nI b), .int (bI q), .ref a4, .int (bI bg), .int (nI pu), .int (nI (bu ||| (2 ^ (bp C Hd b q T n pu)))), .int (cl + (nI 4)), .int mo, .ref a5, .ref a6, .ref a7, .ref a8, .ref a9, .ref a10] (Nat.le_of_ble_eq_true rfl) rfl dX5_step_160 (fun ws27 H locs hP hD hS g19 fr26 => ?_)
        replace g20 := (fr26 20 (by decide)).trans g20
        replace g21 := (fr26 21 (by decide)).trans g21
        replace g22 := (fr26 22 (by decide)).trans g22
        replace g23 := (fr26 23 (by decide)).trans g23
        replace g24 := (fr26 24 (by decide)).trans g24
        replace g25 := (fr26 25 (by decide)).trans g25
        replace g26 := (fr26 26 (by decide)).trans g26
        replace g27 := (fr26 27 (by decide)).trans g27
        replace g28 := (fr26 28 (by decide)).trans g28
        replace g29 := (fr26 29 (by decide)).trans g29
        refine lv_aload_n hx hb dX5_step_163 rfl (lv_at hl 2 rfl) ?_
        refine lv_dup hx hb dX5_step_164 rfl ?_
        refine va_get (ci := 5) (C := RX5) (T := TX5) (N := 19) hx hb hts hinX5 hown hK hP 19 g19 rfl 9 (by decide) k125 (fun _ h9 => h9) rfl dX5_step_165 ?_
        refine lv_iconst (v := nI 1) hx hb dX5_step_168 ci_1 ?_
        refine lv_iadd hx hb dX5_step_169 ?_
        refine sv_top (y := nI (pu + 1)) (nI_add _ _) ?_
        refine sv_put (ci := 5) (C := RX5) (T := TX5) (N := 19) hx hb hts hinX5 tyX5 tyX5_ok nmX5 hown hK hP hD hS 19 g19 rfl 9 (by decide) k125 (fun _ h9 => h9) rfl .int (by decide +kernel) rfl rfl [.int (nI 0), .int (nI n), .ref a1, .ref a2, .ref a3, .int (nI b), .int (bI q), .ref a4, .int (bI bg), .int (nI (pu + 1)), .int (nI (bu ||| (2 ^ (bp C Hd b q T n pu)))), .int (cl + (nI 4)), .int mo, .ref a5, .ref a6, .ref a7, .ref a8, .ref a9, .ref a10] (Nat.le_of_ble_eq_true rfl) rfl dX5_step_170 (fun ws29 H locs hP hD hS g19 fr28 => ?_)
        replace g20 := (fr28 20 (by decide)).trans g20
        replace g21 := (fr28 21 (by decide)).trans g21
        replace g22 := (fr28 22 (by decide)).trans g22
        replace g23 := (fr28 23 (by decide)).trans g23
        replace g24 := (fr28 24 (by decide)).trans g24
        replace g25 := (fr28 25 (by decide)).trans g25
        replace g26 := (fr28 26 (by decide)).trans g26
        replace g27 := (fr28 27 (by decide)).trans g27
        replace g28 := (fr28 28 (by decide)).trans g28
        replace g29 := (fr28 29 (by decide)).trans g29
        refine lv_aload_n hx hb dX5_step_173 rfl (lv_at hl 2 rfl) ?_
        refine lv_dup hx hb dX5_step_174 rfl ?_
        refine va_get (ci := 5) (C := RX5) (T := TX5) (N := 19) hx hb hts hinX5 hown hK hP 19 g19 rfl 11 (by decide) k131 (fun _ h9 => h9) rfl dX5_step_175 ?_
        refine lv_aload_n hx hb dX5_step_178 rfl (lv_at hl 2 rfl) ?_
        refine va_get (ci := 5) (C := RX5) (T := TX5) (N := 19) hx hb hts hinX5 hown hK hP 19 g19 rfl 4 (by decide) k16 (fun _ h9 => h9) rfl dX5_step_179 ?_
        refine lv_bipush (v := nI 32) hx hb dX5_step_182 bi_32 ?_
        refine lv_iload_n hx hb dX5_step_184 rfl (lv_at hl 0 rfl) ?_
        refine lv_iadd hx hb dX5_step_185 ?_
        refine sv_top (y := nI (32 + (bp C Hd b q T n pu))) (nI_add _ _) ?_
        refine sv_iald hx hb hK hP 22 g22 (j := 32 + (bp C Hd b q T n pu)) (by omega) (by decide) dX5_step_186 ?_
        refine W.eq (g2 := F0 mi 187 ls (.int (nI (Hd (32 + (bp C Hd b q T n pu)))) :: [.int (cl + (nI 4)), .ref h])) rfl ?_
        refine lv_aload_n hx hb dX5_step_187 rfl (lv_at hl 2 rfl) ?_
        refine va_get (ci := 5) (C := RX5) (T := TX5) (N := 19) hx hb hts hinX5 hown hK hP 19 g19 rfl 10 (by decide) k128 (fun _ h9 => h9) rfl dX5_step_188 ?_
        refine lv_iand hx hb dX5_step_191 ?_
        refine sv_top (y := nI ((Hd (32 + (bp C Hd b q T n pu))) &&& (bu ||| (2 ^ (bp C Hd b q T n pu))))) (an_and _ _) ?_
        refine sn_if_ne (tgt := 199) hx hb dX5_step_192 (by decide) (and_b1 (lt_31 (hH _) hn8)) (fun c30 => ?_) (fun c30 => ?_)
        · refine lv_iconst (v := nI 2) hx hb dX5_step_199 ci_2 ?_
          refine lv_iadd hx hb dX5_step_200 ?_
          refine sv_put (ci := 5) (C := RX5) (T := TX5) (N := 19) hx hb hts hinX5 tyX5 tyX5_ok nmX5 hown hK hP hD hS 19 g19 rfl 11 (by decide) k131 (fun _ h9 => h9) rfl .int (by decide +kernel) rfl rfl [.int (nI 0), .int (nI n), .ref a1, .ref a2, .ref a3, .int (nI b), .int (bI q), .ref a4, .int (bI bg), .int (nI (pu + 1)), .int (nI (bu ||| (2 ^ (bp C Hd b q T n pu)))), .int ((cl + (nI 4)) + (nI 2)), .int mo, .ref a5, .ref a6, .ref a7, .ref a8, .ref a9, .ref a10] (Nat.le_of_ble_eq_true rfl) rfl dX5_step_201 (fun ws32 H locs hP hD hS g19 fr31 => ?_)
          replace g20 := (fr31 20 (by decide)).trans g20
          replace g21 := (fr31 21 (by decide)).trans g21
          replace g22 := (fr31 22 (by decide)).trans g22
          replace g23 := (fr31 23 (by decide)).trans g23
          replace g24 := (fr31 24 (by decide)).trans g24
          replace g25 := (fr31 25 (by decide)).trans g25
          replace g26 := (fr31 26 (by decide)).trans g26
          replace g27 := (fr31 27 (by decide)).trans g27
          replace g28 := (fr31 28 (by decide)).trans g28
          replace g29 := (fr31 29 (by decide)).trans g29
          refine lv_iload_n hx hb dX5_step_204 rfl (lv_at hl 0 rfl) ?_
          exact hret 205 ls _ _ locs _ dX5_step_205 hP hD hS rfl (by unfold tmP tmM; rw [if_pos c10]; rw [c10] at g19; rw [if_pos (of_decide_eq_true c12)]; rw [if_neg c30]; exact ⟨rfl, ⟨_, _, _, _, _, ⟨a1, a2, a3, a4, a5, a6, a7, a8, a9, a10, g19, g20, g21, g22, g23, g24, g25, g26, g27, g28, g29⟩⟩, ((((((fr.wd fr4 : fr _ _ 19 29).tr fr8).tr fr24).tr fr26).tr fr28).tr fr31)⟩)
        · refine lv_iconst (v := nI 1) hx hb dX5_step_195 ci_1 ?_
          refine lv_goto (tgt := 200) hx hb dX5_step_196 (by decide) ?_
          refine lv_iadd hx hb dX5_step_200 ?_
          refine sv_put (ci := 5) (C := RX5) (T := TX5) (N := 19) hx hb hts hinX5 tyX5 tyX5_ok nmX5 hown hK hP hD hS 19 g19 rfl 11 (by decide) k131 (fun _ h9 => h9) rfl .int (by decide +kernel) rfl rfl [.int (nI 0), .int (nI n), .ref a1, .ref a2, .ref a3, .int (nI b), .int (bI q), .ref a4, .int (bI bg), .int (nI (pu + 1)), .int (nI (bu ||| (2 ^ (bp C Hd b q T n pu)))), .int ((cl + (nI 4)) + (nI 1)), .int mo, .ref a5, .ref a6, .ref a7, .ref a8, .ref a9, .ref a10] (Nat.le_of_ble_eq_true rfl) rfl dX5_step_201 (fun ws34 H locs hP hD hS g19 fr33 => ?_)
          replace g20 := (fr33 20 (by decide)).trans g20
          replace g21 := (fr33 21 (by decide)).trans g21
          replace g22 := (fr33 22 (by decide)).trans g22
          replace g23 := (fr33 23 (by decide)).trans g23
          replace g24 := (fr33 24 (by decide)).trans g24
          replace g25 := (fr33 25 (by decide)).trans g25
          replace g26 := (fr33 26 (by decide)).trans g26
          replace g27 := (fr33 27 (by decide)).trans g27
          replace g28 := (fr33 28 (by decide)).trans g28
          replace g29 := (fr33 29 (by decide)).trans g29
          refine lv_iload_n hx hb dX5_step_204 rfl (lv_at hl 0 rfl) ?_
          exact hret 205 ls _ _ locs _ dX5_step_205 hP hD hS rfl (by unfold tmP tmM; rw [if_pos c10]; rw [c10] at g19; rw [if_pos (of_decide_eq_true c12)]; rw [if_pos c30]; exact ⟨rfl, ⟨_, _, _, _, _, ⟨a1, a2, a3, a4, a5, a6, a7, a8, a9, a10, g19, g20, g21, g22, g23, g24, g25, g26, g27, g28, g29⟩⟩, ((((((fr.wd fr4 : fr _ _ 19 29).tr fr8).tr fr24).tr fr26).tr fr28).tr fr33)⟩)
    · refine lv_aload_n hx hb dX5_step_89 rfl (lv_at hl 2 rfl) ?_
      refine lv_iload_n hx hb dX5_step_90 rfl (lv_at hl 0 rfl) ?_
      refine pcV (c_X5_isPassed hP ⟨a1, a2, a3, a4, a5, a6, a7, a8, a9, a10, g19, g20, g21, g22, g23, g24, g25, g26, g27, g28, g29⟩ (by omega) (hK2 _)) ⟨hx, hb, hml, hown, hts⟩ hK gX5_step_X5_isPassed rfl hd_X5_isPassed ⟨by omega, by omega⟩ (va_recv hK hP (ci := 5) (q0 := 19) rfl g19) rfl hl.1 rfl (Nat.le_of_ble_eq_true rfl) dX5_step_91 ⟨Nat.zero_le _, Nat.zero_le _⟩ hS (fun locs hS => ?_)
      refine sb_if_ne (tgt := 129) hx hb dX5_step_94 (by decide) (fun c35 => ?_) (fun c35 => absurd hj (by unfold jm; rw [decide_eq_true c11, c35]; decide))
      refine lv_aload_n hx hb dX5_step_129 rfl (lv_at hl 2 rfl) ?_
      refine lv_dup hx hb dX5_step_130 rfl ?_
      refine va_get (ci := 5) (C := RX5) (T := TX5) (N := 19) hx hb hts hinX5 hown hK hP 19 g19 rfl 11 (by decide) k131 (fun _ h9 => h9) rfl dX5_step_131 ?_
      refine lv_aload_n hx hb dX5_step_134 rfl (lv_at hl 2 rfl) ?_
      refine lv_iload_n hx hb dX5_step_135 rfl (lv_at hl 0 rfl) ?_
      refine pcV (c_X5_isPassed hP ⟨a1, a2, a3, a4, a5, a6, a7, a8, a9, a10, g19, g20, g21, g22, g23, g24, g25, g26, g27, g28, g29⟩ (by omega) (hK2 _)) ⟨hx, hb, hml, hown, hts⟩ hK gX5_step_X5_isPassed rfl hd_X5_isPassed ⟨by omega, by omega⟩ (va_recv hK hP (ci := 5) (q0 := 19) rfl g19) rfl hl.1 rfl (Nat.le_of_ble_eq_true rfl) dX5_step_136 ⟨Nat.zero_le _, Nat.zero_le _⟩ hS (fun locs hS => ?_)
      refine sb_if_eq (tgt := 146) hx hb dX5_step_139 (by decide) (fun c36 => ?_) (fun c36 => ?_)
      · refine lv_iconst (v := nI 1) hx hb dX5_step_146 ci_1 ?_
        refine lv_iadd hx hb dX5_step_147 ?_
        refine sv_put (ci := 5) (C := RX5) (T := TX5) (N := 19) hx hb hts hinX5 tyX5 tyX5_ok nmX5 hown hK hP hD hS 19 g19 rfl 11 (by decide) k131 (fun _ h9 => h9) rfl .int (by decide +kernel) rfl rfl [.int (nI 0), .int (nI n), .ref a1, .ref a2, .ref a3, .int (nI b), .int (bI q), .ref a4, .int (bI bg), .int (nI pu), .int (nI bu), .int (cl + (nI 1)), .int mo, .ref a5, .ref a6, .ref a7, .ref a8, .ref a9, .ref a10] (Nat.le_of_ble_eq_true rfl) rfl dX5_step_148 (fun ws38 H locs hP hD hS g19 fr37 => ?_)
        replace g20 := (fr37 20 (by decide)).trans g20
        replace g21 := (fr37 21 (by decide)).trans g21
        replace g22 := (fr37 22 (by decide)).trans g22
        replace g23 := (fr37 23 (by decide)).trans g23
        replace g24 := (fr37 24 (by decide)).trans g24
        replace g25 := (fr37 25 (by decide)).trans g25
        replace g26 := (fr37 26 (by decide)).trans g26
        replace g27 := (fr37 27 (by decide)).trans g27
        replace g28 := (fr37 28 (by decide)).trans g28
        replace g29 := (fr37 29 (by decide)).trans g29
        refine lv_aload_n hx hb dX5_step_151 rfl (lv_at hl 2 rfl) ?_
        refine lv_dup hx hb dX5_step_152 rfl ?_
        refine va_get (ci := 5) (C := RX5) (T := TX5) (N := 19) hx hb hts hinX5 hown hK hP 19 g19 rfl 10 (by decide) k128 (fun _ h9 => h9) rfl dX5_step_153 ?_
        refine lv_iconst (v := nI 1) hx hb dX5_step_156 ci_1 ?_
        refine lv_iload_n hx hb dX5_step_157 rfl (lv_at hl 0 rfl) ?_
        refine lv_ishl hx hb dX5_step_158 ?_
        refine sv_top (y := nI (2 ^ (bp C Hd b q T n pu))) (sh_l1 (by omega)) ?_
        refine lv_ior hx hb dX5_step_159 ?_
        refine sv_top (y := nI (bu ||| (2 ^ (bp C Hd b q T n pu)))) (an_or _ _) ?_
        refine sv_put (ci := 5) (C := RX5) (T := TX5) (N := 19) hx hb hts hinX5 tyX5 tyX5_ok nmX5 hown hK hP hD hS 19 g19 rfl 10 (by decide) k128 (fun _ h9 => h9) rfl .int (by decide +kernel) rfl rfl [.int (nI 0), .int (nI n), .ref a1, .ref a2, .ref a3, .int (nI b), .int (bI q), .ref a4, .int (bI bg), .int (nI pu), .int (nI (bu ||| (2 ^ (bp C Hd b q T n pu)))), .int (cl + (nI 1)), .int mo, .ref a5, .ref a6, .ref a7, .ref a8, .ref a9, .ref a10] (Nat.le_of_ble_eq_true rfl) rfl dX5_step_160 (fun ws40 H locs hP hD hS g19 fr39 => ?_)
        replace g20 := (fr39 20 (by decide)).trans g20
        replace g21 := (fr39 21 (by decide)).trans g21
        replace g22 := (fr39 22 (by decide)).trans g22
        replace g23 := (fr39 23 (by decide)).trans g23
        replace g24 := (fr39 24 (by decide)).trans g24
        replace g25 := (fr39 25 (by decide)).trans g25
        replace g26 := (fr39 26 (by decide)).trans g26
        replace g27 := (fr39 27 (by decide)).trans g27
        replace g28 := (fr39 28 (by decide)).trans g28
        replace g29 := (fr39 29 (by decide)).trans g29
        refine lv_aload_n hx hb dX5_step_163 rfl (lv_at hl 2 rfl) ?_
        refine lv_dup hx hb dX5_step_164 rfl ?_
        refine va_get (ci := 5) (C := RX5) (T := TX5) (N := 19) hx hb hts hinX5 hown hK hP 19 g19 rfl 9 (by decide) k125 (fun _ h9 => h9) rfl dX5_step_165 ?_
        refine lv_iconst (v := nI 1) hx hb dX5_step_168 ci_1 ?_
        refine lv_iadd hx hb dX5_step_169 ?_
        refine sv_top (y := nI (pu + 1)) (nI_add _ _) ?_
        refine sv_put (ci := 5) (C := RX5) (T := TX5) (N := 19) hx hb hts hinX5 tyX5 tyX5_ok nmX5 hown hK hP hD hS 19 g19 rfl 9 (by decide) k125 (fun _ h9 => h9) rfl .int (by decide +kernel) rfl rfl [.int (nI 0), .int (nI n), .ref a1, .ref a2, .ref a3, .int (nI b), .int (bI q), .ref a4, .int (bI bg), .int (nI (pu + 1)), .int (nI (bu ||| (2 ^ (bp C Hd b q T n pu)))), .int (cl + (nI 1)), .int mo, .ref a5, .ref a6, .ref a7, .ref a8, .ref a9, .ref a10] (Nat.le_of_ble_eq_true rfl) rfl dX5_step_170 (fun ws42 H locs hP hD hS g19 fr41 => ?_)
        replace g20 := (fr41 20 (by decide)).trans g20
        replace g21 := (fr41 21 (by decide)).trans g21
        replace g22 := (fr41 22 (by decide)).trans g22
        replace g23 := (fr41 23 (by decide)).trans g23
        replace g24 := (fr41 24 (by decide)).trans g24
        replace g25 := (fr41 25 (by decide)).trans g25
        replace g26 := (fr41 26 (by decide)).trans g26
        replace g27 := (fr41 27 (by decide)).trans g27
        replace g28 := (fr41 28 (by decide)).trans g28
        replace g29 := (fr41 29 (by decide)).trans g29
        refine lv_aload_n hx hb dX5_step_173 rfl (lv_at hl 2 rfl) ?_
        refine lv_dup hx hb dX5_step_174 rfl ?_
        refine va_get (ci := 5) (C := RX5) (T := TX5) (N := 19) hx hb hts hinX5 hown hK hP 19 g19 rfl 11 (by decide) k131 (fun _ h9 => h9) rfl dX5_step_175 ?_
        refine lv_aload_n hx hb dX5_step_178 rfl (lv_at hl 2 rfl) ?_
        refine va_get (ci := 5) (C := RX5) (T := TX5) (N := 19) hx hb hts hinX5 hown hK hP 19 g19 rfl 4 (by decide) k16 (fun _ h9 => h9) rfl dX5_step_179 ?_
        refine lv_bipush (v := nI 32) hx hb dX5_step_182 bi_32 ?_
        refine lv_iload_n hx hb dX5_step_184 rfl (lv_at hl 0 rfl) ?_
        refine lv_iadd hx hb dX5_step_185 ?_
        refine sv_top (y := nI (32 + (bp C Hd b q T n pu))) (nI_add _ _) ?_
        refine sv_iald hx hb hK hP 22 g22 (j := 32 + (bp C Hd b q T n pu)) (by omega) (by decide) dX5_step_186 ?_
        refine W.eq (g2 := F0 mi 187 ls (.int (nI (Hd (32 + (bp C Hd b q T n pu)))) :: [.int (cl + (nI 1)), .ref h])) rfl ?_
        refine lv_aload_n hx hb dX5_step_187 rfl (lv_at hl 2 rfl) ?_
        refine va_get (ci := 5) (C := RX5) (T := TX5) (N := 19) hx hb hts hinX5 hown hK hP 19 g19 rfl 10 (by decide) k128 (fun _ h9 => h9) rfl dX5_step_188 ?_
        refine lv_iand hx hb dX5_step_191 ?_
        refine sv_top (y := nI ((Hd (32 + (bp C Hd b q T n pu))) &&& (bu ||| (2 ^ (bp C Hd b q T n pu))))) (an_and _ _) ?_
        refine sn_if_ne (tgt := 199) hx hb dX5_step_192 (by decide) (and_b1 (lt_31 (hH _) hn8)) (fun c43 => ?_) (fun c43 => ?_)
        · refine lv_iconst (v := nI 2) hx hb dX5_step_199 ci_2 ?_
          refine lv_iadd hx hb dX5_step_200 ?_
          refine sv_put (ci := 5) (C := RX5) (T := TX5) (N := 19) hx hb hts hinX5 tyX5 tyX5_ok nmX5 hown hK hP hD hS 19 g19 rfl 11 (by decide) k131 (fun _ h9 => h9) rfl .int (by decide +kernel) rfl rfl [.int (nI 0), .int (nI n), .ref a1, .ref a2, .ref a3, .int (nI b), .int (bI q), .ref a4, .int (bI bg), .int (nI (pu + 1)), .int (nI (bu ||| (2 ^ (bp C Hd b q T n pu)))), .int ((cl + (nI 1)) + (nI 2)), .int mo, .ref a5, .ref a6, .ref a7, .ref a8, .ref a9, .ref a10] (Nat.le_of_ble_eq_true rfl) rfl dX5_step_201 (fun ws45 H locs hP hD hS g19 fr44 => ?_)
          replace g20 := (fr44 20 (by decide)).trans g20
          replace g21 := (fr44 21 (by decide)).trans g21
          replace g22 := (fr44 22 (by decide)).trans g22
          replace g23 := (fr44 23 (by decide)).trans g23
          replace g24 := (fr44 24 (by decide)).trans g24
          replace g25 := (fr44 25 (by decide)).trans g25
          replace g26 := (fr44 26 (by decide)).trans g26
          replace g27 := (fr44 27 (by decide)).trans g27
          replace g28 := (fr44 28 (by decide)).trans g28
          replace g29 := (fr44 29 (by decide)).trans g29
          refine lv_iload_n hx hb dX5_step_204 rfl (lv_at hl 0 rfl) ?_
          exact hret 205 ls _ _ locs _ dX5_step_205 hP hD hS rfl (by unfold tmP tmM; rw [if_pos c10]; rw [c10] at g19; rw [if_neg (of_decide_eq_false c36)]; rw [if_neg c43]; exact ⟨rfl, ⟨_, _, _, _, _, ⟨a1, a2, a3, a4, a5, a6, a7, a8, a9, a10, g19, g20, g21, g22, g23, g24, g25, g26, g27, g28, g29⟩⟩, ((((((fr.wd fr4 : fr _ _ 19 29).tr fr8).tr fr37).tr fr39).tr fr41).tr fr44)⟩)
        · refine lv_iconst (v := nI 1) hx hb dX5_step_195 ci_1 ?_
          refine lv_goto (tgt := 200) hx hb dX5_step_196 (by decide) ?_
          refine lv_iadd hx hb dX5_step_200 ?_
          refine sv_put (ci := 5) (C := RX5) (T := TX5) (N := 19) hx hb hts hinX5 tyX5 tyX5_ok nmX5 hown hK hP hD hS 19 g19 rfl 11 (by decide) k131 (fun _ h9 => h9) rfl .int (by decide +kernel) rfl rfl [.int (nI 0), .int (nI n), .ref a1, .ref a2, .ref a3, .int (nI b), .int (bI q), .ref a4, .int (bI bg), .int (nI (pu + 1)), .int (nI (bu ||| (2 ^ (bp C Hd b q T n pu)))), .int ((cl + (nI 1)) + (nI 1)), .int mo, .ref a5, .ref a6, .ref a7, .ref a8, .ref a9, .ref a10] (Nat.le_of_ble_eq_true rfl) rfl dX5_step_201 (fun ws47 H locs hP hD hS g19 fr46 => ?_)
          replace g20 := (fr46 20 (by decide)).trans g20
          replace g21 := (fr46 21 (by decide)).trans g21
          replace g22 := (fr46 22 (by decide)).trans g22
          replace g23 := (fr46 23 (by decide)).trans g23
          replace g24 := (fr46 24 (by decide)).trans g24
          replace g25 := (fr46 25 (by decide)).trans g25
          replace g26 := (fr46 26 (by decide)).trans g26
          replace g27 := (fr46 27 (by decide)).trans g27
          replace g28 := (fr46 28 (by decide)).trans g28
          replace g29 := (fr46 29 (by decide)).trans g29
          refine lv_iload_n hx hb dX5_step_204 rfl (lv_at hl 0 rfl) ?_
          exact hret 205 ls _ _ locs _ dX5_step_205 hP hD hS rfl (by unfold tmP tmM; rw [if_pos c10]; rw [c10] at g19; rw [if_neg (of_decide_eq_false c36)]; rw [if_pos c43]; exact ⟨rfl, ⟨_, _, _, _, _, ⟨a1, a2, a3, a4, a5, a6, a7, a8, a9, a10, g19, g20, g21, g22, g23, g24, g25, g26, g27, g28, g29⟩⟩, ((((((fr.wd fr4 : fr _ _ 19 29).tr fr8).tr fr37).tr fr39).tr fr41).tr fr46)⟩)
      · refine lv_iconst (v := nI 4) hx hb dX5_step_142 ci_4 ?_
        refine lv_goto (tgt := 147) hx hb dX5_step_143 (by decide) ?_
        refine lv_iadd hx hb dX5_step_147 ?_
        refine sv_put (ci := 5) (C := RX5) (T := TX5) (N := 19) hx hb hts hinX5 tyX5 tyX5_ok nmX5 hown hK hP hD hS 19 g19 rfl 11 (by decide) k131 (fun _ h9 => h9) rfl .int (by decide +kernel) rfl rfl [.int (nI 0), .int (nI n), .ref a1, .ref a2, .ref a3, .int (nI b), .int (bI q), .ref a4, .int (bI bg), .int (nI pu), .int (nI bu), .int (cl + (nI 4)), .int mo, .ref a5, .ref a6, .ref a7, .ref a8, .ref a9, .ref a10] (Nat.le_of_ble_eq_true rfl) rfl dX5_step_148 (fun ws49 H locs hP hD hS g19 fr48 => ?_)
        replace g20 := (fr48 20 (by decide)).trans g20
        replace g21 := (fr48 21 (by decide)).trans g21
        replace g22 := (fr48 22 (by decide)).trans g22
        replace g23 := (fr48 23 (by decide)).trans g23
        replace g24 := (fr48 24 (by decide)).trans g24
        replace g25 := (fr48 25 (by decide)).trans g25
        replace g26 := (fr48 26 (by decide)).trans g26
        replace g27 := (fr48 27 (by decide)).trans g27
        replace g28 := (fr48 28 (by decide)).trans g28
        replace g29 := (fr48 29 (by decide)).trans g29
        refine lv_aload_n hx hb dX5_step_151 rfl (lv_at hl 2 rfl) ?_
        refine lv_dup hx hb dX5_step_152 rfl ?_
        refine va_get (ci := 5) (C := RX5) (T := TX5) (N := 19) hx hb hts hinX5 hown hK hP 19 g19 rfl 10 (by decide) k128 (fun _ h9 => h9) rfl dX5_step_153 ?_
        refine lv_iconst (v := nI 1) hx hb dX5_step_156 ci_1 ?_
        refine lv_iload_n hx hb dX5_step_157 rfl (lv_at hl 0 rfl) ?_
        refine lv_ishl hx hb dX5_step_158 ?_
        refine sv_top (y := nI (2 ^ (bp C Hd b q T n pu))) (sh_l1 (by omega)) ?_
        refine lv_ior hx hb dX5_step_159 ?_
        refine sv_top (y := nI (bu ||| (2 ^ (bp C Hd b q T n pu)))) (an_or _ _) ?_
        refine sv_put (ci := 5) (C := RX5) (T := TX5) (N := 19) hx hb hts hinX5 tyX5 tyX5_ok nmX5 hown hK hP hD hS 19 g19 rfl 10 (by decide) k128 (fun _ h9 => h9) rfl .int (by decide +kernel) rfl rfl [.int (nI 0), .int (nI n), .ref a1, .ref a2, .ref a3, .int (nI b), .int (bI q), .ref a4, .int (bI bg), .int (nI pu), .int (nI (bu ||| (2 ^ (bp C Hd b q T n pu)))), .int (cl + (nI 4)), .int mo, .ref a5, .ref a6, .ref a7, .ref a8, .ref a9, .ref a10] (Nat.le_of_ble_eq_true rfl) rfl dX5_step_160 (fun ws51 H locs hP hD hS g19 fr50 => ?_)
        replace g20 := (fr50 20 (by decide)).trans g20
        replace g21 := (fr50 21 (by decide)).trans g21
        replace g22 := (fr50 22 (by decide)).trans g22
        replace g23 := (fr50 23 (by decide)).trans g23
        replace g24 := (fr50 24 (by decide)).trans g24
        replace g25 := (fr50 25 (by decide)).trans g25
        replace g26 := (fr50 26 (by decide)).trans g26
        replace g27 := (fr50 27 (by decide)).trans g27
        replace g28 := (fr50 28 (by decide)).trans g28
        replace g29 := (fr50 29 (by decide)).trans g29
        refine lv_aload_n hx hb dX5_step_163 rfl (lv_at hl 2 rfl) ?_
        refine lv_dup hx hb dX5_step_164 rfl ?_
        refine va_get (ci := 5) (C := RX5) (T := TX5) (N := 19) hx hb hts hinX5 hown hK hP 19 g19 rfl 9 (by decide) k125 (fun _ h9 => h9) rfl dX5_step_165 ?_
        refine lv_iconst (v := nI 1) hx hb dX5_step_168 ci_1 ?_
        refine lv_iadd hx hb dX5_step_169 ?_
        refine sv_top (y := nI (pu + 1)) (nI_add _ _) ?_
        refine sv_put (ci := 5) (C := RX5) (T := TX5) (N := 19) hx hb hts hinX5 tyX5 tyX5_ok nmX5 hown hK hP hD hS 19 g19 rfl 9 (by decide) k125 (fun _ h9 => h9) rfl .int (by decide +kernel) rfl rfl [.int (nI 0), .int (nI n), .ref a1, .ref a2, .ref a3, .int (nI b), .int (bI q), .ref a4, .int (bI bg), .int (nI (pu + 1)), .int (nI (bu ||| (2 ^ (bp C Hd b q T n pu)))), .int (cl + (nI 4)), .int mo, .ref a5, .ref a6, .ref a7, .ref a8, .ref a9, .ref a10] (Nat.le_of_ble_eq_true rfl) rfl dX5_step_170 (fun ws53 H locs hP hD hS g19 fr52 => ?_)
        replace g20 := (fr52 20 (by decide)).trans g20
        replace g21 := (fr52 21 (by decide)).trans g21
        replace g22 := (fr52 22 (by decide)).trans g22
        replace g23 := (fr52 23 (by decide)).trans g23
        replace g24 := (fr52 24 (by decide)).trans g24
        replace g25 := (fr52 25 (by decide)).trans g25
        replace g26 := (fr52 26 (by decide)).trans g26
        replace g27 := (fr52 27 (by decide)).trans g27
        replace g28 := (fr52 28 (by decide)).trans g28
        replace g29 := (fr52 29 (by decide)).trans g29
        refine lv_aload_n hx hb dX5_step_173 rfl (lv_at hl 2 rfl) ?_
        refine lv_dup hx hb dX5_step_174 rfl ?_
        refine va_get (ci := 5) (C := RX5) (T := TX5) (N := 19) hx hb hts hinX5 hown hK hP 19 g19 rfl 11 (by decide) k131 (fun _ h9 => h9) rfl dX5_step_175 ?_
        refine lv_aload_n hx hb dX5_step_178 rfl (lv_at hl 2 rfl) ?_
        refine va_get (ci := 5) (C := RX5) (T := TX5) (N := 19) hx hb hts hinX5 hown hK hP 19 g19 rfl 4 (by decide) k16 (fun _ h9 => h9) rfl dX5_step_179 ?_
        refine lv_bipush (v := nI 32) hx hb dX5_step_182 bi_32 ?_
        refine lv_iload_n hx hb dX5_step_184 rfl (lv_at hl 0 rfl) ?_
        refine lv_iadd hx hb dX5_step_185 ?_
        refine sv_top (y := nI (32 + (bp C Hd b q T n pu))) (nI_add _ _) ?_
        refine sv_iald hx hb hK hP 22 g22 (j := 32 + (bp C Hd b q T n pu)) (by omega) (by decide) dX5_step_186 ?_
        refine W.eq (g2 := F0 mi 187 ls (.int (nI (Hd (32 + (bp C Hd b q T n pu)))) :: [.int (cl + (nI 4)), .ref h])) rfl ?_
        refine lv_aload_n hx hb dX5_step_187 rfl (lv_at hl 2 rfl) ?_
        refine va_get (ci := 5) (C := RX5) (T := TX5) (N := 19) hx hb hts hinX5 hown hK hP 19 g19 rfl 10 (by decide) k128 (fun _ h9 => h9) rfl dX5_step_188 ?_
        refine lv_iand hx hb dX5_step_191 ?_
        refine sv_top (y := nI ((Hd (32 + (bp C Hd b q T n pu))) &&& (bu ||| (2 ^ (bp C Hd b q T n pu))))) (an_and _ _) ?_
        refine sn_if_ne (tgt := 199) hx hb dX5_step_192 (by decide) (and_b1 (lt_31 (hH _) hn8)) (fun c54 => ?_) (fun c54 => ?_)
        · refine lv_iconst (v := nI 2) hx hb dX5_step_199 ci_2 ?_
          refine lv_iadd hx hb dX5_step_200 ?_
          refine sv_put (ci := 5) (C := RX5) (T := TX5) (N := 19) hx hb hts hinX5 tyX5 tyX5_ok nmX5 hown hK hP hD hS 19 g19 rfl 11 (by decide) k131 (fun _ h9 => h9) rfl .int (by decide +kernel) rfl rfl [.int (nI 0), .int (nI n), .ref a1, .ref a2, .ref a3, .int (nI b), .int (bI q), .ref a4, .int (bI bg), .int (nI (pu + 1)), .int (nI (bu ||| (2 ^ (bp C Hd b q T n pu)))), .int ((cl + (nI 4)) + (nI 2)), .int mo, .ref a5, .ref a6, .ref a7, .ref a8, .ref a9, .ref a10] (Nat.le_of_ble_eq_true rfl) rfl dX5_step_201 (fun ws56 H locs hP hD hS g19 fr55 => ?_)
          replace g20 := (fr55 20 (by decide)).trans g20
          replace g21 := (fr55 21 (by decide)).trans g21
          replace g22 := (fr55 22 (by decide)).trans g22
          replace g23 := (fr55 23 (by decide)).trans g23
          replace g24 := (fr55 24 (by decide)).trans g24
          replace g25 := (fr55 25 (by decide)).trans g25
          replace g26 := (fr55 26 (by decide)).trans g26
          replace g27 := (fr55 27 (by decide)).trans g27
          replace g28 := (fr55 28 (by decide)).trans g28
          replace g29 := (fr55 29 (by decide)).trans g29
          refine lv_iload_n hx hb dX5_step_204 rfl (lv_at hl 0 rfl) ?_
          exact hret 205 ls _ _ locs _ dX5_step_205 hP hD hS rfl (by unfold tmP tmM; rw [if_pos c10]; rw [c10] at g19; rw [if_pos (of_decide_eq_true c36)]; rw [if_neg c54]; exact ⟨rfl, ⟨_, _, _, _, _, ⟨a1, a2, a3, a4, a5, a6, a7, a8, a9, a10, g19, g20, g21, g22, g23, g24, g25, g26, g27, g28, g29⟩⟩, ((((((fr.wd fr4 : fr _ _ 19 29).tr fr8).tr fr48).tr fr50).tr fr52).tr fr55)⟩)
        · refine lv_iconst (v := nI 1) hx hb dX5_step_195 ci_1 ?_
          refine lv_goto (tgt := 200) hx hb dX5_step_196 (by decide) ?_
          refine lv_iadd hx hb dX5_step_200 ?_
          refine sv_put (ci := 5) (C := RX5) (T := TX5) (N := 19) hx hb hts hinX5 tyX5 tyX5_ok nmX5 hown hK hP hD hS 19 g19 rfl 11 (by decide) k131 (fun _ h9 => h9) rfl .int (by decide +kernel) rfl rfl [.int (nI 0), .int (nI n), .ref a1, .ref a2, .ref a3, .int (nI b), .int (bI q), .ref a4, .int (bI bg), .int (nI (pu + 1)), .int (nI (bu ||| (2 ^ (bp C Hd b q T n pu)))), .int ((cl + (nI 4)) + (nI 1)), .int mo, .ref a5, .ref a6, .ref a7, .ref a8, .ref a9, .ref a10] (Nat.le_of_ble_eq_true rfl) rfl dX5_step_201 (fun ws58 H locs hP hD hS g19 fr57 => ?_)
          replace g20 := (fr57 20 (by decide)).trans g20
          replace g21 := (fr57 21 (by decide)).trans g21
          replace g22 := (fr57 22 (by decide)).trans g22
          replace g23 := (fr57 23 (by decide)).trans g23
          replace g24 := (fr57 24 (by decide)).trans g24
          replace g25 := (fr57 25 (by decide)).trans g25
          replace g26 := (fr57 26 (by decide)).trans g26
          replace g27 := (fr57 27 (by decide)).trans g27
          replace g28 := (fr57 28 (by decide)).trans g28
          replace g29 := (fr57 29 (by decide)).trans g29
          refine lv_iload_n hx hb dX5_step_204 rfl (lv_at hl 0 rfl) ?_
          exact hret 205 ls _ _ locs _ dX5_step_205 hP hD hS rfl (by unfold tmP tmM; rw [if_pos c10]; rw [c10] at g19; rw [if_pos (of_decide_eq_true c36)]; rw [if_pos c54]; exact ⟨rfl, ⟨_, _, _, _, _, ⟨a1, a2, a3, a4, a5, a6, a7, a8, a9, a10, g19, g20, g21, g22, g23, g24, g25, g26, g27, g28, g29⟩⟩, ((((((fr.wd fr4 : fr _ _ 19 29).tr fr8).tr fr48).tr fr50).tr fr52).tr fr57)⟩)
  · refine lv_aload_n hx hb dX5_step_60 rfl (lv_at hl 2 rfl) ?_
    refine lv_dup hx hb dX5_step_61 rfl ?_
    refine va_get (ci := 5) (C := RX5) (T := TX5) (N := 19) hx hb hts hinX5 hown hK hP 19 g19 rfl 11 (by decide) k131 (fun _ h9 => h9) rfl dX5_step_62 ?_
    refine lv_iconst (v := nI 5) hx hb dX5_step_65 ci_5 ?_
    refine lv_iadd hx hb dX5_step_66 ?_
    refine sv_put (ci := 5) (C := RX5) (T := TX5) (N := 19) hx hb hts hinX5 tyX5 tyX5_ok nmX5 hown hK hP hD hS 19 g19 rfl 11 (by decide) k131 (fun _ h9 => h9) rfl .int (by decide +kernel) rfl rfl [.int (nI 0), .int (nI n), .ref a1, .ref a2, .ref a3, .int (nI b), .int (bI q), .ref a4, .int (bI bg), .int (nI pu), .int (nI bu), .int (cl + (nI 5)), .int mo, .ref a5, .ref a6, .ref a7, .ref a8, .ref a9, .ref a10] (Nat.le_of_ble_eq_true rfl) rfl dX5_step_67 (fun ws60 H locs hP hD hS g19 fr59 => ?_)
    replace g20 := (fr59 20 (by decide)).trans g20
    replace g21 := (fr59 21 (by decide)).trans g21
    replace g22 := (fr59 22 (by decide)).trans g22
    replace g23 := (fr59 23 (by decide)).trans g23
    replace g24 := (fr59 24 (by decide)).trans g24
    replace g25 := (fr59 25 (by decide)).trans g25
    replace g26 := (fr59 26 (by decide)).trans g26
    replace g27 := (fr59 27 (by decide)).trans g27
    replace g28 := (fr59 28 (by decide)).trans g28
    replace g29 := (fr59 29 (by decide)).trans g29
    refine lv_aload_n hx hb dX5_step_70 rfl (lv_at hl 2 rfl) ?_
    refine lv_aload_n hx hb dX5_step_71 rfl (lv_at hl 2 rfl) ?_
    refine va_get (ci := 5) (C := RX5) (T := TX5) (N := 19) hx hb hts hinX5 hown hK hP 19 g19 rfl 2 (by decide) k7 (fun _ h9 => h9) rfl dX5_step_72 ?_
    refine lv_iload_n hx hb dX5_step_75 rfl (lv_at hl 0 rfl) ?_
    refine sv_iald hx hb hK hP 20 g20 (j := bp C Hd b q T n pu) (by omega) (by decide) dX5_step_76 ?_
    refine W.eq (g2 := F0 mi 77 ls (.int (nI (T (bp C Hd b q T n pu))) :: [.ref h])) rfl ?_
    refine sv_put (ci := 5) (C := RX5) (T := TX5) (N := 19) hx hb hts hinX5 tyX5 tyX5_ok nmX5 hown hK hP hD hS 19 g19 rfl 12 (by decide) k134 (fun _ h9 => h9) rfl .int (by decide +kernel) rfl rfl [.int (nI 0), .int (nI n), .ref a1, .ref a2, .ref a3, .int (nI b), .int (bI q), .ref a4, .int (bI bg), .int (nI pu), .int (nI bu), .int (cl + (nI 5)), .int (nI (T (bp C Hd b q T n pu))), .ref a5, .ref a6, .ref a7, .ref a8, .ref a9, .ref a10] (Nat.le_of_ble_eq_true rfl) rfl dX5_step_77 (fun ws62 H locs hP hD hS g19 fr61 => ?_)
    replace g20 := (fr61 20 (by decide)).trans g20
    replace g21 := (fr61 21 (by decide)).trans g21
    replace g22 := (fr61 22 (by decide)).trans g22
    replace g23 := (fr61 23 (by decide)).trans g23
    replace g24 := (fr61 24 (by decide)).trans g24
    replace g25 := (fr61 25 (by decide)).trans g25
    replace g26 := (fr61 26 (by decide)).trans g26
    replace g27 := (fr61 27 (by decide)).trans g27
    replace g28 := (fr61 28 (by decide)).trans g28
    replace g29 := (fr61 29 (by decide)).trans g29
    refine lv_aload_n hx hb dX5_step_80 rfl (lv_at hl 2 rfl) ?_
    refine va_get (ci := 5) (C := RX5) (T := TX5) (N := 19) hx hb hts hinX5 hown hK hP 19 g19 rfl 7 (by decide) k19 (fun _ h9 => h9) rfl dX5_step_81 ?_
    refine lv_iload_n hx hb dX5_step_84 rfl (lv_at hl 0 rfl) ?_
    refine sv_iald hx hb hK hP 23 g23 (j := bp C Hd b q T n pu) (by omega) (by decide) dX5_step_85 ?_
    refine W.eq (g2 := F0 mi 86 ls (.int (nI (J (bp C Hd b q T n pu))) :: [])) rfl ?_
    refine sn_if_le (tgt := 129) hx hb dX5_step_86 (by decide) (hJ2 _) (fun c63 => ?_) (fun c63 => ?_)
    · refine lv_aload_n hx hb dX5_step_129 rfl (lv_at hl 2 rfl) ?_
      refine lv_dup hx hb dX5_step_130 rfl ?_
      refine va_get (ci := 5) (C := RX5) (T := TX5) (N := 19) hx hb hts hinX5 hown hK hP 19 g19 rfl 11 (by decide) k131 (fun _ h9 => h9) rfl dX5_step_131 ?_
      refine lv_aload_n hx hb dX5_step_134 rfl (lv_at hl 2 rfl) ?_
      refine lv_iload_n hx hb dX5_step_135 rfl (lv_at hl 0 rfl) ?_
      refine pcV (c_X5_isPassed hP ⟨a1, a2, a3, a4, a5, a6, a7, a8, a9, a10, g19, g20, g21, g22, g23, g24, g25, g26, g27, g28, g29⟩ (by omega) (hK2 _)) ⟨hx, hb, hml, hown, hts⟩ hK gX5_step_X5_isPassed rfl hd_X5_isPassed ⟨by omega, by omega⟩ (va_recv hK hP (ci := 5) (q0 := 19) rfl g19) rfl hl.1 rfl (Nat.le_of_ble_eq_true rfl) dX5_step_136 ⟨Nat.zero_le _, Nat.zero_le _⟩ hS (fun locs hS => ?_)
      refine sb_if_eq (tgt := 146) hx hb dX5_step_139 (by decide) (fun c64 => ?_) (fun c64 => ?_)
      · refine lv_iconst (v := nI 1) hx hb dX5_step_146 ci_1 ?_
        refine lv_iadd hx hb dX5_step_147 ?_
        refine sv_put (ci := 5) (C := RX5) (T := TX5) (N := 19) hx hb hts hinX5 tyX5 tyX5_ok nmX5 hown hK hP hD hS 19 g19 rfl 11 (by decide) k131 (fun _ h9 => h9) rfl .int (by decide +kernel) rfl rfl [.int (nI 0), .int (nI n), .ref a1, .ref a2, .ref a3, .int (nI b), .int (bI q), .ref a4, .int (bI bg), .int (nI pu), .int (nI bu), .int ((cl + (nI 5)) + (nI 1)), .int (nI (T (bp C Hd b q T n pu))), .ref a5, .ref a6, .ref a7, .ref a8, .ref a9, .ref a10] (Nat.le_of_ble_eq_true rfl) rfl dX5_step_148 (fun ws66 H locs hP hD hS g19 fr65 => ?_)
        replace g20 := (fr65 20 (by decide)).trans g20
        replace g21 := (fr65 21 (by decide)).trans g21
        replace g22 := (fr65 22 (by decide)).trans g22
        replace g23 := (fr65 23 (by decide)).trans g23
        replace g24 := (fr65 24 (by decide)).trans g24
        replace g25 := (fr65 25 (by decide)).trans g25
        replace g26 := (fr65 26 (by decide)).trans g26
        replace g27 := (fr65 27 (by decide)).trans g27
        replace g28 := (fr65 28 (by decide)).trans g28
        replace g29 := (fr65 29 (by decide)).trans g29
        refine lv_aload_n hx hb dX5_step_151 rfl (lv_at hl 2 rfl) ?_
        refine lv_dup hx hb dX5_step_152 rfl ?_
        refine va_get (ci := 5) (C := RX5) (T := TX5) (N := 19) hx hb hts hinX5 hown hK hP 19 g19 rfl 10 (by decide) k128 (fun _ h9 => h9) rfl dX5_step_153 ?_
        refine lv_iconst (v := nI 1) hx hb dX5_step_156 ci_1 ?_
        refine lv_iload_n hx hb dX5_step_157 rfl (lv_at hl 0 rfl) ?_
        refine lv_ishl hx hb dX5_step_158 ?_
        refine sv_top (y := nI (2 ^ (bp C Hd b q T n pu))) (sh_l1 (by omega)) ?_
        refine lv_ior hx hb dX5_step_159 ?_
        refine sv_top (y := nI (bu ||| (2 ^ (bp C Hd b q T n pu)))) (an_or _ _) ?_
        refine sv_put (ci := 5) (C := RX5) (T := TX5) (N := 19) hx hb hts hinX5 tyX5 tyX5_ok nmX5 hown hK hP hD hS 19 g19 rfl 10 (by decide) k128 (fun _ h9 => h9) rfl .int (by decide +kernel) rfl rfl [.int (nI 0), .int (nI n), .ref a1, .ref a2, .ref a3, .int (nI b), .int (bI q), .ref a4, .int (bI bg), .int (nI pu), .int (nI (bu ||| (2 ^ (bp C Hd b q T n pu)))), .int ((cl + (nI 5)) + (nI 1)), .int (nI (T (bp C Hd b q T n pu))), .ref a5, .ref a6, .ref a7, .ref a8, .ref a9, .ref a10] (Nat.le_of_ble_eq_true rfl) rfl dX5_step_160 (fun ws68 H locs hP hD hS g19 fr67 => ?_)
        replace g20 := (fr67 20 (by decide)).trans g20
        replace g21 := (fr67 21 (by decide)).trans g21
        replace g22 := (fr67 22 (by decide)).trans g22
        replace g23 := (fr67 23 (by decide)).trans g23
        replace g24 := (fr67 24 (by decide)).trans g24
        replace g25 := (fr67 25 (by decide)).trans g25
        replace g26 := (fr67 26 (by decide)).trans g26
        replace g27 := (fr67 27 (by decide)).trans g27
        replace g28 := (fr67 28 (by decide)).trans g28
        replace g29 := (fr67 29 (by decide)).trans g29
        refine lv_aload_n hx hb dX5_step_163 rfl (lv_at hl 2 rfl) ?_
        refine lv_dup hx hb dX5_step_164 rfl ?_
        refine va_get (ci := 5) (C := RX5) (T := TX5) (N := 19) hx hb hts hinX5 hown hK hP 19 g19 rfl 9 (by decide) k125 (fun _ h9 => h9) rfl dX5_step_165 ?_
        refine lv_iconst (v := nI 1) hx hb dX5_step_168 ci_1 ?_
        refine lv_iadd hx hb dX5_step_169 ?_
        refine sv_top (y := nI (pu + 1)) (nI_add _ _) ?_
        refine sv_put (ci := 5) (C := RX5) (T := TX5) (N := 19) hx hb hts hinX5 tyX5 tyX5_ok nmX5 hown hK hP hD hS 19 g19 rfl 9 (by decide) k125 (fun _ h9 => h9) rfl .int (by decide +kernel) rfl rfl [.int (nI 0), .int (nI n), .ref a1, .ref a2, .ref a3, .int (nI b), .int (bI q), .ref a4, .int (bI bg), .int (nI (pu + 1)), .int (nI (bu ||| (2 ^ (bp C Hd b q T n pu)))), .int ((cl + (nI 5)) + (nI 1)), .int (nI (T (bp C Hd b q T n pu))), .ref a5, .ref a6, .ref a7, .ref a8, .ref a9, .ref a10] (Nat.le_of_ble_eq_true rfl) rfl dX5_step_170 (fun ws70 H locs hP hD hS g19 fr69 => ?_)
        replace g20 := (fr69 20 (by decide)).trans g20
        replace g21 := (fr69 21 (by decide)).trans g21
        replace g22 := (fr69 22 (by decide)).trans g22
        replace g23 := (fr69 23 (by decide)).trans g23
        replace g24 := (fr69 24 (by decide)).trans g24
        replace g25 := (fr69 25 (by decide)).trans g25
        replace g26 := (fr69 26 (by decide)).trans g26
        replace g27 := (fr69 27 (by decide)).trans g27
        replace g28 := (fr69 28 (by decide)).trans g28
        replace g29 := (fr69 29 (by decide)).trans g29
        refine lv_aload_n hx hb dX5_step_173 rfl (lv_at hl 2 rfl) ?_
        refine lv_dup hx hb dX5_step_174 rfl ?_
        refine va_get (ci := 5) (C := RX5) (T := TX5) (N := 19) hx hb hts hinX5 hown hK hP 19 g19 rfl 11 (by decide) k131 (fun _ h9 => h9) rfl dX5_step_175 ?_
        refine lv_aload_n hx hb dX5_step_178 rfl (lv_at hl 2 rfl) ?_
        refine va_get (ci := 5) (C := RX5) (T := TX5) (N := 19) hx hb hts hinX5 hown hK hP 19 g19 rfl 4 (by decide) k16 (fun _ h9 => h9) rfl dX5_step_179 ?_
        refine lv_bipush (v := nI 32) hx hb dX5_step_182 bi_32 ?_
        refine lv_iload_n hx hb dX5_step_184 rfl (lv_at hl 0 rfl) ?_
        refine lv_iadd hx hb dX5_step_185 ?_
        refine sv_top (y := nI (32 + (bp C Hd b q T n pu))) (nI_add _ _) ?_
        refine sv_iald hx hb hK hP 22 g22 (j := 32 + (bp C Hd b q T n pu)) (by omega) (by decide) dX5_step_186 ?_
        refine W.eq (g2 := F0 mi 187 ls (.int (nI (Hd (32 + (bp C Hd b q T n pu)))) :: [.int ((cl + (nI 5)) + (nI 1)), .ref h])) rfl ?_
        refine lv_aload_n hx hb dX5_step_187 rfl (lv_at hl 2 rfl) ?_
        refine va_get (ci := 5) (C := RX5) (T := TX5) (N := 19) hx hb hts hinX5 hown hK hP 19 g19 rfl 10 (by decide) k128 (fun _ h9 => h9) rfl dX5_step_188 ?_
        refine lv_iand hx hb dX5_step_191 ?_
        refine sv_top (y := nI ((Hd (32 + (bp C Hd b q T n pu))) &&& (bu ||| (2 ^ (bp C Hd b q T n pu))))) (an_and _ _) ?_
        refine sn_if_ne (tgt := 199) hx hb dX5_step_192 (by decide) (and_b1 (lt_31 (hH _) hn8)) (fun c71 => ?_) (fun c71 => ?_)
        · refine lv_iconst (v := nI 2) hx hb dX5_step_199 ci_2 ?_
          refine lv_iadd hx hb dX5_step_200 ?_
          refine sv_put (ci := 5) (C := RX5) (T := TX5) (N := 19) hx hb hts hinX5 tyX5 tyX5_ok nmX5 hown hK hP hD hS 19 g19 rfl 11 (by decide) k131 (fun _ h9 => h9) rfl .int (by decide +kernel) rfl rfl [.int (nI 0), .int (nI n), .ref a1, .ref a2, .ref a3, .int (nI b), .int (bI q), .ref a4, .int (bI bg), .int (nI (pu + 1)), .int (nI (bu ||| (2 ^ (bp C Hd b q T n pu)))), .int (((cl + (nI 5)) + (nI 1)) + (nI 2)), .int (nI (T (bp C Hd b q T n pu))), .ref a5, .ref a6, .ref a7, .ref a8, .ref a9, .ref a10] (Nat.le_of_ble_eq_true rfl) rfl dX5_step_201 (fun ws73 H locs hP hD hS g19 fr72 => ?_)
          replace g20 := (fr72 20 (by decide)).trans g20
          replace g21 := (fr72 21 (by decide)).trans g21
          replace g22 := (fr72 22 (by decide)).trans g22
          replace g23 := (fr72 23 (by decide)).trans g23
          replace g24 := (fr72 24 (by decide)).trans g24
          replace g25 := (fr72 25 (by decide)).trans g25
          replace g26 := (fr72 26 (by decide)).trans g26
          replace g27 := (fr72 27 (by decide)).trans g27
          replace g28 := (fr72 28 (by decide)).trans g28
          replace g29 := (fr72 29 (by decide)).trans g29
          refine lv_iload_n hx hb dX5_step_204 rfl (lv_at hl 0 rfl) ?_
          exact hret 205 ls _ _ locs _ dX5_step_205 hP hD hS rfl (by unfold tmP tmM; rw [if_neg c10]; rw [if_neg (of_decide_eq_false c64)]; rw [if_neg c71]; exact ⟨rfl, ⟨_, _, _, _, _, ⟨a1, a2, a3, a4, a5, a6, a7, a8, a9, a10, g19, g20, g21, g22, g23, g24, g25, g26, g27, g28, g29⟩⟩, ((((((((fr.wd fr4 : fr _ _ 19 29).tr fr8).tr fr59).tr fr61).tr fr65).tr fr67).tr fr69).tr fr72)⟩)
        · refine lv_iconst (v := nI 1) hx hb dX5_step_195 ci_1 ?_
          refine lv_goto (tgt := 200) hx hb dX5_step_196 (by decide) ?_
          refine lv_iadd hx hb dX5_step_200 ?_
          refine sv_put (ci := 5) (C := RX5) (T := TX5) (N := 19) hx hb hts hinX5 tyX5 tyX5_ok nmX5 hown hK hP hD hS 19 g19 rfl 11 (by decide) k131 (fun _ h9 => h9) rfl .int (by decide +kernel) rfl rfl [.int (nI 0), .int (nI n), .ref a1, .ref a2, .ref a3, .int (nI b), .int (bI q), .ref a4, .int (bI bg), .int (nI (pu + 1)), .int (nI (bu ||| (2 ^ (bp C Hd b q T n pu)))), .int (((cl + (nI 5)) + (nI 1)) + (nI 1)), .int (nI (T (bp C Hd b q T n pu))), .ref a5, .ref a6, .ref a7, .ref a8, .ref a9, .ref a10] (Nat.le_of_ble_eq_true rfl) rfl dX5_step_201 (fun ws75 H locs hP hD hS g19 fr74 => ?_)
          replace g20 := (fr74 20 (by decide)).trans g20
          replace g21 := (fr74 21 (by decide)).trans g21
          replace g22 := (fr74 22 (by decide)).trans g22
          replace g23 := (fr74 23 (by decide)).trans g23
          replace g24 := (fr74 24 (by decide)).trans g24
          replace g25 := (fr74 25 (by decide)).trans g25
          replace g26 := (fr74 26 (by decide)).trans g26
          replace g27 := (fr74 27 (by decide)).trans g27
          replace g28 := (fr74 28 (by decide)).trans g28
          replace g29 := (fr74 29 (by decide)).trans g29
          refine lv_iload_n hx hb dX5_step_204 rfl (lv_at hl 0 rfl) ?_
          exact hret 205 ls _ _ locs _ dX5_step_205 hP hD hS rfl (by unfold tmP tmM; rw [if_neg c10]; rw [if_neg (of_decide_eq_false c64)]; rw [if_pos c71]; exact ⟨rfl, ⟨_, _, _, _, _, ⟨a1, a2, a3, a4, a5, a6, a7, a8, a9, a10, g19, g20, g21, g22, g23, g24, g25, g26, g27, g28, g29⟩⟩, ((((((((fr.wd fr4 : fr _ _ 19 29).tr fr8).tr fr59).tr fr61).tr fr65).tr fr67).tr fr69).tr fr74)⟩)
      · refine lv_iconst (v := nI 4) hx hb dX5_step_142 ci_4 ?_
        refine lv_goto (tgt := 147) hx hb dX5_step_143 (by decide) ?_
        refine lv_iadd hx hb dX5_step_147 ?_
        refine sv_put (ci := 5) (C := RX5) (T := TX5) (N := 19) hx hb hts hinX5 tyX5 tyX5_ok nmX5 hown hK hP hD hS 19 g19 rfl 11 (by decide) k131 (fun _ h9 => h9) rfl .int (by decide +kernel) rfl rfl [.int (nI 0), .int (nI n), .ref a1, .ref a2, .ref a3, .int (nI b), .int (bI q), .ref a4, .int (bI bg), .int (nI pu), .int (nI bu), .int ((cl + (nI 5)) + (nI 4)), .int (nI (T (bp C Hd b q T n pu))), .ref a5, .ref a6, .ref a7, .ref a8, .ref a9, .ref a10] (Nat.le_of_ble_eq_true rfl) rfl dX5_step_148 (fun ws77 H locs hP hD hS g19 fr76 => ?_)
        replace g20 := (fr76 20 (by decide)).trans g20
        replace g21 := (fr76 21 (by decide)).trans g21
        replace g22 := (fr76 22 (by decide)).trans g22
        replace g23 := (fr76 23 (by decide)).trans g23
        replace g24 := (fr76 24 (by decide)).trans g24
        replace g25 := (fr76 25 (by decide)).trans g25
        replace g26 := (fr76 26 (by decide)).trans g26
        replace g27 := (fr76 27 (by decide)).trans g27
        replace g28 := (fr76 28 (by decide)).trans g28
        replace g29 := (fr76 29 (by decide)).trans g29
        refine lv_aload_n hx hb dX5_step_151 rfl (lv_at hl 2 rfl) ?_
        refine lv_dup hx hb dX5_step_152 rfl ?_
        refine va_get (ci := 5) (C := RX5) (T := TX5) (N := 19) hx hb hts hinX5 hown hK hP 19 g19 rfl 10 (by decide) k128 (fun _ h9 => h9) rfl dX5_step_153 ?_
        refine lv_iconst (v := nI 1) hx hb dX5_step_156 ci_1 ?_
        refine lv_iload_n hx hb dX5_step_157 rfl (lv_at hl 0 rfl) ?_
        refine lv_ishl hx hb dX5_step_158 ?_
        refine sv_top (y := nI (2 ^ (bp C Hd b q T n pu))) (sh_l1 (by omega)) ?_
        refine lv_ior hx hb dX5_step_159 ?_
        refine sv_top (y := nI (bu ||| (2 ^ (bp C Hd b q T n pu)))) (an_or _ _) ?_
        refine sv_put (ci := 5) (C := RX5) (T := TX5) (N := 19) hx hb hts hinX5 tyX5 tyX5_ok nmX5 hown hK hP hD hS 19 g19 rfl 10 (by decide) k128 (fun _ h9 => h9) rfl .int (by decide +kernel) rfl rfl [.int (nI 0), .int (nI n), .ref a1, .ref a2, .ref a3, .int (nI b), .int (bI q), .ref a4, .int (bI bg), .int (nI pu), .int (nI (bu ||| (2 ^ (bp C Hd b q T n pu)))), .int ((cl + (nI 5)) + (nI 4)), .int (nI (T (bp C Hd b q T n pu))), .ref a5, .ref a6, .ref a7, .ref a8, .ref a9, .ref a10] (Nat.le_of_ble_eq_true rfl) rfl dX5_step_160 (fun ws79 H locs hP hD hS g19 fr78 => ?_)
        replace g20 := (fr78 20 (by decide)).trans g20
        replace g21 := (fr78 21 (by decide)).trans g21
        replace g22 := (fr78 22 (by decide)).trans g22
        replace g23 := (fr78 23 (by decide)).trans g23
        replace g24 := (fr78 24 (by decide)).trans g24
        replace g25 := (fr78 25 (by decide)).trans g25
        replace g26 := (fr78 26 (by decide)).trans g26
        replace g27 := (fr78 27 (by decide)).trans g27
        replace g28 := (fr78 28 (by decide)).trans g28
        replace g29 := (fr78 29 (by decide)).trans g29
        refine lv_aload_n hx hb dX5_step_163 rfl (lv_at hl 2 rfl) ?_
        refine lv_dup hx hb dX5_step_164 rfl ?_
        refine va_get (ci := 5) (C := RX5) (T := TX5) (N := 19) hx hb hts hinX5 hown hK hP 19 g19 rfl 9 (by decide) k125 (fun _ h9 => h9) rfl dX5_step_165 ?_
        refine lv_iconst (v := nI 1) hx hb dX5_step_168 ci_1 ?_
        refine lv_iadd hx hb dX5_step_169 ?_
        refine sv_top (y := nI (pu + 1)) (nI_add _ _) ?_
        refine sv_put (ci := 5) (C := RX5) (T := TX5) (N := 19) hx hb hts hinX5 tyX5 tyX5_ok nmX5 hown hK hP hD hS 19 g19 rfl 9 (by decide) k125 (fun _ h9 => h9) rfl .int (by decide +kernel) rfl rfl [.int (nI 0), .int (nI n), .ref a1, .ref a2, .ref a3, .int (nI b), .int (bI q), .ref a4, .int (bI bg), .int (nI (pu + 1)), .int (nI (bu ||| (2 ^ (bp C Hd b q T n pu)))), .int ((cl + (nI 5)) + (nI 4)), .int (nI (T (bp C Hd b q T n pu))), .ref a5, .ref a6, .ref a7, .ref a8, .ref a9, .ref a10] (Nat.le_of_ble_eq_true rfl) rfl dX5_step_170 (fun ws81 H locs hP hD hS g19 fr80 => ?_)
        replace g20 := (fr80 20 (by decide)).trans g20
        replace g21 := (fr80 21 (by decide)).trans g21
        replace g22 := (fr80 22 (by decide)).trans g22
        replace g23 := (fr80 23 (by decide)).trans g23
        replace g24 := (fr80 24 (by decide)).trans g24
        replace g25 := (fr80 25 (by decide)).trans g25
        replace g26 := (fr80 26 (by decide)).trans g26
        replace g27 := (fr80 27 (by decide)).trans g27
        replace g28 := (fr80 28 (by decide)).trans g28
        replace g29 := (fr80 29 (by decide)).trans g29
        refine lv_aload_n hx hb dX5_step_173 rfl (lv_at hl 2 rfl) ?_
        refine lv_dup hx hb dX5_step_174 rfl ?_
        refine va_get (ci := 5) (C := RX5) (T := TX5) (N := 19) hx hb hts hinX5 hown hK hP 19 g19 rfl 11 (by decide) k131 (fun _ h9 => h9) rfl dX5_step_175 ?_
        refine lv_aload_n hx hb dX5_step_178 rfl (lv_at hl 2 rfl) ?_
        refine va_get (ci := 5) (C := RX5) (T := TX5) (N := 19) hx hb hts hinX5 hown hK hP 19 g19 rfl 4 (by decide) k16 (fun _ h9 => h9) rfl dX5_step_179 ?_
        refine lv_bipush (v := nI 32) hx hb dX5_step_182 bi_32 ?_
        refine lv_iload_n hx hb dX5_step_184 rfl (lv_at hl 0 rfl) ?_
        refine lv_iadd hx hb dX5_step_185 ?_
        refine sv_top (y := nI (32 + (bp C Hd b q T n pu))) (nI_add _ _) ?_
        refine sv_iald hx hb hK hP 22 g22 (j := 32 + (bp C Hd b q T n pu)) (by omega) (by decide) dX5_step_186 ?_
        refine W.eq (g2 := F0 mi 187 ls (.int (nI (Hd (32 + (bp C Hd b q T n pu)))) :: [.int ((cl + (nI 5)) + (nI 4)), .ref h])) rfl ?_
        refine lv_aload_n hx hb dX5_step_187 rfl (lv_at hl 2 rfl) ?_
        refine va_get (ci := 5) (C := RX5) (T := TX5) (N := 19) hx hb hts hinX5 hown hK hP 19 g19 rfl 10 (by decide) k128 (fun _ h9 => h9) rfl dX5_step_188 ?_
        refine lv_iand hx hb dX5_step_191 ?_
        refine sv_top (y := nI ((Hd (32 + (bp C Hd b q T n pu))) &&& (bu ||| (2 ^ (bp C Hd b q T n pu))))) (an_and _ _) ?_
        refine sn_if_ne (tgt := 199) hx hb dX5_step_192 (by decide) (and_b1 (lt_31 (hH _) hn8)) (fun c82 => ?_) (fun c82 => ?_)
        · refine lv_iconst (v := nI 2) hx hb dX5_step_199 ci_2 ?_
          refine lv_iadd hx hb dX5_step_200 ?_
          refine sv_put (ci := 5) (C := RX5) (T := TX5) (N := 19) hx hb hts hinX5 tyX5 tyX5_ok nmX5 hown hK hP hD hS 19 g19 rfl 11 (by decide) k131 (fun _ h9 => h9) rfl .int (by decide +kernel) rfl rfl [.int (nI 0), .int (nI n), .ref a1, .ref a2, .ref a3, .int (nI b), .int (bI q), .ref a4, .int (bI bg), .int (nI (pu + 1)), .int (nI (bu ||| (2 ^ (bp C Hd b q T n pu)))), .int (((cl + (nI 5)) + (nI 4)) + (nI 2)), .int (nI (T (bp C Hd b q T n pu))), .ref a5, .ref a6, .ref a7, .ref a8, .ref a9, .ref a10] (Nat.le_of_ble_eq_true rfl) rfl dX5_step_201 (fun ws84 H locs hP hD hS g19 fr83 => ?_)
          replace g20 := (fr83 20 (by decide)).trans g20
          replace g21 := (fr83 21 (by decide)).trans g21
          replace g22 := (fr83 22 (by decide)).trans g22
          replace g23 := (fr83 23 (by decide)).trans g23
          replace g24 := (fr83 24 (by decide)).trans g24
          replace g25 := (fr83 25 (by decide)).trans g25
          replace g26 := (fr83 26 (by decide)).trans g26
          replace g27 := (fr83 27 (by decide)).trans g27
          replace g28 := (fr83 28 (by decide)).trans g28
          replace g29 := (fr83 29 (by decide)).trans g29
          refine lv_iload_n hx hb dX5_step_204 rfl (lv_at hl 0 rfl) ?_
          exact hret 205 ls _ _ locs _ dX5_step_205 hP hD hS rfl (by unfold tmP tmM; rw [if_neg c10]; rw [if_pos (of_decide_eq_true c64)]; rw [if_neg c82]; exact ⟨rfl, ⟨_, _, _, _, _, ⟨a1, a2, a3, a4, a5, a6, a7, a8, a9, a10, g19, g20, g21, g22, g23, g24, g25, g26, g27, g28, g29⟩⟩, ((((((((fr.wd fr4 : fr _ _ 19 29).tr fr8).tr fr59).tr fr61).tr fr76).tr fr78).tr fr80).tr fr83)⟩)
        · refine lv_iconst (v := nI 1) hx hb dX5_step_195 ci_1 ?_
          refine lv_goto (tgt := 200) hx hb dX5_step_196 (by decide) ?_
          refine lv_iadd hx hb dX5_step_200 ?_
          refine sv_put (ci := 5) (C := RX5) (T := TX5) (N := 19) hx hb hts hinX5 tyX5 tyX5_ok nmX5 hown hK hP hD hS 19 g19 rfl 11 (by decide) k131 (fun _ h9 => h9) rfl .int (by decide +kernel) rfl rfl [.int (nI 0), .int (nI n), .ref a1, .ref a2, .ref a3, .int (nI b), .int (bI q), .ref a4, .int (bI bg), .int (nI (pu + 1)), .int (nI (bu ||| (2 ^ (bp C Hd b q T n pu)))), .int (((cl + (nI 5)) + (nI 4)) + (nI 1)), .int (nI (T (bp C Hd b q T n pu))), .ref a5, .ref a6, .ref a7, .ref a8, .ref a9, .ref a10] (Nat.le_of_ble_eq_true rfl) rfl dX5_step_201 (fun ws86 H locs hP hD hS g19 fr85 => ?_)
          replace g20 := (fr85 20 (by decide)).trans g20
          replace g21 := (fr85 21 (by decide)).trans g21
          replace g22 := (fr85 22 (by decide)).trans g22
          replace g23 := (fr85 23 (by decide)).trans g23
          replace g24 := (fr85 24 (by decide)).trans g24
          replace g25 := (fr85 25 (by decide)).trans g25
          replace g26 := (fr85 26 (by decide)).trans g26
          replace g27 := (fr85 27 (by decide)).trans g27
          replace g28 := (fr85 28 (by decide)).trans g28
          replace g29 := (fr85 29 (by decide)).trans g29
          refine lv_iload_n hx hb dX5_step_204 rfl (lv_at hl 0 rfl) ?_
          exact hret 205 ls _ _ locs _ dX5_step_205 hP hD hS rfl (by unfold tmP tmM; rw [if_neg c10]; rw [if_pos (of_decide_eq_true c64)]; rw [if_pos c82]; exact ⟨rfl, ⟨_, _, _, _, _, ⟨a1, a2, a3, a4, a5, a6, a7, a8, a9, a10, g19, g20, g21, g22, g23, g24, g25, g26, g27, g28, g29⟩⟩, ((((((((fr.wd fr4 : fr _ _ 19 29).tr fr8).tr fr59).tr fr61).tr fr76).tr fr78).tr fr80).tr fr85)⟩)
    · refine lv_aload_n hx hb dX5_step_89 rfl (lv_at hl 2 rfl) ?_
      refine lv_iload_n hx hb dX5_step_90 rfl (lv_at hl 0 rfl) ?_
      refine pcV (c_X5_isPassed hP ⟨a1, a2, a3, a4, a5, a6, a7, a8, a9, a10, g19, g20, g21, g22, g23, g24, g25, g26, g27, g28, g29⟩ (by omega) (hK2 _)) ⟨hx, hb, hml, hown, hts⟩ hK gX5_step_X5_isPassed rfl hd_X5_isPassed ⟨by omega, by omega⟩ (va_recv hK hP (ci := 5) (q0 := 19) rfl g19) rfl hl.1 rfl (Nat.le_of_ble_eq_true rfl) dX5_step_91 ⟨Nat.zero_le _, Nat.zero_le _⟩ hS (fun locs hS => ?_)
      refine sb_if_ne (tgt := 129) hx hb dX5_step_94 (by decide) (fun c87 => ?_) (fun c87 => absurd hj (by unfold jm; rw [decide_eq_true c63, c87]; decide))
      refine lv_aload_n hx hb dX5_step_129 rfl (lv_at hl 2 rfl) ?_
      refine lv_dup hx hb dX5_step_130 rfl ?_
      refine va_get (ci := 5) (C := RX5) (T := TX5) (N := 19) hx hb hts hinX5 hown hK hP 19 g19 rfl 11 (by decide) k131 (fun _ h9 => h9) rfl dX5_step_131 ?_
      refine lv_aload_n hx hb dX5_step_134 rfl (lv_at hl 2 rfl) ?_
      refine lv_iload_n hx hb dX5_step_135 rfl (lv_at hl 0 rfl) ?_
      refine pcV (c_X5_isPassed hP ⟨a1, a2, a3, a4, a5, a6, a7, a8, a9, a10, g19, g20, g21, g22, g23, g24, g25, g26, g27, g28, g29⟩ (by omega) (hK2 _)) ⟨hx, hb, hml, hown, hts⟩ hK gX5_step_X5_isPassed rfl hd_X5_isPassed ⟨by omega, by omega⟩ (va_recv hK hP (ci := 5) (q0 := 19) rfl g19) rfl hl.1 rfl (Nat.le_of_ble_eq_true rfl) dX5_step_136 ⟨Nat.zero_le _, Nat.zero_le _⟩ hS (fun locs hS => ?_)
      refine sb_if_eq (tgt := 146) hx hb dX5_step_139 (by decide) (fun c88 => ?_) (fun c88 => ?_)
      · refine lv_iconst (v := nI 1) hx hb dX5_step_146 ci_1 ?_
        refine lv_iadd hx hb dX5_step_147 ?_
        refine sv_put (ci := 5) (C := RX5) (T := TX5) (N := 19) hx hb hts hinX5 tyX5 tyX5_ok nmX5 hown hK hP hD hS 19 g19 rfl 11 (by decide) k131 (fun _ h9 => h9) rfl .int (by decide +kernel) rfl rfl [.int (nI 0), .int (nI n), .ref a1, .ref a2, .ref a3, .int (nI b), .int (bI q), .ref a4, .int (bI bg), .int (nI pu), .int (nI bu), .int ((cl + (nI 5)) + (nI 1)), .int (nI (T (bp C Hd b q T n pu))), .ref a5, .ref a6, .ref a7, .ref a8, .ref a9, .ref a10] (Nat.le_of_ble_eq_true rfl) rfl dX5_step_148 (fun ws90 H locs hP hD hS g19 fr89 => ?_)
        replace g20 := (fr89 20 (by decide)).trans g20
        replace g21 := (fr89 21 (by decide)).trans g21
        replace g22 := (fr89 22 (by decide)).trans g22
        replace g23 := (fr89 23 (by decide)).trans g23
        replace g24 := (fr89 24 (by decide)).trans g24
        replace g25 := (fr89 25 (by decide)).trans g25
        replace g26 := (fr89 26 (by decide)).trans g26
        replace g27 := (fr89 27 (by decide)).trans g27
        replace g28 := (fr89 28 (by decide)).trans g28
        replace g29 := (fr89 29 (by decide)).trans g29
        refine lv_aload_n hx hb dX5_step_151 rfl (lv_at hl 2 rfl) ?_
        refine lv_dup hx hb dX5_step_152 rfl ?_
        refine va_get (ci := 5) (C := RX5) (T := TX5) (N := 19) hx hb hts hinX5 hown hK hP 19 g19 rfl 10 (by decide) k128 (fun _ h9 => h9) rfl dX5_step_153 ?_
        refine lv_iconst (v := nI 1) hx hb dX5_step_156 ci_1 ?_
        refine lv_iload_n hx hb dX5_step_157 rfl (lv_at hl 0 rfl) ?_
        refine lv_ishl hx hb dX5_step_158 ?_
        refine sv_top (y := nI (2 ^ (bp C Hd b q T n pu))) (sh_l1 (by omega)) ?_
        refine lv_ior hx hb dX5_step_159 ?_
        refine sv_top (y := nI (bu ||| (2 ^ (bp C Hd b q T n pu)))) (an_or _ _) ?_
        refine sv_put (ci := 5) (C := RX5) (T := TX5) (N := 19) hx hb hts hinX5 tyX5 tyX5_ok nmX5 hown hK hP hD hS 19 g19 rfl 10 (by decide) k128 (fun _ h9 => h9) rfl .int (by decide +kernel) rfl rfl [.int (nI 0), .int (nI n), .ref a1, .ref a2, .ref a3, .int (nI b), .int (bI q), .ref a4, .int (bI bg), .int (nI pu), .int (nI (bu ||| (2 ^ (bp C Hd b q T n pu)))), .int ((cl + (nI 5)) + (nI 1)), .int (nI (T (bp C Hd b q T n pu))), .ref a5, .ref a6, .ref a7, .ref a8, .ref a9, .ref a10] (Nat.le_of_ble_eq_true rfl) rfl dX5_step_160 (fun ws92 H locs hP hD hS g19 fr91 => ?_)
        replace g20 := (fr91 20 (by decide)).trans g20
        replace g21 := (fr91 21 (by decide)).trans g21
        replace g22 := (fr91 22 (by decide)).trans g22
        replace g23 := (fr91 23 (by decide)).trans g23
        replace g24 := (fr91 24 (by decide)).trans g24
        replace g25 := (fr91 25 (by decide)).trans g25
        replace g26 := (fr91 26 (by decide)).trans g26
        replace g27 := (fr91 27 (by decide)).trans g27
        replace g28 := (fr91 28 (by decide)).trans g28
        replace g29 := (fr91 29 (by decide)).trans g29
        refine lv_aload_n hx hb dX5_step_163 rfl (lv_at hl 2 rfl) ?_
        refine lv_dup hx hb dX5_step_164 rfl ?_
        refine va_get (ci := 5) (C := RX5) (T := TX5) (N := 19) hx hb hts hinX5 hown hK hP 19 g19 rfl 9 (by decide) k125 (fun _ h9 => h9) rfl dX5_step_165 ?_
        refine lv_iconst (v := nI 1) hx hb dX5_step_168 ci_1 ?_
        refine lv_iadd hx hb dX5_step_169 ?_
        refine sv_top (y := nI (pu + 1)) (nI_add _ _) ?_
        refine sv_put (ci := 5) (C := RX5) (T := TX5) (N := 19) hx hb hts hinX5 tyX5 tyX5_ok nmX5 hown hK hP hD hS 19 g19 rfl 9 (by decide) k125 (fun _ h9 => h9) rfl .int (by decide +kernel) rfl rfl [.int (nI 0), .int (nI n), .ref a1, .ref a2, .ref a3, .int (nI b), .int (bI q), .ref a4, .int (bI bg), .int (nI (pu + 1)), .int (nI (bu ||| (2 ^ (bp C Hd b q T n pu)))), .int ((cl + (nI 5)) + (nI 1)), .int (nI (T (bp C Hd b q T n pu))), .ref a5, .ref a6, .ref a7, .ref a8, .ref a9, .ref a10] (Nat.le_of_ble_eq_true rfl) rfl dX5_step_170 (fun ws94 H locs hP hD hS g19 fr93 => ?_)
        replace g20 := (fr93 20 (by decide)).trans g20
        replace g21 := (fr93 21 (by decide)).trans g21
        replace g22 := (fr93 22 (by decide)).trans g22
        replace g23 := (fr93 23 (by decide)).trans g23
        replace g24 := (fr93 24 (by decide)).trans g24
        replace g25 := (fr93 25 (by decide)).trans g25
        replace g26 := (fr93 26 (by decide)).trans g26
        replace g27 := (fr93 27 (by decide)).trans g27
        replace g28 := (fr93 28 (by decide)).trans g28
        replace g29 := (fr93 29 (by decide)).trans g29
        refine lv_aload_n hx hb dX5_step_173 rfl (lv_at hl 2 rfl) ?_
        refine lv_dup hx hb dX5_step_174 rfl ?_
        refine va_get (ci := 5) (C := RX5) (T := TX5) (N := 19) hx hb hts hinX5 hown hK hP 19 g19 rfl 11 (by decide) k131 (fun _ h9 => h9) rfl dX5_step_175 ?_
        refine lv_aload_n hx hb dX5_step_178 rfl (lv_at hl 2 rfl) ?_
        refine va_get (ci := 5) (C := RX5) (T := TX5) (N := 19) hx hb hts hinX5 hown hK hP 19 g19 rfl 4 (by decide) k16 (fun _ h9 => h9) rfl dX5_step_179 ?_
        refine lv_bipush (v := nI 32) hx hb dX5_step_182 bi_32 ?_
        refine lv_iload_n hx hb dX5_step_184 rfl (lv_at hl 0 rfl) ?_
        refine lv_iadd hx hb dX5_step_185 ?_
        refine sv_top (y := nI (32 + (bp C Hd b q T n pu))) (nI_add _ _) ?_
        refine sv_iald hx hb hK hP 22 g22 (j := 32 + (bp C Hd b q T n pu)) (by omega) (by decide) dX5_step_186 ?_
        refine W.eq (g2 := F0 mi 187 ls (.int (nI (Hd (32 + (bp C Hd b q T n pu)))) :: [.int ((cl + (nI 5)) + (nI 1)), .ref h])) rfl ?_
        refine lv_aload_n hx hb dX5_step_187 rfl (lv_at hl 2 rfl) ?_
        refine va_get (ci := 5) (C := RX5) (T := TX5) (N := 19) hx hb hts hinX5 hown hK hP 19 g19 rfl 10 (by decide) k128 (fun _ h9 => h9) rfl dX5_step_188 ?_
        refine lv_iand hx hb dX5_step_191 ?_
        refine sv_top (y := nI ((Hd (32 + (bp C Hd b q T n pu))) &&& (bu ||| (2 ^ (bp C Hd b q T n pu))))) (an_and _ _) ?_
        refine sn_if_ne (tgt := 199) hx hb dX5_step_192 (by decide) (and_b1 (lt_31 (hH _) hn8)) (fun c95 => ?_) (fun c95 => ?_)
        · refine lv_iconst (v := nI 2) hx hb dX5_step_199 ci_2 ?_
          refine lv_iadd hx hb dX5_step_200 ?_
          refine sv_put (ci := 5) (C := RX5) (T := TX5) (N := 19) hx hb hts hinX5 tyX5 tyX5_ok nmX5 hown hK hP hD hS 19 g19 rfl 11 (by decide) k131 (fun _ h9 => h9) rfl .int (by decide +kernel) rfl rfl [.int (nI 0), .int (nI n), .ref a1, .ref a2, .ref a3, .int (nI b), .int (bI q), .ref a4, .int (bI bg), .int (nI (pu + 1)), .int (nI (bu ||| (2 ^ (bp C Hd b q T n pu)))), .int (((cl + (nI 5)) + (nI 1)) + (nI 2)), .int (nI (T (bp C Hd b q T n pu))), .ref a5, .ref a6, .ref a7, .ref a8, .ref a9, .ref a10] (Nat.le_of_ble_eq_true rfl) rfl dX5_step_201 (fun ws97 H locs hP hD hS g19 fr96 => ?_)
          replace g20 := (fr96 20 (by decide)).trans g20
          replace g21 := (fr96 21 (by decide)).trans g21
          replace g22 := (fr96 22 (by decide)).trans g22
          replace g23 := (fr96 23 (by decide)).trans g23
          replace g24 := (fr96 24 (by decide)).trans g24
          replace g25 := (fr96 25 (by decide)).trans g25
          replace g26 := (fr96 26 (by decide)).trans g26
          replace g27 := (fr96 27 (by decide)).trans g27
          replace g28 := (fr96 28 (by decide)).trans g28
          replace g29 := (fr96 29 (by decide)).trans g29
          refine lv_iload_n hx hb dX5_step_204 rfl (lv_at hl 0 rfl) ?_
          exact hret 205 ls _ _ locs _ dX5_step_205 hP hD hS rfl (by unfold tmP tmM; rw [if_neg c10]; rw [if_neg (of_decide_eq_false c88)]; rw [if_neg c95]; exact ⟨rfl, ⟨_, _, _, _, _, ⟨a1, a2, a3, a4, a5, a6, a7, a8, a9, a10, g19, g20, g21, g22, g23, g24, g25, g26, g27, g28, g29⟩⟩, ((((((((fr.wd fr4 : fr _ _ 19 29).tr fr8).tr fr59).tr fr61).tr fr89).tr fr91).tr fr93).tr fr96)⟩)
        · refine lv_iconst (v := nI 1) hx hb dX5_step_195 ci_1 ?_
          refine lv_goto (tgt := 200) hx hb dX5_step_196 (by decide) ?_
          refine lv_iadd hx hb dX5_step_200 ?_
          refine sv_put (ci := 5) (C := RX5) (T := TX5) (N := 19) hx hb hts hinX5 tyX5 tyX5_ok nmX5 hown hK hP hD hS 19 g19 rfl 11 (by decide) k131 (fun _ h9 => h9) rfl .int (by decide +kernel) rfl rfl [.int (nI 0), .int (nI n), .ref a1, .ref a2, .ref a3, .int (nI b), .int (bI q), .ref a4, .int (bI bg), .int (nI (pu + 1)), .int (nI (bu ||| (2 ^ (bp C Hd b q T n pu)))), .int (((cl + (nI 5)) + (nI 1)) + (nI 1)), .int (nI (T (bp C Hd b q T n pu))), .ref a5, .ref a6, .ref a7, .ref a8, .ref a9, .ref a10] (Nat.le_of_ble_eq_true rfl) rfl dX5_step_201 (fun ws99 H locs hP hD hS g19 fr98 => ?_)
          replace g20 := (fr98 20 (by decide)).trans g20
          replace g21 := (fr98 21 (by decide)).trans g21
          replace g22 := (fr98 22 (by decide)).trans g22
          replace g23 := (fr98 23 (by decide)).trans g23
          replace g24 := (fr98 24 (by decide)).trans g24
          replace g25 := (fr98 25 (by decide)).trans g25
          replace g26 := (fr98 26 (by decide)).trans g26
          replace g27 := (fr98 27 (by decide)).trans g27
          replace g28 := (fr98 28 (by decide)).trans g28
          replace g29 := (fr98 29 (by decide)).trans g29
          refine lv_iload_n hx hb dX5_step_204 rfl (lv_at hl 0 rfl) ?_
          exact hret 205 ls _ _ locs _ dX5_step_205 hP hD hS rfl (by unfold tmP tmM; rw [if_neg c10]; rw [if_neg (of_decide_eq_false c88)]; rw [if_pos c95]; exact ⟨rfl, ⟨_, _, _, _, _, ⟨a1, a2, a3, a4, a5, a6, a7, a8, a9, a10, g19, g20, g21, g22, g23, g24, g25, g26, g27, g28, g29⟩⟩, ((((((((fr.wd fr4 : fr _ _ 19 29).tr fr8).tr fr59).tr fr61).tr fr89).tr fr91).tr fr93).tr fr98)⟩)
      · refine lv_iconst (v := nI 4) hx hb dX5_step_142 ci_4 ?_
        refine lv_goto (tgt := 147) hx hb dX5_step_143 (by decide) ?_
        refine lv_iadd hx hb dX5_step_147 ?_
        refine sv_put (ci := 5) (C := RX5) (T := TX5) (N := 19) hx hb hts hinX5 tyX5 tyX5_ok nmX5 hown hK hP hD hS 19 g19 rfl 11 (by decide) k131 (fun _ h9 => h9) rfl .int (by decide +kernel) rfl rfl [.int (nI 0), .int (nI n), .ref a1, .ref a2, .ref a3, .int (nI b), .int (bI q), .ref a4, .int (bI bg), .int (nI pu), .int (nI bu), .int ((cl + (nI 5)) + (nI 4)), .int (nI (T (bp C Hd b q T n pu))), .ref a5, .ref a6, .ref a7, .ref a8, .ref a9, .ref a10] (Nat.le_of_ble_eq_true rfl) rfl dX5_step_148 (fun ws101 H locs hP hD hS g19 fr100 => ?_)
        replace g20 := (fr100 20 (by decide)).trans g20
        replace g21 := (fr100 21 (by decide)).trans g21
        replace g22 := (fr100 22 (by decide)).trans g22
        replace g23 := (fr100 23 (by decide)).trans g23
        replace g24 := (fr100 24 (by decide)).trans g24
        replace g25 := (fr100 25 (by decide)).trans g25
        replace g26 := (fr100 26 (by decide)).trans g26
        replace g27 := (fr100 27 (by decide)).trans g27
        replace g28 := (fr100 28 (by decide)).trans g28
        replace g29 := (fr100 29 (by decide)).trans g29
        refine lv_aload_n hx hb dX5_step_151 rfl (lv_at hl 2 rfl) ?_
        refine lv_dup hx hb dX5_step_152 rfl ?_
        refine va_get (ci := 5) (C := RX5) (T := TX5) (N := 19) hx hb hts hinX5 hown hK hP 19 g19 rfl 10 (by decide) k128 (fun _ h9 => h9) rfl dX5_step_153 ?_
        refine lv_iconst (v := nI 1) hx hb dX5_step_156 ci_1 ?_
        refine lv_iload_n hx hb dX5_step_157 rfl (lv_at hl 0 rfl) ?_
        refine lv_ishl hx hb dX5_step_158 ?_
        refine sv_top (y := nI (2 ^ (bp C Hd b q T n pu))) (sh_l1 (by omega)) ?_
        refine lv_ior hx hb dX5_step_159 ?_
        refine sv_top (y := nI (bu ||| (2 ^ (bp C Hd b q T n pu)))) (an_or _ _) ?_
        refine sv_put (ci := 5) (C := RX5) (T := TX5) (N := 19) hx hb hts hinX5 tyX5 tyX5_ok nmX5 hown hK hP hD hS 19 g19 rfl 10 (by decide) k128 (fun _ h9 => h9) rfl .int (by decide +kernel) rfl rfl [.int (nI 0), .int (nI n), .ref a1, .ref a2, .ref a3, .int (nI b), .int (bI q), .ref a4, .int (bI bg), .int (nI pu), .int (nI (bu ||| (2 ^ (bp C Hd b q T n pu)))), .int ((cl + (nI 5)) + (nI 4)), .int (nI (T (bp C Hd b q T n pu))), .ref a5, .ref a6, .ref a7, .ref a8, .ref a9, .ref a10] (Nat.le_of_ble_eq_true rfl) rfl dX5_step_160 (fun ws103 H locs hP hD hS g19 fr102 => ?_)
        replace g20 := (fr102 20 (by decide)).trans g20
        replace g21 := (fr102 21 (by decide)).trans g21
        replace g22 := (fr102 22 (by decide)).trans g22
        replace g23 := (fr102 23 (by decide)).trans g23
        replace g24 := (fr102 24 (by decide)).trans g24
        replace g25 := (fr102 25 (by decide)).trans g25
        replace g26 := (fr102 26 (by decide)).trans g26
        replace g27 := (fr102 27 (by decide)).trans g27
        replace g28 := (fr102 28 (by decide)).trans g28
        replace g29 := (fr102 29 (by decide)).trans g29
        refine lv_aload_n hx hb dX5_step_163 rfl (lv_at hl 2 rfl) ?_
        refine lv_dup hx hb dX5_step_164 rfl ?_
        refine va_get (ci := 5) (C := RX5) (T := TX5) (N := 19) hx hb hts hinX5 hown hK hP 19 g19 rfl 9 (by decide) k125 (fun _ h9 => h9) rfl dX5_step_165 ?_
        refine lv_iconst (v := nI 1) hx hb dX5_step_168 ci_1 ?_
        refine lv_iadd hx hb dX5_step_169 ?_
        refine sv_top (y := nI (pu + 1)) (nI_add _ _) ?_
        refine sv_put (ci := 5) (C := RX5) (T := TX5) (N := 19) hx hb hts hinX5 tyX5 tyX5_ok nmX5 hown hK hP hD hS 19 g19 rfl 9 (by decide) k125 (fun _ h9 => h9) rfl .int (by decide +kernel) rfl rfl [.int (nI 0), .int (nI n), .ref a1, .ref a2, .ref a3, .int (nI b), .int (bI q), .ref a4, .int (bI bg), .int (nI (pu + 1)), .int (nI (bu ||| (2 ^ (bp C Hd b q T n pu)))), .int ((cl + (nI 5)) + (nI 4)), .int (nI (T (bp C Hd b q T n pu))), .ref a5, .ref a6, .ref a7, .ref a8, .ref a9, .ref a10] (Nat.le_of_ble_eq_true rfl) rfl dX5_step_170 (fun ws105 H locs hP hD hS g19 fr104 => ?_)
        replace g20 := (fr104 20 (by decide)).trans g20
        replace g21 := (fr104 21 (by decide)).trans g21
        replace g22 := (fr104 22 (by decide)).trans g22
        replace g23 := (fr104 23 (by decide)).trans g23
        replace g24 := (fr104 24 (by decide)).trans g24
        replace g25 := (fr104 25 (by decide)).trans g25
        replace g26 := (fr104 26 (by decide)).trans g26
        replace g27 := (fr104 27 (by decide)).trans g27
        replace g28 := (fr104 28 (by decide)).trans g28
        replace g29 := (fr104 29 (by decide)).trans g29
        refine lv_aload_n hx hb dX5_step_173 rfl (lv_at hl 2 rfl) ?_
        refine lv_dup hx hb dX5_step_174 rfl ?_
        refine va_get (ci := 5) (C := RX5) (T := TX5) (N := 19) hx hb hts hinX5 hown hK hP 19 g19 rfl 11 (by decide) k131 (fun _ h9 => h9) rfl dX5_step_175 ?_
        refine lv_aload_n hx hb dX5_step_178 rfl (lv_at hl 2 rfl) ?_
        refine va_get (ci := 5) (C := RX5) (T := TX5) (N := 19) hx hb hts hinX5 hown hK hP 19 g19 rfl 4 (by decide) k16 (fun _ h9 => h9) rfl dX5_step_179 ?_
        refine lv_bipush (v := nI 32) hx hb dX5_step_182 bi_32 ?_
        refine lv_iload_n hx hb dX5_step_184 rfl (lv_at hl 0 rfl) ?_
        refine lv_iadd hx hb dX5_step_185 ?_
        refine sv_top (y := nI (32 + (bp C Hd b q T n pu))) (nI_add _ _) ?_
        refine sv_iald hx hb hK hP 22 g22 (j := 32 + (bp C Hd b q T n pu)) (by omega) (by decide) dX5_step_186 ?_
        refine W.eq (g2 := F0 mi 187 ls (.int (nI (Hd (32 + (bp C Hd b q T n pu)))) :: [.int ((cl + (nI 5)) + (nI 4)), .ref h])) rfl ?_
        refine lv_aload_n hx hb dX5_step_187 rfl (lv_at hl 2 rfl) ?_
        refine va_get (ci := 5) (C := RX5) (T := TX5) (N := 19) hx hb hts hinX5 hown hK hP 19 g19 rfl 10 (by decide) k128 (fun _ h9 => h9) rfl dX5_step_188 ?_
        refine lv_iand hx hb dX5_step_191 ?_
        refine sv_top (y := nI ((Hd (32 + (bp C Hd b q T n pu))) &&& (bu ||| (2 ^ (bp C Hd b q T n pu))))) (an_and _ _) ?_
        refine sn_if_ne (tgt := 199) hx hb dX5_step_192 (by decide) (and_b1 (lt_31 (hH _) hn8)) (fun c106 => ?_) (fun c106 => ?_)
        · refine lv_iconst (v := nI 2) hx hb dX5_step_199 ci_2 ?_
          refine lv_iadd hx hb dX5_step_200 ?_
          refine sv_put (ci := 5) (C := RX5) (T := TX5) (N := 19) hx hb hts hinX5 tyX5 tyX5_ok nmX5 hown hK hP hD hS 19 g19 rfl 11 (by decide) k131 (fun _ h9 => h9) rfl .int (by decide +kernel) rfl rfl [.int (nI 0), .int (nI n), .ref a1, .ref a2, .ref a3, .int (nI b), .int (bI q), .ref a4, .int (bI bg), .int (nI (pu + 1)), .int (nI (bu ||| (2 ^ (bp C Hd b q T n pu)))), .int (((cl + (nI 5)) + (nI 4)) + (nI 2)), .int (nI (T (bp C Hd b q T n pu))), .ref a5, .ref a6, .ref a7, .ref a8, .ref a9, .ref a10] (Nat.le_of_ble_eq_true rfl) rfl dX5_step_201 (fun ws108 H locs hP hD hS g19 fr107 => ?_)
          replace g20 := (fr107 20 (by decide)).trans g20
          replace g21 := (fr107 21 (by decide)).trans g21
          replace g22 := (fr107 22 (by decide)).trans g22
          replace g23 := (fr107 23 (by decide)).trans g23
          replace g24 := (fr107 24 (by decide)).trans g24
          replace g25 := (fr107 25 (by decide)).trans g25
          replace g26 := (fr107 26 (by decide)).trans g26
          replace g27 := (fr107 27 (by decide)).trans g27
          replace g28 := (fr107 28 (by decide)).trans g28
          replace g29 := (fr107 29 (by decide)).trans g29
          refine lv_iload_n hx hb dX5_step_204 rfl (lv_at hl 0 rfl) ?_
          exact hret 205 ls _ _ locs _ dX5_step_205 hP hD hS rfl (by unfold tmP tmM; rw [if_neg c10]; rw [if_pos (of_decide_eq_true c88)]; rw [if_neg c106]; exact ⟨rfl, ⟨_, _, _, _, _, ⟨a1, a2, a3, a4, a5, a6, a7, a8, a9, a10, g19, g20, g21, g22, g23, g24, g25, g26, g27, g28, g29⟩⟩, ((((((((fr.wd fr4 : fr _ _ 19 29).tr fr8).tr fr59).tr fr61).tr fr100).tr fr102).tr fr104).tr fr107)⟩)
        · refine lv_iconst (v := nI 1) hx hb dX5_step_195 ci_1 ?_
          refine lv_goto (tgt := 200) hx hb dX5_step_196 (by decide) ?_
          refine lv_iadd hx hb dX5_step_200 ?_
          refine sv_put (ci := 5) (C := RX5) (T := TX5) (N := 19) hx hb hts hinX5 tyX5 tyX5_ok nmX5 hown hK hP hD hS 19 g19 rfl 11 (by decide) k131 (fun _ h9 => h9) rfl .int (by decide +kernel) rfl rfl [.int (nI 0), .int (nI n), .ref a1, .ref a2, .ref a3, .int (nI b), .int (bI q), .ref a4, .int (bI bg), .int (nI (pu + 1)), .int (nI (bu ||| (2 ^ (bp C Hd b q T n pu)))), .int (((cl + (nI 5)) + (nI 4)) + (nI 1)), .int (nI (T (bp C Hd b q T n pu))), .ref a5, .ref a6, .ref a7, .ref a8, .ref a9, .ref a10] (Nat.le_of_ble_eq_true rfl) rfl dX5_step_201 (fun ws110 H locs hP hD hS g19 fr109 => ?_)
          replace g20 := (fr109 20 (by decide)).trans g20
          replace g21 := (fr109 21 (by decide)).trans g21
          replace g22 := (fr109 22 (by decide)).trans g22
          replace g23 := (fr109 23 (by decide)).trans g23
          replace g24 := (fr109 24 (by decide)).trans g24
          replace g25 := (fr109 25 (by decide)).trans g25
          replace g26 := (fr109 26 (by decide)).trans g26
          replace g27 := (fr109 27 (by decide)).trans g27
          replace g28 := (fr109 28 (by decide)).trans g28
          replace g29 := (fr109 29 (by decide)).trans g29
          refine lv_iload_n hx hb dX5_step_204 rfl (lv_at hl 0 rfl) ?_
          exact hret 205 ls _ _ locs _ dX5_step_205 hP hD hS rfl (by unfold tmP tmM; rw [if_neg c10]; rw [if_pos (of_decide_eq_true c88)]; rw [if_pos c106]; exact ⟨rfl, ⟨_, _, _, _, _, ⟨a1, a2, a3, a4, a5, a6, a7, a8, a9, a10, g19, g20, g21, g22, g23, g24, g25, g26, g27, g28, g29⟩⟩, ((((((((fr.wd fr4 : fr _ _ 19 29).tr fr8).tr fr59).tr fr61).tr fr100).tr fr102).tr fr104).tr fr109)⟩)
set_option maxHeartbeats 4000000 in
set_option maxRecDepth 100000 in
theorem c_X5_stepBack_1a {l : Launch} {D : va_G} {ky : kT} {A : Nat → Prop} {Hs : Heap} {ws : va_W} (hP : va_P D CL ws Hs) (hD : va_D A ws) {h th n : Nat} {T C Hd : Nat → Nat} {b : Nat} {q : Bool} {J : Nat → Nat} {bg : Bool} {pu bu : Nat} {cl mo : Int32} {K : Nat → Nat} {fw fd fc fg fo : Nat → Int32} (hpr : isMod ky ws h th n T C Hd b q J bg pu bu cl mo K fw fd fc fg fo) (hbg : bg = false) : MU l yX5_stepBack wsX5_stepBack 1 21 0 0 D ky A Hs [.ref h] (fun r w => r = nI 0 ∧ isMod ky w h 1 n T C Hd b q J bg pu bu cl mo K fw fd fc fg fo ∧ fr ws w 19 29) := by
  refine MU.of (cc := cX5_stepBack) (maxL := 2) (ty := .int) (by decide) rfl (Nat.le_of_ble_eq_true rfl) ?_
  intro pg en Rm sg mi av below meth co Qo hRf hRl hRc hRs hx hb hml hown hts hK hret ls hl
  have hl : lv_has ls 2 [(0, .ref h)] := hl
  have hS : va_S A Hs Hs [] := va_S.rf
  generalize ([] : List Loc) = locs at hS ⊢
  obtain ⟨a1, a2, a3, a4, a5, a6, a7, a8, a9, a10, g19, g20, g21, g22, g23, g24, g25, g26, g27, g28, g29⟩ := id hpr
  have k54 := hts (.fieldLink RX5 54 "AssemblyPlannerModel" "isBegun" "Z") (by decide +kernel)
  have hinX5 : ∀ w ∈ wsX50, w ∈ wsX5_stepBack := by decide +kernel
  refine lv_aload_n hx hb dX5_stepBack_0 rfl (lv_at hl 0 rfl) ?_
  refine lv_aload_n hx hb dX5_stepBack_1 rfl (lv_at hl 0 rfl) ?_
  refine va_get (ci := 5) (C := RX5) (T := TX5) (N := 19) hx hb hts hinX5 hown hK hP 19 g19 rfl 8 (by decide) k54 (fun _ h9 => h9) rfl dX5_stepBack_2 ?_
  refine sb_if_eq (tgt := 15) hx hb dX5_stepBack_5 (by decide) (fun _ => ?_) (fun q => absurd q (by rw [hbg]; decide))
  refine lv_iconst (v := nI 1) hx hb dX5_stepBack_15 ci_1 ?_
  refine lv_goto (tgt := 20) hx hb dX5_stepBack_16 (by decide) ?_
  refine mcV (c_X5_holds hP hD ⟨a1, a2, a3, a4, a5, a6, a7, a8, a9, a10, g19, g20, g21, g22, g23, g24, g25, g26, g27, g28, g29⟩ (by decide)) ⟨hx, hb, hml, hown, hts⟩ hK gX5_stepBack_X5_holds rfl hd_X5_holds ⟨by omega, by omega⟩ (va_recv hK hP (ci := 5) (q0 := 19) rfl g19) rfl hl.1 rfl (Nat.le_of_ble_eq_true rfl) dX5_stepBack_20 ⟨Nat.zero_le _, Nat.zero_le _⟩ hS (fun r ws2 H locs hq4 hP hD hS => ?_)
  obtain ⟨rfl, hpr, fr3⟩ := hq4
  obtain ⟨a1, a2, a3, a4, a5, a6, a7, a8, a9, a10, g19, g20, g21, g22, g23, g24, g25, g26, g27, g28, g29⟩ := id hpr
  refine sv_top (y := nI 0) rfl ?_
  refine sn_if_ne (tgt := 28) hx hb dX5_stepBack_23 (by decide) (by decide) (fun q => absurd q (by decide)) (fun _ => ?_)
  refine lv_iconst (v := nI 0) hx hb dX5_stepBack_26 ci_0 ?_
  exact hret 27 ls _ _ locs _ dX5_stepBack_27 hP hD hS rfl (⟨rfl, ⟨a1, a2, a3, a4, a5, a6, a7, a8, a9, a10, g19, g20, g21, g22, g23, g24, g25, g26, g27, g28, g29⟩, (fr.wd fr3 : fr _ _ 19 29)⟩)
set_option maxHeartbeats 4000000 in
set_option maxRecDepth 100000 in
theorem c_X5_stepBack_1b {l : Launch} {D : va_G} {ky : kT} {A : Nat → Prop} {Hs : Heap} {ws : va_W} (hP : va_P D CL ws Hs) (hD : va_D A ws) {h th n : Nat} {T C Hd : Nat → Nat} {b : Nat} {q : Bool} {J : Nat → Nat} {bg : Bool} {pu bu : Nat} {cl mo : Int32} {K : Nat → Nat} {fw fd fc fg fo : Nat → Int32} (hpr : isMod ky ws h th n T C Hd b q J bg pu bu cl mo K fw fd fc fg fo) (hbg : bg = true) (hpu : pu = 0) : MU l yX5_stepBack wsX5_stepBack 1 21 0 0 D ky A Hs [.ref h] (fun r w => r = nI 0 ∧ isMod ky w h 1 n T C Hd b q J bg pu bu cl mo K fw fd fc fg fo ∧ fr ws w 19 29) := by
  refine MU.of (cc := cX5_stepBack) (maxL := 2) (ty := .int) (by decide) rfl (Nat.le_of_ble_eq_true rfl) ?_
  intro pg en Rm sg mi av below meth co Qo hRf hRl hRc hRs hx hb hml hown hts hK hret ls hl
  have hl : lv_has ls 2 [(0, .ref h)] := hl
  have hS : va_S A Hs Hs [] := va_S.rf
  generalize ([] : List Loc) = locs at hS ⊢
  obtain ⟨a1, a2, a3, a4, a5, a6, a7, a8, a9, a10, g19, g20, g21, g22, g23, g24, g25, g26, g27, g28, g29⟩ := id hpr
  have k54 := hts (.fieldLink RX5 54 "AssemblyPlannerModel" "isBegun" "Z") (by decide +kernel)
  have hinX5 : ∀ w ∈ wsX50, w ∈ wsX5_stepBack := by decide +kernel
  have k125 := hts (.fieldLink RX5 125 "AssemblyPlannerModel" "putIn" "I") (by decide +kernel)
  refine lv_aload_n hx hb dX5_stepBack_0 rfl (lv_at hl 0 rfl) ?_
  refine lv_aload_n hx hb dX5_stepBack_1 rfl (lv_at hl 0 rfl) ?_
  refine va_get (ci := 5) (C := RX5) (T := TX5) (N := 19) hx hb hts hinX5 hown hK hP 19 g19 rfl 8 (by decide) k54 (fun _ h9 => h9) rfl dX5_stepBack_2 ?_
  refine sb_if_eq (tgt := 15) hx hb dX5_stepBack_5 (by decide) (fun q => absurd q (by rw [hbg]; decide)) (fun _ => ?_)
  refine lv_aload_n hx hb dX5_stepBack_8 rfl (lv_at hl 0 rfl) ?_
  refine va_get (ci := 5) (C := RX5) (T := TX5) (N := 19) hx hb hts hinX5 hown hK hP 19 g19 rfl 9 (by decide) k125 (fun _ h9 => h9) rfl dX5_stepBack_9 ?_
  refine sn_if_ne (tgt := 19) hx hb dX5_stepBack_12 (by decide) (by omega) (fun c2 => absurd hpu c2) (fun c2 => ?_)
  refine lv_iconst (v := nI 1) hx hb dX5_stepBack_15 ci_1 ?_
  refine lv_goto (tgt := 20) hx hb dX5_stepBack_16 (by decide) ?_
  refine mcV (c_X5_holds hP hD ⟨a1, a2, a3, a4, a5, a6, a7, a8, a9, a10, g19, g20, g21, g22, g23, g24, g25, g26, g27, g28, g29⟩ (by decide)) ⟨hx, hb, hml, hown, hts⟩ hK gX5_stepBack_X5_holds rfl hd_X5_holds ⟨by omega, by omega⟩ (va_recv hK hP (ci := 5) (q0 := 19) rfl g19) rfl hl.1 rfl (Nat.le_of_ble_eq_true rfl) dX5_stepBack_20 ⟨Nat.zero_le _, Nat.zero_le _⟩ hS (fun r ws3 H locs hq5 hP hD hS => ?_)
  obtain ⟨rfl, hpr, fr4⟩ := hq5
  obtain ⟨a1, a2, a3, a4, a5, a6, a7, a8, a9, a10, g19, g20, g21, g22, g23, g24, g25, g26, g27, g28, g29⟩ := id hpr
  refine sv_top (y := nI 0) rfl ?_
  refine sn_if_ne (tgt := 28) hx hb dX5_stepBack_23 (by decide) (by decide) (fun q => absurd q (by decide)) (fun _ => ?_)
  refine lv_iconst (v := nI 0) hx hb dX5_stepBack_26 ci_0 ?_
  exact hret 27 ls _ _ locs _ dX5_stepBack_27 hP hD hS rfl (⟨rfl, ⟨a1, a2, a3, a4, a5, a6, a7, a8, a9, a10, g19, g20, g21, g22, g23, g24, g25, g26, g27, g28, g29⟩, (fr.wd fr4 : fr _ _ 19 29)⟩)
set_option maxHeartbeats 4000000 in
set_option maxRecDepth 100000 in
theorem c_X5_stepBack_0 {l : Launch} {D : va_G} {ky : kT} {A : Nat → Prop} {Hs : Heap} {ws : va_W} (hP : va_P D CL ws Hs) (hD : va_D A ws) {h th n : Nat} {T C Hd : Nat → Nat} {b : Nat} {q : Bool} {J : Nat → Nat} {bg : Bool} {pu bu : Nat} {cl mo : Int32} {K : Nat → Nat} {fw fd fc fg fo : Nat → Int32} (hpr : isMod ky ws h th n T C Hd b q J bg pu bu cl mo K fw fd fc fg fo) (hI : PI0 n C Hd b) (hT : ∀ p, T p < 4) (hbg : bg = true) (hpu : 0 < pu) (hpn : pu ≤ n) (hf : few C Hd b q T n < 1000) : MU l yX5_stepBack wsX5_stepBack 6 143 0 0 D ky A Hs [.ref h] (fun r w => r = nI (bp C Hd b q T n (pu - 1)) ∧ MD ky w h 0 n T C Hd b q J bg ((pu - 1)) ((clr bu (2 ^ (bp C Hd b q T n (pu - 1))))) ((cl + nI 2)) mo K ∧ fr ws w 19 29) := by
  refine MU.of (cc := cX5_stepBack) (maxL := 2) (ty := .int) (by decide) rfl (Nat.le_of_ble_eq_true rfl) ?_
  intro pg en Rm sg mi av below meth co Qo hRf hRl hRc hRs hx hb hml hown hts hK hret ls hl
  have hl : lv_has ls 2 [(0, .ref h)] := hl
  have hS : va_S A Hs Hs [] := va_S.rf
  generalize ([] : List Loc) = locs at hS ⊢
  obtain ⟨a1, a2, a3, a4, a5, a6, a7, a8, a9, a10, g19, g20, g21, g22, g23, g24, g25, g26, g27, g28, g29⟩ := id hpr
  have hn8 := hI.1
  have hb9 : (bp C Hd b q T n (pu - 1)) < n := bp_ok hn8 hT hf (by omega)
  have k54 := hts (.fieldLink RX5 54 "AssemblyPlannerModel" "isBegun" "Z") (by decide +kernel)
  have hinX5 : ∀ w ∈ wsX50, w ∈ wsX5_stepBack := by decide +kernel
  have k125 := hts (.fieldLink RX5 125 "AssemblyPlannerModel" "putIn" "I") (by decide +kernel)
  have k128 := hts (.fieldLink RX5 128 "AssemblyPlannerModel" "built" "I") (by decide +kernel)
  have k37 := hts (.fieldLink RX5 37 "AssemblyPlannerModel" "order" "[I") (by decide +kernel)
  have k131 := hts (.fieldLink RX5 131 "AssemblyPlannerModel" "clock" "I") (by decide +kernel)
  refine lv_aload_n hx hb dX5_stepBack_0 rfl (lv_at hl 0 rfl) ?_
  refine lv_aload_n hx hb dX5_stepBack_1 rfl (lv_at hl 0 rfl) ?_
  refine va_get (ci := 5) (C := RX5) (T := TX5) (N := 19) hx hb hts hinX5 hown hK hP 19 g19 rfl 8 (by decide) k54 (fun _ h9 => h9) rfl dX5_stepBack_2 ?_
  refine sb_if_eq (tgt := 15) hx hb dX5_stepBack_5 (by decide) (fun q => absurd q (by rw [hbg]; decide)) (fun _ => ?_)
  refine lv_aload_n hx hb dX5_stepBack_8 rfl (lv_at hl 0 rfl) ?_
  refine va_get (ci := 5) (C := RX5) (T := TX5) (N := 19) hx hb hts hinX5 hown hK hP 19 g19 rfl 9 (by decide) k125 (fun _ h9 => h9) rfl dX5_stepBack_9 ?_
  refine sn_if_ne (tgt := 19) hx hb dX5_stepBack_12 (by decide) (by omega) (fun c2 => ?_) (fun c2 => absurd c2 (by omega))
  refine lv_iconst (v := nI 0) hx hb dX5_stepBack_19 ci_0 ?_
  refine mcV (c_X5_holds hP hD ⟨a1, a2, a3, a4, a5, a6, a7, a8, a9, a10, g19, g20, g21, g22, g23, g24, g25, g26, g27, g28, g29⟩ (by decide)) ⟨hx, hb, hml, hown, hts⟩ hK gX5_stepBack_X5_holds rfl hd_X5_holds ⟨by omega, by omega⟩ (va_recv hK hP (ci := 5) (q0 := 19) rfl g19) rfl hl.1 rfl (Nat.le_of_ble_eq_true rfl) dX5_stepBack_20 ⟨Nat.zero_le _, Nat.zero_le _⟩ hS (fun r ws3 H locs hq5 hP hD hS => ?_)
  obtain ⟨rfl, hpr, fr4⟩ := hq5
  obtain ⟨a1, a2, a3, a4, a5, a6, a7, a8, a9, a10, g19, g20, g21, g22, g23, g24, g25, g26, g27, g28, g29⟩ := id hpr
  refine sv_top (y := nI 1) rfl ?_
  refine sn_if_ne (tgt := 28) hx hb dX5_stepBack_23 (by decide) (by decide) (fun _ => ?_) (fun q => absurd q (by decide))
  refine lv_aload_n hx hb dX5_stepBack_28 rfl (lv_at hl 0 rfl) ?_
  refine mcV (c_X5_best hP hD ⟨a1, a2, a3, a4, a5, a6, a7, a8, a9, a10, g19, g20, g21, g22, g23, g24, g25, g26, g27, g28, g29⟩ hI hT (by omega)) ⟨hx, hb, hml, hown, hts⟩ hK gX5_stepBack_X5_best rfl hd_X5_best ⟨by omega, by omega⟩ (va_recv hK hP (ci := 5) (q0 := 19) rfl g19) rfl hl.1 rfl (Nat.le_of_ble_eq_true rfl) dX5_stepBack_29 ⟨Nat.zero_le _, Nat.zero_le _⟩ hS (fun r ws7 H locs hq9 hP hD hS => ?_)
  obtain ⟨rfl, ⟨gg, go, hpr, hgo⟩, fr8⟩ := hq9
  obtain ⟨a1, a2, a3, a4, a5, a6, a7, a8, a9, a10, g19, g20, g21, g22, g23, g24, g25, g26, g27, g28, g29⟩ := id hpr
  refine lv_istore_n (lv' := [(1, .int (orN (few C Hd b q T n))), (0, .ref h)]) hx hb dX5_stepBack_32 rfl hl (by decide) rfl (fun ls hl => ?_)
  refine lv_aload_n hx hb dX5_stepBack_33 rfl (lv_at hl 1 rfl) ?_
  refine lv_dup hx hb dX5_stepBack_34 rfl ?_
  refine va_get (ci := 5) (C := RX5) (T := TX5) (N := 19) hx hb hts hinX5 hown hK hP 19 g19 rfl 9 (by decide) k125 (fun _ h9 => h9) rfl dX5_stepBack_35 ?_
  refine lv_iconst (v := nI 1) hx hb dX5_stepBack_38 ci_1 ?_
  refine lv_isub hx hb dX5_stepBack_39 ?_
  refine sv_top (y := nI (pu - 1)) (pk_sub (by omega)) ?_
  refine sv_put (ci := 5) (C := RX5) (T := TX5) (N := 19) hx hb hts hinX5 tyX5 tyX5_ok nmX5 hown hK hP hD hS 19 g19 rfl 9 (by decide) k125 (fun _ h9 => h9) rfl .int (by decide +kernel) rfl rfl [.int (nI 0), .int (nI n), .ref a1, .ref a2, .ref a3, .int (nI b), .int (bI q), .ref a4, .int (bI bg), .int (nI (pu - 1)), .int (nI bu), .int cl, .int mo, .ref a5, .ref a6, .ref a7, .ref a8, .ref a9, .ref a10] (Nat.le_of_ble_eq_true rfl) rfl dX5_stepBack_40 (fun ws11 H locs hP hD hS g19 fr10 => ?_)
  replace g20 := (fr10 20 (by decide)).trans g20
  replace g21 := (fr10 21 (by decide)).trans g21
  replace g22 := (fr10 22 (by decide)).trans g22
  replace g23 := (fr10 23 (by decide)).trans g23
  replace g24 := (fr10 24 (by decide)).trans g24
  replace g25 := (fr10 25 (by decide)).trans g25
  replace g26 := (fr10 26 (by decide)).trans g26
  replace g27 := (fr10 27 (by decide)).trans g27
  replace g28 := (fr10 28 (by decide)).trans g28
  replace g29 := (fr10 29 (by decide)).trans g29
  refine lv_aload_n hx hb dX5_stepBack_43 rfl (lv_at hl 1 rfl) ?_
  refine lv_dup hx hb dX5_stepBack_44 rfl ?_
  refine va_get (ci := 5) (C := RX5) (T := TX5) (N := 19) hx hb hts hinX5 hown hK hP 19 g19 rfl 10 (by decide) k128 (fun _ h9 => h9) rfl dX5_stepBack_45 ?_
  refine lv_iconst (v := nI 1) hx hb dX5_stepBack_48 ci_1 ?_
  refine lv_aload_n hx hb dX5_stepBack_49 rfl (lv_at hl 1 rfl) ?_
  refine va_get (ci := 5) (C := RX5) (T := TX5) (N := 19) hx hb hts hinX5 hown hK hP 19 g19 rfl 18 (by decide) k37 (fun _ h9 => h9) rfl dX5_stepBack_50 ?_
  refine lv_aload_n hx hb dX5_stepBack_53 rfl (lv_at hl 1 rfl) ?_
  refine va_get (ci := 5) (C := RX5) (T := TX5) (N := 19) hx hb hts hinX5 hown hK hP 19 g19 rfl 9 (by decide) k125 (fun _ h9 => h9) rfl dX5_stepBack_54 ?_
  refine sv_iald hx hb hK hP 29 g29 (j := pu - 1) (by omega) (by decide) dX5_stepBack_57 ?_
  refine W.eq (g2 := F0 mi 58 ls (.int (go (pu - 1)) :: [.int (nI 1), .int (nI bu), .ref h])) rfl ?_
  refine sv_top (y := nI (bp C Hd b q T n (pu - 1))) (hgo hf _ (by omega)) ?_
  refine lv_ishl hx hb dX5_stepBack_58 ?_
  refine sv_top (y := nI (2 ^ (bp C Hd b q T n (pu - 1)))) (sh_l1 (by omega)) ?_
  refine lv_iconst (v := -1) hx hb dX5_stepBack_59 ci_m1 ?_
  refine lv_ixor hx hb dX5_stepBack_60 ?_
  refine lv_iand hx hb dX5_stepBack_61 ?_
  refine sv_top (y := nI (clr bu (2 ^ (bp C Hd b q T n (pu - 1))))) (an_not _ _) ?_
  refine sv_put (ci := 5) (C := RX5) (T := TX5) (N := 19) hx hb hts hinX5 tyX5 tyX5_ok nmX5 hown hK hP hD hS 19 g19 rfl 10 (by decide) k128 (fun _ h9 => h9) rfl .int (by decide +kernel) rfl rfl [.int (nI 0), .int (nI n), .ref a1, .ref a2, .ref a3, .int (nI b), .int (bI q), .ref a4, .int (bI bg), .int (nI (pu - 1)), .int (nI (clr bu (2 ^ (bp C Hd b q T n (pu - 1))))), .int cl, .int mo, .ref a5, .ref a6, .ref a7, .ref a8, .ref a9, .ref a10] (Nat.le_of_ble_eq_true rfl) rfl dX5_stepBack_62 (fun ws13 H locs hP hD hS g19 fr12 => ?_)
  replace g20 := (fr12 20 (by decide)).trans g20
  replace g21 := (fr12 21 (by decide)).trans g21
  replace g22 := (fr12 22 (by decide)).trans g22
  replace g23 := (fr12 23 (by decide)).trans g23
  replace g24 := (fr12 24 (by decide)).trans g24
  replace g25 := (fr12 25 (by decide)).trans g25
  replace g26 := (fr12 26 (by decide)).trans g26
  replace g27 := (fr12 27 (by decide)).trans g27
  replace g28 := (fr12 28 (by decide)).trans g28
  replace g29 := (fr12 29 (by decide)).trans g29
  refine lv_aload_n hx hb dX5_stepBack_65 rfl (lv_at hl 1 rfl) ?_
  refine lv_dup hx hb dX5_stepBack_66 rfl ?_
  refine va_get (ci := 5) (C := RX5) (T := TX5) (N := 19) hx hb hts hinX5 hown hK hP 19 g19 rfl 11 (by decide) k131 (fun _ h9 => h9) rfl dX5_stepBack_67 ?_
  refine lv_iconst (v := nI 2) hx hb dX5_stepBack_70 ci_2 ?_
  refine lv_iadd hx hb dX5_stepBack_71 ?_
  refine sv_put (ci := 5) (C := RX5) (T := TX5) (N := 19) hx hb hts hinX5 tyX5 tyX5_ok nmX5 hown hK hP hD hS 19 g19 rfl 11 (by decide) k131 (fun _ h9 => h9) rfl .int (by decide +kernel) rfl rfl [.int (nI 0), .int (nI n), .ref a1, .ref a2, .ref a3, .int (nI b), .int (bI q), .ref a4, .int (bI bg), .int (nI (pu - 1)), .int (nI (clr bu (2 ^ (bp C Hd b q T n (pu - 1))))), .int (cl + (nI 2)), .int mo, .ref a5, .ref a6, .ref a7, .ref a8, .ref a9, .ref a10] (Nat.le_of_ble_eq_true rfl) rfl dX5_stepBack_72 (fun ws15 H locs hP hD hS g19 fr14 => ?_)
  replace g20 := (fr14 20 (by decide)).trans g20
  replace g21 := (fr14 21 (by decide)).trans g21
  replace g22 := (fr14 22 (by decide)).trans g22
  replace g23 := (fr14 23 (by decide)).trans g23
  replace g24 := (fr14 24 (by decide)).trans g24
  replace g25 := (fr14 25 (by decide)).trans g25
  replace g26 := (fr14 26 (by decide)).trans g26
  replace g27 := (fr14 27 (by decide)).trans g27
  replace g28 := (fr14 28 (by decide)).trans g28
  replace g29 := (fr14 29 (by decide)).trans g29
  refine lv_aload_n hx hb dX5_stepBack_75 rfl (lv_at hl 1 rfl) ?_
  refine va_get (ci := 5) (C := RX5) (T := TX5) (N := 19) hx hb hts hinX5 hown hK hP 19 g19 rfl 18 (by decide) k37 (fun _ h9 => h9) rfl dX5_stepBack_76 ?_
  refine lv_aload_n hx hb dX5_stepBack_79 rfl (lv_at hl 1 rfl) ?_
  refine va_get (ci := 5) (C := RX5) (T := TX5) (N := 19) hx hb hts hinX5 hown hK hP 19 g19 rfl 9 (by decide) k125 (fun _ h9 => h9) rfl dX5_stepBack_80 ?_
  refine sv_iald hx hb hK hP 29 g29 (j := pu - 1) (by omega) (by decide) dX5_stepBack_83 ?_
  refine W.eq (g2 := F0 mi 84 ls (.int (go (pu - 1)) :: [])) rfl ?_
  refine sv_top (y := nI (bp C Hd b q T n (pu - 1))) (hgo hf _ (by omega)) ?_
  exact hret 84 ls _ _ locs _ dX5_stepBack_84 hP hD hS rfl (⟨rfl, ⟨_, _, _, _, _, ⟨a1, a2, a3, a4, a5, a6, a7, a8, a9, a10, g19, g20, g21, g22, g23, g24, g25, g26, g27, g28, g29⟩⟩, (((((fr.wd fr4 : fr _ _ 19 29).tr fr8).tr fr10).tr fr12).tr fr14)⟩)
