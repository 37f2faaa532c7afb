theorem ci_3 : Int32.ofInt 3 = nI 3 := by decide +kernel
theorem ci_5 : Int32.ofInt 5 = nI 5 := by decide +kernel
theorem hd_X0_bypassed : yX0_bypassed.cls = RX0 ∧ yX0_bypassed.cls ≠ "java/lang/invoke/MethodHandle" ∧ yX0_bypassed.cls ≠ "java/lang/invoke/VarHandle" ∧ (parseMethodDescriptor yX0_bypassed.desc).map (fun d => d.parameters.length) = some 1 := by decide +kernel
theorem hd_X0_clearJam : yX0_clearJam.cls = RX0 ∧ yX0_clearJam.cls ≠ "java/lang/invoke/MethodHandle" ∧ yX0_clearJam.cls ≠ "java/lang/invoke/VarHandle" ∧ (parseMethodDescriptor yX0_clearJam.desc).map (fun d => d.parameters.length) = some 1 := by decide +kernel
theorem hd_X0_halt : yX0_halt.cls = RX0 ∧ yX0_halt.cls ≠ "java/lang/invoke/MethodHandle" ∧ yX0_halt.cls ≠ "java/lang/invoke/VarHandle" ∧ (parseMethodDescriptor yX0_halt.desc).map (fun d => d.parameters.length) = some 0 := by decide +kernel
theorem hd_X0_mount : yX0_mount.cls = RX0 ∧ yX0_mount.cls ≠ "java/lang/invoke/MethodHandle" ∧ yX0_mount.cls ≠ "java/lang/invoke/VarHandle" ∧ (parseMethodDescriptor yX0_mount.desc).map (fun d => d.parameters.length) = some 1 := by decide +kernel
theorem hd_X0_putIn : yX0_putIn.cls = RX0 ∧ yX0_putIn.cls ≠ "java/lang/invoke/MethodHandle" ∧ yX0_putIn.cls ≠ "java/lang/invoke/VarHandle" ∧ (parseMethodDescriptor yX0_putIn.desc).map (fun d => d.parameters.length) = some 1 := by decide +kernel
theorem hd_X3_tool : yX3_tool.cls = RX3 ∧ yX3_tool.cls ≠ "java/lang/invoke/MethodHandle" ∧ yX3_tool.cls ≠ "java/lang/invoke/VarHandle" ∧ (parseMethodDescriptor yX3_tool.desc).map (fun d => d.parameters.length) = some 1 := by decide +kernel
/-! ===== the cell as the world holds it ===== -/
def isCell (k : kT) (ws : va_W) (h hp j1 j2 : Nat) (J K : Nat → Nat) (bg : Bool) (pi bu : Nat) (tm tl : Int32) : Prop :=
  ws[16]? = some (h, .inr (0, [.ref hp, .ref j1, .ref j2, .int (bI bg), .int (nI pi), .int (nI bu), .int tm, .int tl])) ∧ ws[17]? = some (j1, .inl (k.1, 8, .inl (fun i => nI (J i)))) ∧ ws[18]? = some (j2, .inl (k.1, 8, .inl (fun i => nI (K i))))
theorem isCell.fr {k : kT} {ws ws1 : va_W} {h hp j1 j2 : Nat} {J K : Nat → Nat} {bg : Bool} {pi bu : Nat} {tm tl : Int32} {x y : Nat} (P : isCell k ws h hp j1 j2 J K bg pi bu tm tl) (f : fr ws ws1 x y) (hx : 18 < x ∨ y < 16 := by decide) : isCell k ws1 h hp j1 j2 J K bg pi bu tm tl :=
  ⟨(f 16 (by omega)).trans P.1, (f 17 (by omega)).trans P.2.1, (f 18 (by omega)).trans P.2.2⟩
def zro (K : Nat → Nat) (t : Nat) : Nat → Nat := itr (fun p f => upX f p 0) t K
def tmM (tm tl : Int32) (v : Nat) : Int32 := if tl = nI v then tm else tm + nI 5
def tmP (tm : Int32) (Hd : Nat → Nat) (S p : Nat) : Int32 := tm + (if Hd (32 + p) &&& S = 0 then nI 1 else nI 2)
theorem frs_bit (Hd : Nat → Nat) (S p : Nat) : ∀ (k i : Nat), (itr (frs Hd S p) k 0).testBit i = true ↔ (i < k ∧ Hd (8 * i + p) &&& S = 0)
  | 0, i => ⟨fun h => (by rw [show itr (frs Hd S p) 0 0 = 0 from rfl, Nat.zero_testBit] at h; cases h), fun h => absurd h.1 (Nat.not_lt_zero _)⟩
  | k + 1, i => by
    have ih := frs_bit Hd S p k i
    show (frs Hd S p k (itr (frs Hd S p) k 0)).testBit i = true ↔ _
    unfold frs
    split
    next q =>
      rw [Nat.testBit_or, Bool.or_eq_true]
      constructor
      · rintro (h | h)
        · have := ih.mp h; exact ⟨by omega, this.2⟩
        · have e := pw_bit h; subst e; exact ⟨by omega, q⟩
      · rintro ⟨a, b⟩
        rcases Nat.lt_or_ge i k with w | w
        · exact Or.inl (ih.mpr ⟨w, b⟩)
        · have e : k = i := by omega
          subst e; exact Or.inr Nat.testBit_two_pow_self
    next q =>
      constructor
      · intro h
        have := ih.mp h; exact ⟨by omega, this.2⟩
      · rintro ⟨a, b⟩
        rcases Nat.lt_or_ge i k with w | w
        · exact ih.mpr ⟨w, b⟩
        · have e : i = k := by omega
          subst e; exact absurd b q
theorem frd_up (Hd : Nat → Nat) (S p : Nat) : frd Hd S p &&& 16 = 0 ↔ ¬ Hd (32 + p) &&& S = 0 := by
  rw [show (16 : Nat) = 2 ^ 4 from rfl, bt_and]
  have := frs_bit Hd S p 6 4
  constructor
  · intro h q
    have h1 : (frd Hd S p).testBit 4 = true := this.mpr ⟨by decide, q⟩
    rw [h] at h1; cases h1
  · intro h
    cases q : (frd Hd S p).testBit 4
    · rfl
    · exact absurd (this.mp q).2 h
set_option maxHeartbeats 4000000 in
set_option maxRecDepth 100000 in
theorem c_X0_changeJams {l : Launch} {D : va_G} {ky : kT} {A : Nat → Prop} {Hs : Heap} {ws : va_W} (hP : va_P D CL ws Hs) (hD : va_D A ws) {h hp j1 j2 : Nat} {J K : Nat → Nat} {bg : Bool} {pi bu : Nat} {tm tl : Int32} (hcl : isCell ky ws h hp j1 j2 J K bg pi bu tm tl) {pt x : Nat} (hp8 : pt < 8) : MU l yX0_changeJams wsX0_changeJams 0 0 0 0 D ky A Hs [.ref h, .int (nI pt), .int (nI x)] (fun r w => r = nI (J pt) ∧ isCell ky w h hp j1 j2 (upX J pt x) K bg pi bu tm tl ∧ fr ws w 16 18) := by
  refine MU.of (cc := cX0_changeJams) (maxL := 4) (ty := .int) (by decide) rfl (Nat.le_of_ble_eq_true rfl) ?_
  intro pg en Rm sg mi av below meth co Qo hRf hRl hRc hRs hx hb hml hown hts hK hret ls hl
  have hl : lv_has ls 4 [(0, .ref h), (1, .int (nI pt)), (2, .int (nI x))] := hl
  have hS : va_S A Hs Hs [] := va_S.rf
  generalize ([] : List Loc) = locs at hS ⊢
  obtain ⟨cl16, cl17, cl18⟩ := id hcl
  have k9 := hts (.fieldLink RX0 9 "AssemblyPlanner$Cell" "jamsToCome" "[I") (by decide +kernel)
  have hinX0 : ∀ w ∈ wsX00, w ∈ wsX0_changeJams := by decide +kernel
  refine lv_aload_n hx hb dX0_changeJams_0 rfl (lv_at hl 0 rfl) ?_
  refine va_get (ci := 0) (C := RX0) (T := TX0) (N := 8) hx hb hts hinX0 hown hK hP 16 cl16 rfl 1 (by decide) k9 (fun _ h9 => h9) rfl dX0_changeJams_1 ?_
  refine lv_iload_n hx hb dX0_changeJams_4 rfl (lv_at hl 1 rfl) ?_
  refine sv_iald hx hb hK hP 17 cl17 (j := pt) (by omega) (by decide) dX0_changeJams_5 ?_
  refine W.eq (g2 := F0 mi 6 ls (.int (nI (J pt)) :: [])) rfl ?_
  refine lv_istore_n (lv' := [(3, .int (nI (J pt))), (0, .ref h), (1, .int (nI pt)), (2, .int (nI x))]) hx hb dX0_changeJams_6 rfl hl (by decide) rfl (fun ls hl => ?_)
  refine lv_aload_n hx hb dX0_changeJams_7 rfl (lv_at hl 1 rfl) ?_
  refine va_get (ci := 0) (C := RX0) (T := TX0) (N := 8) hx hb hts hinX0 hown hK hP 16 cl16 rfl 1 (by decide) k9 (fun _ h9 => h9) rfl dX0_changeJams_8 ?_
  refine lv_iload_n hx hb dX0_changeJams_11 rfl (lv_at hl 2 rfl) ?_
  refine lv_iload_n hx hb dX0_changeJams_12 rfl (lv_at hl 3 rfl) ?_
  refine sv_iast hx hb hK hP hD hS 17 cl17 (j := pt) (by omega) (by decide) dX0_changeJams_13 (fun ws2 H locs hP hD hS cl17 fr1 => ?_)
  replace cl16 := (fr1 16 (by decide)).trans cl16
  replace cl18 := (fr1 18 (by decide)).trans cl18
  rw [upd_N] at cl17
  refine lv_iload_n hx hb dX0_changeJams_14 rfl (lv_at hl 0 rfl) ?_
  exact hret 15 ls _ _ locs _ dX0_changeJams_15 hP hD hS rfl (⟨rfl, ⟨cl16, cl17, cl18⟩, (fr.wd fr1 : fr _ _ 16 18)⟩)
set_option maxHeartbeats 4000000 in
set_option maxRecDepth 100000 in
theorem c_X0_halt {l : Launch} {D : va_G} {ky : kT} {A : Nat → Prop} {Hs : Heap} {ws : va_W} (hP : va_P D CL ws Hs) (hD : va_D A ws) {h hp j1 j2 : Nat} {J K : Nat → Nat} {bg : Bool} {pi bu : Nat} {tm tl : Int32} (hcl : isCell ky ws h hp j1 j2 J K bg pi bu tm tl) : MV l yX0_halt wsX0_halt 0 0 0 0 D ky A Hs [.ref h] (fun w => isCell ky w h hp j1 j2 J (zro K 8) false 0 0 (nI 0) (-1) ∧ fr ws w 16 18) := by
  refine MV.of (cc := cX0_halt) (maxL := 2) (by decide) rfl (Nat.le_of_ble_eq_true rfl) ?_
  intro pg en Rm sg mi av below meth co Qo hRf hRl hRc hRs hx hb hml hown hin hts hK hret ls hl
  have hl : lv_has ls 2 [(0, .ref h)] := hl
  have hS : va_S A Hs Hs [] := va_S.rf
  generalize ([] : List Loc) = locs at hS ⊢
  obtain ⟨cl16, cl17, cl18⟩ := id hcl
  have k29 := hts (.fieldLink RX0 29 "AssemblyPlanner$Cell" "begun" "Z") (by decide +kernel)
  have hinX0 : ∀ w ∈ wsX00, w ∈ wsX0_halt := by decide +kernel
  have k33 := hts (.fieldLink RX0 33 "AssemblyPlanner$Cell" "placesIn" "I") (by decide +kernel)
  have k36 := hts (.fieldLink RX0 36 "AssemblyPlanner$Cell" "in" "I") (by decide +kernel)
  have k39 := hts (.fieldLink RX0 39 "AssemblyPlanner$Cell" "time" "I") (by decide +kernel)
  have k18 := hts (.fieldLink RX0 18 "AssemblyPlanner$Cell" "tool" "I") (by decide +kernel)
  have k15 := hts (.fieldLink RX0 15 "AssemblyPlanner$Cell" "jamsSinceStart" "[I") (by decide +kernel)
  refine lv_aload_n hx hb dX0_halt_0 rfl (lv_at hl 0 rfl) ?_
  refine lv_iconst (v := nI 0) hx hb dX0_halt_1 ci_0 ?_
  refine W.eq (g2 := F0 mi 2 ls (.int (bI false) :: .ref h :: [])) rfl ?_
  refine sv_put (ci := 0) (C := RX0) (T := TX0) (N := 8) hx hb hts hinX0 tyX0 tyX0_ok nmX0 hown hK hP hD hS 16 cl16 rfl 3 (by decide) k29 (fun _ h9 => h9) rfl .boolean (by decide +kernel) (bI_nar _) (bI_fit _) [.ref hp, .ref j1, .ref j2, .int (bI false), .int (nI pi), .int (nI bu), .int tm, .int tl] (Nat.le_of_ble_eq_true rfl) rfl dX0_halt_2 (fun ws2 H locs hP hD hS cl16 fr1 => ?_)
  replace cl17 := (fr1 17 (by decide)).trans cl17
  replace cl18 := (fr1 18 (by decide)).trans cl18
  refine lv_aload_n hx hb dX0_halt_5 rfl (lv_at hl 0 rfl) ?_
  refine lv_iconst (v := nI 0) hx hb dX0_halt_6 ci_0 ?_
  refine sv_put (ci := 0) (C := RX0) (T := TX0) (N := 8) hx hb hts hinX0 tyX0 tyX0_ok nmX0 hown hK hP hD hS 16 cl16 rfl 4 (by decide) k33 (fun _ h9 => h9) rfl .int (by decide +kernel) rfl rfl [.ref hp, .ref j1, .ref j2, .int (bI false), .int (nI 0), .int (nI bu), .int tm, .int tl] (Nat.le_of_ble_eq_true rfl) rfl dX0_halt_7 (fun ws4 H locs hP hD hS cl16 fr3 => ?_)
  replace cl17 := (fr3 17 (by decide)).trans cl17
  replace cl18 := (fr3 18 (by decide)).trans cl18
  refine lv_aload_n hx hb dX0_halt_10 rfl (lv_at hl 0 rfl) ?_
  refine lv_iconst (v := nI 0) hx hb dX0_halt_11 ci_0 ?_
  refine sv_put (ci := 0) (C := RX0) (T := TX0) (N := 8) hx hb hts hinX0 tyX0 tyX0_ok nmX0 hown hK hP hD hS 16 cl16 rfl 5 (by decide) k36 (fun _ h9 => h9) rfl .int (by decide +kernel) rfl rfl [.ref hp, .ref j1, .ref j2, .int (bI false), .int (nI 0), .int (nI 0), .int tm, .int tl] (Nat.le_of_ble_eq_true rfl) rfl dX0_halt_12 (fun ws6 H locs hP hD hS cl16 fr5 => ?_)
  replace cl17 := (fr5 17 (by decide)).trans cl17
  replace cl18 := (fr5 18 (by decide)).trans cl18
  refine lv_aload_n hx hb dX0_halt_15 rfl (lv_at hl 0 rfl) ?_
  refine lv_iconst (v := nI 0) hx hb dX0_halt_16 ci_0 ?_
  refine sv_put (ci := 0) (C := RX0) (T := TX0) (N := 8) hx hb hts hinX0 tyX0 tyX0_ok nmX0 hown hK hP hD hS 16 cl16 rfl 6 (by decide) k39 (fun _ h9 => h9) rfl .int (by decide +kernel) rfl rfl [.ref hp, .ref j1, .ref j2, .int (bI false), .int (nI 0), .int (nI 0), .int (nI 0), .int tl] (Nat.le_of_ble_eq_true rfl) rfl dX0_halt_17 (fun ws8 H locs hP hD hS cl16 fr7 => ?_)
  replace cl17 := (fr7 17 (by decide)).trans cl17
  replace cl18 := (fr7 18 (by decide)).trans cl18
  refine lv_aload_n hx hb dX0_halt_20 rfl (lv_at hl 0 rfl) ?_
  refine lv_iconst (v := -1) hx hb dX0_halt_21 ci_m1 ?_
  refine sv_put (ci := 0) (C := RX0) (T := TX0) (N := 8) hx hb hts hinX0 tyX0 tyX0_ok nmX0 hown hK hP hD hS 16 cl16 rfl 7 (by decide) k18 (fun _ h9 => h9) rfl .int (by decide +kernel) rfl rfl [.ref hp, .ref j1, .ref j2, .int (bI false), .int (nI 0), .int (nI 0), .int (nI 0), .int (-1)] (Nat.le_of_ble_eq_true rfl) rfl dX0_halt_22 (fun ws10 H locs hP hD hS cl16 fr9 => ?_)
  replace cl17 := (fr9 17 (by decide)).trans cl17
  replace cl18 := (fr9 18 (by decide)).trans cl18
  refine lv_iconst (v := nI 0) hx hb dX0_halt_25 ci_0 ?_
  refine lv_istore_n (lv' := [(1, .int (nI 0)), (0, .ref h)]) hx hb dX0_halt_26 rfl hl (by decide) rfl (fun ls hl => ?_)
  have L27 : ∀ (L27d : Nat) (t : Nat), 8 - t < L27d → ∀ (wl27 : va_W) (H : Heap), t ≤ 8 → va_P D CL wl27 H → va_D A wl27 → wl27[16]? = some (h, .inr (0, [.ref hp, .ref j1, .ref j2, .int (bI false), .int (nI 0), .int (nI 0), .int ((nI 0)), .int (-1)])) → wl27[17]? = some (j1, .inl (ky.1, 8, .inl (fun i => nI (J i)))) → wl27[18]? = some (j2, .inl (ky.1, 8, .inl (fun i => nI ((zro K t) i)))) → fr ws wl27 16 18 → ∀ (ls : Array Slot) (locs : List Loc), lv_has ls 2 [(1, .int (nI t)), (0, .ref h)] → va_S A Hs H locs → W pg l en Rm sg mi av below meth co H locs 0 0 Qo (F0 mi 27 ls []) := by
    intro L27d
    induction L27d with
    | zero => intro t hfu; exact absurd hfu (Nat.not_lt_zero _)
    | succ L27d ih27 =>
      intro t hfu wl27 H i27_0 hP hD cl16 cl17 cl18 frwl27 ls locs hl hS
      refine lv_iload_n hx hb dX0_halt_27 rfl (lv_at hl 0 rfl) ?_
      refine lv_bipush (v := nI 8) hx hb dX0_halt_28 bi_8 ?_
      refine sn_icmp_ge (tgt := 46) hx hb dX0_halt_30 (by decide) (by omega) (by decide) (fun c11 => ?_) (fun c11 => ?_)
      · exact hret 46 ls _ _ locs dX0_halt_46 hP hD hS (by rw [show t = 8 by omega] at cl18; exact ⟨⟨cl16, cl17, cl18⟩, (fr.wd frwl27 : fr _ _ 16 18)⟩)
      · refine lv_aload_n hx hb dX0_halt_33 rfl (lv_at hl 1 rfl) ?_
        refine va_get (ci := 0) (C := RX0) (T := TX0) (N := 8) hx hb hts hinX0 hown hK hP 16 cl16 rfl 2 (by decide) k15 (fun _ h9 => h9) rfl dX0_halt_34 ?_
        refine lv_iload_n hx hb dX0_halt_37 rfl (lv_at hl 0 rfl) ?_
        refine lv_iconst (v := nI 0) hx hb dX0_halt_38 ci_0 ?_
        refine sv_iast hx hb hK hP hD hS 18 cl18 (j := t) (by omega) (by decide) dX0_halt_39 (fun ws13 H locs hP hD hS cl18 fr12 => ?_)
        replace cl16 := (fr12 16 (by decide)).trans cl16
        replace cl17 := (fr12 17 (by decide)).trans cl17
        rw [upd_N] at cl18
        refine lv_iinc (v := nI (t + 1)) (lv' := [(1, .int (nI (t + 1))), (0, .ref h)]) hx hb dX0_halt_40 hl (k := 0) rfl (nI_1 _) (by decide) rfl (fun ls hl => ?_)
        refine lv_goto (tgt := 27) hx hb dX0_halt_43 (by decide) ?_
        exact ih27 (t + 1) (by omega) _ _ (by omega) hP hD cl16 cl17 cl18 ((fr.wd frwl27 : fr _ _ 16 18).tr fr12) ls locs (lv_sub hl [0, 1] rfl) hS
  exact L27 ((8 - 0) + 1) 0 (Nat.lt_succ_self _) _ _ (by omega) hP hD cl16 cl17 cl18 (((((fr.wd fr1 : fr _ _ 16 18).tr fr3).tr fr5).tr fr7).tr fr9) ls locs (lv_sub hl [0, 1] rfl) hS
set_option maxHeartbeats 4000000 in
set_option maxRecDepth 100000 in
theorem c_X0_start {l : Launch} {D : va_G} {ky : kT} {A : Nat → Prop} {Hs : Heap} {ws : va_W} (hP : va_P D CL ws Hs) (hD : va_D A ws) {h hp j1 j2 : Nat} {J K : Nat → Nat} {bg : Bool} {pi bu : Nat} {tm tl : Int32} (hcl : isCell ky ws h hp j1 j2 J K bg pi bu tm tl) : MV l yX0_start wsX0_start 1 21 0 0 D ky A Hs [.ref h] (fun w => isCell ky w h hp j1 j2 J (zro K 8) true 0 0 (nI 0) (-1) ∧ fr ws w 16 18) := by
  refine MV.of (cc := cX0_start) (maxL := 1) (by decide) rfl (Nat.le_of_ble_eq_true rfl) ?_
  intro pg en Rm sg mi av below meth co Qo hRf hRl hRc hRs hx hb hml hown hin hts hK hret ls hl
  have hl : lv_has ls 1 [(0, .ref h)] := hl
  have hS : va_S A Hs Hs [] := va_S.rf
  generalize ([] : List Loc) = locs at hS ⊢
  obtain ⟨cl16, cl17, cl18⟩ := id hcl
  have k29 := hts (.fieldLink RX0 29 "AssemblyPlanner$Cell" "begun" "Z") (by decide +kernel)
  have hinX0 : ∀ w ∈ wsX00, w ∈ wsX0_start := by decide +kernel
  refine lv_aload_n hx hb dX0_start_0 rfl (lv_at hl 0 rfl) ?_
  refine mvV (c_X0_halt hP hD ⟨cl16, cl17, cl18⟩) ⟨hx, hb, hml, hown, hts⟩ hK gX0_start_X0_halt rfl hd_X0_halt ⟨by omega, by omega⟩ (va_recv hK hP (ci := 0) (q0 := 16) rfl cl16) rfl hl.1 rfl (Nat.le_of_ble_eq_true rfl) dX0_start_1 ⟨Nat.zero_le _, Nat.zero_le _⟩ hS (fun ws1 H locs hq3 hP hD hS => ?_)
  obtain ⟨hcl, fr2⟩ := hq3
  obtain ⟨cl16, cl17, cl18⟩ := id hcl
  refine lv_aload_n hx hb dX0_start_4 rfl (lv_at hl 0 rfl) ?_
  refine lv_iconst (v := nI 1) hx hb dX0_start_5 ci_1 ?_
  refine W.eq (g2 := F0 mi 6 ls (.int (bI true) :: .ref h :: [])) rfl ?_
  refine sv_put (ci := 0) (C := RX0) (T := TX0) (N := 8) hx hb hts hinX0 tyX0 tyX0_ok nmX0 hown hK hP hD hS 16 cl16 rfl 3 (by decide) k29 (fun _ h9 => h9) rfl .boolean (by decide +kernel) (bI_nar _) (bI_fit _) [.ref hp, .ref j1, .ref j2, .int (bI true), .int (nI 0), .int (nI 0), .int ((nI 0)), .int ((-1))] (Nat.le_of_ble_eq_true rfl) rfl dX0_start_6 (fun ws5 H locs hP hD hS cl16 fr4 => ?_)
  replace cl17 := (fr4 17 (by decide)).trans cl17
  replace cl18 := (fr4 18 (by decide)).trans cl18
  exact hret 9 ls _ _ locs dX0_start_9 hP hD hS (⟨⟨cl16, cl17, cl18⟩, ((fr.wd fr2 : fr _ _ 16 18).tr fr4)⟩)
set_option maxHeartbeats 4000000 in
set_option maxRecDepth 100000 in
theorem c_X0_nextPlace {l : Launch} {D : va_G} {ky : kT} {Hs : Heap} {ws : va_W} (hP : va_P D CL ws Hs) {h hp j1 j2 : Nat} {J K : Nat → Nat} {bg : Bool} {pi bu : Nat} {tm tl : Int32} (hcl : isCell ky ws h hp j1 j2 J K bg pi bu tm tl) : PI l yX0_nextPlace wsX0_nextPlace 0 0 D ky Hs [.ref h] (if bg = true then nI pi else -1) := by
  refine PI.of (cc := cX0_nextPlace) (maxL := 1) (ty := .int) (by decide) rfl rfl (Nat.le_of_ble_eq_true rfl) ?_
  intro pg en Rm sg mi av below meth co Qo hRf hRl hx hb hml hown hts hK hret ls hl
  have hl : lv_has ls 1 [(0, .ref h)] := hl
  have hS : va_S (fun _ => False) Hs Hs [] := va_S.rf
  generalize ([] : List Loc) = locs at hS ⊢
  obtain ⟨cl16, cl17, cl18⟩ := id hcl
  have k29 := hts (.fieldLink RX0 29 "AssemblyPlanner$Cell" "begun" "Z") (by decide +kernel)
  have hinX0 : ∀ w ∈ wsX00, w ∈ wsX0_nextPlace := by decide +kernel
  have k33 := hts (.fieldLink RX0 33 "AssemblyPlanner$Cell" "placesIn" "I") (by decide +kernel)
  refine lv_aload_n hx hb dX0_nextPlace_0 rfl (lv_at hl 0 rfl) ?_
  refine va_get (ci := 0) (C := RX0) (T := TX0) (N := 8) hx hb hts hinX0 hown hK hP 16 cl16 rfl 3 (by decide) k29 (fun _ h9 => h9) rfl dX0_nextPlace_1 ?_
  refine sb_if_eq (tgt := 14) hx hb dX0_nextPlace_4 (by decide) (fun c1 => ?_) (fun c1 => ?_)
  · refine lv_iconst (v := -1) hx hb dX0_nextPlace_14 ci_m1 ?_
    exact hret 15 ls locs _ dX0_nextPlace_15 hS ((if_neg (by rw [c1]; decide)).symm)
  · refine lv_aload_n hx hb dX0_nextPlace_7 rfl (lv_at hl 0 rfl) ?_
    refine va_get (ci := 0) (C := RX0) (T := TX0) (N := 8) hx hb hts hinX0 hown hK hP 16 cl16 rfl 4 (by decide) k33 (fun _ h9 => h9) rfl dX0_nextPlace_8 ?_
    refine lv_goto (tgt := 15) hx hb dX0_nextPlace_11 (by decide) ?_
    exact hret 15 ls locs _ dX0_nextPlace_15 hS ((if_pos c1).symm)
set_option maxHeartbeats 4000000 in
set_option maxRecDepth 100000 in
theorem c_X0_lastPlace {l : Launch} {D : va_G} {ky : kT} {Hs : Heap} {ws : va_W} (hP : va_P D CL ws Hs) {h hp j1 j2 : Nat} {J K : Nat → Nat} {bg : Bool} {pi bu : Nat} {tm tl : Int32} (hcl : isCell ky ws h hp j1 j2 J K bg pi bu tm tl) (hpi : pi < 2 ^ 31) : PI l yX0_lastPlace wsX0_lastPlace 0 0 D ky Hs [.ref h] (if pi = 0 then -1 else nI (pi - 1)) := by
  refine PI.of (cc := cX0_lastPlace) (maxL := 1) (ty := .int) (by decide) rfl rfl (Nat.le_of_ble_eq_true rfl) ?_
  intro pg en Rm sg mi av below meth co Qo hRf hRl hx hb hml hown hts hK hret ls hl
  have hl : lv_has ls 1 [(0, .ref h)] := hl
  have hS : va_S (fun _ => False) Hs Hs [] := va_S.rf
  generalize ([] : List Loc) = locs at hS ⊢
  obtain ⟨cl16, cl17, cl18⟩ := id hcl
  have k33 := hts (.fieldLink RX0 33 "AssemblyPlanner$Cell" "placesIn" "I") (by decide +kernel)
  have hinX0 : ∀ w ∈ wsX00, w ∈ wsX0_lastPlace := by decide +kernel
  refine lv_aload_n hx hb dX0_lastPlace_0 rfl (lv_at hl 0 rfl) ?_
  refine va_get (ci := 0) (C := RX0) (T := TX0) (N := 8) hx hb hts hinX0 hown hK hP 16 cl16 rfl 4 (by decide) k33 (fun _ h9 => h9) rfl dX0_lastPlace_1 ?_
  refine sn_if_le (tgt := 16) hx hb dX0_lastPlace_4 (by decide) hpi (fun c1 => ?_) (fun c1 => ?_)
  · refine lv_iconst (v := -1) hx hb dX0_lastPlace_16 ci_m1 ?_
    exact hret 17 ls locs _ dX0_lastPlace_17 hS ((if_pos c1).symm)
  · refine lv_aload_n hx hb dX0_lastPlace_7 rfl (lv_at hl 0 rfl) ?_
    refine va_get (ci := 0) (C := RX0) (T := TX0) (N := 8) hx hb hts hinX0 hown hK hP 16 cl16 rfl 4 (by decide) k33 (fun _ h9 => h9) rfl dX0_lastPlace_8 ?_
    refine lv_iconst (v := nI 1) hx hb dX0_lastPlace_11 ci_1 ?_
    refine lv_isub hx hb dX0_lastPlace_12 ?_
    refine sv_top (y := nI (pi - 1)) (pk_sub (by omega)) ?_
    refine lv_goto (tgt := 17) hx hb dX0_lastPlace_13 (by decide) ?_
    exact hret 17 ls locs _ dX0_lastPlace_17 hS ((if_neg c1).symm)
set_option maxHeartbeats 4000000 in
set_option maxRecDepth 100000 in
theorem c_X0_partsIn {l : Launch} {D : va_G} {ky : kT} {Hs : Heap} {ws : va_W} (hP : va_P D CL ws Hs) {h hp j1 j2 : Nat} {J K : Nat → Nat} {bg : Bool} {pi bu : Nat} {tm tl : Int32} (hcl : isCell ky ws h hp j1 j2 J K bg pi bu tm tl) : PI l yX0_partsIn wsX0_partsIn 0 0 D ky Hs [.ref h] (nI bu) := by
  refine PI.of (cc := cX0_partsIn) (maxL := 1) (ty := .int) (by decide) rfl rfl (Nat.le_of_ble_eq_true rfl) ?_
  intro pg en Rm sg mi av below meth co Qo hRf hRl hx hb hml hown hts hK hret ls hl
  have hl : lv_has ls 1 [(0, .ref h)] := hl
  have hS : va_S (fun _ => False) Hs Hs [] := va_S.rf
  generalize ([] : List Loc) = locs at hS ⊢
  obtain ⟨cl16, cl17, cl18⟩ := id hcl
  have k36 := hts (.fieldLink RX0 36 "AssemblyPlanner$Cell" "in" "I") (by decide +kernel)
  have hinX0 : ∀ w ∈ wsX00, w ∈ wsX0_partsIn := by decide +kernel
  refine lv_aload_n hx hb dX0_partsIn_0 rfl (lv_at hl 0 rfl) ?_
  refine va_get (ci := 0) (C := RX0) (T := TX0) (N := 8) hx hb hts hinX0 hown hK hP 16 cl16 rfl 5 (by decide) k36 (fun _ h9 => h9) rfl dX0_partsIn_1 ?_
  exact hret 4 ls locs _ dX0_partsIn_4 hS (rfl)
set_option maxHeartbeats 4000000 in
set_option maxRecDepth 100000 in
theorem c_X0_timeSinceStart {l : Launch} {D : va_G} {ky : kT} {Hs : Heap} {ws : va_W} (hP : va_P D CL ws Hs) {h hp j1 j2 : Nat} {J K : Nat → Nat} {bg : Bool} {pi bu : Nat} {tm tl : Int32} (hcl : isCell ky ws h hp j1 j2 J K bg pi bu tm tl) : PI l yX0_timeSinceStart wsX0_timeSinceStart 0 0 D ky Hs [.ref h] (tm) := by
  refine PI.of (cc := cX0_timeSinceStart) (maxL := 1) (ty := .int) (by decide) rfl rfl (Nat.le_of_ble_eq_true rfl) ?_
  intro pg en Rm sg mi av below meth co Qo hRf hRl hx hb hml hown hts hK hret ls hl
  have hl : lv_has ls 1 [(0, .ref h)] := hl
  have hS : va_S (fun _ => False) Hs Hs [] := va_S.rf
  generalize ([] : List Loc) = locs at hS ⊢
  obtain ⟨cl16, cl17, cl18⟩ := id hcl
  have k39 := hts (.fieldLink RX0 39 "AssemblyPlanner$Cell" "time" "I") (by decide +kernel)
  have hinX0 : ∀ w ∈ wsX00, w ∈ wsX0_timeSinceStart := by decide +kernel
  refine lv_aload_n hx hb dX0_timeSinceStart_0 rfl (lv_at hl 0 rfl) ?_
  refine va_get (ci := 0) (C := RX0) (T := TX0) (N := 8) hx hb hts hinX0 hown hK hP 16 cl16 rfl 6 (by decide) k39 (fun _ h9 => h9) rfl dX0_timeSinceStart_1 ?_
  exact hret 4 ls locs _ dX0_timeSinceStart_4 hS (rfl)
set_option maxHeartbeats 4000000 in
set_option maxRecDepth 100000 in
theorem c_X0_toolMounted {l : Launch} {D : va_G} {ky : kT} {Hs : Heap} {ws : va_W} (hP : va_P D CL ws Hs) {h hp j1 j2 : Nat} {J K : Nat → Nat} {bg : Bool} {pi bu : Nat} {tm tl : Int32} (hcl : isCell ky ws h hp j1 j2 J K bg pi bu tm tl) : PI l yX0_toolMounted wsX0_toolMounted 0 0 D ky Hs [.ref h] (tl) := by
  refine PI.of (cc := cX0_toolMounted) (maxL := 1) (ty := .int) (by decide) rfl rfl (Nat.le_of_ble_eq_true rfl) ?_
  intro pg en Rm sg mi av below meth co Qo hRf hRl hx hb hml hown hts hK hret ls hl
  have hl : lv_has ls 1 [(0, .ref h)] := hl
  have hS : va_S (fun _ => False) Hs Hs [] := va_S.rf
  generalize ([] : List Loc) = locs at hS ⊢
  obtain ⟨cl16, cl17, cl18⟩ := id hcl
  have k18 := hts (.fieldLink RX0 18 "AssemblyPlanner$Cell" "tool" "I") (by decide +kernel)
  have hinX0 : ∀ w ∈ wsX00, w ∈ wsX0_toolMounted := by decide +kernel
  refine lv_aload_n hx hb dX0_toolMounted_0 rfl (lv_at hl 0 rfl) ?_
  refine va_get (ci := 0) (C := RX0) (T := TX0) (N := 8) hx hb hts hinX0 hown hK hP 16 cl16 rfl 7 (by decide) k18 (fun _ h9 => h9) rfl dX0_toolMounted_1 ?_
  exact hret 4 ls locs _ dX0_toolMounted_4 hS (rfl)
set_option maxHeartbeats 4000000 in
set_option maxRecDepth 100000 in
theorem c_X0_bypassed {l : Launch} {D : va_G} {ky : kT} {Hs : Heap} {ws : va_W} (hP : va_P D CL ws Hs) {h hp j1 j2 : Nat} {J K : Nat → Nat} {bg : Bool} {pi bu : Nat} {tm tl : Int32} (hcl : isCell ky ws h hp j1 j2 J K bg pi bu tm tl) {pt : Nat} (hp8 : pt < 8) (hK2 : K pt < 2 ^ 31) : PI l yX0_bypassed wsX0_bypassed 0 0 D ky Hs [.ref h, .int (nI pt)] (bI (decide (2 ≤ K pt))) := by
  refine PI.of (cc := cX0_bypassed) (maxL := 2) (ty := .boolean) (by decide) rfl (bI_nar _) (Nat.le_of_ble_eq_true rfl) ?_
  intro pg en Rm sg mi av below meth co Qo hRf hRl hx hb hml hown hts hK hret ls hl
  have hl : lv_has ls 2 [(0, .ref h), (1, .int (nI pt))] := hl
  have hS : va_S (fun _ => False) Hs Hs [] := va_S.rf
  generalize ([] : List Loc) = locs at hS ⊢
  obtain ⟨cl16, cl17, cl18⟩ := id hcl
  have k15 := hts (.fieldLink RX0 15 "AssemblyPlanner$Cell" "jamsSinceStart" "[I") (by decide +kernel)
  have hinX0 : ∀ w ∈ wsX00, w ∈ wsX0_bypassed := by decide +kernel
  refine lv_aload_n hx hb dX0_bypassed_0 rfl (lv_at hl 0 rfl) ?_
  refine va_get (ci := 0) (C := RX0) (T := TX0) (N := 8) hx hb hts hinX0 hown hK hP 16 cl16 rfl 2 (by decide) k15 (fun _ h9 => h9) rfl dX0_bypassed_1 ?_
  refine lv_iload_n hx hb dX0_bypassed_4 rfl (lv_at hl 1 rfl) ?_
  refine sv_iald hx hb hK hP 18 cl18 (j := pt) (by omega) (by decide) dX0_bypassed_5 ?_
  refine W.eq (g2 := F0 mi 6 ls (.int (nI (K pt)) :: [])) rfl ?_
  refine lv_iconst (v := nI 2) hx hb dX0_bypassed_6 ci_2 ?_
  refine sn_icmp_lt (tgt := 14) hx hb dX0_bypassed_7 (by decide) hK2 (by decide) (fun c1 => ?_) (fun c1 => ?_)
  · refine lv_iconst (v := nI 0) hx hb dX0_bypassed_14 ci_0 ?_
    exact hret 15 ls locs _ dX0_bypassed_15 hS (bI_f (decide_eq_false (Nat.not_le.mpr c1)))
  · refine lv_iconst (v := nI 1) hx hb dX0_bypassed_10 ci_1 ?_
    refine lv_goto (tgt := 15) hx hb dX0_bypassed_11 (by decide) ?_
    exact hret 15 ls locs _ dX0_bypassed_15 hS (bI_t (decide_eq_true c1))
set_option maxHeartbeats 4000000 in
set_option maxRecDepth 100000 in
theorem c_X0_mount {l : Launch} {D : va_G} {ky : kT} {A : Nat → Prop} {Hs : Heap} {ws : va_W} (hP : va_P D CL ws Hs) (hD : va_D A ws) {h hp j1 j2 : Nat} {J K : Nat → Nat} {bg : Bool} {pi bu : Nat} {tm tl : Int32} (hcl : isCell ky ws h hp j1 j2 J K bg pi bu tm tl) {x : Nat} : MV l yX0_mount wsX0_mount 0 0 0 0 D ky A Hs [.ref h, .int (nI x)] (fun w => isCell ky w h hp j1 j2 J K bg pi bu (tmM tm tl x) (nI x) ∧ fr ws w 16 18) := by
  refine MV.of (cc := cX0_mount) (maxL := 2) (by decide) rfl (Nat.le_of_ble_eq_true rfl) ?_
  intro pg en Rm sg mi av below meth co Qo hRf hRl hRc hRs hx hb hml hown hin hts hK hret ls hl
  have hl : lv_has ls 2 [(0, .ref h), (1, .int (nI x))] := hl
  have hS : va_S A Hs Hs [] := va_S.rf
  generalize ([] : List Loc) = locs at hS ⊢
  obtain ⟨cl16, cl17, cl18⟩ := id hcl
  have k18 := hts (.fieldLink RX0 18 "AssemblyPlanner$Cell" "tool" "I") (by decide +kernel)
  have hinX0 : ∀ w ∈ wsX00, w ∈ wsX0_mount := by decide +kernel
  have k39 := hts (.fieldLink RX0 39 "AssemblyPlanner$Cell" "time" "I") (by decide +kernel)
  refine lv_aload_n hx hb dX0_mount_0 rfl (lv_at hl 0 rfl) ?_
  refine va_get (ci := 0) (C := RX0) (T := TX0) (N := 8) hx hb hts hinX0 hown hK hP 16 cl16 rfl 7 (by decide) k18 (fun _ h9 => h9) rfl dX0_mount_1 ?_
  refine lv_iload_n hx hb dX0_mount_4 rfl (lv_at hl 1 rfl) ?_
  refine lv_icmp_eq (tgt := 23) hx hb dX0_mount_5 (by decide) (fun c1 => ?_) (fun c1 => ?_)
  · exact hret 23 ls _ _ locs dX0_mount_23 hP hD hS (by unfold tmM; rw [if_pos c1]; rw [c1] at cl16; exact ⟨⟨cl16, cl17, cl18⟩, fr.rf⟩)
  · refine lv_aload_n hx hb dX0_mount_8 rfl (lv_at hl 0 rfl) ?_
    refine lv_iload_n hx hb dX0_mount_9 rfl (lv_at hl 1 rfl) ?_
    refine sv_put (ci := 0) (C := RX0) (T := TX0) (N := 8) hx hb hts hinX0 tyX0 tyX0_ok nmX0 hown hK hP hD hS 16 cl16 rfl 7 (by decide) k18 (fun _ h9 => h9) rfl .int (by decide +kernel) rfl rfl [.ref hp, .ref j1, .ref j2, .int (bI bg), .int (nI pi), .int (nI bu), .int tm, .int (nI x)] (Nat.le_of_ble_eq_true rfl) rfl dX0_mount_10 (fun ws3 H locs hP hD hS cl16 fr2 => ?_)
    replace cl17 := (fr2 17 (by decide)).trans cl17
    replace cl18 := (fr2 18 (by decide)).trans cl18
    refine lv_aload_n hx hb dX0_mount_13 rfl (lv_at hl 0 rfl) ?_
    refine lv_dup hx hb dX0_mount_14 rfl ?_
    refine va_get (ci := 0) (C := RX0) (T := TX0) (N := 8) hx hb hts hinX0 hown hK hP 16 cl16 rfl 6 (by decide) k39 (fun _ h9 => h9) rfl dX0_mount_15 ?_
    refine lv_iconst (v := nI 5) hx hb dX0_mount_18 ci_5 ?_
    refine lv_iadd hx hb dX0_mount_19 ?_
    refine sv_put (ci := 0) (C := RX0) (T := TX0) (N := 8) hx hb hts hinX0 tyX0 tyX0_ok nmX0 hown hK hP hD hS 16 cl16 rfl 6 (by decide) k39 (fun _ h9 => h9) rfl .int (by decide +kernel) rfl rfl [.ref hp, .ref j1, .ref j2, .int (bI bg), .int (nI pi), .int (nI bu), .int (tm + (nI 5)), .int (nI x)] (Nat.le_of_ble_eq_true rfl) rfl dX0_mount_20 (fun ws5 H locs hP hD hS cl16 fr4 => ?_)
    replace cl17 := (fr4 17 (by decide)).trans cl17
    replace cl18 := (fr4 18 (by decide)).trans cl18
    exact hret 23 ls _ _ locs dX0_mount_23 hP hD hS (by unfold tmM; rw [if_neg c1]; exact ⟨⟨cl16, cl17, cl18⟩, ((fr.wd fr2 : fr _ _ 16 18).tr fr4)⟩)
set_option maxHeartbeats 4000000 in
set_option maxRecDepth 100000 in
theorem c_X0_clearJam {l : Launch} {D : va_G} {ky : kT} {A : Nat → Prop} {Hs : Heap} {ws : va_W} (hP : va_P D CL ws Hs) (hD : va_D A ws) {h hp j1 j2 : Nat} {J K : Nat → Nat} {bg : Bool} {pi bu : Nat} {tm tl : Int32} (hcl : isCell ky ws h hp j1 j2 J K bg pi bu tm tl) {pt : Nat} (hp8 : pt < 8) (hJ : ¬ J pt = 0) : MV l yX0_clearJam wsX0_clearJam 0 0 0 0 D ky A Hs [.ref h, .int (nI pt)] (fun w => isCell ky w h hp j1 j2 (upX J pt (J pt - 1)) (upX K pt (K pt + 1)) bg pi bu (tm + nI 3) tl ∧ fr ws w 16 18) := by
  refine MV.of (cc := cX0_clearJam) (maxL := 2) (by decide) rfl (Nat.le_of_ble_eq_true rfl) ?_
  intro pg en Rm sg mi av below meth co Qo hRf hRl hRc hRs hx hb hml hown hin hts hK hret ls hl
  have hl : lv_has ls 2 [(0, .ref h), (1, .int (nI pt))] := hl
  have hS : va_S A Hs Hs [] := va_S.rf
  generalize ([] : List Loc) = locs at hS ⊢
  obtain ⟨cl16, cl17, cl18⟩ := id hcl
  have k9 := hts (.fieldLink RX0 9 "AssemblyPlanner$Cell" "jamsToCome" "[I") (by decide +kernel)
  have hinX0 : ∀ w ∈ wsX00, w ∈ wsX0_clearJam := by decide +kernel
  have k15 := hts (.fieldLink RX0 15 "AssemblyPlanner$Cell" "jamsSinceStart" "[I") (by decide +kernel)
  have k39 := hts (.fieldLink RX0 39 "AssemblyPlanner$Cell" "time" "I") (by decide +kernel)
  refine lv_aload_n hx hb dX0_clearJam_0 rfl (lv_at hl 0 rfl) ?_
  refine va_get (ci := 0) (C := RX0) (T := TX0) (N := 8) hx hb hts hinX0 hown hK hP 16 cl16 rfl 1 (by decide) k9 (fun _ h9 => h9) rfl dX0_clearJam_1 ?_
  refine lv_iload_n hx hb dX0_clearJam_4 rfl (lv_at hl 1 rfl) ?_
  refine lv_dup2_11 hx hb dX0_clearJam_5 rfl rfl ?_
  refine sv_iald hx hb hK hP 17 cl17 (j := pt) (by omega) (by decide) dX0_clearJam_6 ?_
  refine W.eq (g2 := F0 mi 7 ls (.int (nI (J pt)) :: [.int (nI pt), .ref j1])) rfl ?_
  refine lv_iconst (v := nI 1) hx hb dX0_clearJam_7 ci_1 ?_
  refine lv_isub hx hb dX0_clearJam_8 ?_
  refine sv_top (y := nI ((J pt) - 1)) (pk_sub (by omega)) ?_
  refine sv_iast hx hb hK hP hD hS 17 cl17 (j := pt) (by omega) (by decide) dX0_clearJam_9 (fun ws2 H locs hP hD hS cl17 fr1 => ?_)
  replace cl16 := (fr1 16 (by decide)).trans cl16
  replace cl18 := (fr1 18 (by decide)).trans cl18
  rw [upd_N] at cl17
  refine lv_aload_n hx hb dX0_clearJam_10 rfl (lv_at hl 0 rfl) ?_
  refine va_get (ci := 0) (C := RX0) (T := TX0) (N := 8) hx hb hts hinX0 hown hK hP 16 cl16 rfl 2 (by decide) k15 (fun _ h9 => h9) rfl dX0_clearJam_11 ?_
  refine lv_iload_n hx hb dX0_clearJam_14 rfl (lv_at hl 1 rfl) ?_
  refine lv_dup2_11 hx hb dX0_clearJam_15 rfl rfl ?_
  refine sv_iald hx hb hK hP 18 cl18 (j := pt) (by omega) (by decide) dX0_clearJam_16 ?_
  refine W.eq (g2 := F0 mi 17 ls (.int (nI (K pt)) :: [.int (nI pt), .ref j2])) rfl ?_
  refine lv_iconst (v := nI 1) hx hb dX0_clearJam_17 ci_1 ?_
  refine lv_iadd hx hb dX0_clearJam_18 ?_
  refine sv_top (y := nI ((K pt) + 1)) (nI_add _ _) ?_
  refine sv_iast hx hb hK hP hD hS 18 cl18 (j := pt) (by omega) (by decide) dX0_clearJam_19 (fun ws4 H locs hP hD hS cl18 fr3 => ?_)
  replace cl16 := (fr3 16 (by decide)).trans cl16
  replace cl17 := (fr3 17 (by decide)).trans cl17
  rw [upd_N] at cl18
  refine lv_aload_n hx hb dX0_clearJam_20 rfl (lv_at hl 0 rfl) ?_
  refine lv_dup hx hb dX0_clearJam_21 rfl ?_
  refine va_get (ci := 0) (C := RX0) (T := TX0) (N := 8) hx hb hts hinX0 hown hK hP 16 cl16 rfl 6 (by decide) k39 (fun _ h9 => h9) rfl dX0_clearJam_22 ?_
  refine lv_iconst (v := nI 3) hx hb dX0_clearJam_25 ci_3 ?_
  refine lv_iadd hx hb dX0_clearJam_26 ?_
  refine sv_put (ci := 0) (C := RX0) (T := TX0) (N := 8) hx hb hts hinX0 tyX0 tyX0_ok nmX0 hown hK hP hD hS 16 cl16 rfl 6 (by decide) k39 (fun _ h9 => h9) rfl .int (by decide +kernel) rfl rfl [.ref hp, .ref j1, .ref j2, .int (bI bg), .int (nI pi), .int (nI bu), .int (tm + (nI 3)), .int tl] (Nat.le_of_ble_eq_true rfl) rfl dX0_clearJam_27 (fun ws6 H locs hP hD hS cl16 fr5 => ?_)
  replace cl17 := (fr5 17 (by decide)).trans cl17
  replace cl18 := (fr5 18 (by decide)).trans cl18
  exact hret 30 ls _ _ locs dX0_clearJam_30 hP hD hS (⟨⟨cl16, cl17, cl18⟩, (((fr.wd fr1 : fr _ _ 16 18).tr fr3).tr fr5)⟩)
set_option maxHeartbeats 4000000 in
set_option maxRecDepth 100000 in
theorem c_X0_putIn {l : Launch} {D : va_G} {ky : kT} {A : Nat → Prop} {Hs : Heap} {ws : va_W} (hP : va_P D CL ws Hs) (hD : va_D A ws) {h hp j1 j2 : Nat} {J K : Nat → Nat} {bg : Bool} {pi bu : Nat} {tm tl : Int32} (hcl : isCell ky ws h hp j1 j2 J K bg pi bu tm tl) {n : Nat} {T C Hd : Nat → Nat} {b : Nat} {q : Bool} (hpr : isProd ky ws hp n T C Hd b q) (hI : PI0 n C Hd b) {pt : Nat} (hp8 : pt < 8) : MV l yX0_putIn wsX0_putIn 1 24 0 0 D ky A Hs [.ref h, .int (nI pt)] (fun w => isCell ky w h hp j1 j2 J K bg (pi + 1) (bu ||| 2 ^ pt) (tmP tm Hd (bu ||| 2 ^ pt) pt) tl ∧ fr ws w 16 18) := by
  refine MV.of (cc := cX0_putIn) (maxL := 3) (by decide) rfl (Nat.le_of_ble_eq_true rfl) ?_
  intro pg en Rm sg mi av below meth co Qo hRf hRl hRc hRs hx hb hml hown hin hts hK hret ls hl
  have hl : lv_has ls 3 [(0, .ref h), (1, .int (nI pt))] := hl
  have hS : va_S A Hs Hs [] := va_S.rf
  generalize ([] : List Loc) = locs at hS ⊢
  obtain ⟨cl16, cl17, cl18⟩ := id hcl
  obtain ⟨a1, a2, a3, f1, f2, f3, f4⟩ := id hpr
  have hn8 := hI.1
  have k36 := hts (.fieldLink RX0 36 "AssemblyPlanner$Cell" "in" "I") (by decide +kernel)
  have hinX0 : ∀ w ∈ wsX00, w ∈ wsX0_putIn := by decide +kernel
  have k33 := hts (.fieldLink RX0 33 "AssemblyPlanner$Cell" "placesIn" "I") (by decide +kernel)
  have k22 := hts (.fieldLink RX0 22 "AssemblyPlanner$Cell" "product" "LAssemblyPlanner$Product;") (by decide +kernel)
  have k39 := hts (.fieldLink RX0 39 "AssemblyPlanner$Cell" "time" "I") (by decide +kernel)
  refine lv_aload_n hx hb dX0_putIn_0 rfl (lv_at hl 0 rfl) ?_
  refine lv_dup hx hb dX0_putIn_1 rfl ?_
  refine va_get (ci := 0) (C := RX0) (T := TX0) (N := 8) hx hb hts hinX0 hown hK hP 16 cl16 rfl 5 (by decide) k36 (fun _ h9 => h9) rfl dX0_putIn_2 ?_
  refine lv_iconst (v := nI 1) hx hb dX0_putIn_5 ci_1 ?_
  refine lv_iload_n hx hb dX0_putIn_6 rfl (lv_at hl 1 rfl) ?_
  refine lv_ishl hx hb dX0_putIn_7 ?_
  refine sv_top (y := nI (2 ^ pt)) (sh_l1 (by omega)) ?_
  refine lv_ior hx hb dX0_putIn_8 ?_
  refine sv_top (y := nI (bu ||| (2 ^ pt))) (an_or _ _) ?_
  refine sv_put (ci := 0) (C := RX0) (T := TX0) (N := 8) hx hb hts hinX0 tyX0 tyX0_ok nmX0 hown hK hP hD hS 16 cl16 rfl 5 (by decide) k36 (fun _ h9 => h9) rfl .int (by decide +kernel) rfl rfl [.ref hp, .ref j1, .ref j2, .int (bI bg), .int (nI pi), .int (nI (bu ||| (2 ^ pt))), .int tm, .int tl] (Nat.le_of_ble_eq_true rfl) rfl dX0_putIn_9 (fun ws2 H locs hP hD hS cl16 fr1 => ?_)
  replace cl17 := (fr1 17 (by decide)).trans cl17
  replace cl18 := (fr1 18 (by decide)).trans cl18
  replace f1 := (fr1 1 (by decide)).trans f1
  replace f2 := (fr1 2 (by decide)).trans f2
  replace f3 := (fr1 3 (by decide)).trans f3
  replace f4 := (fr1 4 (by decide)).trans f4
  replace hpr := hpr.fr fr1
  refine lv_aload_n hx hb dX0_putIn_12 rfl (lv_at hl 0 rfl) ?_
  refine lv_dup hx hb dX0_putIn_13 rfl ?_
  refine va_get (ci := 0) (C := RX0) (T := TX0) (N := 8) hx hb hts hinX0 hown hK hP 16 cl16 rfl 4 (by decide) k33 (fun _ h9 => h9) rfl dX0_putIn_14 ?_
  refine lv_iconst (v := nI 1) hx hb dX0_putIn_17 ci_1 ?_
  refine lv_iadd hx hb dX0_putIn_18 ?_
  refine sv_top (y := nI (pi + 1)) (nI_add _ _) ?_
  refine sv_put (ci := 0) (C := RX0) (T := TX0) (N := 8) hx hb hts hinX0 tyX0 tyX0_ok nmX0 hown hK hP hD hS 16 cl16 rfl 4 (by decide) k33 (fun _ h9 => h9) rfl .int (by decide +kernel) rfl rfl [.ref hp, .ref j1, .ref j2, .int (bI bg), .int (nI (pi + 1)), .int (nI (bu ||| (2 ^ pt))), .int tm, .int tl] (Nat.le_of_ble_eq_true rfl) rfl dX0_putIn_19 (fun ws4 H locs hP hD hS cl16 fr3 => ?_)
  replace cl17 := (fr3 17 (by decide)).trans cl17
  replace cl18 := (fr3 18 (by decide)).trans cl18
  replace f1 := (fr3 1 (by decide)).trans f1
  replace f2 := (fr3 2 (by decide)).trans f2
  replace f3 := (fr3 3 (by decide)).trans f3
  replace f4 := (fr3 4 (by decide)).trans f4
  replace hpr := hpr.fr fr3
  refine lv_aload_n hx hb dX0_putIn_22 rfl (lv_at hl 0 rfl) ?_
  refine va_get (ci := 0) (C := RX0) (T := TX0) (N := 8) hx hb hts hinX0 hown hK hP 16 cl16 rfl 0 (by decide) k22 (fun _ h9 => h9) rfl dX0_putIn_23 ?_
  refine lv_aload_n hx hb dX0_putIn_26 rfl (lv_at hl 0 rfl) ?_
  refine va_get (ci := 0) (C := RX0) (T := TX0) (N := 8) hx hb hts hinX0 hown hK hP 16 cl16 rfl 5 (by decide) k36 (fun _ h9 => h9) rfl dX0_putIn_27 ?_
  refine lv_iload_n hx hb dX0_putIn_30 rfl (lv_at hl 1 rfl) ?_
  refine pcV (c_X3_freeDirections hP hpr hI hp8) ⟨hx, hb, hml, hown, hts⟩ hK gX0_putIn_X3_freeDirections rfl hd_X3_freeDirections ⟨by omega, by omega⟩ (va_recv hK hP (ci := 3) (q0 := 1) rfl f1) rfl hl.1 rfl (Nat.le_of_ble_eq_true rfl) dX0_putIn_31 ⟨Nat.zero_le _, Nat.zero_le _⟩ hS (fun locs hS => ?_)
  refine lv_bipush (v := nI 16) hx hb dX0_putIn_34 bi_16 ?_
  refine lv_iand hx hb dX0_putIn_36 ?_
  refine sv_top (y := nI ((frd Hd (bu ||| (2 ^ pt)) pt) &&& 16)) (an_and _ _) ?_
  refine sn_if_eq (tgt := 44) hx hb dX0_putIn_37 (by decide) (and_b1 (Nat.lt_trans (frd_lt _ _ _) (by decide))) (fun c5 => ?_) (fun c5 => ?_)
  · refine lv_iconst (v := nI 0) hx hb dX0_putIn_44 ci_0 ?_
    refine lv_istore_n (lv' := [(2, .int (nI 0)), (0, .ref h), (1, .int (nI pt))]) hx hb dX0_putIn_45 rfl hl (by decide) rfl (fun ls hl => ?_)
    refine lv_aload_n hx hb dX0_putIn_46 rfl (lv_at hl 1 rfl) ?_
    refine lv_dup hx hb dX0_putIn_47 rfl ?_
    refine va_get (ci := 0) (C := RX0) (T := TX0) (N := 8) hx hb hts hinX0 hown hK hP 16 cl16 rfl 6 (by decide) k39 (fun _ h9 => h9) rfl dX0_putIn_48 ?_
    refine lv_iload_n hx hb dX0_putIn_51 rfl (lv_at hl 0 rfl) ?_
    refine sn_if_eq (tgt := 59) hx hb dX0_putIn_52 (by decide) (by decide) (fun _ => ?_) (fun q => absurd q (by decide))
    refine lv_iconst (v := nI 2) hx hb dX0_putIn_59 ci_2 ?_
    refine lv_iadd hx hb dX0_putIn_60 ?_
    refine sv_put (ci := 0) (C := RX0) (T := TX0) (N := 8) hx hb hts hinX0 tyX0 tyX0_ok nmX0 hown hK hP hD hS 16 cl16 rfl 6 (by decide) k39 (fun _ h9 => h9) rfl .int (by decide +kernel) rfl rfl [.ref hp, .ref j1, .ref j2, .int (bI bg), .int (nI (pi + 1)), .int (nI (bu ||| (2 ^ pt))), .int (tm + (nI 2)), .int tl] (Nat.le_of_ble_eq_true rfl) rfl dX0_putIn_61 (fun ws8 H locs hP hD hS cl16 fr7 => ?_)
    replace cl17 := (fr7 17 (by decide)).trans cl17
    replace cl18 := (fr7 18 (by decide)).trans cl18
    replace f1 := (fr7 1 (by decide)).trans f1
    replace f2 := (fr7 2 (by decide)).trans f2
    replace f3 := (fr7 3 (by decide)).trans f3
    replace f4 := (fr7 4 (by decide)).trans f4
    replace hpr := hpr.fr fr7
    exact hret 64 ls _ _ locs dX0_putIn_64 hP hD hS (by unfold tmP; rw [if_neg ((frd_up _ _ _).mp c5)]; exact ⟨⟨cl16, cl17, cl18⟩, (((fr.wd fr1 : fr _ _ 16 18).tr fr3).tr fr7)⟩)
  · refine lv_iconst (v := nI 1) hx hb dX0_putIn_40 ci_1 ?_
    refine lv_goto (tgt := 45) hx hb dX0_putIn_41 (by decide) ?_
    refine lv_istore_n (lv' := [(2, .int (nI 1)), (0, .ref h), (1, .int (nI pt))]) hx hb dX0_putIn_45 rfl hl (by decide) rfl (fun ls hl => ?_)
    refine lv_aload_n hx hb dX0_putIn_46 rfl (lv_at hl 1 rfl) ?_
    refine lv_dup hx hb dX0_putIn_47 rfl ?_
    refine va_get (ci := 0) (C := RX0) (T := TX0) (N := 8) hx hb hts hinX0 hown hK hP 16 cl16 rfl 6 (by decide) k39 (fun _ h9 => h9) rfl dX0_putIn_48 ?_
    refine lv_iload_n hx hb dX0_putIn_51 rfl (lv_at hl 0 rfl) ?_
    refine sn_if_eq (tgt := 59) hx hb dX0_putIn_52 (by decide) (by decide) (fun q => absurd q (by decide)) (fun _ => ?_)
    refine lv_iconst (v := nI 1) hx hb dX0_putIn_55 ci_1 ?_
    refine lv_goto (tgt := 60) hx hb dX0_putIn_56 (by decide) ?_
    refine lv_iadd hx hb dX0_putIn_60 ?_
    refine sv_put (ci := 0) (C := RX0) (T := TX0) (N := 8) hx hb hts hinX0 tyX0 tyX0_ok nmX0 hown hK hP hD hS 16 cl16 rfl 6 (by decide) k39 (fun _ h9 => h9) rfl .int (by decide +kernel) rfl rfl [.ref hp, .ref j1, .ref j2, .int (bI bg), .int (nI (pi + 1)), .int (nI (bu ||| (2 ^ pt))), .int (tm + (nI 1)), .int tl] (Nat.le_of_ble_eq_true rfl) rfl dX0_putIn_61 (fun ws11 H locs hP hD hS cl16 fr10 => ?_)
    replace cl17 := (fr10 17 (by decide)).trans cl17
    replace cl18 := (fr10 18 (by decide)).trans cl18
    replace f1 := (fr10 1 (by decide)).trans f1
    replace f2 := (fr10 2 (by decide)).trans f2
    replace f3 := (fr10 3 (by decide)).trans f3
    replace f4 := (fr10 4 (by decide)).trans f4
    replace hpr := hpr.fr fr10
    exact hret 64 ls _ _ locs dX0_putIn_64 hP hD hS (by unfold tmP; rw [if_pos (Decidable.of_not_not (fun q => c5 ((frd_up _ _ _).mpr q)))]; exact ⟨⟨cl16, cl17, cl18⟩, (((fr.wd fr1 : fr _ _ 16 18).tr fr3).tr fr10)⟩)
def jm (J K : Nat → Nat) (p : Nat) : Bool := decide (¬ J p = 0) && !decide (2 ≤ K p)
set_option maxHeartbeats 4000000 in
set_option maxRecDepth 100000 in
theorem c_X0_tryToPutIn {l : Launch} {D : va_G} {ky : kT} {A : Nat → Prop} {Hs : Heap} {ws : va_W} (hP : va_P D CL ws Hs) (hD : va_D A ws) {h hp j1 j2 : Nat} {J K : Nat → Nat} {bg : Bool} {pi bu : Nat} {tm tl : Int32} (hcl : isCell ky ws h hp j1 j2 J K bg pi bu tm tl) {n : Nat} {T C Hd : Nat → Nat} {b : Nat} {q : Bool} (hpr : isProd ky ws hp n T C Hd b q) (hI : PI0 n C Hd b) {pt : Nat} (hp8 : pt < 8) (hJ2 : J pt < 2 ^ 31) (hK2 : K pt < 2 ^ 31) : MU l yX0_tryToPutIn wsX0_tryToPutIn 2 46 0 0 D ky A Hs [.ref h, .int (nI pt)] (fun r w => ((jm J K pt = true ∧ r = nI 0 ∧ isCell ky w h hp j1 j2 (upX J pt (J pt - 1)) (upX K pt (K pt + 1)) bg pi bu (tmM tm tl (T pt) + nI 3) (nI (T pt))) ∨ (jm J K pt = false ∧ r = nI 1 ∧ isCell ky w h hp j1 j2 J K bg (pi + 1) (bu ||| 2 ^ pt) (tmP (tmM tm tl (T pt) + (if 2 ≤ K pt then nI 4 else nI 1)) Hd (bu ||| 2 ^ pt) pt) (nI (T pt)))) ∧ fr ws w 16 18) := by
  refine MU.of (cc := cX0_tryToPutIn) (maxL := 2) (ty := .boolean) (by decide) rfl (Nat.le_of_ble_eq_true rfl) ?_
  intro pg en Rm sg mi av below meth co Qo hRf hRl hRc hRs hx hb hml hown hts hK hret ls hl
  have hl : lv_has ls 2 [(0, .ref h), (1, .int (nI pt))] := hl
  have hS : va_S A Hs Hs [] := va_S.rf
  generalize ([] : List Loc) = locs at hS ⊢
  obtain ⟨cl16, cl17, cl18⟩ := id hcl
  obtain ⟨a1, a2, a3, f1, f2, f3, f4⟩ := id hpr
  have hn8 := hI.1
  have k22 := hts (.fieldLink RX0 22 "AssemblyPlanner$Cell" "product" "LAssemblyPlanner$Product;") (by decide +kernel)
  have hinX0 : ∀ w ∈ wsX00, w ∈ wsX0_tryToPutIn := by decide +kernel
  have k9 := hts (.fieldLink RX0 9 "AssemblyPlanner$Cell" "jamsToCome" "[I") (by decide +kernel)
  have k39 := hts (.fieldLink RX0 39 "AssemblyPlanner$Cell" "time" "I") (by decide +kernel)
  refine lv_aload_n hx hb dX0_tryToPutIn_0 rfl (lv_at hl 0 rfl) ?_
  refine lv_aload_n hx hb dX0_tryToPutIn_1 rfl (lv_at hl 0 rfl) ?_
  refine va_get (ci := 0) (C := RX0) (T := TX0) (N := 8) hx hb hts hinX0 hown hK hP 16 cl16 rfl 0 (by decide) k22 (fun _ h9 => h9) rfl dX0_tryToPutIn_2 ?_
  refine lv_iload_n hx hb dX0_tryToPutIn_5 rfl (lv_at hl 1 rfl) ?_
  refine pcV (c_X3_tool hP hpr hI (by omega)) ⟨hx, hb, hml, hown, hts⟩ hK gX0_tryToPutIn_X3_tool rfl hd_X3_tool ⟨by omega, by omega⟩ (va_recv hK hP (ci := 3) (q0 := 1) rfl f1) rfl hl.1 rfl (Nat.le_of_ble_eq_true rfl) dX0_tryToPutIn_6 ⟨Nat.zero_le _, Nat.zero_le _⟩ hS (fun locs hS => ?_)
  refine mvV (c_X0_mount hP hD ⟨cl16, cl17, cl18⟩) ⟨hx, hb, hml, hown, hts⟩ hK gX0_tryToPutIn_X0_mount rfl hd_X0_mount ⟨by omega, by omega⟩ (va_recv hK hP (ci := 0) (q0 := 16) rfl cl16) rfl hl.1 rfl (Nat.le_of_ble_eq_true rfl) dX0_tryToPutIn_9 ⟨Nat.zero_le _, Nat.zero_le _⟩ hS (fun ws1 H locs hq3 hP hD hS => ?_)
  obtain ⟨hcl, fr2⟩ := hq3
  replace f1 := (fr2 1 (by decide)).trans f1
  replace f2 := (fr2 2 (by decide)).trans f2
  replace f3 := (fr2 3 (by decide)).trans f3
  replace f4 := (fr2 4 (by decide)).trans f4
  replace hpr := hpr.fr fr2
  obtain ⟨cl16, cl17, cl18⟩ := id hcl
  refine lv_aload_n hx hb dX0_tryToPutIn_12 rfl (lv_at hl 0 rfl) ?_
  refine va_get (ci := 0) (C := RX0) (T := TX0) (N := 8) hx hb hts hinX0 hown hK hP 16 cl16 rfl 1 (by decide) k9 (fun _ h9 => h9) rfl dX0_tryToPutIn_13 ?_
  refine lv_iload_n hx hb dX0_tryToPutIn_16 rfl (lv_at hl 1 rfl) ?_
  refine sv_iald hx hb hK hP 17 cl17 (j := pt) (by omega) (by decide) dX0_tryToPutIn_17 ?_
  refine W.eq (g2 := F0 mi 18 ls (.int (nI (J pt)) :: [])) rfl ?_
  refine sn_if_le (tgt := 36) hx hb dX0_tryToPutIn_18 (by decide) hJ2 (fun c4 => ?_) (fun c4 => ?_)
  · refine lv_aload_n hx hb dX0_tryToPutIn_36 rfl (lv_at hl 0 rfl) ?_
    refine lv_dup hx hb dX0_tryToPutIn_37 rfl ?_
    refine va_get (ci := 0) (C := RX0) (T := TX0) (N := 8) hx hb hts hinX0 hown hK hP 16 cl16 rfl 6 (by decide) k39 (fun _ h9 => h9) rfl dX0_tryToPutIn_38 ?_
    refine lv_aload_n hx hb dX0_tryToPutIn_41 rfl (lv_at hl 0 rfl) ?_
    refine lv_iload_n hx hb dX0_tryToPutIn_42 rfl (lv_at hl 1 rfl) ?_
    refine pcV (c_X0_bypassed hP ⟨cl16, cl17, cl18⟩ (by omega) hK2) ⟨hx, hb, hml, hown, hts⟩ hK gX0_tryToPutIn_X0_bypassed rfl hd_X0_bypassed ⟨by omega, by omega⟩ (va_recv hK hP (ci := 0) (q0 := 16) rfl cl16) rfl hl.1 rfl (Nat.le_of_ble_eq_true rfl) dX0_tryToPutIn_43 ⟨Nat.zero_le _, Nat.zero_le _⟩ hS (fun locs hS => ?_)
    refine sb_if_eq (tgt := 53) hx hb dX0_tryToPutIn_46 (by decide) (fun c5 => ?_) (fun c5 => ?_)
    · refine lv_iconst (v := nI 1) hx hb dX0_tryToPutIn_53 ci_1 ?_
      refine lv_iadd hx hb dX0_tryToPutIn_54 ?_
      refine sv_put (ci := 0) (C := RX0) (T := TX0) (N := 8) hx hb hts hinX0 tyX0 tyX0_ok nmX0 hown hK hP hD hS 16 cl16 rfl 6 (by decide) k39 (fun _ h9 => h9) rfl .int (by decide +kernel) rfl rfl [.ref hp, .ref j1, .ref j2, .int (bI bg), .int (nI pi), .int (nI bu), .int ((tmM tm tl (T pt)) + (nI 1)), .int ((nI (T pt)))] (Nat.le_of_ble_eq_true rfl) rfl dX0_tryToPutIn_55 (fun ws7 H locs hP hD hS cl16 fr6 => ?_)
      replace cl17 := (fr6 17 (by decide)).trans cl17
      replace cl18 := (fr6 18 (by decide)).trans cl18
      replace f1 := (fr6 1 (by decide)).trans f1
      replace f2 := (fr6 2 (by decide)).trans f2
      replace f3 := (fr6 3 (by decide)).trans f3
      replace f4 := (fr6 4 (by decide)).trans f4
      replace hpr := hpr.fr fr6
      refine lv_aload_n hx hb dX0_tryToPutIn_58 rfl (lv_at hl 0 rfl) ?_
      refine lv_iload_n hx hb dX0_tryToPutIn_59 rfl (lv_at hl 1 rfl) ?_
      refine mvV (c_X0_putIn hP hD ⟨cl16, cl17, cl18⟩ hpr hI (by omega)) ⟨hx, hb, hml, hown, hts⟩ hK gX0_tryToPutIn_X0_putIn rfl hd_X0_putIn ⟨by omega, by omega⟩ (va_recv hK hP (ci := 0) (q0 := 16) rfl cl16) rfl hl.1 rfl (Nat.le_of_ble_eq_true rfl) dX0_tryToPutIn_60 ⟨Nat.zero_le _, Nat.zero_le _⟩ hS (fun ws8 H locs hq10 hP hD hS => ?_)
      obtain ⟨hcl, fr9⟩ := hq10
      replace f1 := (fr9 1 (by decide)).trans f1
      replace f2 := (fr9 2 (by decide)).trans f2
      replace f3 := (fr9 3 (by decide)).trans f3
      replace f4 := (fr9 4 (by decide)).trans f4
      replace hpr := hpr.fr fr9
      obtain ⟨cl16, cl17, cl18⟩ := id hcl
      refine lv_iconst (v := nI 1) hx hb dX0_tryToPutIn_63 ci_1 ?_
      exact hret 64 ls _ _ locs _ dX0_tryToPutIn_64 hP hD hS rfl (⟨Or.inr ⟨by unfold jm; rw [decide_eq_false (fun q => q c4)]; rfl, rfl, by rw [if_neg (of_decide_eq_false c5)]; exact hcl⟩, (((fr.wd fr2 : fr _ _ 16 18).tr fr6).tr fr9)⟩)
    · refine lv_iconst (v := nI 4) hx hb dX0_tryToPutIn_49 ci_4 ?_
      refine lv_goto (tgt := 54) hx hb dX0_tryToPutIn_50 (by decide) ?_
      refine lv_iadd hx hb dX0_tryToPutIn_54 ?_
      refine sv_put (ci := 0) (C := RX0) (T := TX0) (N := 8) hx hb hts hinX0 tyX0 tyX0_ok nmX0 hown hK hP hD hS 16 cl16 rfl 6 (by decide) k39 (fun _ h9 => h9) rfl .int (by decide +kernel) rfl rfl [.ref hp, .ref j1, .ref j2, .int (bI bg), .int (nI pi), .int (nI bu), .int ((tmM tm tl (T pt)) + (nI 4)), .int ((nI (T pt)))] (Nat.le_of_ble_eq_true rfl) rfl dX0_tryToPutIn_55 (fun ws12 H locs hP hD hS cl16 fr11 => ?_)
      replace cl17 := (fr11 17 (by decide)).trans cl17
      replace cl18 := (fr11 18 (by decide)).trans cl18
      replace f1 := (fr11 1 (by decide)).trans f1
      replace f2 := (fr11 2 (by decide)).trans f2
      replace f3 := (fr11 3 (by decide)).trans f3
      replace f4 := (fr11 4 (by decide)).trans f4
      replace hpr := hpr.fr fr11
      refine lv_aload_n hx hb dX0_tryToPutIn_58 rfl (lv_at hl 0 rfl) ?_
      refine lv_iload_n hx hb dX0_tryToPutIn_59 rfl (lv_at hl 1 rfl) ?_
      refine mvV (c_X0_putIn hP hD ⟨cl16, cl17, cl18⟩ hpr hI (by omega)) ⟨hx, hb, hml, hown, hts⟩ hK gX0_tryToPutIn_X0_putIn rfl hd_X0_putIn ⟨by omega, by omega⟩ (va_recv hK hP (ci := 0) (q0 := 16) rfl cl16) rfl hl.1 rfl (Nat.le_of_ble_eq_true rfl) dX0_tryToPutIn_60 ⟨Nat.zero_le _, Nat.zero_le _⟩ hS (fun ws13 H locs hq15 hP hD hS => ?_)
      obtain ⟨hcl, fr14⟩ := hq15
      replace f1 := (fr14 1 (by decide)).trans f1
      replace f2 := (fr14 2 (by decide)).trans f2
      replace f3 := (fr14 3 (by decide)).trans f3
      replace f4 := (fr14 4 (by decide)).trans f4
      replace hpr := hpr.fr fr14
      obtain ⟨cl16, cl17, cl18⟩ := id hcl
      refine lv_iconst (v := nI 1) hx hb dX0_tryToPutIn_63 ci_1 ?_
      exact hret 64 ls _ _ locs _ dX0_tryToPutIn_64 hP hD hS rfl (⟨Or.inr ⟨by unfold jm; rw [decide_eq_false (fun q => q c4)]; rfl, rfl, by rw [if_pos (of_decide_eq_true c5)]; exact hcl⟩, (((fr.wd fr2 : fr _ _ 16 18).tr fr11).tr fr14)⟩)
  · refine lv_aload_n hx hb dX0_tryToPutIn_21 rfl (lv_at hl 0 rfl) ?_
    refine lv_iload_n hx hb dX0_tryToPutIn_22 rfl (lv_at hl 1 rfl) ?_
    refine pcV (c_X0_bypassed hP ⟨cl16, cl17, cl18⟩ (by omega) hK2) ⟨hx, hb, hml, hown, hts⟩ hK gX0_tryToPutIn_X0_bypassed rfl hd_X0_bypassed ⟨by omega, by omega⟩ (va_recv hK hP (ci := 0) (q0 := 16) rfl cl16) rfl hl.1 rfl (Nat.le_of_ble_eq_true rfl) dX0_tryToPutIn_23 ⟨Nat.zero_le _, Nat.zero_le _⟩ hS (fun locs hS => ?_)
    refine sb_if_ne (tgt := 36) hx hb dX0_tryToPutIn_26 (by decide) (fun c16 => ?_) (fun c16 => ?_)
    · refine lv_aload_n hx hb dX0_tryToPutIn_36 rfl (lv_at hl 0 rfl) ?_
      refine lv_dup hx hb dX0_tryToPutIn_37 rfl ?_
      refine va_get (ci := 0) (C := RX0) (T := TX0) (N := 8) hx hb hts hinX0 hown hK hP 16 cl16 rfl 6 (by decide) k39 (fun _ h9 => h9) rfl dX0_tryToPutIn_38 ?_
      refine lv_aload_n hx hb dX0_tryToPutIn_41 rfl (lv_at hl 0 rfl) ?_
      refine lv_iload_n hx hb dX0_tryToPutIn_42 rfl (lv_at hl 1 rfl) ?_
      refine pcV (c_X0_bypassed hP ⟨cl16, cl17, cl18⟩ (by omega) hK2) ⟨hx, hb, hml, hown, hts⟩ hK gX0_tryToPutIn_X0_bypassed rfl hd_X0_bypassed ⟨by omega, by omega⟩ (va_recv hK hP (ci := 0) (q0 := 16) rfl cl16) rfl hl.1 rfl (Nat.le_of_ble_eq_true rfl) dX0_tryToPutIn_43 ⟨Nat.zero_le _, Nat.zero_le _⟩ hS (fun locs hS => ?_)
      refine sb_if_eq (tgt := 53) hx hb dX0_tryToPutIn_46 (by decide) (fun c17 => ?_) (fun c17 => ?_)
      · refine lv_iconst (v := nI 1) hx hb dX0_tryToPutIn_53 ci_1 ?_
        refine lv_iadd hx hb dX0_tryToPutIn_54 ?_
        refine sv_put (ci := 0) (C := RX0) (T := TX0) (N := 8) hx hb hts hinX0 tyX0 tyX0_ok nmX0 hown hK hP hD hS 16 cl16 rfl 6 (by decide) k39 (fun _ h9 => h9) rfl .int (by decide +kernel) rfl rfl [.ref hp, .ref j1, .ref j2, .int (bI bg), .int (nI pi), .int (nI bu), .int ((tmM tm tl (T pt)) + (nI 1)), .int ((nI (T pt)))] (Nat.le_of_ble_eq_true rfl) rfl dX0_tryToPutIn_55 (fun ws19 H locs hP hD hS cl16 fr18 => ?_)
        replace cl17 := (fr18 17 (by decide)).trans cl17
        replace cl18 := (fr18 18 (by decide)).trans cl18
        replace f1 := (fr18 1 (by decide)).trans f1
        replace f2 := (fr18 2 (by decide)).trans f2
        replace f3 := (fr18 3 (by decide)).trans f3
        replace f4 := (fr18 4 (by decide)).trans f4
        replace hpr := hpr.fr fr18
        refine lv_aload_n hx hb dX0_tryToPutIn_58 rfl (lv_at hl 0 rfl) ?_
        refine lv_iload_n hx hb dX0_tryToPutIn_59 rfl (lv_at hl 1 rfl) ?_
        refine mvV (c_X0_putIn hP hD ⟨cl16, cl17, cl18⟩ hpr hI (by omega)) ⟨hx, hb, hml, hown, hts⟩ hK gX0_tryToPutIn_X0_putIn rfl hd_X0_putIn ⟨by omega, by omega⟩ (va_recv hK hP (ci := 0) (q0 := 16) rfl cl16) rfl hl.1 rfl (Nat.le_of_ble_eq_true rfl) dX0_tryToPutIn_60 ⟨Nat.zero_le _, Nat.zero_le _⟩ hS (fun ws20 H locs hq22 hP hD hS => ?_)
        obtain ⟨hcl, fr21⟩ := hq22
        replace f1 := (fr21 1 (by decide)).trans f1
        replace f2 := (fr21 2 (by decide)).trans f2
        replace f3 := (fr21 3 (by decide)).trans f3
        replace f4 := (fr21 4 (by decide)).trans f4
        replace hpr := hpr.fr fr21
        obtain ⟨cl16, cl17, cl18⟩ := id hcl
        refine lv_iconst (v := nI 1) hx hb dX0_tryToPutIn_63 ci_1 ?_
        exact hret 64 ls _ _ locs _ dX0_tryToPutIn_64 hP hD hS rfl (⟨Or.inr ⟨by unfold jm; rw [c16]; simp, rfl, by rw [if_neg (of_decide_eq_false c17)]; exact hcl⟩, (((fr.wd fr2 : fr _ _ 16 18).tr fr18).tr fr21)⟩)
      · refine lv_iconst (v := nI 4) hx hb dX0_tryToPutIn_49 ci_4 ?_
        refine lv_goto (tgt := 54) hx hb dX0_tryToPutIn_50 (by decide) ?_
        refine lv_iadd hx hb dX0_tryToPutIn_54 ?_
        refine sv_put (ci := 0) (C := RX0) (T := TX0) (N := 8) hx hb hts hinX0 tyX0 tyX0_ok nmX0 hown hK hP hD hS 16 cl16 rfl 6 (by decide) k39 (fun _ h9 => h9) rfl .int (by decide +kernel) rfl rfl [.ref hp, .ref j1, .ref j2, .int (bI bg), .int (nI pi), .int (nI bu), .int ((tmM tm tl (T pt)) + (nI 4)), .int ((nI (T pt)))] (Nat.le_of_ble_eq_true rfl) rfl dX0_tryToPutIn_55 (fun ws24 H locs hP hD hS cl16 fr23 => ?_)
        replace cl17 := (fr23 17 (by decide)).trans cl17
        replace cl18 := (fr23 18 (by decide)).trans cl18
        replace f1 := (fr23 1 (by decide)).trans f1
        replace f2 := (fr23 2 (by decide)).trans f2
        replace f3 := (fr23 3 (by decide)).trans f3
        replace f4 := (fr23 4 (by decide)).trans f4
        replace hpr := hpr.fr fr23
        refine lv_aload_n hx hb dX0_tryToPutIn_58 rfl (lv_at hl 0 rfl) ?_
        refine lv_iload_n hx hb dX0_tryToPutIn_59 rfl (lv_at hl 1 rfl) ?_
        refine mvV (c_X0_putIn hP hD ⟨cl16, cl17, cl18⟩ hpr hI (by omega)) ⟨hx, hb, hml, hown, hts⟩ hK gX0_tryToPutIn_X0_putIn rfl hd_X0_putIn ⟨by omega, by omega⟩ (va_recv hK hP (ci := 0) (q0 := 16) rfl cl16) rfl hl.1 rfl (Nat.le_of_ble_eq_true rfl) dX0_tryToPutIn_60 ⟨Nat.zero_le _, Nat.zero_le _⟩ hS (fun ws25 H locs hq27 hP hD hS => ?_)
        obtain ⟨hcl, fr26⟩ := hq27
        replace f1 := (fr26 1 (by decide)).trans f1
        replace f2 := (fr26 2 (by decide)).trans f2
        replace f3 := (fr26 3 (by decide)).trans f3
        replace f4 := (fr26 4 (by decide)).trans f4
        replace hpr := hpr.fr fr26
        obtain ⟨cl16, cl17, cl18⟩ := id hcl
        refine lv_iconst (v := nI 1) hx hb dX0_tryToPutIn_63 ci_1 ?_
        exact hret 64 ls _ _ locs _ dX0_tryToPutIn_64 hP hD hS rfl (⟨Or.inr ⟨by unfold jm; rw [c16]; simp, rfl, by rw [if_pos (of_decide_eq_true c17)]; exact hcl⟩, (((fr.wd fr2 : fr _ _ 16 18).tr fr23).tr fr26)⟩)
    · refine lv_aload_n hx hb dX0_tryToPutIn_29 rfl (lv_at hl 0 rfl) ?_
      refine lv_iload_n hx hb dX0_tryToPutIn_30 rfl (lv_at hl 1 rfl) ?_
      refine mvV (c_X0_clearJam hP hD ⟨cl16, cl17, cl18⟩ (by omega) c4) ⟨hx, hb, hml, hown, hts⟩ hK gX0_tryToPutIn_X0_clearJam rfl hd_X0_clearJam ⟨by omega, by omega⟩ (va_recv hK hP (ci := 0) (q0 := 16) rfl cl16) rfl hl.1 rfl (Nat.le_of_ble_eq_true rfl) dX0_tryToPutIn_31 ⟨Nat.zero_le _, Nat.zero_le _⟩ hS (fun ws28 H locs hq30 hP hD hS => ?_)
      obtain ⟨hcl, fr29⟩ := hq30
      replace f1 := (fr29 1 (by decide)).trans f1
      replace f2 := (fr29 2 (by decide)).trans f2
      replace f3 := (fr29 3 (by decide)).trans f3
      replace f4 := (fr29 4 (by decide)).trans f4
      replace hpr := hpr.fr fr29
      obtain ⟨cl16, cl17, cl18⟩ := id hcl
      refine lv_iconst (v := nI 0) hx hb dX0_tryToPutIn_34 ci_0 ?_
      exact hret 35 ls _ _ locs _ dX0_tryToPutIn_35 hP hD hS rfl (⟨Or.inl ⟨by unfold jm; rw [decide_eq_true c4, c16]; rfl, rfl, hcl⟩, ((fr.wd fr2 : fr _ _ 16 18).tr fr29)⟩)
set_option maxHeartbeats 4000000 in
set_option maxRecDepth 100000 in
theorem c_X0_takeOut {l : Launch} {D : va_G} {ky : kT} {A : Nat → Prop} {Hs : Heap} {ws : va_W} (hP : va_P D CL ws Hs) (hD : va_D A ws) {h hp j1 j2 : Nat} {J K : Nat → Nat} {bg : Bool} {pi bu : Nat} {tm tl : Int32} (hcl : isCell ky ws h hp j1 j2 J K bg pi bu tm tl) {pt : Nat} (hp8 : pt < 8) (hpi : 0 < pi) : MV l yX0_takeOut wsX0_takeOut 0 0 0 0 D ky A Hs [.ref h, .int (nI pt)] (fun w => isCell ky w h hp j1 j2 J K bg (pi - 1) (clr bu (2 ^ pt)) (tm + nI 2) tl ∧ fr ws w 16 18) := by
  refine MV.of (cc := cX0_takeOut) (maxL := 2) (by decide) rfl (Nat.le_of_ble_eq_true rfl) ?_
  intro pg en Rm sg mi av below meth co Qo hRf hRl hRc hRs hx hb hml hown hin hts hK hret ls hl
  have hl : lv_has ls 2 [(0, .ref h), (1, .int (nI pt))] := hl
  have hS : va_S A Hs Hs [] := va_S.rf
  generalize ([] : List Loc) = locs at hS ⊢
  obtain ⟨cl16, cl17, cl18⟩ := id hcl
  have k36 := hts (.fieldLink RX0 36 "AssemblyPlanner$Cell" "in" "I") (by decide +kernel)
  have hinX0 : ∀ w ∈ wsX00, w ∈ wsX0_takeOut := by decide +kernel
  have k33 := hts (.fieldLink RX0 33 "AssemblyPlanner$Cell" "placesIn" "I") (by decide +kernel)
  have k39 := hts (.fieldLink RX0 39 "AssemblyPlanner$Cell" "time" "I") (by decide +kernel)
  refine lv_aload_n hx hb dX0_takeOut_0 rfl (lv_at hl 0 rfl) ?_
  refine lv_dup hx hb dX0_takeOut_1 rfl ?_
  refine va_get (ci := 0) (C := RX0) (T := TX0) (N := 8) hx hb hts hinX0 hown hK hP 16 cl16 rfl 5 (by decide) k36 (fun _ h9 => h9) rfl dX0_takeOut_2 ?_
  refine lv_iconst (v := nI 1) hx hb dX0_takeOut_5 ci_1 ?_
  refine lv_iload_n hx hb dX0_takeOut_6 rfl (lv_at hl 1 rfl) ?_
  refine lv_ishl hx hb dX0_takeOut_7 ?_
  refine sv_top (y := nI (2 ^ pt)) (sh_l1 (by omega)) ?_
  refine lv_iconst (v := -1) hx hb dX0_takeOut_8 ci_m1 ?_
  refine lv_ixor hx hb dX0_takeOut_9 ?_
  refine lv_iand hx hb dX0_takeOut_10 ?_
  refine sv_top (y := nI (clr bu (2 ^ pt))) (an_not _ _) ?_
  refine sv_put (ci := 0) (C := RX0) (T := TX0) (N := 8) hx hb hts hinX0 tyX0 tyX0_ok nmX0 hown hK hP hD hS 16 cl16 rfl 5 (by decide) k36 (fun _ h9 => h9) rfl .int (by decide +kernel) rfl rfl [.ref hp, .ref j1, .ref j2, .int (bI bg), .int (nI pi), .int (nI (clr bu (2 ^ pt))), .int tm, .int tl] (Nat.le_of_ble_eq_true rfl) rfl dX0_takeOut_11 (fun ws2 H locs hP hD hS cl16 fr1 => ?_)
  replace cl17 := (fr1 17 (by decide)).trans cl17
  replace cl18 := (fr1 18 (by decide)).trans cl18
  refine lv_aload_n hx hb dX0_takeOut_14 rfl (lv_at hl 0 rfl) ?_
  refine lv_dup hx hb dX0_takeOut_15 rfl ?_
  refine va_get (ci := 0) (C := RX0) (T := TX0) (N := 8) hx hb hts hinX0 hown hK hP 16 cl16 rfl 4 (by decide) k33 (fun _ h9 => h9) rfl dX0_takeOut_16 ?_
  refine lv_iconst (v := nI 1) hx hb dX0_takeOut_19 ci_1 ?_
  refine lv_isub hx hb dX0_takeOut_20 ?_
  refine sv_top (y := nI (pi - 1)) (pk_sub (by omega)) ?_
  refine sv_put (ci := 0) (C := RX0) (T := TX0) (N := 8) hx hb hts hinX0 tyX0 tyX0_ok nmX0 hown hK hP hD hS 16 cl16 rfl 4 (by decide) k33 (fun _ h9 => h9) rfl .int (by decide +kernel) rfl rfl [.ref hp, .ref j1, .ref j2, .int (bI bg), .int (nI (pi - 1)), .int (nI (clr bu (2 ^ pt))), .int tm, .int tl] (Nat.le_of_ble_eq_true rfl) rfl dX0_takeOut_21 (fun ws4 H locs hP hD hS cl16 fr3 => ?_)
  replace cl17 := (fr3 17 (by decide)).trans cl17
  replace cl18 := (fr3 18 (by decide)).trans cl18
  refine lv_aload_n hx hb dX0_takeOut_24 rfl (lv_at hl 0 rfl) ?_
  refine lv_dup hx hb dX0_takeOut_25 rfl ?_
  refine va_get (ci := 0) (C := RX0) (T := TX0) (N := 8) hx hb hts hinX0 hown hK hP 16 cl16 rfl 6 (by decide) k39 (fun _ h9 => h9) rfl dX0_takeOut_26 ?_
  refine lv_iconst (v := nI 2) hx hb dX0_takeOut_29 ci_2 ?_
  refine lv_iadd hx hb dX0_takeOut_30 ?_
  refine sv_put (ci := 0) (C := RX0) (T := TX0) (N := 8) hx hb hts hinX0 tyX0 tyX0_ok nmX0 hown hK hP hD hS 16 cl16 rfl 6 (by decide) k39 (fun _ h9 => h9) rfl .int (by decide +kernel) rfl rfl [.ref hp, .ref j1, .ref j2, .int (bI bg), .int (nI (pi - 1)), .int (nI (clr bu (2 ^ pt))), .int (tm + (nI 2)), .int tl] (Nat.le_of_ble_eq_true rfl) rfl dX0_takeOut_31 (fun ws6 H locs hP hD hS cl16 fr5 => ?_)
  replace cl17 := (fr5 17 (by decide)).trans cl17
  replace cl18 := (fr5 18 (by decide)).trans cl18
  exact hret 34 ls _ _ locs dX0_takeOut_34 hP hD hS (⟨⟨cl16, cl17, cl18⟩, (((fr.wd fr1 : fr _ _ 16 18).tr fr3).tr fr5)⟩)

