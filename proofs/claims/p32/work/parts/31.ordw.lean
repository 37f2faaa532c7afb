theorem si_1000 : (Int16.ofInt 1000).toInt32 = nI 1000 := by decide +kernel
theorem hd_X1_change : yX1_change.cls ≠ "java/lang/invoke/MethodHandle" ∧ yX1_change.cls ≠ "java/lang/invoke/VarHandle" ∧ (parseMethodDescriptor yX1_change.desc).map (fun d => d.parameters.length) = some 2 := by decide +kernel
theorem hd_X1_changesWith : yX1_changesWith.cls = RX1 ∧ yX1_changesWith.cls ≠ "java/lang/invoke/MethodHandle" ∧ yX1_changesWith.cls ≠ "java/lang/invoke/VarHandle" ∧ (parseMethodDescriptor yX1_changesWith.desc).map (fun d => d.parameters.length) = some 3 := by decide +kernel
theorem hd_X1_leastNext : yX1_leastNext.cls = RX1 ∧ yX1_leastNext.cls ≠ "java/lang/invoke/MethodHandle" ∧ yX1_leastNext.cls ≠ "java/lang/invoke/VarHandle" ∧ (parseMethodDescriptor yX1_leastNext.desc).map (fun d => d.parameters.length) = some 3 := by decide +kernel
theorem hd_X3_count : yX3_count.cls = RX3 ∧ yX3_count.cls ≠ "java/lang/invoke/MethodHandle" ∧ yX3_count.cls ≠ "java/lang/invoke/VarHandle" ∧ (parseMethodDescriptor yX3_count.desc).map (fun d => d.parameters.length) = some 0 := by decide +kernel
set_option maxHeartbeats 4000000 in
set_option maxRecDepth 100000 in
theorem c_X1_change {l : Launch} {D : va_G} {ky : kT} {Hs : Heap} {x : Int32} {t : Nat} : PI l yX1_change wsX1_change 0 0 D ky Hs [.int x, .int (nI t)] (nI (chI x t)) := by
  refine PI.of (cc := cX1_change) (maxL := 2) (ty := .int) (by decide) rfl rfl (Nat.le_of_ble_eq_true rfl) ?_
  intro pg en Rm sg mi av below meth co Qo hRf hRl hx hb hml hown hts hK hret ls hl
  have hl : lv_has ls 2 [(0, .int x), (1, .int (nI t))] := hl
  have hS : va_S (fun _ => False) Hs Hs [] := va_S.rf
  generalize ([] : List Loc) = locs at hS ⊢
  refine lv_iload_n hx hb dX1_change_0 rfl (lv_at hl 0 rfl) ?_
  refine lv_iconst (v := -1) hx hb dX1_change_1 ci_m1 ?_
  refine lv_icmp_eq (tgt := 10) hx hb dX1_change_2 (by decide) (fun c1 => ?_) (fun c1 => ?_)
  · refine lv_iconst (v := nI 0) hx hb dX1_change_10 ci_0 ?_
    refine lv_goto (tgt := 15) hx hb dX1_change_11 (by decide) ?_
    exact hret 15 ls locs _ dX1_change_15 hS (by unfold chI; rw [if_pos c1])
  · refine lv_iload_n hx hb dX1_change_5 rfl (lv_at hl 0 rfl) ?_
    refine lv_iload_n hx hb dX1_change_6 rfl (lv_at hl 1 rfl) ?_
    refine lv_icmp_ne (tgt := 14) hx hb dX1_change_7 (by decide) (fun c2 => ?_) (fun c2 => ?_)
    · refine lv_iconst (v := nI 1) hx hb dX1_change_14 ci_1 ?_
      exact hret 15 ls locs _ dX1_change_15 hS (by unfold chI; rw [if_neg c1, if_neg c2])
    · refine lv_iconst (v := nI 0) hx hb dX1_change_10 ci_0 ?_
      refine lv_goto (tgt := 15) hx hb dX1_change_11 (by decide) ?_
      exact hret 15 ls locs _ dX1_change_15 hS (by unfold chI; rw [if_neg c1, if_pos c2])
set_option maxHeartbeats 4000000 in
set_option maxRecDepth 100000 in
theorem c_X1_orNone {l : Launch} {D : va_G} {ky : kT} {Hs : Heap} {x : Nat} (hx9 : x < 2 ^ 31) : PI l yX1_orNone wsX1_orNone 0 0 D ky Hs [.int (nI x)] (orN x) := by
  refine PI.of (cc := cX1_orNone) (maxL := 1) (ty := .int) (by decide) rfl rfl (Nat.le_of_ble_eq_true rfl) ?_
  intro pg en Rm sg mi av below meth co Qo hRf hRl hx hb hml hown hts hK hret ls hl
  have hl : lv_has ls 1 [(0, .int (nI x))] := hl
  have hS : va_S (fun _ => False) Hs Hs [] := va_S.rf
  generalize ([] : List Loc) = locs at hS ⊢
  refine lv_iload_n hx hb dX1_orNone_0 rfl (lv_at hl 0 rfl) ?_
  refine lv_sipush (v := nI 1000) hx hb dX1_orNone_1 si_1000 ?_
  refine sn_icmp_ne (tgt := 11) hx hb dX1_orNone_4 (by decide) hx9 (by decide) (fun c1 => ?_) (fun c1 => ?_)
  · refine lv_iload_n hx hb dX1_orNone_11 rfl (lv_at hl 0 rfl) ?_
    exact hret 12 ls locs _ dX1_orNone_12 hS (by unfold orN; rw [if_neg c1])
  · refine lv_iconst (v := -1) hx hb dX1_orNone_7 ci_m1 ?_
    refine lv_goto (tgt := 12) hx hb dX1_orNone_8 (by decide) ?_
    exact hret 12 ls locs _ dX1_orNone_12 hS (by unfold orN; rw [if_pos c1])
set_option maxHeartbeats 4000000 in
set_option maxRecDepth 100000 in
theorem c_X1_nextsOf {l : Launch} {D : va_G} {ky : kT} {Hs : Heap} {ws : va_W} (hP : va_P D CL ws Hs) {h hp b1 b2 b3 b4 b5 : Nat} {Sn : Nat → Bool} {fx fo fg fb : Nat → Int32} {fe : Int32} {kn : Bool} (hod : isOrd ky ws h hp b1 b2 b3 b4 b5 Sn fx fo fg fb fe kn) {n : Nat} {T C Hd : Nat → Nat} {b : Nat} {q : Bool} (hpr : isProd ky ws hp n T C Hd b q) (hI : PI0 n C Hd b) {S : Nat} (hS0 : S < 2 ^ n) (hso : ∀ s, S ≤ s → s < 2 ^ n → Sn s = sou C Hd b q s) : PI l yX1_nextsOf wsX1_nextsOf 1 24 D ky Hs [.ref h, .int (nI S)] (nI (nxm C Hd b q n S)) := by
  refine PI.of (cc := cX1_nextsOf) (maxL := 5) (ty := .int) (by decide) rfl rfl (Nat.le_of_ble_eq_true rfl) ?_
  intro pg en Rm sg mi av below meth co Qo hRf hRl hx hb hml hown hts hK hret ls hl
  have hl : lv_has ls 5 [(0, .ref h), (1, .int (nI S))] := hl
  have hS : va_S (fun _ => False) Hs Hs [] := va_S.rf
  generalize ([] : List Loc) = locs at hS ⊢
  obtain ⟨o10, o11, o12, o13, o14, o15⟩ := id hod
  obtain ⟨a1, a2, a3, f1, f2, f3, f4⟩ := id hpr
  have hn8 := hI.1
  have hp2 : 2 ^ n ≤ 256 := p2_le hn8
  have k28 := hts (.fieldLink RX1 28 "AssemblyPlanner$Ordering" "product" "LAssemblyPlanner$Product;") (by decide +kernel)
  have hinX1 : ∀ w ∈ wsX10, w ∈ wsX1_nextsOf := by decide +kernel
  have k9 := hts (.fieldLink RX1 9 "AssemblyPlanner$Ordering" "sound" "[Z") (by decide +kernel)
  refine lv_iconst (v := nI 0) hx hb dX1_nextsOf_0 ci_0 ?_
  refine lv_istore_n (lv' := [(2, .int (nI 0)), (0, .ref h), (1, .int (nI S))]) hx hb dX1_nextsOf_1 rfl hl (by decide) rfl (fun ls hl => ?_)
  refine lv_iconst (v := nI 0) hx hb dX1_nextsOf_2 ci_0 ?_
  refine lv_istore_n (lv' := [(3, .int (nI 0)), (2, .int (nI 0)), (0, .ref h), (1, .int (nI S))]) hx hb dX1_nextsOf_3 rfl hl (by decide) rfl (fun ls hl => ?_)
  have L4 : ∀ (L4d : Nat) (t : Nat), n - t < L4d → t ≤ n → ∀ (ls : Array Slot) (locs : List Loc), lv_has ls 5 [(2, .int (nI (mkb (fun p => cad C Hd b q S p) t 0))), (3, .int (nI t)), (0, .ref h), (1, .int (nI S))] → va_S (fun _ => False) Hs Hs locs → W pg l en Rm sg mi av below meth co Hs locs 0 0 Qo (F0 mi 4 ls []) := by
    intro L4d
    induction L4d with
    | zero => intro t hfu; exact absurd hfu (Nat.not_lt_zero _)
    | succ L4d ih4 =>
      intro t hfu i4_0 ls locs hl hS
      refine lv_iload_n hx hb dX1_nextsOf_4 rfl (lv_at hl 1 rfl) ?_
      refine lv_aload_n hx hb dX1_nextsOf_5 rfl (lv_at hl 2 rfl) ?_
      refine va_get (ci := 1) (C := RX1) (T := TX1) (N := 8) hx hb hts hinX1 hown hK hP 10 o10 rfl 0 (by decide) k28 (fun _ h9 => h9) rfl dX1_nextsOf_6 ?_
      refine pcV (c_X3_count hP hpr hI) ⟨hx, hb, hml, hown, hts⟩ hK gX1_nextsOf_X3_count rfl hd_X3_count ⟨by omega, by omega⟩ (va_recv hK hP (ci := 3) (q0 := 1) rfl f1) rfl hl.1 rfl (Nat.le_of_ble_eq_true rfl) dX1_nextsOf_9 ⟨Nat.zero_le _, Nat.zero_le _⟩ hS (fun locs hS => ?_)
      refine sn_icmp_ge (tgt := 72) hx hb dX1_nextsOf_12 (by decide) (by omega) (by omega) (fun c1 => ?_) (fun c1 => ?_)
      · refine lv_iload_n hx hb dX1_nextsOf_72 rfl (lv_at hl 0 rfl) ?_
        exact hret 73 ls locs _ dX1_nextsOf_73 hS (by rw [show t = n by omega]; rfl)
      · have hor : S ||| 2 ^ t < 2 ^ n := or_lt hS0 (Nat.pow_lt_pow_right (by decide) c1)
        have hge : S ≤ S ||| 2 ^ t := sbs_le sbs_or1
        refine lv_iload_n hx hb dX1_nextsOf_15 rfl (lv_at hl 3 rfl) ?_
        refine lv_iconst (v := nI 1) hx hb dX1_nextsOf_16 ci_1 ?_
        refine lv_iload_n hx hb dX1_nextsOf_17 rfl (lv_at hl 1 rfl) ?_
        refine lv_ishl hx hb dX1_nextsOf_18 ?_
        refine sv_top (y := nI (2 ^ t)) (sh_l1 (by omega)) ?_
        refine lv_ior hx hb dX1_nextsOf_19 ?_
        refine sv_top (y := nI (S ||| (2 ^ t))) (an_or _ _) ?_
        refine lv_istore (lv' := [(4, .int (nI (S ||| (2 ^ t)))), (2, .int (nI (mkb (fun p => cad C Hd b q S p) t 0))), (3, .int (nI t)), (0, .ref h), (1, .int (nI S))]) hx hb dX1_nextsOf_20 hl (by decide) rfl (fun ls hl => ?_)
        refine lv_iload hx hb dX1_nextsOf_22 (lv_at hl 0 rfl) ?_
        refine lv_iload_n hx hb dX1_nextsOf_24 rfl (lv_at hl 4 rfl) ?_
        refine sn_icmp_eq (tgt := 66) hx hb dX1_nextsOf_25 (by decide) (by omega) (by omega) (fun c2 => ?_) (fun c2 => ?_)
        · refine lv_iinc (v := nI (t + 1)) (lv' := [(3, .int (nI (t + 1))), (4, .int (nI (S ||| (2 ^ t)))), (2, .int (nI (mkb (fun p => cad C Hd b q S p) t 0))), (0, .ref h), (1, .int (nI S))]) hx hb dX1_nextsOf_66 hl (k := 2) rfl (nI_1 _) (by decide) rfl (fun ls hl => ?_)
          refine lv_goto (tgt := 4) hx hb dX1_nextsOf_69 (by decide) ?_
          have e2 : nI (mkb (fun p => cad C Hd b q S p) t 0) = nI (mkb (fun p => cad C Hd b q S p) (t + 1) 0) := (congrArg nI (show _ = (if cad C Hd b q S t = true then _ else _) from (if_neg (by unfold cad; rw [decide_eq_false (p := S ||| 2 ^ t ≠ S) (fun z => z c2)]; simp)).symm))
          rw [e2] at hl
          exact ih4 (t + 1) (by omega) (by omega) ls locs (lv_sub hl [2, 0, 3, 4] rfl) hS
        · refine lv_aload_n hx hb dX1_nextsOf_28 rfl (lv_at hl 3 rfl) ?_
          refine va_get (ci := 1) (C := RX1) (T := TX1) (N := 8) hx hb hts hinX1 hown hK hP 10 o10 rfl 1 (by decide) k9 (fun _ h9 => h9) rfl dX1_nextsOf_29 ?_
          refine lv_iload_n hx hb dX1_nextsOf_32 rfl (lv_at hl 4 rfl) ?_
          refine sv_zald hx hb hK hP 11 o11 (j := S) (by omega) (by decide) dX1_nextsOf_33 ?_
          refine W.eq (g2 := F0 mi 34 ls (.int (bI (Sn S)) :: [])) rfl ?_
          refine sb_if_eq (tgt := 66) hx hb dX1_nextsOf_34 (by decide) (fun c3 => ?_) (fun c3 => ?_)
          · refine lv_iinc (v := nI (t + 1)) (lv' := [(3, .int (nI (t + 1))), (4, .int (nI (S ||| (2 ^ t)))), (2, .int (nI (mkb (fun p => cad C Hd b q S p) t 0))), (0, .ref h), (1, .int (nI S))]) hx hb dX1_nextsOf_66 hl (k := 2) rfl (nI_1 _) (by decide) rfl (fun ls hl => ?_)
            refine lv_goto (tgt := 4) hx hb dX1_nextsOf_69 (by decide) ?_
            have e2 : nI (mkb (fun p => cad C Hd b q S p) t 0) = nI (mkb (fun p => cad C Hd b q S p) (t + 1) 0) := (congrArg nI (show _ = (if cad C Hd b q S t = true then _ else _) from (if_neg (by unfold cad; rw [← hso S (Nat.le_refl _) hS0, c3]; simp)).symm))
            rw [e2] at hl
            exact ih4 (t + 1) (by omega) (by omega) ls locs (lv_sub hl [2, 0, 3, 4] rfl) hS
          · refine lv_aload_n hx hb dX1_nextsOf_37 rfl (lv_at hl 3 rfl) ?_
            refine va_get (ci := 1) (C := RX1) (T := TX1) (N := 8) hx hb hts hinX1 hown hK hP 10 o10 rfl 1 (by decide) k9 (fun _ h9 => h9) rfl dX1_nextsOf_38 ?_
            refine lv_iload hx hb dX1_nextsOf_41 (lv_at hl 0 rfl) ?_
            refine sv_zald hx hb hK hP 11 o11 (j := S ||| (2 ^ t)) (by omega) (by decide) dX1_nextsOf_43 ?_
            refine W.eq (g2 := F0 mi 44 ls (.int (bI (Sn (S ||| (2 ^ t)))) :: [])) rfl ?_
            refine sb_if_eq (tgt := 66) hx hb dX1_nextsOf_44 (by decide) (fun c4 => ?_) (fun c4 => ?_)
            · refine lv_iinc (v := nI (t + 1)) (lv' := [(3, .int (nI (t + 1))), (4, .int (nI (S ||| (2 ^ t)))), (2, .int (nI (mkb (fun p => cad C Hd b q S p) t 0))), (0, .ref h), (1, .int (nI S))]) hx hb dX1_nextsOf_66 hl (k := 2) rfl (nI_1 _) (by decide) rfl (fun ls hl => ?_)
              refine lv_goto (tgt := 4) hx hb dX1_nextsOf_69 (by decide) ?_
              have e2 : nI (mkb (fun p => cad C Hd b q S p) t 0) = nI (mkb (fun p => cad C Hd b q S p) (t + 1) 0) := (congrArg nI (show _ = (if cad C Hd b q S t = true then _ else _) from (if_neg (by unfold cad; rw [← hso (S ||| 2 ^ t) hge hor, c4]; simp)).symm))
              rw [e2] at hl
              exact ih4 (t + 1) (by omega) (by omega) ls locs (lv_sub hl [2, 0, 3, 4] rfl) hS
            · refine lv_aload_n hx hb dX1_nextsOf_47 rfl (lv_at hl 3 rfl) ?_
              refine va_get (ci := 1) (C := RX1) (T := TX1) (N := 8) hx hb hts hinX1 hown hK hP 10 o10 rfl 0 (by decide) k28 (fun _ h9 => h9) rfl dX1_nextsOf_48 ?_
              refine lv_iload hx hb dX1_nextsOf_51 (lv_at hl 0 rfl) ?_
              refine lv_iload_n hx hb dX1_nextsOf_53 rfl (lv_at hl 2 rfl) ?_
              refine pcV (c_X3_freeDirections hP hpr hI (by omega)) ⟨hx, hb, hml, hown, hts⟩ hK gX1_nextsOf_X3_freeDirections rfl hd_X3_freeDirections ⟨by omega, by omega⟩ (va_recv hK hP (ci := 3) (q0 := 1) rfl f1) rfl hl.1 rfl (Nat.le_of_ble_eq_true rfl) dX1_nextsOf_54 ⟨Nat.zero_le _, Nat.zero_le _⟩ hS (fun locs hS => ?_)
              refine sn_if_eq (tgt := 66) hx hb dX1_nextsOf_57 (by decide) (Nat.lt_trans (frd_lt _ _ _) (by decide)) (fun c5 => ?_) (fun c5 => ?_)
              · refine lv_iinc (v := nI (t + 1)) (lv' := [(3, .int (nI (t + 1))), (4, .int (nI (S ||| (2 ^ t)))), (2, .int (nI (mkb (fun p => cad C Hd b q S p) t 0))), (0, .ref h), (1, .int (nI S))]) hx hb dX1_nextsOf_66 hl (k := 2) rfl (nI_1 _) (by decide) rfl (fun ls hl => ?_)
                refine lv_goto (tgt := 4) hx hb dX1_nextsOf_69 (by decide) ?_
                have e2 : nI (mkb (fun p => cad C Hd b q S p) t 0) = nI (mkb (fun p => cad C Hd b q S p) (t + 1) 0) := (congrArg nI (show _ = (if cad C Hd b q S t = true then _ else _) from (if_neg (by unfold cad; rw [decide_eq_false (p := frd Hd (S ||| 2 ^ t) t ≠ 0) (fun z => z c5)]; simp)).symm))
                rw [e2] at hl
                exact ih4 (t + 1) (by omega) (by omega) ls locs (lv_sub hl [2, 0, 3, 4] rfl) hS
              · refine lv_iload_n hx hb dX1_nextsOf_60 rfl (lv_at hl 1 rfl) ?_
                refine lv_iconst (v := nI 1) hx hb dX1_nextsOf_61 ci_1 ?_
                refine lv_iload_n hx hb dX1_nextsOf_62 rfl (lv_at hl 2 rfl) ?_
                refine lv_ishl hx hb dX1_nextsOf_63 ?_
                refine sv_top (y := nI (2 ^ t)) (sh_l1 (by omega)) ?_
                refine lv_ior hx hb dX1_nextsOf_64 ?_
                refine sv_top (y := nI ((mkb (fun p => cad C Hd b q S p) t 0) ||| (2 ^ t))) (an_or _ _) ?_
                refine lv_istore_n (lv' := [(2, .int (nI ((mkb (fun p => cad C Hd b q S p) t 0) ||| (2 ^ t)))), (4, .int (nI (S ||| (2 ^ t)))), (3, .int (nI t)), (0, .ref h), (1, .int (nI S))]) hx hb dX1_nextsOf_65 rfl hl (by decide) rfl (fun ls hl => ?_)
                refine lv_iinc (v := nI (t + 1)) (lv' := [(3, .int (nI (t + 1))), (2, .int (nI ((mkb (fun p => cad C Hd b q S p) t 0) ||| (2 ^ t)))), (4, .int (nI (S ||| (2 ^ t)))), (0, .ref h), (1, .int (nI S))]) hx hb dX1_nextsOf_66 hl (k := 2) rfl (nI_1 _) (by decide) rfl (fun ls hl => ?_)
                refine lv_goto (tgt := 4) hx hb dX1_nextsOf_69 (by decide) ?_
                have e2 : nI ((mkb (fun p => cad C Hd b q S p) t 0) ||| (2 ^ t)) = nI (mkb (fun p => cad C Hd b q S p) (t + 1) 0) := (congrArg nI (show _ = (if cad C Hd b q S t = true then _ else _) from (if_pos (by unfold cad; rw [decide_eq_true c2, ← hso S (Nat.le_refl _) hS0, c3, ← hso (S ||| 2 ^ t) hge hor, c4, decide_eq_true c5]; rfl)).symm))
                rw [e2] at hl
                exact ih4 (t + 1) (by omega) (by omega) ls locs (lv_sub hl [1, 0, 3, 4] rfl) hS
  exact L4 ((n - 0) + 1) 0 (Nat.lt_succ_self _) (by omega) ls locs (lv_sub hl [1, 0, 2, 3] rfl) hS
set_option maxHeartbeats 4000000 in
set_option maxRecDepth 100000 in
theorem c_X1_ordersFrom {l : Launch} {D : va_G} {ky : kT} {Hs : Heap} {ws : va_W} (hP : va_P D CL ws Hs) {h hp b1 b2 b3 b4 b5 : Nat} {Sn : Nat → Bool} {fx fo fg fb : Nat → Int32} {fe : Int32} {kn : Bool} (hod : isOrd ky ws h hp b1 b2 b3 b4 b5 Sn fx fo fg fb fe kn) {n : Nat} {T C Hd : Nat → Nat} {b : Nat} {q : Bool} (hpr : isProd ky ws hp n T C Hd b q) (hI : PI0 n C Hd b) {S : Nat} (hS0 : S < 2 ^ n) (hx9 : fx S = nI (nxm C Hd b q n S)) (ho9 : ∀ s, S < s → s < 2 ^ n → fo s = nI (ord C Hd b q n s)) : PI l yX1_ordersFrom wsX1_ordersFrom 1 20 D ky Hs [.ref h, .int (nI S)] (nI (ord C Hd b q n S)) := by
  refine PI.of (cc := cX1_ordersFrom) (maxL := 4) (ty := .int) (by decide) rfl rfl (Nat.le_of_ble_eq_true rfl) ?_
  intro pg en Rm sg mi av below meth co Qo hRf hRl hx hb hml hown hts hK hret ls hl
  have hl : lv_has ls 4 [(0, .ref h), (1, .int (nI S))] := hl
  have hS : va_S (fun _ => False) Hs Hs [] := va_S.rf
  generalize ([] : List Loc) = locs at hS ⊢
  obtain ⟨o10, o11, o12, o13, o14, o15⟩ := id hod
  obtain ⟨a1, a2, a3, f1, f2, f3, f4⟩ := id hpr
  have hn8 := hI.1
  have hp2 : 2 ^ n ≤ 256 := p2_le hn8
  have k28 := hts (.fieldLink RX1 28 "AssemblyPlanner$Ordering" "product" "LAssemblyPlanner$Product;") (by decide +kernel)
  have hinX1 : ∀ w ∈ wsX10, w ∈ wsX1_ordersFrom := by decide +kernel
  have k15 := hts (.fieldLink RX1 15 "AssemblyPlanner$Ordering" "nexts" "[I") (by decide +kernel)
  have k19 := hts (.fieldLink RX1 19 "AssemblyPlanner$Ordering" "orders" "[I") (by decide +kernel)
  refine lv_iload_n hx hb dX1_ordersFrom_0 rfl (lv_at hl 1 rfl) ?_
  refine lv_aload_n hx hb dX1_ordersFrom_1 rfl (lv_at hl 0 rfl) ?_
  refine va_get (ci := 1) (C := RX1) (T := TX1) (N := 8) hx hb hts hinX1 hown hK hP 10 o10 rfl 0 (by decide) k28 (fun _ h9 => h9) rfl dX1_ordersFrom_2 ?_
  refine pcV (c_X3_all hP hpr hI) ⟨hx, hb, hml, hown, hts⟩ hK gX1_ordersFrom_X3_all rfl hd_X3_all ⟨by omega, by omega⟩ (va_recv hK hP (ci := 3) (q0 := 1) rfl f1) rfl hl.1 rfl (Nat.le_of_ble_eq_true rfl) dX1_ordersFrom_5 ⟨Nat.zero_le _, Nat.zero_le _⟩ hS (fun locs hS => ?_)
  refine sn_icmp_ne (tgt := 15) hx hb dX1_ordersFrom_8 (by decide) (by omega) (Nat.lt_of_le_of_lt (Nat.sub_le _ _) (pw_lt (by omega))) (fun c1 => ?_) (fun c1 => ?_)
  · refine lv_iconst (v := nI 0) hx hb dX1_ordersFrom_15 ci_0 ?_
    refine lv_istore_n (lv' := [(2, .int (nI 0)), (0, .ref h), (1, .int (nI S))]) hx hb dX1_ordersFrom_16 rfl hl (by decide) rfl (fun ls hl => ?_)
    refine lv_iconst (v := nI 0) hx hb dX1_ordersFrom_17 ci_0 ?_
    refine lv_istore_n (lv' := [(3, .int (nI 0)), (2, .int (nI 0)), (0, .ref h), (1, .int (nI S))]) hx hb dX1_ordersFrom_18 rfl hl (by decide) rfl (fun ls hl => ?_)
    have L19 : ∀ (L19d : Nat) (t : Nat), n - t < L19d → t ≤ n → ∀ (ls : Array Slot) (locs : List Loc), lv_has ls 4 [(2, .int (nI (itr (orS C Hd b q (ord C Hd b q n) S) t (if S = 2 ^ n - 1 then 1 else 0)))), (3, .int (nI t)), (0, .ref h), (1, .int (nI S))] → va_S (fun _ => False) Hs Hs locs → W pg l en Rm sg mi av below meth co Hs locs 0 0 Qo (F0 mi 19 ls []) := by
      intro L19d
      induction L19d with
      | zero => intro t hfu; exact absurd hfu (Nat.not_lt_zero _)
      | succ L19d ih19 =>
        intro t hfu i19_0 ls locs hl hS
        refine lv_iload_n hx hb dX1_ordersFrom_19 rfl (lv_at hl 1 rfl) ?_
        refine lv_aload_n hx hb dX1_ordersFrom_20 rfl (lv_at hl 2 rfl) ?_
        refine va_get (ci := 1) (C := RX1) (T := TX1) (N := 8) hx hb hts hinX1 hown hK hP 10 o10 rfl 0 (by decide) k28 (fun _ h9 => h9) rfl dX1_ordersFrom_21 ?_
        refine pcV (c_X3_count hP hpr hI) ⟨hx, hb, hml, hown, hts⟩ hK gX1_ordersFrom_X3_count rfl hd_X3_count ⟨by omega, by omega⟩ (va_recv hK hP (ci := 3) (q0 := 1) rfl f1) rfl hl.1 rfl (Nat.le_of_ble_eq_true rfl) dX1_ordersFrom_24 ⟨Nat.zero_le _, Nat.zero_le _⟩ hS (fun locs hS => ?_)
        refine sn_icmp_ge (tgt := 62) hx hb dX1_ordersFrom_27 (by decide) (by omega) (by omega) (fun c2 => ?_) (fun c2 => ?_)
        · refine lv_iload_n hx hb dX1_ordersFrom_62 rfl (lv_at hl 0 rfl) ?_
          exact hret 63 ls locs _ dX1_ordersFrom_63 hS (by rw [ord_eq hS0, show t = n by omega]; rfl)
        · refine lv_aload_n hx hb dX1_ordersFrom_30 rfl (lv_at hl 2 rfl) ?_
          refine va_get (ci := 1) (C := RX1) (T := TX1) (N := 8) hx hb hts hinX1 hown hK hP 10 o10 rfl 2 (by decide) k15 (fun _ h9 => h9) rfl dX1_ordersFrom_31 ?_
          refine lv_iload_n hx hb dX1_ordersFrom_34 rfl (lv_at hl 3 rfl) ?_
          refine sv_iald hx hb hK hP 12 o12 (j := S) (by omega) (by decide) dX1_ordersFrom_35 ?_
          refine W.eq (g2 := F0 mi 36 ls (.int (fx S) :: [])) rfl ?_
          refine sv_top (y := nI (nxm C Hd b q n S)) (hx9) ?_
          refine lv_iconst (v := nI 1) hx hb dX1_ordersFrom_36 ci_1 ?_
          refine lv_iload_n hx hb dX1_ordersFrom_37 rfl (lv_at hl 1 rfl) ?_
          refine lv_ishl hx hb dX1_ordersFrom_38 ?_
          refine sv_top (y := nI (2 ^ t)) (sh_l1 (by omega)) ?_
          refine lv_iand hx hb dX1_ordersFrom_39 ?_
          refine sv_top (y := nI ((nxm C Hd b q n S) &&& (2 ^ t))) (an_and _ _) ?_
          refine st_if_eq (tgt := 56) hx hb dX1_ordersFrom_40 (by decide) (by omega) (fun c3 => ?_) (fun c3 => ?_)
          · have hcd : cad C Hd b q S t = false := by rw [← nxm_bit (by omega)]; exact c3
            refine lv_iinc (v := nI (t + 1)) (lv' := [(3, .int (nI (t + 1))), (2, .int (nI (itr (orS C Hd b q (ord C Hd b q n) S) t (if S = 2 ^ n - 1 then 1 else 0)))), (0, .ref h), (1, .int (nI S))]) hx hb dX1_ordersFrom_56 hl (k := 1) rfl (nI_1 _) (by decide) rfl (fun ls hl => ?_)
            refine lv_goto (tgt := 19) hx hb dX1_ordersFrom_59 (by decide) ?_
            have e2 : nI (itr (orS C Hd b q (ord C Hd b q n) S) t (if S = 2 ^ n - 1 then 1 else 0)) = nI (itr (orS C Hd b q (ord C Hd b q n) S) (t + 1) (if S = 2 ^ n - 1 then 1 else 0)) := (congrArg nI (show _ = orS C Hd b q (ord C Hd b q n) S t _ from (orS_no hcd).symm))
            rw [e2] at hl
            exact ih19 (t + 1) (by omega) (by omega) ls locs (lv_sub hl [1, 0, 2, 3] rfl) hS
          · have hcd : cad C Hd b q S t = true := by rw [← nxm_bit (by omega)]; exact c3
            have hgt := cad_gt hcd hS0 (by omega)
            refine lv_iload_n hx hb dX1_ordersFrom_43 rfl (lv_at hl 0 rfl) ?_
            refine lv_aload_n hx hb dX1_ordersFrom_44 rfl (lv_at hl 2 rfl) ?_
            refine va_get (ci := 1) (C := RX1) (T := TX1) (N := 8) hx hb hts hinX1 hown hK hP 10 o10 rfl 3 (by decide) k19 (fun _ h9 => h9) rfl dX1_ordersFrom_45 ?_
            refine lv_iload_n hx hb dX1_ordersFrom_48 rfl (lv_at hl 3 rfl) ?_
            refine lv_iconst (v := nI 1) hx hb dX1_ordersFrom_49 ci_1 ?_
            refine lv_iload_n hx hb dX1_ordersFrom_50 rfl (lv_at hl 1 rfl) ?_
            refine lv_ishl hx hb dX1_ordersFrom_51 ?_
            refine sv_top (y := nI (2 ^ t)) (sh_l1 (by omega)) ?_
            refine lv_ior hx hb dX1_ordersFrom_52 ?_
            refine sv_top (y := nI (S ||| (2 ^ t))) (an_or _ _) ?_
            refine sv_iald hx hb hK hP 13 o13 (j := S ||| (2 ^ t)) (by omega) (by decide) dX1_ordersFrom_53 ?_
            refine W.eq (g2 := F0 mi 54 ls (.int (fo (S ||| (2 ^ t))) :: [.int (nI (itr (orS C Hd b q (ord C Hd b q n) S) t (if S = 2 ^ n - 1 then 1 else 0)))])) rfl ?_
            refine sv_top (y := nI (ord C Hd b q n (S ||| 2 ^ t))) (ho9 _ hgt.2.1 hgt.2.2) ?_
            refine lv_iadd hx hb dX1_ordersFrom_54 ?_
            refine sv_top (y := nI ((itr (orS C Hd b q (ord C Hd b q n) S) t (if S = 2 ^ n - 1 then 1 else 0)) + (ord C Hd b q n (S ||| 2 ^ t)))) (nI_add _ _) ?_
            refine lv_istore_n (lv' := [(2, .int (nI ((itr (orS C Hd b q (ord C Hd b q n) S) t (if S = 2 ^ n - 1 then 1 else 0)) + (ord C Hd b q n (S ||| 2 ^ t))))), (3, .int (nI t)), (0, .ref h), (1, .int (nI S))]) hx hb dX1_ordersFrom_55 rfl hl (by decide) rfl (fun ls hl => ?_)
            refine lv_iinc (v := nI (t + 1)) (lv' := [(3, .int (nI (t + 1))), (2, .int (nI ((itr (orS C Hd b q (ord C Hd b q n) S) t (if S = 2 ^ n - 1 then 1 else 0)) + (ord C Hd b q n (S ||| 2 ^ t))))), (0, .ref h), (1, .int (nI S))]) hx hb dX1_ordersFrom_56 hl (k := 1) rfl (nI_1 _) (by decide) rfl (fun ls hl => ?_)
            refine lv_goto (tgt := 19) hx hb dX1_ordersFrom_59 (by decide) ?_
            have e2 : nI ((itr (orS C Hd b q (ord C Hd b q n) S) t (if S = 2 ^ n - 1 then 1 else 0)) + (ord C Hd b q n (S ||| 2 ^ t))) = nI (itr (orS C Hd b q (ord C Hd b q n) S) (t + 1) (if S = 2 ^ n - 1 then 1 else 0)) := (congrArg nI (show _ = orS C Hd b q (ord C Hd b q n) S t _ from (orS_yes hcd).symm))
            rw [e2] at hl
            exact ih19 (t + 1) (by omega) (by omega) ls locs (lv_sub hl [1, 0, 2, 3] rfl) hS
    have e2 : nI 0 = nI (itr (orS C Hd b q (ord C Hd b q n) S) 0 (if S = 2 ^ n - 1 then 1 else 0)) := (congrArg nI (if_neg c1).symm)
    replace hl := lv_re (l2 := [(3, .int (nI 0)), (2, .int (nI (itr (orS C Hd b q (ord C Hd b q n) S) 0 (if S = 2 ^ n - 1 then 1 else 0)))), (0, .ref h), (1, .int (nI S))]) hl (by rw [e2])
    exact L19 ((n - 0) + 1) 0 (Nat.lt_succ_self _) (by omega) ls locs (lv_sub hl [1, 0, 2, 3] rfl) hS
  · refine lv_iconst (v := nI 1) hx hb dX1_ordersFrom_11 ci_1 ?_
    refine lv_goto (tgt := 16) hx hb dX1_ordersFrom_12 (by decide) ?_
    refine lv_istore_n (lv' := [(2, .int (nI 1)), (0, .ref h), (1, .int (nI S))]) hx hb dX1_ordersFrom_16 rfl hl (by decide) rfl (fun ls hl => ?_)
    refine lv_iconst (v := nI 0) hx hb dX1_ordersFrom_17 ci_0 ?_
    refine lv_istore_n (lv' := [(3, .int (nI 0)), (2, .int (nI 1)), (0, .ref h), (1, .int (nI S))]) hx hb dX1_ordersFrom_18 rfl hl (by decide) rfl (fun ls hl => ?_)
    have L19 : ∀ (L19d : Nat) (t : Nat), n - t < L19d → t ≤ n → ∀ (ls : Array Slot) (locs : List Loc), lv_has ls 4 [(2, .int (nI (itr (orS C Hd b q (ord C Hd b q n) S) t (if S = 2 ^ n - 1 then 1 else 0)))), (3, .int (nI t)), (0, .ref h), (1, .int (nI S))] → va_S (fun _ => False) Hs Hs locs → W pg l en Rm sg mi av below meth co Hs locs 0 0 Qo (F0 mi 19 ls []) := by
      intro L19d
      induction L19d with
      | zero => intro t hfu; exact absurd hfu (Nat.not_lt_zero _)
      | succ L19d ih19 =>
        intro t hfu i19_0 ls locs hl hS
        refine lv_iload_n hx hb dX1_ordersFrom_19 rfl (lv_at hl 1 rfl) ?_
        refine lv_aload_n hx hb dX1_ordersFrom_20 rfl (lv_at hl 2 rfl) ?_
        refine va_get (ci := 1) (C := RX1) (T := TX1) (N := 8) hx hb hts hinX1 hown hK hP 10 o10 rfl 0 (by decide) k28 (fun _ h9 => h9) rfl dX1_ordersFrom_21 ?_
        refine pcV (c_X3_count hP hpr hI) ⟨hx, hb, hml, hown, hts⟩ hK gX1_ordersFrom_X3_count rfl hd_X3_count ⟨by omega, by omega⟩ (va_recv hK hP (ci := 3) (q0 := 1) rfl f1) rfl hl.1 rfl (Nat.le_of_ble_eq_true rfl) dX1_ordersFrom_24 ⟨Nat.zero_le _, Nat.zero_le _⟩ hS (fun locs hS => ?_)
        refine sn_icmp_ge (tgt := 62) hx hb dX1_ordersFrom_27 (by decide) (by omega) (by omega) (fun c4 => ?_) (fun c4 => ?_)
        · refine lv_iload_n hx hb dX1_ordersFrom_62 rfl (lv_at hl 0 rfl) ?_
          exact hret 63 ls locs _ dX1_ordersFrom_63 hS (by rw [ord_eq hS0, show t = n by omega]; rfl)
        · refine lv_aload_n hx hb dX1_ordersFrom_30 rfl (lv_at hl 2 rfl) ?_
          refine va_get (ci := 1) (C := RX1) (T := TX1) (N := 8) hx hb hts hinX1 hown hK hP 10 o10 rfl 2 (by decide) k15 (fun _ h9 => h9) rfl dX1_ordersFrom_31 ?_
          refine lv_iload_n hx hb dX1_ordersFrom_34 rfl (lv_at hl 3 rfl) ?_
          refine sv_iald hx hb hK hP 12 o12 (j := S) (by omega) (by decide) dX1_ordersFrom_35 ?_
          refine W.eq (g2 := F0 mi 36 ls (.int (fx S) :: [])) rfl ?_
          refine sv_top (y := nI (nxm C Hd b q n S)) (hx9) ?_
          refine lv_iconst (v := nI 1) hx hb dX1_ordersFrom_36 ci_1 ?_
          refine lv_iload_n hx hb dX1_ordersFrom_37 rfl (lv_at hl 1 rfl) ?_
          refine lv_ishl hx hb dX1_ordersFrom_38 ?_
          refine sv_top (y := nI (2 ^ t)) (sh_l1 (by omega)) ?_
          refine lv_iand hx hb dX1_ordersFrom_39 ?_
          refine sv_top (y := nI ((nxm C Hd b q n S) &&& (2 ^ t))) (an_and _ _) ?_
          refine st_if_eq (tgt := 56) hx hb dX1_ordersFrom_40 (by decide) (by omega) (fun c5 => ?_) (fun c5 => ?_)
          · have hcd : cad C Hd b q S t = false := by rw [← nxm_bit (by omega)]; exact c5
            refine lv_iinc (v := nI (t + 1)) (lv' := [(3, .int (nI (t + 1))), (2, .int (nI (itr (orS C Hd b q (ord C Hd b q n) S) t (if S = 2 ^ n - 1 then 1 else 0)))), (0, .ref h), (1, .int (nI S))]) hx hb dX1_ordersFrom_56 hl (k := 1) rfl (nI_1 _) (by decide) rfl (fun ls hl => ?_)
            refine lv_goto (tgt := 19) hx hb dX1_ordersFrom_59 (by decide) ?_
            have e2 : nI (itr (orS C Hd b q (ord C Hd b q n) S) t (if S = 2 ^ n - 1 then 1 else 0)) = nI (itr (orS C Hd b q (ord C Hd b q n) S) (t + 1) (if S = 2 ^ n - 1 then 1 else 0)) := (congrArg nI (show _ = orS C Hd b q (ord C Hd b q n) S t _ from (orS_no hcd).symm))
            rw [e2] at hl
            exact ih19 (t + 1) (by omega) (by omega) ls locs (lv_sub hl [1, 0, 2, 3] rfl) hS
          · have hcd : cad C Hd b q S t = true := by rw [← nxm_bit (by omega)]; exact c5
            have hgt := cad_gt hcd hS0 (by omega)
            refine lv_iload_n hx hb dX1_ordersFrom_43 rfl (lv_at hl 0 rfl) ?_
            refine lv_aload_n hx hb dX1_ordersFrom_44 rfl (lv_at hl 2 rfl) ?_
            refine va_get (ci := 1) (C := RX1) (T := TX1) (N := 8) hx hb hts hinX1 hown hK hP 10 o10 rfl 3 (by decide) k19 (fun _ h9 => h9) rfl dX1_ordersFrom_45 ?_
            refine lv_iload_n hx hb dX1_ordersFrom_48 rfl (lv_at hl 3 rfl) ?_
            refine lv_iconst (v := nI 1) hx hb dX1_ordersFrom_49 ci_1 ?_
            refine lv_iload_n hx hb dX1_ordersFrom_50 rfl (lv_at hl 1 rfl) ?_
            refine lv_ishl hx hb dX1_ordersFrom_51 ?_
            refine sv_top (y := nI (2 ^ t)) (sh_l1 (by omega)) ?_
            refine lv_ior hx hb dX1_ordersFrom_52 ?_
            refine sv_top (y := nI (S ||| (2 ^ t))) (an_or _ _) ?_
            refine sv_iald hx hb hK hP 13 o13 (j := S ||| (2 ^ t)) (by omega) (by decide) dX1_ordersFrom_53 ?_
            refine W.eq (g2 := F0 mi 54 ls (.int (fo (S ||| (2 ^ t))) :: [.int (nI (itr (orS C Hd b q (ord C Hd b q n) S) t (if S = 2 ^ n - 1 then 1 else 0)))])) rfl ?_
            refine sv_top (y := nI (ord C Hd b q n (S ||| 2 ^ t))) (ho9 _ hgt.2.1 hgt.2.2) ?_
            refine lv_iadd hx hb dX1_ordersFrom_54 ?_
            refine sv_top (y := nI ((itr (orS C Hd b q (ord C Hd b q n) S) t (if S = 2 ^ n - 1 then 1 else 0)) + (ord C Hd b q n (S ||| 2 ^ t)))) (nI_add _ _) ?_
            refine lv_istore_n (lv' := [(2, .int (nI ((itr (orS C Hd b q (ord C Hd b q n) S) t (if S = 2 ^ n - 1 then 1 else 0)) + (ord C Hd b q n (S ||| 2 ^ t))))), (3, .int (nI t)), (0, .ref h), (1, .int (nI S))]) hx hb dX1_ordersFrom_55 rfl hl (by decide) rfl (fun ls hl => ?_)
            refine lv_iinc (v := nI (t + 1)) (lv' := [(3, .int (nI (t + 1))), (2, .int (nI ((itr (orS C Hd b q (ord C Hd b q n) S) t (if S = 2 ^ n - 1 then 1 else 0)) + (ord C Hd b q n (S ||| 2 ^ t))))), (0, .ref h), (1, .int (nI S))]) hx hb dX1_ordersFrom_56 hl (k := 1) rfl (nI_1 _) (by decide) rfl (fun ls hl => ?_)
            refine lv_goto (tgt := 19) hx hb dX1_ordersFrom_59 (by decide) ?_
            have e2 : nI ((itr (orS C Hd b q (ord C Hd b q n) S) t (if S = 2 ^ n - 1 then 1 else 0)) + (ord C Hd b q n (S ||| 2 ^ t))) = nI (itr (orS C Hd b q (ord C Hd b q n) S) (t + 1) (if S = 2 ^ n - 1 then 1 else 0)) := (congrArg nI (show _ = orS C Hd b q (ord C Hd b q n) S t _ from (orS_yes hcd).symm))
            rw [e2] at hl
            exact ih19 (t + 1) (by omega) (by omega) ls locs (lv_sub hl [1, 0, 2, 3] rfl) hS
    have e2 : nI 1 = nI (itr (orS C Hd b q (ord C Hd b q n) S) 0 (if S = 2 ^ n - 1 then 1 else 0)) := (congrArg nI (if_pos c1).symm)
    replace hl := lv_re (l2 := [(3, .int (nI 0)), (2, .int (nI (itr (orS C Hd b q (ord C Hd b q n) S) 0 (if S = 2 ^ n - 1 then 1 else 0)))), (0, .ref h), (1, .int (nI S))]) hl (by rw [e2])
    exact L19 ((n - 0) + 1) 0 (Nat.lt_succ_self _) (by omega) ls locs (lv_sub hl [1, 0, 2, 3] rfl) hS
set_option maxHeartbeats 4000000 in
set_option maxRecDepth 100000 in
theorem c_X1_changesWith {l : Launch} {D : va_G} {ky : kT} {Hs : Heap} {ws : va_W} (hP : va_P D CL ws Hs) {h hp b1 b2 b3 b4 b5 : Nat} {Sn : Nat → Bool} {fx fo fg fb : Nat → Int32} {fe : Int32} {kn : Bool} (hod : isOrd ky ws h hp b1 b2 b3 b4 b5 Sn fx fo fg fb fe kn) {n : Nat} {T C Hd : Nat → Nat} {b : Nat} {q : Bool} (hpr : isProd ky ws hp n T C Hd b q) (hI : PI0 n C Hd b) {S : Nat} {x : Int32} {pt v : Nat} (hT : ∀ p, T p < 4) (hS0 : S ||| 2 ^ pt < 256) (hp : pt < 8) (hg9 : fg (4 * (S ||| 2 ^ pt) + T pt) = nI v) : PI l yX1_changesWith wsX1_changesWith 1 21 D ky Hs [.ref h, .int (nI S), .int x, .int (nI pt)] (nI (chI x (T pt) + v)) := by
  refine PI.of (cc := cX1_changesWith) (maxL := 5) (ty := .int) (by decide) rfl rfl (Nat.le_of_ble_eq_true rfl) ?_
  intro pg en Rm sg mi av below meth co Qo hRf hRl hx hb hml hown hts hK hret ls hl
  have hl : lv_has ls 5 [(0, .ref h), (1, .int (nI S)), (2, .int x), (3, .int (nI pt))] := hl
  have hS : va_S (fun _ => False) Hs Hs [] := va_S.rf
  generalize ([] : List Loc) = locs at hS ⊢
  obtain ⟨o10, o11, o12, o13, o14, o15⟩ := id hod
  obtain ⟨a1, a2, a3, f1, f2, f3, f4⟩ := id hpr
  have hn8 := hI.1
  have hp2 : 2 ^ n ≤ 256 := p2_le hn8
  have hT4 := hT pt
  have k28 := hts (.fieldLink RX1 28 "AssemblyPlanner$Ordering" "product" "LAssemblyPlanner$Product;") (by decide +kernel)
  have hinX1 : ∀ w ∈ wsX10, w ∈ wsX1_changesWith := by decide +kernel
  have k22 := hts (.fieldLink RX1 22 "AssemblyPlanner$Ordering" "changes" "[I") (by decide +kernel)
  refine lv_aload_n hx hb dX1_changesWith_0 rfl (lv_at hl 0 rfl) ?_
  refine va_get (ci := 1) (C := RX1) (T := TX1) (N := 8) hx hb hts hinX1 hown hK hP 10 o10 rfl 0 (by decide) k28 (fun _ h9 => h9) rfl dX1_changesWith_1 ?_
  refine lv_iload_n hx hb dX1_changesWith_4 rfl (lv_at hl 3 rfl) ?_
  refine pcV (c_X3_tool hP hpr hI (by omega)) ⟨hx, hb, hml, hown, hts⟩ hK gX1_changesWith_X3_tool rfl hd_X3_tool ⟨by omega, by omega⟩ (va_recv hK hP (ci := 3) (q0 := 1) rfl f1) rfl hl.1 rfl (Nat.le_of_ble_eq_true rfl) dX1_changesWith_5 ⟨Nat.zero_le _, Nat.zero_le _⟩ hS (fun locs hS => ?_)
  refine lv_istore (lv' := [(4, .int (nI (T pt))), (0, .ref h), (1, .int (nI S)), (2, .int x), (3, .int (nI pt))]) hx hb dX1_changesWith_8 hl (by decide) rfl (fun ls hl => ?_)
  refine lv_iload_n hx hb dX1_changesWith_10 rfl (lv_at hl 3 rfl) ?_
  refine lv_iload hx hb dX1_changesWith_11 (lv_at hl 0 rfl) ?_
  refine pcS (c_X1_change ) ⟨hx, hb, hml, hown, hts⟩ hK gX1_changesWith_X1_change rfl hd_X1_change ⟨by omega, by omega⟩ rfl hl.1 rfl (Nat.le_of_ble_eq_true rfl) dX1_changesWith_13 ⟨Nat.zero_le _, Nat.zero_le _⟩ hS (fun locs hS => ?_)
  refine lv_aload_n hx hb dX1_changesWith_16 rfl (lv_at hl 1 rfl) ?_
  refine va_get (ci := 1) (C := RX1) (T := TX1) (N := 8) hx hb hts hinX1 hown hK hP 10 o10 rfl 4 (by decide) k22 (fun _ h9 => h9) rfl dX1_changesWith_17 ?_
  refine lv_iload_n hx hb dX1_changesWith_20 rfl (lv_at hl 2 rfl) ?_
  refine lv_iconst (v := nI 1) hx hb dX1_changesWith_21 ci_1 ?_
  refine lv_iload_n hx hb dX1_changesWith_22 rfl (lv_at hl 4 rfl) ?_
  refine lv_ishl hx hb dX1_changesWith_23 ?_
  refine sv_top (y := nI (2 ^ pt)) (sh_l1 (by omega)) ?_
  refine lv_ior hx hb dX1_changesWith_24 ?_
  refine sv_top (y := nI (S ||| (2 ^ pt))) (an_or _ _) ?_
  refine lv_iconst (v := nI 4) hx hb dX1_changesWith_25 ci_4 ?_
  refine lv_imul hx hb dX1_changesWith_26 ?_
  refine sv_top (y := nI (4 * (S ||| (2 ^ pt)))) (mul_c _ _) ?_
  refine lv_iload hx hb dX1_changesWith_27 (lv_at hl 0 rfl) ?_
  refine lv_iadd hx hb dX1_changesWith_29 ?_
  refine sv_top (y := nI ((4 * (S ||| (2 ^ pt))) + (T pt))) (nI_add _ _) ?_
  refine sv_iald hx hb hK hP 14 o14 (j := (4 * (S ||| (2 ^ pt))) + (T pt)) (by omega) (by decide) dX1_changesWith_30 ?_
  refine W.eq (g2 := F0 mi 31 ls (.int (fg ((4 * (S ||| (2 ^ pt))) + (T pt))) :: [.int (nI (chI x (T pt)))])) rfl ?_
  refine sv_top (y := nI v) (hg9) ?_
  refine lv_iadd hx hb dX1_changesWith_31 ?_
  refine sv_top (y := nI ((chI x (T pt)) + v)) (nI_add _ _) ?_
  exact hret 32 ls locs _ dX1_changesWith_32 hS (rfl)
set_option maxHeartbeats 4000000 in
set_option maxRecDepth 100000 in
theorem c_X1_fewestFrom {l : Launch} {D : va_G} {ky : kT} {Hs : Heap} {ws : va_W} (hP : va_P D CL ws Hs) {h hp b1 b2 b3 b4 b5 : Nat} {Sn : Nat → Bool} {fx fo fg fb : Nat → Int32} {fe : Int32} {kn : Bool} (hod : isOrd ky ws h hp b1 b2 b3 b4 b5 Sn fx fo fg fb fe kn) {n : Nat} {T C Hd : Nat → Nat} {b : Nat} {q : Bool} (hpr : isProd ky ws hp n T C Hd b q) (hI : PI0 n C Hd b) {S : Nat} {x : Int32} (hS0 : S < 2 ^ n) (hx9 : fx S = nI (nxm C Hd b q n S)) (hT : ∀ p, T p < 4) (hg9 : ∀ s t, S < s → s < 2 ^ n → t < 4 → fg (4 * s + t) = nI (cgv C Hd b q T n (4 * s + t))) : PI l yX1_fewestFrom wsX1_fewestFrom 2 45 D ky Hs [.ref h, .int (nI S), .int x] (nI (fwF C Hd b q T n (cgv C Hd b q T n) x S)) := by
  refine PI.of (cc := cX1_fewestFrom) (maxL := 5) (ty := .int) (by decide) rfl rfl (Nat.le_of_ble_eq_true rfl) ?_
  intro pg en Rm sg mi av below meth co Qo hRf hRl hx hb hml hown hts hK hret ls hl
  have hl : lv_has ls 5 [(0, .ref h), (1, .int (nI S)), (2, .int x)] := hl
  have hS : va_S (fun _ => False) Hs Hs [] := va_S.rf
  generalize ([] : List Loc) = locs at hS ⊢
  obtain ⟨o10, o11, o12, o13, o14, o15⟩ := id hod
  obtain ⟨a1, a2, a3, f1, f2, f3, f4⟩ := id hpr
  have hn8 := hI.1
  have hp2 : 2 ^ n ≤ 256 := p2_le hn8
  have hfb : ∀ k, itr (fwS C Hd b q T (cgv C Hd b q T n) x S) k (if S = 2 ^ n - 1 then 0 else 1000) < 2 ^ 31 := fun k => Nat.lt_of_le_of_lt (Nat.le_trans (fwF_le k _) (show (if S = 2 ^ n - 1 then 0 else 1000) ≤ 1000 by split <;> omega)) (by decide)
  have k28 := hts (.fieldLink RX1 28 "AssemblyPlanner$Ordering" "product" "LAssemblyPlanner$Product;") (by decide +kernel)
  have hinX1 : ∀ w ∈ wsX10, w ∈ wsX1_fewestFrom := by decide +kernel
  have k15 := hts (.fieldLink RX1 15 "AssemblyPlanner$Ordering" "nexts" "[I") (by decide +kernel)
  refine lv_iload_n hx hb dX1_fewestFrom_0 rfl (lv_at hl 1 rfl) ?_
  refine lv_aload_n hx hb dX1_fewestFrom_1 rfl (lv_at hl 0 rfl) ?_
  refine va_get (ci := 1) (C := RX1) (T := TX1) (N := 8) hx hb hts hinX1 hown hK hP 10 o10 rfl 0 (by decide) k28 (fun _ h9 => h9) rfl dX1_fewestFrom_2 ?_
  refine pcV (c_X3_all hP hpr hI) ⟨hx, hb, hml, hown, hts⟩ hK gX1_fewestFrom_X3_all rfl hd_X3_all ⟨by omega, by omega⟩ (va_recv hK hP (ci := 3) (q0 := 1) rfl f1) rfl hl.1 rfl (Nat.le_of_ble_eq_true rfl) dX1_fewestFrom_5 ⟨Nat.zero_le _, Nat.zero_le _⟩ hS (fun locs hS => ?_)
  refine sn_icmp_ne (tgt := 15) hx hb dX1_fewestFrom_8 (by decide) (by omega) (Nat.lt_of_le_of_lt (Nat.sub_le _ _) (pw_lt (by omega))) (fun c1 => ?_) (fun c1 => ?_)
  · refine lv_sipush (v := nI 1000) hx hb dX1_fewestFrom_15 si_1000 ?_
    refine lv_istore_n (lv' := [(3, .int (nI 1000)), (0, .ref h), (1, .int (nI S)), (2, .int x)]) hx hb dX1_fewestFrom_18 rfl hl (by decide) rfl (fun ls hl => ?_)
    refine lv_iconst (v := nI 0) hx hb dX1_fewestFrom_19 ci_0 ?_
    refine lv_istore (lv' := [(4, .int (nI 0)), (3, .int (nI 1000)), (0, .ref h), (1, .int (nI S)), (2, .int x)]) hx hb dX1_fewestFrom_20 hl (by decide) rfl (fun ls hl => ?_)
    have L22 : ∀ (L22d : Nat) (t : Nat), n - t < L22d → t ≤ n → ∀ (ls : Array Slot) (locs : List Loc), lv_has ls 5 [(3, .int (nI (itr (fwS C Hd b q T (cgv C Hd b q T n) x S) t (if S = 2 ^ n - 1 then 0 else 1000)))), (4, .int (nI t)), (0, .ref h), (1, .int (nI S)), (2, .int x)] → va_S (fun _ => False) Hs Hs locs → W pg l en Rm sg mi av below meth co Hs locs 0 0 Qo (F0 mi 22 ls []) := by
      intro L22d
      induction L22d with
      | zero => intro t hfu; exact absurd hfu (Nat.not_lt_zero _)
      | succ L22d ih22 =>
        intro t hfu i22_0 ls locs hl hS
        refine lv_iload hx hb dX1_fewestFrom_22 (lv_at hl 1 rfl) ?_
        refine lv_aload_n hx hb dX1_fewestFrom_24 rfl (lv_at hl 2 rfl) ?_
        refine va_get (ci := 1) (C := RX1) (T := TX1) (N := 8) hx hb hts hinX1 hown hK hP 10 o10 rfl 0 (by decide) k28 (fun _ h9 => h9) rfl dX1_fewestFrom_25 ?_
        refine pcV (c_X3_count hP hpr hI) ⟨hx, hb, hml, hown, hts⟩ hK gX1_fewestFrom_X3_count rfl hd_X3_count ⟨by omega, by omega⟩ (va_recv hK hP (ci := 3) (q0 := 1) rfl f1) rfl hl.1 rfl (Nat.le_of_ble_eq_true rfl) dX1_fewestFrom_28 ⟨Nat.zero_le _, Nat.zero_le _⟩ hS (fun locs hS => ?_)
        refine sn_icmp_ge (tgt := 67) hx hb dX1_fewestFrom_31 (by decide) (by omega) (by omega) (fun c2 => ?_) (fun c2 => ?_)
        · refine lv_iload_n hx hb dX1_fewestFrom_67 rfl (lv_at hl 0 rfl) ?_
          exact hret 68 ls locs _ dX1_fewestFrom_68 hS (by rw [show t = n by omega]; rfl)
        · refine lv_aload_n hx hb dX1_fewestFrom_34 rfl (lv_at hl 2 rfl) ?_
          refine va_get (ci := 1) (C := RX1) (T := TX1) (N := 8) hx hb hts hinX1 hown hK hP 10 o10 rfl 2 (by decide) k15 (fun _ h9 => h9) rfl dX1_fewestFrom_35 ?_
          refine lv_iload_n hx hb dX1_fewestFrom_38 rfl (lv_at hl 3 rfl) ?_
          refine sv_iald hx hb hK hP 12 o12 (j := S) (by omega) (by decide) dX1_fewestFrom_39 ?_
          refine W.eq (g2 := F0 mi 40 ls (.int (fx S) :: [])) rfl ?_
          refine sv_top (y := nI (nxm C Hd b q n S)) (hx9) ?_
          refine lv_iconst (v := nI 1) hx hb dX1_fewestFrom_40 ci_1 ?_
          refine lv_iload hx hb dX1_fewestFrom_41 (lv_at hl 1 rfl) ?_
          refine lv_ishl hx hb dX1_fewestFrom_43 ?_
          refine sv_top (y := nI (2 ^ t)) (sh_l1 (by omega)) ?_
          refine lv_iand hx hb dX1_fewestFrom_44 ?_
          refine sv_top (y := nI ((nxm C Hd b q n S) &&& (2 ^ t))) (an_and _ _) ?_
          refine st_if_eq (tgt := 61) hx hb dX1_fewestFrom_45 (by decide) (by omega) (fun c3 => ?_) (fun c3 => ?_)
          · have hcd : cad C Hd b q S t = false := by rw [← nxm_bit (by omega)]; exact c3
            refine lv_iinc (v := nI (t + 1)) (lv' := [(4, .int (nI (t + 1))), (3, .int (nI (itr (fwS C Hd b q T (cgv C Hd b q T n) x S) t (if S = 2 ^ n - 1 then 0 else 1000)))), (0, .ref h), (1, .int (nI S)), (2, .int x)]) hx hb dX1_fewestFrom_61 hl (k := 1) rfl (nI_1 _) (by decide) rfl (fun ls hl => ?_)
            refine lv_goto (tgt := 22) hx hb dX1_fewestFrom_64 (by decide) ?_
            have e3 : nI (itr (fwS C Hd b q T (cgv C Hd b q T n) x S) t (if S = 2 ^ n - 1 then 0 else 1000)) = nI (itr (fwS C Hd b q T (cgv C Hd b q T n) x S) (t + 1) (if S = 2 ^ n - 1 then 0 else 1000)) := (congrArg nI (show _ = fwS C Hd b q T (cgv C Hd b q T n) x S t _ from (fwS_no hcd).symm))
            rw [e3] at hl
            exact ih22 (t + 1) (by omega) (by omega) ls locs (lv_sub hl [1, 0, 2, 3, 4] rfl) hS
          · have hcd : cad C Hd b q S t = true := by rw [← nxm_bit (by omega)]; exact c3
            have hgt := cad_gt hcd hS0 (by omega)
            have hcw : chI x (T t) + cgv C Hd b q T n (4 * (S ||| 2 ^ t) + T t) < 2 ^ 31 := by have h1 := chI_le x (T t); rw [cgv_eq hT hgt.2.2 (hT t)]; have h2 := fwF_1000 (C := C) (Hd := Hd) (b := b) (q := q) (T := T) (n := n) (g := cgv C Hd b q T n) (x := nI (T t)) (S := S ||| 2 ^ t); omega
            refine lv_iload_n hx hb dX1_fewestFrom_48 rfl (lv_at hl 0 rfl) ?_
            refine lv_aload_n hx hb dX1_fewestFrom_49 rfl (lv_at hl 2 rfl) ?_
            refine lv_iload_n hx hb dX1_fewestFrom_50 rfl (lv_at hl 3 rfl) ?_
            refine lv_iload_n hx hb dX1_fewestFrom_51 rfl (lv_at hl 4 rfl) ?_
            refine lv_iload hx hb dX1_fewestFrom_52 (lv_at hl 1 rfl) ?_
            refine pcV (c_X1_changesWith hP ⟨o10, o11, o12, o13, o14, o15⟩ hpr hI hT (by omega) (by omega) (hg9 _ _ hgt.2.1 hgt.2.2 (hT _))) ⟨hx, hb, hml, hown, hts⟩ hK gX1_fewestFrom_X1_changesWith rfl hd_X1_changesWith ⟨by omega, by omega⟩ (va_recv hK hP (ci := 1) (q0 := 10) rfl o10) rfl hl.1 rfl (Nat.le_of_ble_eq_true rfl) dX1_fewestFrom_54 ⟨Nat.zero_le _, Nat.zero_le _⟩ hS (fun locs hS => ?_)
            refine va_mmin hx hb (hml.trans hl.1.symm) hown (hts (.methodLink RX1 83 Lib.Math.min.name) (by decide +kernel)) (hts (.static Lib.Math.min.name) (by decide +kernel)) (hts (.initialized "java/lang/Math") (by decide +kernel)) (hts (.code Lib.Math.min.name Lib.Math.min.code 2 (some .int)) (by decide +kernel)) (by omega) (Nat.le_trans (Nat.le_of_ble_eq_true rfl : _ ≤ 21) (by omega)) (Nat.zero_le _) (Nat.zero_le _) dX1_fewestFrom_57 ?_
            refine sv_top (y := nI (if chI x (T t) + cgv C Hd b q T n (4 * (S ||| 2 ^ t) + T t) < (itr (fwS C Hd b q T (cgv C Hd b q T n) x S) t (if S = 2 ^ n - 1 then 0 else 1000)) then chI x (T t) + cgv C Hd b q T n (4 * (S ||| 2 ^ t) + T t) else (itr (fwS C Hd b q T (cgv C Hd b q T n) x S) t (if S = 2 ^ n - 1 then 0 else 1000)))) (mn_N hcw (hfb _)) ?_
            refine lv_istore_n (lv' := [(3, .int (nI (if chI x (T t) + cgv C Hd b q T n (4 * (S ||| 2 ^ t) + T t) < (itr (fwS C Hd b q T (cgv C Hd b q T n) x S) t (if S = 2 ^ n - 1 then 0 else 1000)) then chI x (T t) + cgv C Hd b q T n (4 * (S ||| 2 ^ t) + T t) else (itr (fwS C Hd b q T (cgv C Hd b q T n) x S) t (if S = 2 ^ n - 1 then 0 else 1000))))), (4, .int (nI t)), (0, .ref h), (1, .int (nI S)), (2, .int x)]) hx hb dX1_fewestFrom_60 rfl hl (by decide) rfl (fun ls hl => ?_)
            refine lv_iinc (v := nI (t + 1)) (lv' := [(4, .int (nI (t + 1))), (3, .int (nI (if chI x (T t) + cgv C Hd b q T n (4 * (S ||| 2 ^ t) + T t) < (itr (fwS C Hd b q T (cgv C Hd b q T n) x S) t (if S = 2 ^ n - 1 then 0 else 1000)) then chI x (T t) + cgv C Hd b q T n (4 * (S ||| 2 ^ t) + T t) else (itr (fwS C Hd b q T (cgv C Hd b q T n) x S) t (if S = 2 ^ n - 1 then 0 else 1000))))), (0, .ref h), (1, .int (nI S)), (2, .int x)]) hx hb dX1_fewestFrom_61 hl (k := 1) rfl (nI_1 _) (by decide) rfl (fun ls hl => ?_)
            refine lv_goto (tgt := 22) hx hb dX1_fewestFrom_64 (by decide) ?_
            have e3 : nI (if chI x (T t) + cgv C Hd b q T n (4 * (S ||| 2 ^ t) + T t) < (itr (fwS C Hd b q T (cgv C Hd b q T n) x S) t (if S = 2 ^ n - 1 then 0 else 1000)) then chI x (T t) + cgv C Hd b q T n (4 * (S ||| 2 ^ t) + T t) else (itr (fwS C Hd b q T (cgv C Hd b q T n) x S) t (if S = 2 ^ n - 1 then 0 else 1000))) = nI (itr (fwS C Hd b q T (cgv C Hd b q T n) x S) (t + 1) (if S = 2 ^ n - 1 then 0 else 1000)) := (congrArg nI (show _ = fwS C Hd b q T (cgv C Hd b q T n) x S t _ from (fwS_yes hcd).symm))
            rw [e3] at hl
            exact ih22 (t + 1) (by omega) (by omega) ls locs (lv_sub hl [1, 0, 2, 3, 4] rfl) hS
    have e3 : nI 1000 = nI (itr (fwS C Hd b q T (cgv C Hd b q T n) x S) 0 (if S = 2 ^ n - 1 then 0 else 1000)) := (congrArg nI (if_neg c1).symm)
    replace hl := lv_re (l2 := [(4, .int (nI 0)), (3, .int (nI (itr (fwS C Hd b q T (cgv C Hd b q T n) x S) 0 (if S = 2 ^ n - 1 then 0 else 1000)))), (0, .ref h), (1, .int (nI S)), (2, .int x)]) hl (by rw [e3])
    exact L22 ((n - 0) + 1) 0 (Nat.lt_succ_self _) (by omega) ls locs (lv_sub hl [1, 0, 2, 3, 4] rfl) hS
  · refine lv_iconst (v := nI 0) hx hb dX1_fewestFrom_11 ci_0 ?_
    refine lv_goto (tgt := 18) hx hb dX1_fewestFrom_12 (by decide) ?_
    refine lv_istore_n (lv' := [(3, .int (nI 0)), (0, .ref h), (1, .int (nI S)), (2, .int x)]) hx hb dX1_fewestFrom_18 rfl hl (by decide) rfl (fun ls hl => ?_)
    refine lv_iconst (v := nI 0) hx hb dX1_fewestFrom_19 ci_0 ?_
    refine lv_istore (lv' := [(4, .int (nI 0)), (3, .int (nI 0)), (0, .ref h), (1, .int (nI S)), (2, .int x)]) hx hb dX1_fewestFrom_20 hl (by decide) rfl (fun ls hl => ?_)
    have L22 : ∀ (L22d : Nat) (t : Nat), n - t < L22d → t ≤ n → ∀ (ls : Array Slot) (locs : List Loc), lv_has ls 5 [(3, .int (nI (itr (fwS C Hd b q T (cgv C Hd b q T n) x S) t (if S = 2 ^ n - 1 then 0 else 1000)))), (4, .int (nI t)), (0, .ref h), (1, .int (nI S)), (2, .int x)] → va_S (fun _ => False) Hs Hs locs → W pg l en Rm sg mi av below meth co Hs locs 0 0 Qo (F0 mi 22 ls []) := by
      intro L22d
      induction L22d with
      | zero => intro t hfu; exact absurd hfu (Nat.not_lt_zero _)
      | succ L22d ih22 =>
        intro t hfu i22_0 ls locs hl hS
        refine lv_iload hx hb dX1_fewestFrom_22 (lv_at hl 1 rfl) ?_
        refine lv_aload_n hx hb dX1_fewestFrom_24 rfl (lv_at hl 2 rfl) ?_
        refine va_get (ci := 1) (C := RX1) (T := TX1) (N := 8) hx hb hts hinX1 hown hK hP 10 o10 rfl 0 (by decide) k28 (fun _ h9 => h9) rfl dX1_fewestFrom_25 ?_
        refine pcV (c_X3_count hP hpr hI) ⟨hx, hb, hml, hown, hts⟩ hK gX1_fewestFrom_X3_count rfl hd_X3_count ⟨by omega, by omega⟩ (va_recv hK hP (ci := 3) (q0 := 1) rfl f1) rfl hl.1 rfl (Nat.le_of_ble_eq_true rfl) dX1_fewestFrom_28 ⟨Nat.zero_le _, Nat.zero_le _⟩ hS (fun locs hS => ?_)
        refine sn_icmp_ge (tgt := 67) hx hb dX1_fewestFrom_31 (by decide) (by omega) (by omega) (fun c4 => ?_) (fun c4 => ?_)
        · refine lv_iload_n hx hb dX1_fewestFrom_67 rfl (lv_at hl 0 rfl) ?_
          exact hret 68 ls locs _ dX1_fewestFrom_68 hS (by rw [show t = n by omega]; rfl)
        · refine lv_aload_n hx hb dX1_fewestFrom_34 rfl (lv_at hl 2 rfl) ?_
          refine va_get (ci := 1) (C := RX1) (T := TX1) (N := 8) hx hb hts hinX1 hown hK hP 10 o10 rfl 2 (by decide) k15 (fun _ h9 => h9) rfl dX1_fewestFrom_35 ?_
          refine lv_iload_n hx hb dX1_fewestFrom_38 rfl (lv_at hl 3 rfl) ?_
          refine sv_iald hx hb hK hP 12 o12 (j := S) (by omega) (by decide) dX1_fewestFrom_39 ?_
          refine W.eq (g2 := F0 mi 40 ls (.int (fx S) :: [])) rfl ?_
          refine sv_top (y := nI (nxm C Hd b q n S)) (hx9) ?_
          refine lv_iconst (v := nI 1) hx hb dX1_fewestFrom_40 ci_1 ?_
          refine lv_iload hx hb dX1_fewestFrom_41 (lv_at hl 1 rfl) ?_
          refine lv_ishl hx hb dX1_fewestFrom_43 ?_
          refine sv_top (y := nI (2 ^ t)) (sh_l1 (by omega)) ?_
          refine lv_iand hx hb dX1_fewestFrom_44 ?_
          refine sv_top (y := nI ((nxm C Hd b q n S) &&& (2 ^ t))) (an_and _ _) ?_
          refine st_if_eq (tgt := 61) hx hb dX1_fewestFrom_45 (by decide) (by omega) (fun c5 => ?_) (fun c5 => ?_)
          · have hcd : cad C Hd b q S t = false := by rw [← nxm_bit (by omega)]; exact c5
            refine lv_iinc (v := nI (t + 1)) (lv' := [(4, .int (nI (t + 1))), (3, .int (nI (itr (fwS C Hd b q T (cgv C Hd b q T n) x S) t (if S = 2 ^ n - 1 then 0 else 1000)))), (0, .ref h), (1, .int (nI S)), (2, .int x)]) hx hb dX1_fewestFrom_61 hl (k := 1) rfl (nI_1 _) (by decide) rfl (fun ls hl => ?_)
            refine lv_goto (tgt := 22) hx hb dX1_fewestFrom_64 (by decide) ?_
            have e3 : nI (itr (fwS C Hd b q T (cgv C Hd b q T n) x S) t (if S = 2 ^ n - 1 then 0 else 1000)) = nI (itr (fwS C Hd b q T (cgv C Hd b q T n) x S) (t + 1) (if S = 2 ^ n - 1 then 0 else 1000)) := (congrArg nI (show _ = fwS C Hd b q T (cgv C Hd b q T n) x S t _ from (fwS_no hcd).symm))
            rw [e3] at hl
            exact ih22 (t + 1) (by omega) (by omega) ls locs (lv_sub hl [1, 0, 2, 3, 4] rfl) hS
          · have hcd : cad C Hd b q S t = true := by rw [← nxm_bit (by omega)]; exact c5
            have hgt := cad_gt hcd hS0 (by omega)
            have hcw : chI x (T t) + cgv C Hd b q T n (4 * (S ||| 2 ^ t) + T t) < 2 ^ 31 := by have h1 := chI_le x (T t); rw [cgv_eq hT hgt.2.2 (hT t)]; have h2 := fwF_1000 (C := C) (Hd := Hd) (b := b) (q := q) (T := T) (n := n) (g := cgv C Hd b q T n) (x := nI (T t)) (S := S ||| 2 ^ t); omega
            refine lv_iload_n hx hb dX1_fewestFrom_48 rfl (lv_at hl 0 rfl) ?_
            refine lv_aload_n hx hb dX1_fewestFrom_49 rfl (lv_at hl 2 rfl) ?_
            refine lv_iload_n hx hb dX1_fewestFrom_50 rfl (lv_at hl 3 rfl) ?_
            refine lv_iload_n hx hb dX1_fewestFrom_51 rfl (lv_at hl 4 rfl) ?_
            refine lv_iload hx hb dX1_fewestFrom_52 (lv_at hl 1 rfl) ?_
            refine pcV (c_X1_changesWith hP ⟨o10, o11, o12, o13, o14, o15⟩ hpr hI hT (by omega) (by omega) (hg9 _ _ hgt.2.1 hgt.2.2 (hT _))) ⟨hx, hb, hml, hown, hts⟩ hK gX1_fewestFrom_X1_changesWith rfl hd_X1_changesWith ⟨by omega, by omega⟩ (va_recv hK hP (ci := 1) (q0 := 10) rfl o10) rfl hl.1 rfl (Nat.le_of_ble_eq_true rfl) dX1_fewestFrom_54 ⟨Nat.zero_le _, Nat.zero_le _⟩ hS (fun locs hS => ?_)
            refine va_mmin hx hb (hml.trans hl.1.symm) hown (hts (.methodLink RX1 83 Lib.Math.min.name) (by decide +kernel)) (hts (.static Lib.Math.min.name) (by decide +kernel)) (hts (.initialized "java/lang/Math") (by decide +kernel)) (hts (.code Lib.Math.min.name Lib.Math.min.code 2 (some .int)) (by decide +kernel)) (by omega) (Nat.le_trans (Nat.le_of_ble_eq_true rfl : _ ≤ 21) (by omega)) (Nat.zero_le _) (Nat.zero_le _) dX1_fewestFrom_57 ?_
            refine sv_top (y := nI (if chI x (T t) + cgv C Hd b q T n (4 * (S ||| 2 ^ t) + T t) < (itr (fwS C Hd b q T (cgv C Hd b q T n) x S) t (if S = 2 ^ n - 1 then 0 else 1000)) then chI x (T t) + cgv C Hd b q T n (4 * (S ||| 2 ^ t) + T t) else (itr (fwS C Hd b q T (cgv C Hd b q T n) x S) t (if S = 2 ^ n - 1 then 0 else 1000)))) (mn_N hcw (hfb _)) ?_
            refine lv_istore_n (lv' := [(3, .int (nI (if chI x (T t) + cgv C Hd b q T n (4 * (S ||| 2 ^ t) + T t) < (itr (fwS C Hd b q T (cgv C Hd b q T n) x S) t (if S = 2 ^ n - 1 then 0 else 1000)) then chI x (T t) + cgv C Hd b q T n (4 * (S ||| 2 ^ t) + T t) else (itr (fwS C Hd b q T (cgv C Hd b q T n) x S) t (if S = 2 ^ n - 1 then 0 else 1000))))), (4, .int (nI t)), (0, .ref h), (1, .int (nI S)), (2, .int x)]) hx hb dX1_fewestFrom_60 rfl hl (by decide) rfl (fun ls hl => ?_)
            refine lv_iinc (v := nI (t + 1)) (lv' := [(4, .int (nI (t + 1))), (3, .int (nI (if chI x (T t) + cgv C Hd b q T n (4 * (S ||| 2 ^ t) + T t) < (itr (fwS C Hd b q T (cgv C Hd b q T n) x S) t (if S = 2 ^ n - 1 then 0 else 1000)) then chI x (T t) + cgv C Hd b q T n (4 * (S ||| 2 ^ t) + T t) else (itr (fwS C Hd b q T (cgv C Hd b q T n) x S) t (if S = 2 ^ n - 1 then 0 else 1000))))), (0, .ref h), (1, .int (nI S)), (2, .int x)]) hx hb dX1_fewestFrom_61 hl (k := 1) rfl (nI_1 _) (by decide) rfl (fun ls hl => ?_)
            refine lv_goto (tgt := 22) hx hb dX1_fewestFrom_64 (by decide) ?_
            have e3 : nI (if chI x (T t) + cgv C Hd b q T n (4 * (S ||| 2 ^ t) + T t) < (itr (fwS C Hd b q T (cgv C Hd b q T n) x S) t (if S = 2 ^ n - 1 then 0 else 1000)) then chI x (T t) + cgv C Hd b q T n (4 * (S ||| 2 ^ t) + T t) else (itr (fwS C Hd b q T (cgv C Hd b q T n) x S) t (if S = 2 ^ n - 1 then 0 else 1000))) = nI (itr (fwS C Hd b q T (cgv C Hd b q T n) x S) (t + 1) (if S = 2 ^ n - 1 then 0 else 1000)) := (congrArg nI (show _ = fwS C Hd b q T (cgv C Hd b q T n) x S t _ from (fwS_yes hcd).symm))
            rw [e3] at hl
            exact ih22 (t + 1) (by omega) (by omega) ls locs (lv_sub hl [1, 0, 2, 3, 4] rfl) hS
    have e3 : nI 0 = nI (itr (fwS C Hd b q T (cgv C Hd b q T n) x S) 0 (if S = 2 ^ n - 1 then 0 else 1000)) := (congrArg nI (if_pos c1).symm)
    replace hl := lv_re (l2 := [(4, .int (nI 0)), (3, .int (nI (itr (fwS C Hd b q T (cgv C Hd b q T n) x S) 0 (if S = 2 ^ n - 1 then 0 else 1000)))), (0, .ref h), (1, .int (nI S)), (2, .int x)]) hl (by rw [e3])
    exact L22 ((n - 0) + 1) 0 (Nat.lt_succ_self _) (by omega) ls locs (lv_sub hl [1, 0, 2, 3, 4] rfl) hS
set_option maxHeartbeats 4000000 in
set_option maxRecDepth 100000 in
theorem c_X1_leastNext {l : Launch} {D : va_G} {ky : kT} {Hs : Heap} {ws : va_W} (hP : va_P D CL ws Hs) {h hp b1 b2 b3 b4 b5 : Nat} {Sn : Nat → Bool} {fx fo fg fb : Nat → Int32} {fe : Int32} {kn : Bool} (hod : isOrd ky ws h hp b1 b2 b3 b4 b5 Sn fx fo fg fb fe kn) {n : Nat} {T C Hd : Nat → Nat} {b : Nat} {q : Bool} (hpr : isProd ky ws hp n T C Hd b q) (hI : PI0 n C Hd b) {S m : Nat} {x : Int32} (hS0 : S < 2 ^ n) (hm9 : m < 2 ^ 31) (hx9 : fx S = nI (nxm C Hd b q n S)) (hT : ∀ p, T p < 4) (hg9 : ∀ s t, S < s → s < 2 ^ n → t < 4 → fg (4 * s + t) = nI (cgv C Hd b q T n (4 * s + t))) : PI l yX1_leastNext wsX1_leastNext 2 45 D ky Hs [.ref h, .int (nI S), .int x, .int (nI m)] (if lnx C Hd b q T n S x m < n then nI (lnx C Hd b q T n S x m) else -1) := by
  refine PI.of (cc := cX1_leastNext) (maxL := 5) (ty := .int) (by decide) rfl rfl (Nat.le_of_ble_eq_true rfl) ?_
  intro pg en Rm sg mi av below meth co Qo hRf hRl hx hb hml hown hts hK hret ls hl
  have hl : lv_has ls 5 [(0, .ref h), (1, .int (nI S)), (2, .int x), (3, .int (nI m))] := hl
  have hS : va_S (fun _ => False) Hs Hs [] := va_S.rf
  generalize ([] : List Loc) = locs at hS ⊢
  obtain ⟨o10, o11, o12, o13, o14, o15⟩ := id hod
  obtain ⟨a1, a2, a3, f1, f2, f3, f4⟩ := id hpr
  have hn8 := hI.1
  have hp2 : 2 ^ n ≤ 256 := p2_le hn8
  have k28 := hts (.fieldLink RX1 28 "AssemblyPlanner$Ordering" "product" "LAssemblyPlanner$Product;") (by decide +kernel)
  have hinX1 : ∀ w ∈ wsX10, w ∈ wsX1_leastNext := by decide +kernel
  have k15 := hts (.fieldLink RX1 15 "AssemblyPlanner$Ordering" "nexts" "[I") (by decide +kernel)
  refine lv_iconst (v := nI 0) hx hb dX1_leastNext_0 ci_0 ?_
  refine lv_istore (lv' := [(4, .int (nI 0)), (0, .ref h), (1, .int (nI S)), (2, .int x), (3, .int (nI m))]) hx hb dX1_leastNext_1 hl (by decide) rfl (fun ls hl => ?_)
  have L3 : ∀ (L3d : Nat) (t : Nat), n - t < L3d → t ≤ n → (∀ j, j < t → lnP C Hd b q T n S x m j = false) → ∀ (ls : Array Slot) (locs : List Loc), lv_has ls 5 [(4, .int (nI t)), (0, .ref h), (1, .int (nI S)), (2, .int x), (3, .int (nI m))] → va_S (fun _ => False) Hs Hs locs → W pg l en Rm sg mi av below meth co Hs locs 0 0 Qo (F0 mi 3 ls []) := by
    intro L3d
    induction L3d with
    | zero => intro t hfu; exact absurd hfu (Nat.not_lt_zero _)
    | succ L3d ih3 =>
      intro t hfu i3_0 i3_1 ls locs hl hS
      refine lv_iload hx hb dX1_leastNext_3 (lv_at hl 0 rfl) ?_
      refine lv_aload_n hx hb dX1_leastNext_5 rfl (lv_at hl 1 rfl) ?_
      refine va_get (ci := 1) (C := RX1) (T := TX1) (N := 8) hx hb hts hinX1 hown hK hP 10 o10 rfl 0 (by decide) k28 (fun _ h9 => h9) rfl dX1_leastNext_6 ?_
      refine pcV (c_X3_count hP hpr hI) ⟨hx, hb, hml, hown, hts⟩ hK gX1_leastNext_X3_count rfl hd_X3_count ⟨by omega, by omega⟩ (va_recv hK hP (ci := 3) (q0 := 1) rfl f1) rfl hl.1 rfl (Nat.le_of_ble_eq_true rfl) dX1_leastNext_9 ⟨Nat.zero_le _, Nat.zero_le _⟩ hS (fun locs hS => ?_)
      refine sn_icmp_ge (tgt := 50) hx hb dX1_leastNext_12 (by decide) (by omega) (by omega) (fun c1 => ?_) (fun c1 => ?_)
      · refine lv_iconst (v := -1) hx hb dX1_leastNext_50 ci_m1 ?_
        exact hret 51 ls locs _ dX1_leastNext_51 hS (by have e : lnx C Hd b q T n S x m = n := lfi_none (fun j hj => i3_1 j (by omega)); rw [e, if_neg (Nat.lt_irrefl _)])
      · refine lv_aload_n hx hb dX1_leastNext_15 rfl (lv_at hl 1 rfl) ?_
        refine va_get (ci := 1) (C := RX1) (T := TX1) (N := 8) hx hb hts hinX1 hown hK hP 10 o10 rfl 2 (by decide) k15 (fun _ h9 => h9) rfl dX1_leastNext_16 ?_
        refine lv_iload_n hx hb dX1_leastNext_19 rfl (lv_at hl 2 rfl) ?_
        refine sv_iald hx hb hK hP 12 o12 (j := S) (by omega) (by decide) dX1_leastNext_20 ?_
        refine W.eq (g2 := F0 mi 21 ls (.int (fx S) :: [])) rfl ?_
        refine sv_top (y := nI (nxm C Hd b q n S)) (hx9) ?_
        refine lv_iconst (v := nI 1) hx hb dX1_leastNext_21 ci_1 ?_
        refine lv_iload hx hb dX1_leastNext_22 (lv_at hl 0 rfl) ?_
        refine lv_ishl hx hb dX1_leastNext_24 ?_
        refine sv_top (y := nI (2 ^ t)) (sh_l1 (by omega)) ?_
        refine lv_iand hx hb dX1_leastNext_25 ?_
        refine sv_top (y := nI ((nxm C Hd b q n S) &&& (2 ^ t))) (an_and _ _) ?_
        refine st_if_eq (tgt := 44) hx hb dX1_leastNext_26 (by decide) (by omega) (fun c2 => ?_) (fun c2 => ?_)
        · have hcd : cad C Hd b q S t = false := by rw [← nxm_bit (by omega)]; exact c2
          refine lv_iinc (v := nI (t + 1)) (lv' := [(4, .int (nI (t + 1))), (0, .ref h), (1, .int (nI S)), (2, .int x), (3, .int (nI m))]) hx hb dX1_leastNext_44 hl (k := 0) rfl (nI_1 _) (by decide) rfl (fun ls hl => ?_)
          refine lv_goto (tgt := 3) hx hb dX1_leastNext_47 (by decide) ?_
          exact ih3 (t + 1) (by omega) (by omega) (fun j hj => by rcases Nat.lt_or_ge j t with w | w; exact i3_1 j w; rw [show j = t by omega]; exact (by unfold lnP; rw [hcd]; rfl)) ls locs (lv_sub hl [0, 1, 2, 3, 4] rfl) hS
        · have hcd : cad C Hd b q S t = true := by rw [← nxm_bit (by omega)]; exact c2
          have hgt := cad_gt hcd hS0 (by omega)
          have hcw : chI x (T t) + cgv C Hd b q T n (4 * (S ||| 2 ^ t) + T t) < 2 ^ 31 := by have h1 := chI_le x (T t); rw [cgv_eq hT hgt.2.2 (hT t)]; have h2 := fwF_1000 (C := C) (Hd := Hd) (b := b) (q := q) (T := T) (n := n) (g := cgv C Hd b q T n) (x := nI (T t)) (S := S ||| 2 ^ t); omega
          refine lv_aload_n hx hb dX1_leastNext_29 rfl (lv_at hl 1 rfl) ?_
          refine lv_iload_n hx hb dX1_leastNext_30 rfl (lv_at hl 2 rfl) ?_
          refine lv_iload_n hx hb dX1_leastNext_31 rfl (lv_at hl 3 rfl) ?_
          refine lv_iload hx hb dX1_leastNext_32 (lv_at hl 0 rfl) ?_
          refine pcV (c_X1_changesWith hP ⟨o10, o11, o12, o13, o14, o15⟩ hpr hI hT (by omega) (by omega) (hg9 _ _ hgt.2.1 hgt.2.2 (hT _))) ⟨hx, hb, hml, hown, hts⟩ hK gX1_leastNext_X1_changesWith rfl hd_X1_changesWith ⟨by omega, by omega⟩ (va_recv hK hP (ci := 1) (q0 := 10) rfl o10) rfl hl.1 rfl (Nat.le_of_ble_eq_true rfl) dX1_leastNext_34 ⟨Nat.zero_le _, Nat.zero_le _⟩ hS (fun locs hS => ?_)
          refine lv_iload_n hx hb dX1_leastNext_37 rfl (lv_at hl 4 rfl) ?_
          refine sn_icmp_ne (tgt := 44) hx hb dX1_leastNext_38 (by decide) hcw hm9 (fun c3 => ?_) (fun c3 => ?_)
          · refine lv_iinc (v := nI (t + 1)) (lv' := [(4, .int (nI (t + 1))), (0, .ref h), (1, .int (nI S)), (2, .int x), (3, .int (nI m))]) hx hb dX1_leastNext_44 hl (k := 0) rfl (nI_1 _) (by decide) rfl (fun ls hl => ?_)
            refine lv_goto (tgt := 3) hx hb dX1_leastNext_47 (by decide) ?_
            exact ih3 (t + 1) (by omega) (by omega) (fun j hj => by rcases Nat.lt_or_ge j t with w | w; exact i3_1 j w; rw [show j = t by omega]; exact (by unfold lnP; rw [hcd, decide_eq_false c3]; rfl)) ls locs (lv_sub hl [0, 1, 2, 3, 4] rfl) hS
          · refine lv_iload hx hb dX1_leastNext_41 (lv_at hl 0 rfl) ?_
            exact hret 43 ls locs _ dX1_leastNext_43 hS (by have e : lnx C Hd b q T n S x m = t := lfi_eq (by omega) (by unfold lnP; rw [hcd, decide_eq_true c3]; rfl) i3_1; rw [e, if_pos (by omega)])
  exact L3 ((n - 0) + 1) 0 (Nat.lt_succ_self _) (by omega) (fun j hj => absurd hj (Nat.not_lt_zero _)) ls locs (lv_sub hl [0, 1, 2, 3, 4] rfl) hS
set_option maxHeartbeats 4000000 in
set_option maxRecDepth 100000 in
theorem c_X1_findBest {l : Launch} {D : va_G} {ky : kT} {A : Nat → Prop} {Hs : Heap} {ws : va_W} (hP : va_P D CL ws Hs) (hD : va_D A ws) {h hp b1 b2 b3 b4 b5 : Nat} {Sn : Nat → Bool} {fx fo fg fb : Nat → Int32} {fe : Int32} {kn : Bool} (hod : isOrd ky ws h hp b1 b2 b3 b4 b5 Sn fx fo fg fb fe kn) {n : Nat} {T C Hd : Nat → Nat} {b : Nat} {q : Bool} (hpr : isProd ky ws hp n T C Hd b q) (hI : PI0 n C Hd b) (hT : ∀ p, T p < 4) (he : fe = nI (few C Hd b q T n)) (hx9 : ∀ s, s < 2 ^ n → fx s = nI (nxm C Hd b q n s)) (hg9 : ∀ s t, s < 2 ^ n → t < 4 → fg (4 * s + t) = nI (cgv C Hd b q T n (4 * s + t))) : MV l yX1_findBest wsX1_findBest 3 69 0 0 D ky A Hs [.ref h] (fun w => (∃ gb : Nat → Int32, isOrd ky w h hp b1 b2 b3 b4 b5 Sn fx fo fg gb fe kn ∧ beOK C Hd b q T n gb) ∧ fr ws w 10 15) := by
  refine MV.of (cc := cX1_findBest) (maxL := 6) (by decide) rfl (Nat.le_of_ble_eq_true rfl) ?_
  intro pg en Rm sg mi av below meth co Qo hRf hRl hRc hRs hx hb hml hown hin hts hK hret ls hl
  have hl : lv_has ls 6 [(0, .ref h)] := hl
  have hS : va_S A Hs Hs [] := va_S.rf
  generalize ([] : List Loc) = locs at hS ⊢
  obtain ⟨o10, o11, o12, o13, o14, o15⟩ := id hod
  obtain ⟨a1, a2, a3, f1, f2, f3, f4⟩ := id hpr
  have hn8 := hI.1
  have hp2 : 2 ^ n ≤ 256 := p2_le hn8
  have k39 := hts (.fieldLink RX1 39 "AssemblyPlanner$Ordering" "fewest" "I") (by decide +kernel)
  have hinX1 : ∀ w ∈ wsX10, w ∈ wsX1_findBest := by decide +kernel
  have k28 := hts (.fieldLink RX1 28 "AssemblyPlanner$Ordering" "product" "LAssemblyPlanner$Product;") (by decide +kernel)
  have k25 := hts (.fieldLink RX1 25 "AssemblyPlanner$Ordering" "best" "[I") (by decide +kernel)
  refine lv_iconst (v := nI 0) hx hb dX1_findBest_0 ci_0 ?_
  refine lv_istore_n (lv' := [(1, .int (nI 0)), (0, .ref h)]) hx hb dX1_findBest_1 rfl hl (by decide) rfl (fun ls hl => ?_)
  refine lv_iconst (v := -1) hx hb dX1_findBest_2 ci_m1 ?_
  refine lv_istore_n (lv' := [(2, .int (-1)), (1, .int (nI 0)), (0, .ref h)]) hx hb dX1_findBest_3 rfl hl (by decide) rfl (fun ls hl => ?_)
  refine lv_aload_n hx hb dX1_findBest_4 rfl (lv_at hl 2 rfl) ?_
  refine va_get (ci := 1) (C := RX1) (T := TX1) (N := 8) hx hb hts hinX1 hown hK hP 10 o10 rfl 6 (by decide) k39 (fun _ h9 => h9) rfl dX1_findBest_5 ?_
  refine lv_istore_n (lv' := [(3, .int fe), (2, .int (-1)), (1, .int (nI 0)), (0, .ref h)]) hx hb dX1_findBest_8 rfl hl (by decide) rfl (fun ls hl => ?_)
  refine lv_iconst (v := nI 0) hx hb dX1_findBest_9 ci_0 ?_
  refine lv_istore (lv' := [(4, .int (nI 0)), (3, .int fe), (2, .int (-1)), (1, .int (nI 0)), (0, .ref h)]) hx hb dX1_findBest_10 hl (by decide) rfl (fun ls hl => ?_)
  have L12 : ∀ (L12d : Nat) (t : Nat) (gb : Nat → Int32), n - t < L12d → ∀ (wl12 : va_W) (H : Heap), t ≤ n → (∀ j, j < t → bp C Hd b q T n j < n ∧ gb j = nI (bp C Hd b q T n j)) → (bq C Hd b q T n t).1 < 2 ^ n → (bq C Hd b q T n t).2.2 ≤ 1000 → va_P D CL wl12 H → va_D A wl12 → wl12[10]? = some (h, .inr (1, [.ref hp, .ref b1, .ref b2, .ref b3, .ref b4, .ref b5, .int fe, .int (bI kn)])) → wl12[11]? = some (b1, .inl (ky.2.1, 256, .inl (fun i => bI (Sn i)))) → wl12[12]? = some (b2, .inl (ky.1, 256, .inl fx)) → wl12[13]? = some (b3, .inl (ky.1, 256, .inl fo)) → wl12[14]? = some (b4, .inl (ky.1, 1024, .inl fg)) → wl12[15]? = some (b5, .inl (ky.1, 8, .inl gb)) → wl12[1]? = some (hp, .inr (3, [.ref a1, .ref a2, .ref a3, .int (nI n), .int (nI b), .int (bI q)])) → wl12[2]? = some (a1, .inl (ky.1, 8, .inl (fun i => nI (T i)))) → wl12[3]? = some (a2, .inl (ky.1, 8, .inl (fun i => nI (C i)))) → wl12[4]? = some (a3, .inl (ky.1, 48, .inl (fun i => nI (Hd i)))) → isProd ky wl12 hp n T C Hd b q → fr ws wl12 10 15 → ∀ (ls : Array Slot) (locs : List Loc), lv_has ls 6 [(1, .int (nI ((bq C Hd b q T n t).1))), (2, .int ((bq C Hd b q T n t).2.1)), (3, .int (nI ((bq C Hd b q T n t).2.2))), (4, .int (nI t)), (0, .ref h)] → va_S A Hs H locs → W pg l en Rm sg mi av below meth co H locs 0 0 Qo (F0 mi 12 ls []) := by
    intro L12d
    induction L12d with
    | zero => intro t gb hfu; exact absurd hfu (Nat.not_lt_zero _)
    | succ L12d ih12 =>
      intro t gb hfu wl12 H i12_0 i12_1 i12_2 i12_3 hP hD o10 o11 o12 o13 o14 o15 f1 f2 f3 f4 hpr frwl12 ls locs hl hS
      refine lv_iload hx hb dX1_findBest_12 (lv_at hl 3 rfl) ?_
      refine lv_aload_n hx hb dX1_findBest_14 rfl (lv_at hl 4 rfl) ?_
      refine va_get (ci := 1) (C := RX1) (T := TX1) (N := 8) hx hb hts hinX1 hown hK hP 10 o10 rfl 0 (by decide) k28 (fun _ h9 => h9) rfl dX1_findBest_15 ?_
      refine pcV (c_X3_count hP hpr hI) ⟨hx, hb, hml, hown, hts⟩ hK gX1_findBest_X3_count rfl hd_X3_count ⟨by omega, by omega⟩ (va_recv hK hP (ci := 3) (q0 := 1) rfl f1) rfl hl.1 rfl (Nat.le_of_ble_eq_true rfl) dX1_findBest_18 ⟨Nat.zero_le _, Nat.zero_le _⟩ hS (fun locs hS => ?_)
      refine sn_icmp_ge (tgt := 88) hx hb dX1_findBest_21 (by decide) (by omega) (by omega) (fun c1 => ?_) (fun c1 => ?_)
      · exact hret 88 ls _ _ locs dX1_findBest_88 hP hD hS (⟨⟨gb, ⟨o10, o11, o12, o13, o14, o15⟩, fun j hj hi => (i12_1 j (by omega)).2⟩, (fr.wd frwl12 : fr _ _ 10 15)⟩)
      · refine lv_aload_n hx hb dX1_findBest_24 rfl (lv_at hl 4 rfl) ?_
        refine lv_iload_n hx hb dX1_findBest_25 rfl (lv_at hl 0 rfl) ?_
        refine lv_iload_n hx hb dX1_findBest_26 rfl (lv_at hl 1 rfl) ?_
        refine lv_iload_n hx hb dX1_findBest_27 rfl (lv_at hl 2 rfl) ?_
        refine pcV (c_X1_leastNext hP ⟨o10, o11, o12, o13, o14, o15⟩ hpr hI i12_2 (by omega) (hx9 _ i12_2) hT (fun s t _ hs ht => hg9 s t hs ht)) ⟨hx, hb, hml, hown, hts⟩ hK gX1_findBest_X1_leastNext rfl hd_X1_leastNext ⟨by omega, by omega⟩ (va_recv hK hP (ci := 1) (q0 := 10) rfl o10) rfl hl.1 rfl (Nat.le_of_ble_eq_true rfl) dX1_findBest_28 ⟨Nat.zero_le _, Nat.zero_le _⟩ hS (fun locs hS => ?_)
        refine lv_istore (lv' := [(5, .int ((if bp C Hd b q T n t < n then nI (bp C Hd b q T n t) else -1))), (1, .int (nI ((bq C Hd b q T n t).1))), (2, .int ((bq C Hd b q T n t).2.1)), (3, .int (nI ((bq C Hd b q T n t).2.2))), (4, .int (nI t)), (0, .ref h)]) hx hb dX1_findBest_31 hl (by decide) rfl (fun ls hl => ?_)
        refine lv_iload hx hb dX1_findBest_33 (lv_at hl 0 rfl) ?_
        refine lv_iconst (v := -1) hx hb dX1_findBest_35 ci_m1 ?_
        refine lv_icmp_ne (tgt := 40) hx hb dX1_findBest_36 (by decide) (fun c2 => ?_) (fun c2 => ?_)
        · have hbn : bp C Hd b q T n t < n := by by_cases z : bp C Hd b q T n t < n; exact z; exact absurd (if_neg z) c2
          have e5 : (if bp C Hd b q T n t < n then nI (bp C Hd b q T n t) else -1) = nI (bp C Hd b q T n t) := if_pos hbn
          rw [e5] at hl
          have hln : chI (bq C Hd b q T n t).2.1 (T (bp C Hd b q T n t)) + cgv C Hd b q T n (4 * ((bq C Hd b q T n t).1 ||| 2 ^ bp C Hd b q T n t) + T (bp C Hd b q T n t)) = (bq C Hd b q T n t).2.2 := (lnx_yes hbn).2
          refine lv_aload_n hx hb dX1_findBest_40 rfl (lv_at hl 5 rfl) ?_
          refine va_get (ci := 1) (C := RX1) (T := TX1) (N := 8) hx hb hts hinX1 hown hK hP 10 o10 rfl 5 (by decide) k25 (fun _ h9 => h9) rfl dX1_findBest_41 ?_
          refine lv_iload hx hb dX1_findBest_44 (lv_at hl 4 rfl) ?_
          refine lv_iload hx hb dX1_findBest_46 (lv_at hl 0 rfl) ?_
          refine sv_iast hx hb hK hP hD hS 15 o15 (j := t) (by omega) (by decide) dX1_findBest_48 (fun ws4 H locs hP hD hS o15 fr3 => ?_)
          replace o10 := (fr3 10 (by decide)).trans o10
          replace o11 := (fr3 11 (by decide)).trans o11
          replace o12 := (fr3 12 (by decide)).trans o12
          replace o13 := (fr3 13 (by decide)).trans o13
          replace o14 := (fr3 14 (by decide)).trans o14
          replace f1 := (fr3 1 (by decide)).trans f1
          replace f2 := (fr3 2 (by decide)).trans f2
          replace f3 := (fr3 3 (by decide)).trans f3
          replace f4 := (fr3 4 (by decide)).trans f4
          replace hpr := hpr.fr fr3
          rw [upd_X] at o15
          refine lv_iload_n hx hb dX1_findBest_49 rfl (lv_at hl 3 rfl) ?_
          refine lv_iload_n hx hb dX1_findBest_50 rfl (lv_at hl 2 rfl) ?_
          refine lv_aload_n hx hb dX1_findBest_51 rfl (lv_at hl 5 rfl) ?_
          refine va_get (ci := 1) (C := RX1) (T := TX1) (N := 8) hx hb hts hinX1 hown hK hP 10 o10 rfl 0 (by decide) k28 (fun _ h9 => h9) rfl dX1_findBest_52 ?_
          refine lv_iload hx hb dX1_findBest_55 (lv_at hl 0 rfl) ?_
          refine pcV (c_X3_tool hP hpr hI (by omega)) ⟨hx, hb, hml, hown, hts⟩ hK gX1_findBest_X3_tool rfl hd_X3_tool ⟨by omega, by omega⟩ (va_recv hK hP (ci := 3) (q0 := 1) rfl f1) rfl hl.1 rfl (Nat.le_of_ble_eq_true rfl) dX1_findBest_57 ⟨Nat.zero_le _, Nat.zero_le _⟩ hS (fun locs hS => ?_)
          refine pcS (c_X1_change ) ⟨hx, hb, hml, hown, hts⟩ hK gX1_findBest_X1_change rfl hd_X1_change ⟨by omega, by omega⟩ rfl hl.1 rfl (Nat.le_of_ble_eq_true rfl) dX1_findBest_60 ⟨Nat.zero_le _, Nat.zero_le _⟩ hS (fun locs hS => ?_)
          refine lv_isub hx hb dX1_findBest_63 ?_
          refine sv_top (y := nI (((bq C Hd b q T n t).2.2) - (chI ((bq C Hd b q T n t).2.1) (T (bp C Hd b q T n t))))) (pk_sub (by omega)) ?_
          refine lv_istore_n (lv' := [(3, .int (nI (((bq C Hd b q T n t).2.2) - (chI ((bq C Hd b q T n t).2.1) (T (bp C Hd b q T n t)))))), (5, .int (nI (bp C Hd b q T n t))), (1, .int (nI ((bq C Hd b q T n t).1))), (2, .int ((bq C Hd b q T n t).2.1)), (4, .int (nI t)), (0, .ref h)]) hx hb dX1_findBest_64 rfl hl (by decide) rfl (fun ls hl => ?_)
          refine lv_aload_n hx hb dX1_findBest_65 rfl (lv_at hl 5 rfl) ?_
          refine va_get (ci := 1) (C := RX1) (T := TX1) (N := 8) hx hb hts hinX1 hown hK hP 10 o10 rfl 0 (by decide) k28 (fun _ h9 => h9) rfl dX1_findBest_66 ?_
          refine lv_iload hx hb dX1_findBest_69 (lv_at hl 1 rfl) ?_
          refine pcV (c_X3_tool hP hpr hI (by omega)) ⟨hx, hb, hml, hown, hts⟩ hK gX1_findBest_X3_tool rfl hd_X3_tool ⟨by omega, by omega⟩ (va_recv hK hP (ci := 3) (q0 := 1) rfl f1) rfl hl.1 rfl (Nat.le_of_ble_eq_true rfl) dX1_findBest_71 ⟨Nat.zero_le _, Nat.zero_le _⟩ hS (fun locs hS => ?_)
          refine lv_istore_n (lv' := [(2, .int (nI (T (bp C Hd b q T n t)))), (3, .int (nI (((bq C Hd b q T n t).2.2) - (chI ((bq C Hd b q T n t).2.1) (T (bp C Hd b q T n t)))))), (5, .int (nI (bp C Hd b q T n t))), (1, .int (nI ((bq C Hd b q T n t).1))), (4, .int (nI t)), (0, .ref h)]) hx hb dX1_findBest_74 rfl hl (by decide) rfl (fun ls hl => ?_)
          refine lv_iload_n hx hb dX1_findBest_75 rfl (lv_at hl 3 rfl) ?_
          refine lv_iconst (v := nI 1) hx hb dX1_findBest_76 ci_1 ?_
          refine lv_iload hx hb dX1_findBest_77 (lv_at hl 2 rfl) ?_
          refine lv_ishl hx hb dX1_findBest_79 ?_
          refine sv_top (y := nI (2 ^ (bp C Hd b q T n t))) (sh_l1 (by omega)) ?_
          refine lv_ior hx hb dX1_findBest_80 ?_
          refine sv_top (y := nI (((bq C Hd b q T n t).1) ||| (2 ^ (bp C Hd b q T n t)))) (an_or _ _) ?_
          refine lv_istore_n (lv' := [(1, .int (nI (((bq C Hd b q T n t).1) ||| (2 ^ (bp C Hd b q T n t))))), (2, .int (nI (T (bp C Hd b q T n t)))), (3, .int (nI (((bq C Hd b q T n t).2.2) - (chI ((bq C Hd b q T n t).2.1) (T (bp C Hd b q T n t)))))), (5, .int (nI (bp C Hd b q T n t))), (4, .int (nI t)), (0, .ref h)]) hx hb dX1_findBest_81 rfl hl (by decide) rfl (fun ls hl => ?_)
          refine lv_iinc (v := nI (t + 1)) (lv' := [(4, .int (nI (t + 1))), (1, .int (nI (((bq C Hd b q T n t).1) ||| (2 ^ (bp C Hd b q T n t))))), (2, .int (nI (T (bp C Hd b q T n t)))), (3, .int (nI (((bq C Hd b q T n t).2.2) - (chI ((bq C Hd b q T n t).2.1) (T (bp C Hd b q T n t)))))), (5, .int (nI (bp C Hd b q T n t))), (0, .ref h)]) hx hb dX1_findBest_82 hl (k := 4) rfl (nI_1 _) (by decide) rfl (fun ls hl => ?_)
          refine lv_goto (tgt := 12) hx hb dX1_findBest_85 (by decide) ?_
          exact ih12 (t + 1) ((upX gb t (nI (bp C Hd b q T n t)))) (by omega) _ _ (by omega) (fun j hj => by rcases Nat.lt_or_ge j t with w | w; exact ⟨(i12_1 j w).1, by rw [upX_n (by omega)]; exact (i12_1 j w).2⟩; rw [show j = t by omega]; exact ⟨hbn, upX_s⟩) (or_lt i12_2 (Nat.pow_lt_pow_right (by decide) hbn)) (Nat.le_trans (Nat.sub_le _ _) i12_3) hP hD o10 o11 o12 o13 o14 o15 f1 f2 f3 f4 hpr ((fr.wd frwl12 : fr _ _ 10 15).tr fr3) ls locs (lv_sub hl [1, 2, 3, 0, 5] rfl) hS
        · exact hret 39 ls _ _ locs dX1_findBest_39 hP hD hS (⟨⟨gb, ⟨o10, o11, o12, o13, o14, o15⟩, fun j hj hi => by rcases Nat.lt_or_ge j t with w | w; exact (i12_1 j w).2; exact absurd (hi t w) (fun z => by rw [if_pos z] at c2; exact m1_ne (by omega) c2.symm)⟩, (fr.wd frwl12 : fr _ _ 10 15)⟩)
  have e3 : fe = nI ((bq C Hd b q T n 0).2.2) := he
  rw [e3] at hl
  exact L12 ((n - 0) + 1) 0 fb (Nat.lt_succ_self _) _ _ (by omega) (fun j hj => absurd hj (Nat.not_lt_zero _)) (Nat.two_pow_pos n) fwF_1000 hP hD o10 o11 o12 o13 o14 o15 f1 f2 f3 f4 hpr fr.rf ls locs (lv_sub hl [3, 2, 1, 0, 4] rfl) hS

