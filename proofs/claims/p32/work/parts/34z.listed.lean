theorem bi_7 : (Int8.ofInt 7).toInt32 = nI 7 := by decide +kernel
theorem hd_X1_listed : yX1_listed.cls ≠ "java/lang/invoke/MethodHandle" ∧ yX1_listed.cls ≠ "java/lang/invoke/VarHandle" ∧ (parseMethodDescriptor yX1_listed.desc).map (fun d => d.parameters.length) = some 4 := by decide +kernel
set_option maxHeartbeats 4000000 in
set_option maxRecDepth 100000 in
theorem c_X1_listed {l : Launch} {D : va_G} {ky : kT} {Hs : Heap} {ws : va_W} (hP : va_P D CL ws Hs) {h hp b1 b2 b3 b4 b5 : Nat} {Sn : Nat → Bool} {fx fo fg fb : Nat → Int32} {fe : Int32} {kn : Bool} (hod : isOrd ky ws h hp b1 b2 b3 b4 b5 Sn fx fo fg fb fe kn) {n : Nat} {T C Hd : Nat → Nat} {b : Nat} {q : Bool} (hpr : isProd ky ws hp n T C Hd b q) (hI : PI0 n C Hd b) (hT : ∀ p, T p < 4) (hn7 : n ≤ 7) (hx9 : ∀ s, s < 2 ^ n → fx s = nI (nxm C Hd b q n s)) : ∀ (d : Nat) {S pl : Nat} {x : Int32}, pl + d = n → S < 2 ^ n → PI l yX1_listed wsX1_listed (1 + d) (21 + 27 * d) D ky Hs [.ref h, .int (nI pl), .int (nI S), .int x] (nI (lst C Hd b q T n d S x)) := by
  intro d
  induction d with
  | zero =>
    intro S pl x hpd hS0
    refine PI.of (cc := cX1_listed) (maxL := 8) (ty := .int) (by decide) rfl rfl (Nat.le_of_ble_eq_true rfl) ?_
    intro pg en Rm sg mi av below meth co Qo hRf hRl hx hb hml hown hts hK hret ls hl
    have hl : lv_has ls 8 [(0, .ref h), (1, .int (nI pl)), (2, .int (nI S)), (3, .int x)] := hl
    have hS : va_S (fun _ => False) Hs Hs [] := va_S.rf
    generalize ([] : List Loc) = locs at hS ⊢
    obtain ⟨o10, o11, o12, o13, o14, o15⟩ := id hod
    obtain ⟨a1, a2, a3, f1, f2, f3, f4⟩ := id hpr
    have hn8 := hI.1
    have hp2 : 2 ^ n ≤ 256 := p2_le hn8
    have k28 := hts (.fieldLink RX1 28 "AssemblyPlanner$Ordering" "product" "LAssemblyPlanner$Product;") (by decide +kernel)
    have hinX1 : ∀ w ∈ wsX10, w ∈ wsX1_listed := by decide +kernel
    refine lv_iload_n hx hb dX1_listed_0 rfl (lv_at hl 1 rfl) ?_
    refine lv_aload_n hx hb dX1_listed_1 rfl (lv_at hl 0 rfl) ?_
    refine va_get (ci := 1) (C := RX1) (T := TX1) (N := 8) hx hb hts hinX1 hown hK hP 10 o10 rfl 0 (by decide) k28 (fun _ h9 => h9) rfl dX1_listed_2 ?_
    refine pcV (c_X3_count hP hpr hI) ⟨hx, hb, hml, hown, hts⟩ hK gX1_listed_X3_count rfl hd_X3_count ⟨by omega, by omega⟩ (va_recv hK hP (ci := 3) (q0 := 1) rfl f1) rfl hl.1 rfl (Nat.le_of_ble_eq_true rfl) dX1_listed_5 ⟨Nat.zero_le _, Nat.zero_le _⟩ hS (fun locs hS => ?_)
    refine sn_icmp_ge (tgt := 17) hx hb dX1_listed_8 (by decide) (by omega) (by omega) (fun c1 => ?_) (fun c1 => absurd c1 (by omega))
    refine lv_iconst (v := nI 0) hx hb dX1_listed_17 ci_0 ?_
    exact hret 18 ls locs _ dX1_listed_18 hS (rfl)
  | succ d ih =>
    intro S pl x hpd hS0
    refine PI.of (cc := cX1_listed) (maxL := 8) (ty := .int) (by decide) rfl rfl (Nat.le_of_ble_eq_true rfl) ?_
    intro pg en Rm sg mi av below meth co Qo hRf hRl hx hb hml hown hts hK hret ls hl
    have hl : lv_has ls 8 [(0, .ref h), (1, .int (nI pl)), (2, .int (nI S)), (3, .int x)] := hl
    have hS : va_S (fun _ => False) Hs Hs [] := va_S.rf
    generalize ([] : List Loc) = locs at hS ⊢
    obtain ⟨o10, o11, o12, o13, o14, o15⟩ := id hod
    obtain ⟨a1, a2, a3, f1, f2, f3, f4⟩ := id hpr
    have hn8 := hI.1
    have hp2 : 2 ^ n ≤ 256 := p2_le hn8
    have k28 := hts (.fieldLink RX1 28 "AssemblyPlanner$Ordering" "product" "LAssemblyPlanner$Product;") (by decide +kernel)
    have hinX1 : ∀ w ∈ wsX10, w ∈ wsX1_listed := by decide +kernel
    have k15 := hts (.fieldLink RX1 15 "AssemblyPlanner$Ordering" "nexts" "[I") (by decide +kernel)
    refine lv_iload_n hx hb dX1_listed_0 rfl (lv_at hl 1 rfl) ?_
    refine lv_aload_n hx hb dX1_listed_1 rfl (lv_at hl 0 rfl) ?_
    refine va_get (ci := 1) (C := RX1) (T := TX1) (N := 8) hx hb hts hinX1 hown hK hP 10 o10 rfl 0 (by decide) k28 (fun _ h9 => h9) rfl dX1_listed_2 ?_
    refine pcV (c_X3_count hP hpr hI) ⟨hx, hb, hml, hown, hts⟩ hK gX1_listed_X3_count rfl hd_X3_count ⟨by omega, by omega⟩ (va_recv hK hP (ci := 3) (q0 := 1) rfl f1) rfl hl.1 rfl (Nat.le_of_ble_eq_true rfl) dX1_listed_5 ⟨Nat.zero_le _, Nat.zero_le _⟩ hS (fun locs hS => ?_)
    refine sn_icmp_ge (tgt := 17) hx hb dX1_listed_8 (by decide) (by omega) (by omega) (fun c1 => absurd c1 (by omega)) (fun c1 => ?_)
    refine lv_iload_n hx hb dX1_listed_11 rfl (lv_at hl 1 rfl) ?_
    refine lv_bipush (v := nI 7) hx hb dX1_listed_12 bi_7 ?_
    refine sn_icmp_lt (tgt := 19) hx hb dX1_listed_14 (by decide) (by omega) (by omega) (fun c2 => ?_) (fun c2 => absurd c2 (by omega))
    refine lv_sipush (v := nI 1000) hx hb dX1_listed_19 si_1000 ?_
    refine lv_istore (lv' := [(4, .int (nI 1000)), (0, .ref h), (1, .int (nI pl)), (2, .int (nI S)), (3, .int x)]) hx hb dX1_listed_22 hl (by decide) rfl (fun ls hl => ?_)
    refine lv_iconst (v := nI 0) hx hb dX1_listed_24 ci_0 ?_
    refine lv_istore (lv' := [(5, .int (nI 0)), (4, .int (nI 1000)), (0, .ref h), (1, .int (nI pl)), (2, .int (nI S)), (3, .int x)]) hx hb dX1_listed_25 hl (by decide) rfl (fun ls hl => ?_)
    have L27 : ∀ (L27d : Nat) (t : Nat), n - t < L27d → t ≤ n → ∀ (ls : Array Slot) (locs : List Loc), lv_has ls 8 [(4, .int (nI (itr (lsS C Hd b q T (lst C Hd b q T n d) S x) t 1000))), (5, .int (nI t)), (0, .ref h), (1, .int (nI pl)), (2, .int (nI S)), (3, .int x)] → va_S (fun _ => False) Hs Hs locs → W pg l en Rm sg mi av below meth co Hs locs 0 0 Qo (F0 mi 27 ls []) := by
      intro L27d
      induction L27d with
      | zero => intro t hfu; exact absurd hfu (Nat.not_lt_zero _)
      | succ L27d ih27 =>
        intro t hfu i27_0 ls locs hl hS
        refine lv_iload hx hb dX1_listed_27 (lv_at hl 1 rfl) ?_
        refine lv_aload_n hx hb dX1_listed_29 rfl (lv_at hl 2 rfl) ?_
        refine va_get (ci := 1) (C := RX1) (T := TX1) (N := 8) hx hb hts hinX1 hown hK hP 10 o10 rfl 0 (by decide) k28 (fun _ h9 => h9) rfl dX1_listed_30 ?_
        refine pcV (c_X3_count hP hpr hI) ⟨hx, hb, hml, hown, hts⟩ hK gX1_listed_X3_count rfl hd_X3_count ⟨by omega, by omega⟩ (va_recv hK hP (ci := 3) (q0 := 1) rfl f1) rfl hl.1 rfl (Nat.le_of_ble_eq_true rfl) dX1_listed_33 ⟨Nat.zero_le _, Nat.zero_le _⟩ hS (fun locs hS => ?_)
        refine sn_icmp_ge (tgt := 103) hx hb dX1_listed_36 (by decide) (by omega) (by omega) (fun c3 => ?_) (fun c3 => ?_)
        · refine lv_iload hx hb dX1_listed_103 (lv_at hl 0 rfl) ?_
          exact hret 105 ls locs _ dX1_listed_105 hS (by rw [show t = n by omega]; rfl)
        · refine lv_aload_n hx hb dX1_listed_39 rfl (lv_at hl 2 rfl) ?_
          refine va_get (ci := 1) (C := RX1) (T := TX1) (N := 8) hx hb hts hinX1 hown hK hP 10 o10 rfl 2 (by decide) k15 (fun _ h9 => h9) rfl dX1_listed_40 ?_
          refine lv_iload_n hx hb dX1_listed_43 rfl (lv_at hl 4 rfl) ?_
          refine sv_iald hx hb hK hP 12 o12 (j := S) (by omega) (by decide) dX1_listed_44 ?_
          refine W.eq (g2 := F0 mi 45 ls (.int (fx S) :: [])) rfl ?_
          refine sv_top (y := nI (nxm C Hd b q n S)) (hx9 S hS0) ?_
          refine lv_iconst (v := nI 1) hx hb dX1_listed_45 ci_1 ?_
          refine lv_iload hx hb dX1_listed_46 (lv_at hl 1 rfl) ?_
          refine lv_ishl hx hb dX1_listed_48 ?_
          refine sv_top (y := nI (2 ^ t)) (sh_l1 (by omega)) ?_
          refine lv_iand hx hb dX1_listed_49 ?_
          refine sv_top (y := nI ((nxm C Hd b q n S) &&& (2 ^ t))) (an_and _ _) ?_
          refine st_if_eq (tgt := 97) hx hb dX1_listed_50 (by decide) (by omega) (fun c4 => ?_) (fun c4 => ?_)
          · have hcd : cad C Hd b q S t = false := by rw [← nxm_bit (by omega)]; exact c4
            refine lv_iinc (v := nI (t + 1)) (lv' := [(5, .int (nI (t + 1))), (4, .int (nI (itr (lsS C Hd b q T (lst C Hd b q T n d) S x) t 1000))), (0, .ref h), (1, .int (nI pl)), (2, .int (nI S)), (3, .int x)]) hx hb dX1_listed_97 hl (k := 1) rfl (nI_1 _) (by decide) rfl (fun ls hl => ?_)
            refine lv_goto (tgt := 27) hx hb dX1_listed_100 (by decide) ?_
            have e4 : nI (itr (lsS C Hd b q T (lst C Hd b q T n d) S x) t 1000) = nI (itr (lsS C Hd b q T (lst C Hd b q T n d) S x) (t + 1) 1000) := (congrArg nI (show _ = lsS C Hd b q T (lst C Hd b q T n d) S x t _ from (lsS_no hcd).symm))
            rw [e4] at hl
            exact ih27 (t + 1) (by omega) (by omega) ls locs (lv_sub hl [1, 0, 2, 3, 4, 5] rfl) hS
          · have hcd : cad C Hd b q S t = true := by rw [← nxm_bit (by omega)]; exact c4
            have hgt := cad_gt hcd hS0 (by omega)
            have hl9 := lst_1000 (C := C) (Hd := Hd) (b := b) (q := q) (T := T) (n := n) d (S ||| 2 ^ t) (nI (T t))
            have hcw : chI x (T t) + lst C Hd b q T n d (S ||| 2 ^ t) (nI (T t)) < 2 ^ 31 := by have h1 := chI_le x (T t); omega
            refine lv_aload_n hx hb dX1_listed_53 rfl (lv_at hl 2 rfl) ?_
            refine va_get (ci := 1) (C := RX1) (T := TX1) (N := 8) hx hb hts hinX1 hown hK hP 10 o10 rfl 0 (by decide) k28 (fun _ h9 => h9) rfl dX1_listed_54 ?_
            refine lv_iload hx hb dX1_listed_57 (lv_at hl 1 rfl) ?_
            refine pcV (c_X3_tool hP hpr hI (by omega)) ⟨hx, hb, hml, hown, hts⟩ hK gX1_listed_X3_tool rfl hd_X3_tool ⟨by omega, by omega⟩ (va_recv hK hP (ci := 3) (q0 := 1) rfl f1) rfl hl.1 rfl (Nat.le_of_ble_eq_true rfl) dX1_listed_59 ⟨Nat.zero_le _, Nat.zero_le _⟩ hS (fun locs hS => ?_)
            refine lv_istore (lv' := [(6, .int (nI (T t))), (4, .int (nI (itr (lsS C Hd b q T (lst C Hd b q T n d) S x) t 1000))), (5, .int (nI t)), (0, .ref h), (1, .int (nI pl)), (2, .int (nI S)), (3, .int x)]) hx hb dX1_listed_62 hl (by decide) rfl (fun ls hl => ?_)
            refine lv_aload_n hx hb dX1_listed_64 rfl (lv_at hl 3 rfl) ?_
            refine lv_iload_n hx hb dX1_listed_65 rfl (lv_at hl 4 rfl) ?_
            refine lv_iconst (v := nI 1) hx hb dX1_listed_66 ci_1 ?_
            refine lv_iadd hx hb dX1_listed_67 ?_
            refine sv_top (y := nI (pl + 1)) (nI_add _ _) ?_
            refine lv_iload_n hx hb dX1_listed_68 rfl (lv_at hl 5 rfl) ?_
            refine lv_iconst (v := nI 1) hx hb dX1_listed_69 ci_1 ?_
            refine lv_iload hx hb dX1_listed_70 (lv_at hl 2 rfl) ?_
            refine lv_ishl hx hb dX1_listed_72 ?_
            refine sv_top (y := nI (2 ^ t)) (sh_l1 (by omega)) ?_
            refine lv_ior hx hb dX1_listed_73 ?_
            refine sv_top (y := nI (S ||| (2 ^ t))) (an_or _ _) ?_
            refine lv_iload hx hb dX1_listed_74 (lv_at hl 0 rfl) ?_
            refine pcS (ih (S := S ||| (2 ^ t)) (pl := pl + 1) (x := nI (T t)) (by omega) hgt.2.2) ⟨hx, hb, hml, hown, hts⟩ hK gX1_listed_X1_listed rfl hd_X1_listed ⟨by omega, by omega⟩ rfl hl.1 rfl (Nat.le_of_ble_eq_true rfl) dX1_listed_76 ⟨Nat.zero_le _, Nat.zero_le _⟩ hS (fun locs hS => ?_)
            refine lv_istore (lv' := [(7, .int (nI (lst C Hd b q T n d (S ||| (2 ^ t)) (nI (T t))))), (6, .int (nI (T t))), (4, .int (nI (itr (lsS C Hd b q T (lst C Hd b q T n d) S x) t 1000))), (5, .int (nI t)), (0, .ref h), (1, .int (nI pl)), (2, .int (nI S)), (3, .int x)]) hx hb dX1_listed_79 hl (by decide) rfl (fun ls hl => ?_)
            refine lv_iload hx hb dX1_listed_81 (lv_at hl 2 rfl) ?_
            refine lv_iload_n hx hb dX1_listed_83 rfl (lv_at hl 7 rfl) ?_
            refine lv_iload hx hb dX1_listed_84 (lv_at hl 1 rfl) ?_
            refine pcS (c_X1_change ) ⟨hx, hb, hml, hown, hts⟩ hK gX1_listed_X1_change rfl hd_X1_change ⟨by omega, by omega⟩ rfl hl.1 rfl (Nat.le_of_ble_eq_true rfl) dX1_listed_86 ⟨Nat.zero_le _, Nat.zero_le _⟩ hS (fun locs hS => ?_)
            refine lv_iload hx hb dX1_listed_89 (lv_at hl 0 rfl) ?_
            refine lv_iadd hx hb dX1_listed_91 ?_
            refine sv_top (y := nI ((chI x (T t)) + (lst C Hd b q T n d (S ||| (2 ^ t)) (nI (T t))))) (nI_add _ _) ?_
            refine va_mmin hx hb (hml.trans hl.1.symm) hown (hts (.methodLink RX1 83 Lib.Math.min.name) (by decide +kernel)) (hts (.static Lib.Math.min.name) (by decide +kernel)) (hts (.initialized "java/lang/Math") (by decide +kernel)) (hts (.code Lib.Math.min.name Lib.Math.min.code 2 (some .int)) (by decide +kernel)) (by omega) (Nat.le_trans (Nat.le_of_ble_eq_true rfl : _ ≤ 21) (by omega)) (Nat.zero_le _) (Nat.zero_le _) dX1_listed_92 ?_
            refine sv_top (y := nI (if (chI x (T t)) + (lst C Hd b q T n d (S ||| (2 ^ t)) (nI (T t))) < (itr (lsS C Hd b q T (lst C Hd b q T n d) S x) t 1000) then (chI x (T t)) + (lst C Hd b q T n d (S ||| (2 ^ t)) (nI (T t))) else (itr (lsS C Hd b q T (lst C Hd b q T n d) S x) t 1000))) (mn_N hcw (Nat.lt_of_le_of_lt (lst_le t 1000) (by decide))) ?_
            refine lv_istore (lv' := [(4, .int (nI (if (chI x (T t)) + (lst C Hd b q T n d (S ||| (2 ^ t)) (nI (T t))) < (itr (lsS C Hd b q T (lst C Hd b q T n d) S x) t 1000) then (chI x (T t)) + (lst C Hd b q T n d (S ||| (2 ^ t)) (nI (T t))) else (itr (lsS C Hd b q T (lst C Hd b q T n d) S x) t 1000)))), (7, .int (nI (lst C Hd b q T n d (S ||| (2 ^ t)) (nI (T t))))), (6, .int (nI (T t))), (5, .int (nI t)), (0, .ref h), (1, .int (nI pl)), (2, .int (nI S)), (3, .int x)]) hx hb dX1_listed_95 hl (by decide) rfl (fun ls hl => ?_)
            refine lv_iinc (v := nI (t + 1)) (lv' := [(5, .int (nI (t + 1))), (4, .int (nI (if (chI x (T t)) + (lst C Hd b q T n d (S ||| (2 ^ t)) (nI (T t))) < (itr (lsS C Hd b q T (lst C Hd b q T n d) S x) t 1000) then (chI x (T t)) + (lst C Hd b q T n d (S ||| (2 ^ t)) (nI (T t))) else (itr (lsS C Hd b q T (lst C Hd b q T n d) S x) t 1000)))), (7, .int (nI (lst C Hd b q T n d (S ||| (2 ^ t)) (nI (T t))))), (6, .int (nI (T t))), (0, .ref h), (1, .int (nI pl)), (2, .int (nI S)), (3, .int x)]) hx hb dX1_listed_97 hl (k := 3) rfl (nI_1 _) (by decide) rfl (fun ls hl => ?_)
            refine lv_goto (tgt := 27) hx hb dX1_listed_100 (by decide) ?_
            have e4 : nI (if (chI x (T t)) + (lst C Hd b q T n d (S ||| (2 ^ t)) (nI (T t))) < (itr (lsS C Hd b q T (lst C Hd b q T n d) S x) t 1000) then (chI x (T t)) + (lst C Hd b q T n d (S ||| (2 ^ t)) (nI (T t))) else (itr (lsS C Hd b q T (lst C Hd b q T n d) S x) t 1000)) = nI (itr (lsS C Hd b q T (lst C Hd b q T n d) S x) (t + 1) 1000) := (congrArg nI (show _ = lsS C Hd b q T (lst C Hd b q T n d) S x t _ from (lsS_yes hcd).symm))
            rw [e4] at hl
            exact ih27 (t + 1) (by omega) (by omega) ls locs (lv_sub hl [1, 0, 4, 5, 6, 7] rfl) hS
    exact L27 ((n - 0) + 1) 0 (Nat.lt_succ_self _) (by omega) ls locs (lv_sub hl [1, 0, 2, 3, 4, 5] rfl) hS
set_option maxHeartbeats 4000000 in
set_option maxRecDepth 100000 in
theorem c_X1_fewestListed {l : Launch} {D : va_G} {ky : kT} {A : Nat → Prop} {Hs : Heap} {ws : va_W} (hP : va_P D CL ws Hs) (hD : va_D A ws) {h hp b1 b2 b3 b4 b5 : Nat} {Sn : Nat → Bool} {fx fo fg fb : Nat → Int32} {fe : Int32} {kn : Bool} (hod : isOrd ky ws h hp b1 b2 b3 b4 b5 Sn fx fo fg fb fe kn) {n : Nat} {T C Hd : Nat → Nat} {b : Nat} {q : Bool} (hpr : isProd ky ws hp n T C Hd b q) (hI : PI0 n C Hd b) (hT : ∀ p, T p < 4) (hkn : kn = true → kdOK C Hd b q T n Sn fx fo fg fb fe) (hn7 : n ≤ 7) : MU l yX1_fewestListed wsX1_fewestListed 9 237 0 0 D ky A Hs [.ref h] (fun r w => r = orN (few C Hd b q T n) ∧ OTG ky w h hp b1 b2 b3 b4 b5 n T C Hd b q ∧ fr ws w 10 15) := by
  refine MU.of (cc := cX1_fewestListed) (maxL := 1) (ty := .int) (by decide) rfl (Nat.le_of_ble_eq_true rfl) ?_
  intro pg en Rm sg mi av below meth co Qo hRf hRl hRc hRs hx hb hml hown hts hK hret ls hl
  have hl : lv_has ls 1 [(0, .ref h)] := hl
  have hS : va_S A Hs Hs [] := va_S.rf
  generalize ([] : List Loc) = locs at hS ⊢
  obtain ⟨o10, o11, o12, o13, o14, o15⟩ := id hod
  obtain ⟨a1, a2, a3, f1, f2, f3, f4⟩ := id hpr
  have hn8 := hI.1
  have hp2 : 2 ^ n ≤ 256 := p2_le hn8
  refine lv_aload_n hx hb dX1_fewestListed_0 rfl (lv_at hl 0 rfl) ?_
  refine mvV (c_X1_find hP hD ⟨o10, o11, o12, o13, o14, o15⟩ hpr hI hT hkn) ⟨hx, hb, hml, hown, hts⟩ hK gX1_fewestListed_X1_find rfl hd_X1_find ⟨by omega, by omega⟩ (va_recv hK hP (ci := 1) (q0 := 10) rfl o10) rfl hl.1 rfl (Nat.le_of_ble_eq_true rfl) dX1_fewestListed_1 ⟨Nat.zero_le _, Nat.zero_le _⟩ hS (fun ws1 H locs hq3 hP hD hS => ?_)
  obtain ⟨⟨Dn, gx, go, gg, gb, ge, hod, hok1, rfl, hbe⟩, fr2⟩ := hq3
  replace f1 := (fr2 1 (by decide)).trans f1
  replace f2 := (fr2 2 (by decide)).trans f2
  replace f3 := (fr2 3 (by decide)).trans f3
  replace f4 := (fr2 4 (by decide)).trans f4
  replace hpr := hpr.fr fr2
  obtain ⟨o10, o11, o12, o13, o14, o15⟩ := hod
  refine lv_aload_n hx hb dX1_fewestListed_4 rfl (lv_at hl 0 rfl) ?_
  refine lv_iconst (v := nI 0) hx hb dX1_fewestListed_5 ci_0 ?_
  refine lv_iconst (v := nI 0) hx hb dX1_fewestListed_6 ci_0 ?_
  refine lv_iconst (v := -1) hx hb dX1_fewestListed_7 ci_m1 ?_
  refine pcS (c_X1_listed (S := 0) (pl := 0) (x := -1) hP ⟨o10, o11, o12, o13, o14, o15⟩ hpr hI hT hn7 (fun s hs => (hok1 s (Nat.zero_le _) hs).2.1) n (by omega) (Nat.two_pow_pos n)) ⟨hx, hb, hml, hown, hts⟩ hK gX1_fewestListed_X1_listed rfl hd_X1_listed ⟨by omega, by omega⟩ rfl hl.1 rfl (Nat.le_of_ble_eq_true rfl) dX1_fewestListed_8 ⟨Nat.zero_le _, Nat.zero_le _⟩ hS (fun locs hS => ?_)
  refine sv_top (y := nI (few C Hd b q T n)) (congrArg nI (lst_fwF hn8 hT n 0 (-1) (Nat.two_pow_pos n) (by rw [show ct8 0 = 0 by decide, Nat.zero_add]))) ?_
  refine pcS (c_X1_orNone (Nat.lt_of_le_of_lt fwF_1000 (by decide) : few C Hd b q T n < 2 ^ 31)) ⟨hx, hb, hml, hown, hts⟩ hK gX1_fewestListed_X1_orNone rfl hd_X1_orNone ⟨by omega, by omega⟩ rfl hl.1 rfl (Nat.le_of_ble_eq_true rfl) dX1_fewestListed_11 ⟨Nat.zero_le _, Nat.zero_le _⟩ hS (fun locs hS => ?_)
  exact hret 14 ls _ _ locs _ dX1_fewestListed_14 hP hD hS rfl (⟨rfl, ⟨Dn, gx, go, gg, gb, _, true, ⟨o10, o11, o12, o13, o14, o15⟩, fun _ => ⟨hok1, rfl, hbe⟩⟩, (fr.wd fr2 : fr _ _ 10 15)⟩)

