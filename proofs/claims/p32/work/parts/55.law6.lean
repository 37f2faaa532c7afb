theorem hd_L_isRun : yL_isRun.cls ≠ "java/lang/invoke/MethodHandle" ∧ yL_isRun.cls ≠ "java/lang/invoke/VarHandle" ∧ (parseMethodDescriptor yL_isRun.desc).map (fun d => d.parameters.length) = some 3 := by decide +kernel
theorem hd_X4_fewestByListing : yX4_fewestByListing.cls = RX4 ∧ yX4_fewestByListing.cls ≠ "java/lang/invoke/MethodHandle" ∧ yX4_fewestByListing.cls ≠ "java/lang/invoke/VarHandle" ∧ (parseMethodDescriptor yX4_fewestByListing.desc).map (fun d => d.parameters.length) = some 0 := by decide +kernel
theorem hd_X4_leastDepth : yX4_leastDepth.cls = RX4 ∧ yX4_leastDepth.cls ≠ "java/lang/invoke/MethodHandle" ∧ yX4_leastDepth.cls ≠ "java/lang/invoke/VarHandle" ∧ (parseMethodDescriptor yX4_leastDepth.desc).map (fun d => d.parameters.length) = some 0 := by decide +kernel
theorem hd_X4_orders : yX4_orders.cls = RX4 ∧ yX4_orders.cls ≠ "java/lang/invoke/MethodHandle" ∧ yX4_orders.cls ≠ "java/lang/invoke/VarHandle" ∧ (parseMethodDescriptor yX4_orders.desc).map (fun d => d.parameters.length) = some 0 := by decide +kernel
theorem hd_X4_ways : yX4_ways.cls = RX4 ∧ yX4_ways.cls ≠ "java/lang/invoke/MethodHandle" ∧ yX4_ways.cls ≠ "java/lang/invoke/VarHandle" ∧ (parseMethodDescriptor yX4_ways.desc).map (fun d => d.parameters.length) = some 0 := by decide +kernel
set_option maxHeartbeats 4000000 in
set_option maxRecDepth 100000 in
theorem c_L_areOrders_A1 {l : Launch} {D : va_G} {ky : kT} {A : Nat → Prop} {Hs : Heap} {ws : va_W} (hP : va_P D CL ws Hs) (hD : va_D A ws) {x o9 n : Nat} {T C Hd : Nat → Nat} {b : Nat} {q : Bool} {J : Nat → Nat} {bg : Bool} {pi bu : Nat} {tm tl : Int32} {K : Nat → Nat} {f : Nat → Nat} (hap : AP ky ws x n T C Hd b q J bg pi bu tm tl K) (f19 : ws[19]? = some (o9, .inl (ky.1, 59, .inl (fun i => nI (f i))))) (hTI : TI n C Hd b q f) (hLR : LR n T C Hd b J K) {gv : Nat} (hgv : gv < 2 ^ 31) (hn1 : 0 < n) (hf : few C Hd b q T n < 1000) (hfn : few C Hd b q T n < n) (hop : ¬ ord C Hd b q n 0 = 0) (hwp : 0 < wys C Hd n (2 ^ n - 1)) (hdn : ¬ dps C Hd n (2 ^ n - 1) = 1000) (hdl : dps C Hd n (2 ^ n - 1) < n) (hdg : n ≤ 2 ^ dps C Hd n (2 ^ n - 1)) : MU l yL_areOrders wsL_areOrders 11 277 0 0 D ky A Hs [.ref x, .ref o9, .int (nI gv)] (fun r w => r = nI 1 ∧ (∃ (J1 : Nat → Nat) (bg1 : Bool) (pi1 bu1 : Nat) (tm1 tl1 : Int32) (K1 : Nat → Nat), AP ky w x n T C Hd b q J1 bg1 pi1 bu1 tm1 tl1 K1 ∧ (∀ i, J1 i ≤ 5) ∧ ∀ i, K1 i ≤ 2) ∧ fr ws w 0 18) := by
  refine MU.of (cc := cL_areOrders) (maxL := 8) (ty := .boolean) (by decide) rfl (Nat.le_of_ble_eq_true rfl) ?_
  intro pg en Rm sg mi av below meth co Qo hRf hRl hRc hRs hx hb hml hown hts hK hret ls hl
  have hl : lv_has ls 8 [(0, .ref x), (1, .ref o9), (2, .int (nI gv))] := hl
  have hS : va_S A Hs Hs [] := va_S.rf
  generalize ([] : List Loc) = locs at hS ⊢
  have hn6 : n ≤ 6 := hLR.2.1
  have hT := hLR.2.2.1
  have hp64 := p2_64 hn6
  have hp1 : 1 ≤ 2 ^ n := Nat.one_le_two_pow
  have hb8 : b < 8 := hLR.1.2.1
  have hTb : ∀ p, T p < 2 ^ 31 := fun p => Nat.lt_of_lt_of_le (hT p) (by decide)
  have hq2 : q.toNat ≤ 1 := tn_1 q
  have hJ := hLR.2.2.2.1
  have hK2 := hLR.2.2.2.2
  have hbpn : ∀ k, k < n → bp C Hd b q T n k < n := fun k hk => bp_ok (by omega) hT hf hk
  have hbp31 : ∀ k, k < n → bp C Hd b q T n k < 2 ^ 31 := fun k hk => by have := hbpn k hk; omega
  have hp2n : 2 ^ 1 ≤ 2 ^ n := Nat.pow_le_pow_right (by decide) hn1
  have hw31 : wys C Hd n (2 ^ n - 1) < 2 ^ 31 := lz_ways31 (by omega) (by omega)
  have hd31 : dps C Hd n (2 ^ n - 1) < 2 ^ 31 := by have := dps_ok (C := C) (Hd := Hd) (n := n) (2 ^ n - 1) (by omega); omega
  have ho31 := (lz_few (C := C) (Hd := Hd) (b := b) (q := q) hn6 hT).1
  refine lv_iconst (v := nI 1) hx hb dL_areOrders_0 ci_1 ?_
  refine lv_aload_n hx hb dL_areOrders_1 rfl (lv_at hl 1 rfl) ?_
  refine lv_bipush (v := nI 56) hx hb dL_areOrders_2 bi_56 ?_
  refine sv_iald hx hb hK hP 19 f19 (j := 56) (by omega) (by decide) dL_areOrders_4 ?_
  refine W.eq (g2 := F0 mi 5 ls (.int (nI (f 56)) :: [.int (nI 1)])) rfl ?_
  refine sv_top (y := nI n) (by rw [hTI.2.2.1]) ?_
  refine lv_ishl hx hb dL_areOrders_5 ?_
  refine sv_top (y := nI (2 ^ n)) (sh_l1 (by omega)) ?_
  refine lv_iconst (v := nI 1) hx hb dL_areOrders_6 ci_1 ?_
  refine lv_isub hx hb dL_areOrders_7 ?_
  refine sv_top (y := nI ((2 ^ n) - 1)) (pk_sub Nat.one_le_two_pow) ?_
  refine lv_istore_n (lv' := [(3, .int (nI ((2 ^ n) - 1))), (0, .ref x), (1, .ref o9), (2, .int (nI gv))]) hx hb dL_areOrders_8 rfl hl (by decide) rfl (fun ls hl => ?_)
  refine lv_aload_n hx hb dL_areOrders_9 rfl (lv_at hl 1 rfl) ?_
  obtain ⟨fs0, g0⟩ := hap.at0
  refine mcV (c_X4_fewestChanges_0 hP hD hap hLR.1 hT hn1) ⟨hx, hb, hml, hown, hts⟩ hK gL_areOrders_X4_fewestChanges rfl hd_X4_fewestChanges ⟨by omega, by omega⟩ (va_recv hK hP (ci := 4) (q0 := 0) rfl g0) rfl hl.1 rfl (Nat.le_of_ble_eq_true rfl) dL_areOrders_10 ⟨Nat.zero_le _, Nat.zero_le _⟩ hS (fun rv ws1 H locs hq3 hP hD hS => ?_)
  obtain ⟨hr4, hap, fr2⟩ := hq3
  replace f19 := (fr2 19 (by decide)).trans f19
  refine sv_top (y := nI (few C Hd b q T n)) (hr4.trans (if_neg (by omega))) ?_
  refine lv_istore (lv' := [(4, .int (nI (few C Hd b q T n))), (3, .int (nI ((2 ^ n) - 1))), (0, .ref x), (1, .ref o9), (2, .int (nI gv))]) hx hb dL_areOrders_13 hl (by decide) rfl (fun ls hl => ?_)
  refine lv_aload_n hx hb dL_areOrders_15 rfl (lv_at hl 2 rfl) ?_
  obtain ⟨fs0, g0⟩ := hap.at0
  refine mcV (c_X4_orders_0 hP hD hap hLR.1 hT hn1) ⟨hx, hb, hml, hown, hts⟩ hK gL_areOrders_X4_orders rfl hd_X4_orders ⟨by omega, by omega⟩ (va_recv hK hP (ci := 4) (q0 := 0) rfl g0) rfl hl.1 rfl (Nat.le_of_ble_eq_true rfl) dL_areOrders_16 ⟨Nat.zero_le _, Nat.zero_le _⟩ hS (fun rv ws5 H locs hq7 hP hD hS => ?_)
  obtain ⟨hr8, hap, fr6⟩ := hq7
  replace f19 := (fr6 19 (by decide)).trans f19
  refine sv_top (y := nI (ord C Hd b q n 0)) hr8 ?_
  refine sn_if_le (tgt := 26) hx hb dL_areOrders_19 (by decide) ho31 (fun c9 => absurd c9 hop) (fun c9 => ?_)
  refine lv_iconst (v := nI 1) hx hb dL_areOrders_22 ci_1 ?_
  refine lv_goto (tgt := 27) hx hb dL_areOrders_23 (by decide) ?_
  refine lv_iload hx hb dL_areOrders_27 (lv_at hl 0 rfl) ?_
  refine lv_iconst (v := -1) hx hb dL_areOrders_29 ci_m1 ?_
  refine lv_icmp_eq (tgt := 37) hx hb dL_areOrders_30 (by decide) (fun z => absurd z.symm (m1_ne (by omega))) (fun _ => ?_)
  refine lv_iconst (v := nI 1) hx hb dL_areOrders_33 ci_1 ?_
  refine lv_goto (tgt := 38) hx hb dL_areOrders_34 (by decide) ?_
  refine lv_icmp_ne (tgt := 121) hx hb dL_areOrders_38 (by decide) (fun z => absurd rfl z) (fun _ => ?_)
  refine lv_aload_n hx hb dL_areOrders_41 rfl (lv_at hl 2 rfl) ?_
  obtain ⟨fs0, g0⟩ := hap.at0
  refine mcV (c_X4_fewestByListing_0 hP hD hap hLR.1 hT hn1 (by omega)) ⟨hx, hb, hml, hown, hts⟩ hK gL_areOrders_X4_fewestByListing rfl hd_X4_fewestByListing ⟨by omega, by omega⟩ (va_recv hK hP (ci := 4) (q0 := 0) rfl g0) rfl hl.1 rfl (Nat.le_of_ble_eq_true rfl) dL_areOrders_42 ⟨Nat.zero_le _, Nat.zero_le _⟩ hS (fun rv ws10 H locs hq12 hP hD hS => ?_)
  obtain ⟨hr13, hap, fr11⟩ := hq12
  replace f19 := (fr11 19 (by decide)).trans f19
  refine sv_top (y := nI (few C Hd b q T n)) (hr13.trans (if_neg (by omega))) ?_
  refine lv_iload hx hb dL_areOrders_45 (lv_at hl 0 rfl) ?_
  refine lv_icmp_ne (tgt := 121) hx hb dL_areOrders_47 (by decide) (fun z => absurd rfl z) (fun _ => ?_)
  refine lv_aload_n hx hb dL_areOrders_50 rfl (lv_at hl 2 rfl) ?_
  obtain ⟨fs0, g0⟩ := hap.at0
  refine mcV (c_X4_ways_0 hP hD hap hLR.1 hn1) ⟨hx, hb, hml, hown, hts⟩ hK gL_areOrders_X4_ways rfl hd_X4_ways ⟨by omega, by omega⟩ (va_recv hK hP (ci := 4) (q0 := 0) rfl g0) rfl hl.1 rfl (Nat.le_of_ble_eq_true rfl) dL_areOrders_51 ⟨Nat.zero_le _, Nat.zero_le _⟩ hS (fun rv ws14 H locs hq16 hP hD hS => ?_)
  obtain ⟨hr17, hap, fr15⟩ := hq16
  replace f19 := (fr15 19 (by decide)).trans f19
  refine sv_top (y := nI (wys C Hd n (2 ^ n - 1))) hr17 ?_
  refine sn_if_le (tgt := 61) hx hb dL_areOrders_54 (by decide) hw31 (fun c18 => absurd c18 (by omega)) (fun c18 => ?_)
  refine lv_iconst (v := nI 1) hx hb dL_areOrders_57 ci_1 ?_
  refine lv_goto (tgt := 62) hx hb dL_areOrders_58 (by decide) ?_
  refine lv_aload_n hx hb dL_areOrders_62 rfl (lv_at hl 2 rfl) ?_
  obtain ⟨fs0, g0⟩ := hap.at0
  refine mcV (c_X4_leastDepth_0 hP hD hap hLR.1 hn1) ⟨hx, hb, hml, hown, hts⟩ hK gL_areOrders_X4_leastDepth rfl hd_X4_leastDepth ⟨by omega, by omega⟩ (va_recv hK hP (ci := 4) (q0 := 0) rfl g0) rfl hl.1 rfl (Nat.le_of_ble_eq_true rfl) dL_areOrders_63 ⟨Nat.zero_le _, Nat.zero_le _⟩ hS (fun rv ws19 H locs hq21 hP hD hS => ?_)
  obtain ⟨hr22, hap, fr20⟩ := hq21
  replace f19 := (fr20 19 (by decide)).trans f19
  refine sv_top (y := nI (dps C Hd n (2 ^ n - 1))) (hr22.trans (if_neg hdn)) ?_
  refine lv_iconst (v := -1) hx hb dL_areOrders_66 ci_m1 ?_
  refine lv_icmp_eq (tgt := 74) hx hb dL_areOrders_67 (by decide) (fun z => absurd z.symm (m1_ne hd31)) (fun _ => ?_)
  refine lv_iconst (v := nI 1) hx hb dL_areOrders_70 ci_1 ?_
  refine lv_goto (tgt := 75) hx hb dL_areOrders_71 (by decide) ?_
  refine lv_icmp_ne (tgt := 121) hx hb dL_areOrders_75 (by decide) (fun z => absurd rfl z) (fun _ => ?_)
  refine lv_aload_n hx hb dL_areOrders_78 rfl (lv_at hl 2 rfl) ?_
  obtain ⟨fs0, g0⟩ := hap.at0
  refine mcV (c_X4_ways_0 hP hD hap hLR.1 hn1) ⟨hx, hb, hml, hown, hts⟩ hK gL_areOrders_X4_ways rfl hd_X4_ways ⟨by omega, by omega⟩ (va_recv hK hP (ci := 4) (q0 := 0) rfl g0) rfl hl.1 rfl (Nat.le_of_ble_eq_true rfl) dL_areOrders_79 ⟨Nat.zero_le _, Nat.zero_le _⟩ hS (fun rv ws23 H locs hq25 hP hD hS => ?_)
  obtain ⟨hr26, hap, fr24⟩ := hq25
  replace f19 := (fr24 19 (by decide)).trans f19
  refine sv_top (y := nI (wys C Hd n (2 ^ n - 1))) hr26 ?_
  refine sn_if_eq (tgt := 117) hx hb dL_areOrders_82 (by decide) hw31 (fun c27 => absurd c27 (by omega)) (fun c27 => ?_)
  refine lv_aload_n hx hb dL_areOrders_85 rfl (lv_at hl 2 rfl) ?_
  refine lv_iload_n hx hb dL_areOrders_86 rfl (lv_at hl 1 rfl) ?_
  obtain ⟨fs0, g0⟩ := hap.at0
  refine mcV (c_X4_isConnected_0 hP hD hap hLR.1 (by omega) (by omega)) ⟨hx, hb, hml, hown, hts⟩ hK gL_areOrders_X4_isConnected rfl hd_X4_isConnected ⟨by omega, by omega⟩ (va_recv hK hP (ci := 4) (q0 := 0) rfl g0) rfl hl.1 rfl (Nat.le_of_ble_eq_true rfl) dL_areOrders_87 ⟨Nat.zero_le _, Nat.zero_le _⟩ hS (fun rv ws28 H locs hq30 hP hD hS => ?_)
  obtain ⟨hr31, hap, fr29⟩ := hq30
  replace f19 := (fr29 19 (by decide)).trans f19
  refine sv_top (y := bI (conn C ((2 ^ n) - 1))) hr31 ?_
  refine sb_if_eq (tgt := 121) hx hb dL_areOrders_90 (by decide) (fun c32 => absurd (ff_not (Hd := Hd) (n := n) (show 2 ^ n - 1 < 256 by omega) (by omega) c32).2.1 (by omega)) (fun c32 => ?_)
  refine lv_aload_n hx hb dL_areOrders_93 rfl (lv_at hl 2 rfl) ?_
  obtain ⟨fs0, g0⟩ := hap.at0
  refine mcV (c_X4_leastDepth_0 hP hD hap hLR.1 hn1) ⟨hx, hb, hml, hown, hts⟩ hK gL_areOrders_X4_leastDepth rfl hd_X4_leastDepth ⟨by omega, by omega⟩ (va_recv hK hP (ci := 4) (q0 := 0) rfl g0) rfl hl.1 rfl (Nat.le_of_ble_eq_true rfl) dL_areOrders_94 ⟨Nat.zero_le _, Nat.zero_le _⟩ hS (fun rv ws33 H locs hq35 hP hD hS => ?_)
  obtain ⟨hr36, hap, fr34⟩ := hq35
  replace f19 := (fr34 19 (by decide)).trans f19
  refine sv_top (y := nI (dps C Hd n (2 ^ n - 1))) (hr36.trans (if_neg hdn)) ?_
  refine lv_aload_n hx hb dL_areOrders_97 rfl (lv_at hl 3 rfl) ?_
  refine lv_bipush (v := nI 56) hx hb dL_areOrders_98 bi_56 ?_
  refine sv_iald hx hb hK hP 19 f19 (j := 56) (by omega) (by decide) dL_areOrders_100 ?_
  refine W.eq (g2 := F0 mi 101 ls (.int (nI (f 56)) :: [.int (nI (dps C Hd n (2 ^ n - 1)))])) rfl ?_
  refine sv_top (y := nI n) (by rw [hTI.2.2.1]) ?_
  refine sn_icmp_ge (tgt := 121) hx hb dL_areOrders_101 (by decide) hd31 (by omega) (fun c37 => absurd c37 (by omega)) (fun c37 => ?_)
  refine lv_iconst (v := nI 1) hx hb dL_areOrders_104 ci_1 ?_
  refine lv_aload_n hx hb dL_areOrders_105 rfl (lv_at hl 2 rfl) ?_
  obtain ⟨fs0, g0⟩ := hap.at0
  refine mcV (c_X4_leastDepth_0 hP hD hap hLR.1 hn1) ⟨hx, hb, hml, hown, hts⟩ hK gL_areOrders_X4_leastDepth rfl hd_X4_leastDepth ⟨by omega, by omega⟩ (va_recv hK hP (ci := 4) (q0 := 0) rfl g0) rfl hl.1 rfl (Nat.le_of_ble_eq_true rfl) dL_areOrders_106 ⟨Nat.zero_le _, Nat.zero_le _⟩ hS (fun rv ws38 H locs hq40 hP hD hS => ?_)
  obtain ⟨hr41, hap, fr39⟩ := hq40
  replace f19 := (fr39 19 (by decide)).trans f19
  refine sv_top (y := nI (dps C Hd n (2 ^ n - 1))) (hr41.trans (if_neg hdn)) ?_
  refine lv_ishl hx hb dL_areOrders_109 ?_
  refine sv_top (y := nI (2 ^ (dps C Hd n (2 ^ n - 1)))) (sh_l1 (by omega)) ?_
  refine lv_aload_n hx hb dL_areOrders_110 rfl (lv_at hl 3 rfl) ?_
  refine lv_bipush (v := nI 56) hx hb dL_areOrders_111 bi_56 ?_
  refine sv_iald hx hb hK hP 19 f19 (j := 56) (by omega) (by decide) dL_areOrders_113 ?_
  refine W.eq (g2 := F0 mi 114 ls (.int (nI (f 56)) :: [.int (nI (2 ^ (dps C Hd n (2 ^ n - 1))))])) rfl ?_
  refine sv_top (y := nI n) (by rw [hTI.2.2.1]) ?_
  refine sn_icmp_lt (tgt := 121) hx hb dL_areOrders_114 (by decide) (pw_lt (by omega)) (by omega) (fun c42 => absurd c42 (by omega)) (fun c42 => ?_)
  refine lv_iconst (v := nI 1) hx hb dL_areOrders_117 ci_1 ?_
  refine lv_goto (tgt := 122) hx hb dL_areOrders_118 (by decide) ?_
  refine lv_istore (lv' := [(5, .int (nI 1)), (4, .int (nI (few C Hd b q T n))), (3, .int (nI ((2 ^ n) - 1))), (0, .ref x), (1, .ref o9), (2, .int (nI gv))]) hx hb dL_areOrders_122 hl (by decide) rfl (fun ls hl => ?_)
  refine lv_iload hx hb dL_areOrders_124 (lv_at hl 1 rfl) ?_
  refine lv_iconst (v := -1) hx hb dL_areOrders_126 ci_m1 ?_
  refine lv_icmp_ne (tgt := 133) hx hb dL_areOrders_127 (by decide) (fun _ => ?_) (fun z => absurd z.symm (m1_ne (by omega)))
  refine lv_iconst (v := nI 0) hx hb dL_areOrders_133 ci_0 ?_
  refine lv_istore (lv' := [(6, .int (nI 0)), (5, .int (nI 1)), (4, .int (nI (few C Hd b q T n))), (3, .int (nI ((2 ^ n) - 1))), (0, .ref x), (1, .ref o9), (2, .int (nI gv))]) hx hb dL_areOrders_134 hl (by decide) rfl (fun ls hl => ?_)
  refine lv_iconst (v := nI 0) hx hb dL_areOrders_136 ci_0 ?_
  refine lv_istore (lv' := [(7, .int (nI 0)), (6, .int (nI 0)), (5, .int (nI 1)), (4, .int (nI (few C Hd b q T n))), (3, .int (nI ((2 ^ n) - 1))), (0, .ref x), (1, .ref o9), (2, .int (nI gv))]) hx hb dL_areOrders_137 hl (by decide) rfl (fun ls hl => ?_)
  have L139 : ∀ (L139d : Nat) (k9 : Nat), n - k9 < L139d → ∀ (wl139 : va_W) (H : Heap), k9 ≤ n → va_P D CL wl139 H → va_D A wl139 → wl139[19]? = some (o9, .inl (ky.1, 59, .inl (fun i => nI (f i)))) → AP ky wl139 x n T C Hd b q J bg pi bu tm tl K → fr ws wl139 0 18 → ∀ (ls : Array Slot) (locs : List Loc), lv_has ls 8 [(0, .ref x), (1, .ref o9), (2, .int (nI gv)), (3, .int (nI (2 ^ n - 1))), (4, .int (nI (few C Hd b q T n))), (5, .int (nI 1)), (6, .int (nI ((bq C Hd b q T n k9).1))), (7, .int (nI k9))] → va_S A Hs H locs → W pg l en Rm sg mi av below meth co H locs 0 0 Qo (F0 mi 139 ls []) := by
    intro L139d
    induction L139d with
    | zero => intro k9 hfu; exact absurd hfu (Nat.not_lt_zero _)
    | succ L139d ih139 =>
      intro k9 hfu wl139 H i139_0 hP hD f19 hap frwl139 ls locs hl hS
      refine lv_iload hx hb dL_areOrders_139 (lv_at hl 7 rfl) ?_
      refine lv_aload_n hx hb dL_areOrders_141 rfl (lv_at hl 1 rfl) ?_
      refine lv_bipush (v := nI 56) hx hb dL_areOrders_142 bi_56 ?_
      refine sv_iald hx hb hK hP 19 f19 (j := 56) (by omega) (by decide) dL_areOrders_144 ?_
      refine W.eq (g2 := F0 mi 145 ls (.int (nI (f 56)) :: [.int (nI k9)])) rfl ?_
      refine sv_top (y := nI n) (by rw [hTI.2.2.1]) ?_
      refine sn_icmp_ge (tgt := 186) hx hb dL_areOrders_145 (by decide) (by omega) (by omega) (fun c43 => ?_) (fun c43 => ?_)
      · refine lv_iload hx hb dL_areOrders_186 (lv_at hl 5 rfl) ?_
        refine sn_if_eq (tgt := 219) hx hb dL_areOrders_188 (by decide) (by decide) (fun q => absurd q (by decide)) (fun _ => ?_)
        refine lv_iload hx hb dL_areOrders_191 (lv_at hl 6 rfl) ?_
        refine lv_iload_n hx hb dL_areOrders_193 rfl (lv_at hl 3 rfl) ?_
        refine sn_icmp_ne (tgt := 219) hx hb dL_areOrders_194 (by decide) (lt_31 (bq_ok (by omega) hT hf _ (by omega)).1 (by omega)) (by omega) (fun c45 => absurd (by rw [show k9 = n by omega]; exact (lz_bqn (by omega) hT hf).1) c45) (fun c45 => ?_)
        refine lv_iload hx hb dL_areOrders_197 (lv_at hl 4 rfl) ?_
        refine lv_aload_n hx hb dL_areOrders_199 rfl (lv_at hl 1 rfl) ?_
        refine lv_bipush (v := nI 56) hx hb dL_areOrders_200 bi_56 ?_
        refine sv_iald hx hb hK hP 19 f19 (j := 56) (by omega) (by decide) dL_areOrders_202 ?_
        refine W.eq (g2 := F0 mi 203 ls (.int (nI (f 56)) :: [.int (nI (few C Hd b q T n))])) rfl ?_
        refine sv_top (y := nI n) (by rw [hTI.2.2.1]) ?_
        refine sn_icmp_ge (tgt := 219) hx hb dL_areOrders_203 (by decide) (by omega) (by omega) (fun c46 => absurd c46 (by omega)) (fun c46 => ?_)
        refine lv_aload_n hx hb dL_areOrders_206 rfl (lv_at hl 0 rfl) ?_
        refine lv_aload_n hx hb dL_areOrders_207 rfl (lv_at hl 1 rfl) ?_
        refine lv_iload_n hx hb dL_areOrders_208 rfl (lv_at hl 2 rfl) ?_
        refine mcS (c_L_isRun hP hD hap f19 hTI hLR hgv hn1 hf) ⟨hx, hb, hml, hown, hts⟩ hK gL_areOrders_L_isRun rfl hd_L_isRun ⟨by omega, by omega⟩ rfl hl.1 rfl (Nat.le_of_ble_eq_true rfl) dL_areOrders_209 ⟨Nat.zero_le _, Nat.zero_le _⟩ hS (fun rv ws47 H locs hq49 hP hD hS => ?_)
        obtain ⟨hr50, ⟨J1, bg1, pi1, bu1, tm1, tl1, K1, hap, hJ1, hK1⟩, fr48⟩ := hq49
        refine sv_top (y := nI 1) hr50 ?_
        refine sn_if_eq (tgt := 219) hx hb dL_areOrders_212 (by decide) (by decide) (fun q => absurd q (by decide)) (fun _ => ?_)
        refine lv_iconst (v := nI 1) hx hb dL_areOrders_215 ci_1 ?_
        refine lv_goto (tgt := 220) hx hb dL_areOrders_216 (by decide) ?_
        exact hret 220 ls _ _ locs _ dL_areOrders_220 hP hD hS rfl (⟨rfl, ⟨_, _, _, _, _, _, _, hap, hJ1, hK1⟩, ((fr.wd frwl139 : fr _ _ 0 18).tr fr48)⟩)
      · refine lv_iload hx hb dL_areOrders_148 (lv_at hl 5 rfl) ?_
        refine sn_if_eq (tgt := 186) hx hb dL_areOrders_150 (by decide) (by decide) (fun q => absurd q (by decide)) (fun _ => ?_)
        refine lv_iload hx hb dL_areOrders_153 (lv_at hl 6 rfl) ?_
        refine lv_iconst (v := nI 1) hx hb dL_areOrders_155 ci_1 ?_
        refine lv_aload_n hx hb dL_areOrders_156 rfl (lv_at hl 0 rfl) ?_
        refine lv_iload hx hb dL_areOrders_157 (lv_at hl 7 rfl) ?_
        obtain ⟨fs0, g0⟩ := hap.at0
        refine mcV (c_X4_orderAt_0 hP hD hap hLR.1 hT (by omega) hf) ⟨hx, hb, hml, hown, hts⟩ hK gL_areOrders_X4_orderAt rfl hd_X4_orderAt ⟨by omega, by omega⟩ (va_recv hK hP (ci := 4) (q0 := 0) rfl g0) rfl hl.1 rfl (Nat.le_of_ble_eq_true rfl) dL_areOrders_159 ⟨Nat.zero_le _, Nat.zero_le _⟩ hS (fun rv ws53 H locs hq55 hP hD hS => ?_)
        obtain ⟨hr56, hap, fr54⟩ := hq55
        replace f19 := (fr54 19 (by decide)).trans f19
        refine sv_top (y := nI (bp C Hd b q T n k9)) hr56 ?_
        refine lv_ishl hx hb dL_areOrders_162 ?_
        refine sv_top (y := nI (2 ^ (bp C Hd b q T n k9))) (sh_l1 (Nat.lt_of_lt_of_le (hbpn _ (by omega)) (by omega))) ?_
        refine lv_ior hx hb dL_areOrders_163 ?_
        refine sv_top (y := nI (((bq C Hd b q T n k9).1) ||| (2 ^ (bp C Hd b q T n k9)))) (an_or _ _) ?_
        refine lv_istore (lv' := [(6, .int (nI (((bq C Hd b q T n k9).1) ||| (2 ^ (bp C Hd b q T n k9))))), (0, .ref x), (1, .ref o9), (2, .int (nI gv)), (3, .int (nI (2 ^ n - 1))), (4, .int (nI (few C Hd b q T n))), (5, .int (nI 1)), (7, .int (nI k9))]) hx hb dL_areOrders_164 hl (by decide) rfl (fun ls hl => ?_)
        refine lv_aload_n hx hb dL_areOrders_166 rfl (lv_at hl 1 rfl) ?_
        refine lv_iload hx hb dL_areOrders_167 (lv_at hl 0 rfl) ?_
        refine lv_aload_n hx hb dL_areOrders_169 rfl (lv_at hl 1 rfl) ?_
        refine lv_iload hx hb dL_areOrders_170 (lv_at hl 7 rfl) ?_
        obtain ⟨fs0, g0⟩ := hap.at0
        refine mcV (c_X4_orderAt_0 hP hD hap hLR.1 hT (by omega) hf) ⟨hx, hb, hml, hown, hts⟩ hK gL_areOrders_X4_orderAt rfl hd_X4_orderAt ⟨by omega, by omega⟩ (va_recv hK hP (ci := 4) (q0 := 0) rfl g0) rfl hl.1 rfl (Nat.le_of_ble_eq_true rfl) dL_areOrders_172 ⟨Nat.zero_le _, Nat.zero_le _⟩ hS (fun rv ws57 H locs hq59 hP hD hS => ?_)
        obtain ⟨hr60, hap, fr58⟩ := hq59
        replace f19 := (fr58 19 (by decide)).trans f19
        refine sv_top (y := nI (bp C Hd b q T n k9)) hr60 ?_
        obtain ⟨fs0, g0⟩ := hap.at0
        refine mcV (c_X4_canTake_0 hP hD hap hLR.1 lz_orp (lz_cad (by omega) hT hf (by omega)).2.1 (hbpn _ (by omega)) lz_orb) ⟨hx, hb, hml, hown, hts⟩ hK gL_areOrders_X4_canTake rfl hd_X4_canTake ⟨by omega, by omega⟩ (va_recv hK hP (ci := 4) (q0 := 0) rfl g0) rfl hl.1 rfl (Nat.le_of_ble_eq_true rfl) dL_areOrders_175 ⟨Nat.zero_le _, Nat.zero_le _⟩ hS (fun rv ws61 H locs hq63 hP hD hS => ?_)
        obtain ⟨hr64, hap, fr62⟩ := hq63
        replace f19 := (fr62 19 (by decide)).trans f19
        refine sv_top (y := bI (tke C Hd b q (((bq C Hd b q T n k9).1) ||| (2 ^ (bp C Hd b q T n k9))) (bp C Hd b q T n k9))) hr64 ?_
        refine lv_istore (lv' := [(5, .int (bI (tke C Hd b q (((bq C Hd b q T n k9).1) ||| (2 ^ (bp C Hd b q T n k9))) (bp C Hd b q T n k9)))), (6, .int (nI (((bq C Hd b q T n k9).1) ||| (2 ^ (bp C Hd b q T n k9))))), (0, .ref x), (1, .ref o9), (2, .int (nI gv)), (3, .int (nI (2 ^ n - 1))), (4, .int (nI (few C Hd b q T n))), (7, .int (nI k9))]) hx hb dL_areOrders_178 hl (by decide) rfl (fun ls hl => ?_)
        refine lv_iinc (v := nI (k9 + 1)) (lv' := [(7, .int (nI (k9 + 1))), (5, .int (bI (tke C Hd b q (((bq C Hd b q T n k9).1) ||| (2 ^ (bp C Hd b q T n k9))) (bp C Hd b q T n k9)))), (6, .int (nI (((bq C Hd b q T n k9).1) ||| (2 ^ (bp C Hd b q T n k9))))), (0, .ref x), (1, .ref o9), (2, .int (nI gv)), (3, .int (nI (2 ^ n - 1))), (4, .int (nI (few C Hd b q T n)))]) hx hb dL_areOrders_180 hl (k := 7) rfl (nI_1 _) (by decide) rfl (fun ls hl => ?_)
        refine lv_goto (tgt := 139) hx hb dL_areOrders_183 (by decide) ?_
        have e5 : bI (tke C Hd b q (((bq C Hd b q T n k9).1) ||| (2 ^ (bp C Hd b q T n k9))) (bp C Hd b q T n k9)) = nI 1 := (bI_t (lz_tke (lz_cad (by omega) hT hf (show k9 < n by omega)).1)).symm
        rw [e5] at hl
        exact ih139 (k9 + 1) (by omega) _ _ (by omega) hP hD f19 hap ((((fr.wd frwl139 : fr _ _ 0 18).tr fr54).tr fr58).tr fr62) ls locs (lv_sub hl [3, 4, 5, 6, 7, 1, 2, 0] rfl) hS
  exact L139 ((n - 0) + 1) 0 (Nat.lt_succ_self _) _ _ (Nat.zero_le _) hP hD f19 hap (((((((((fr.wd fr2 : fr _ _ 0 18).tr fr6).tr fr11).tr fr15).tr fr20).tr fr24).tr fr29).tr fr34).tr fr39) ls locs (lv_sub hl [5, 6, 7, 4, 3, 2, 1, 0] rfl) hS
set_option maxHeartbeats 4000000 in
set_option maxRecDepth 100000 in
theorem c_L_areOrders_A0 {l : Launch} {D : va_G} {ky : kT} {A : Nat → Prop} {Hs : Heap} {ws : va_W} (hP : va_P D CL ws Hs) (hD : va_D A ws) {x o9 n : Nat} {T C Hd : Nat → Nat} {b : Nat} {q : Bool} {J : Nat → Nat} {bg : Bool} {pi bu : Nat} {tm tl : Int32} {K : Nat → Nat} {f : Nat → Nat} (hap : AP ky ws x n T C Hd b q J bg pi bu tm tl K) (f19 : ws[19]? = some (o9, .inl (ky.1, 59, .inl (fun i => nI (f i))))) (hTI : TI n C Hd b q f) (hLR : LR n T C Hd b J K) {gv : Nat} (hgv : gv < 2 ^ 31) (hn1 : 0 < n) (hf : few C Hd b q T n < 1000) (hfn : few C Hd b q T n < n) (hop : ¬ ord C Hd b q n 0 = 0) (hwz : wys C Hd n (2 ^ n - 1) = 0) (hdn : dps C Hd n (2 ^ n - 1) = 1000) : MU l yL_areOrders wsL_areOrders 11 277 0 0 D ky A Hs [.ref x, .ref o9, .int (nI gv)] (fun r w => r = nI 1 ∧ (∃ (J1 : Nat → Nat) (bg1 : Bool) (pi1 bu1 : Nat) (tm1 tl1 : Int32) (K1 : Nat → Nat), AP ky w x n T C Hd b q J1 bg1 pi1 bu1 tm1 tl1 K1 ∧ (∀ i, J1 i ≤ 5) ∧ ∀ i, K1 i ≤ 2) ∧ fr ws w 0 18) := by
  refine MU.of (cc := cL_areOrders) (maxL := 8) (ty := .boolean) (by decide) rfl (Nat.le_of_ble_eq_true rfl) ?_
  intro pg en Rm sg mi av below meth co Qo hRf hRl hRc hRs hx hb hml hown hts hK hret ls hl
  have hl : lv_has ls 8 [(0, .ref x), (1, .ref o9), (2, .int (nI gv))] := hl
  have hS : va_S A Hs Hs [] := va_S.rf
  generalize ([] : List Loc) = locs at hS ⊢
  have hn6 : n ≤ 6 := hLR.2.1
  have hT := hLR.2.2.1
  have hp64 := p2_64 hn6
  have hp1 : 1 ≤ 2 ^ n := Nat.one_le_two_pow
  have hb8 : b < 8 := hLR.1.2.1
  have hTb : ∀ p, T p < 2 ^ 31 := fun p => Nat.lt_of_lt_of_le (hT p) (by decide)
  have hq2 : q.toNat ≤ 1 := tn_1 q
  have hJ := hLR.2.2.2.1
  have hK2 := hLR.2.2.2.2
  have hbpn : ∀ k, k < n → bp C Hd b q T n k < n := fun k hk => bp_ok (by omega) hT hf hk
  have hbp31 : ∀ k, k < n → bp C Hd b q T n k < 2 ^ 31 := fun k hk => by have := hbpn k hk; omega
  have hp2n : 2 ^ 1 ≤ 2 ^ n := Nat.pow_le_pow_right (by decide) hn1
  have hw31 : wys C Hd n (2 ^ n - 1) < 2 ^ 31 := lz_ways31 (by omega) (by omega)
  have hd31 : dps C Hd n (2 ^ n - 1) < 2 ^ 31 := by have := dps_ok (C := C) (Hd := Hd) (n := n) (2 ^ n - 1) (by omega); omega
  have ho31 := (lz_few (C := C) (Hd := Hd) (b := b) (q := q) hn6 hT).1
  refine lv_iconst (v := nI 1) hx hb dL_areOrders_0 ci_1 ?_
  refine lv_aload_n hx hb dL_areOrders_1 rfl (lv_at hl 1 rfl) ?_
  refine lv_bipush (v := nI 56) hx hb dL_areOrders_2 bi_56 ?_
  refine sv_iald hx hb hK hP 19 f19 (j := 56) (by omega) (by decide) dL_areOrders_4 ?_
  refine W.eq (g2 := F0 mi 5 ls (.int (nI (f 56)) :: [.int (nI 1)])) rfl ?_
  refine sv_top (y := nI n) (by rw [hTI.2.2.1]) ?_
  refine lv_ishl hx hb dL_areOrders_5 ?_
  refine sv_top (y := nI (2 ^ n)) (sh_l1 (by omega)) ?_
  refine lv_iconst (v := nI 1) hx hb dL_areOrders_6 ci_1 ?_
  refine lv_isub hx hb dL_areOrders_7 ?_
  refine sv_top (y := nI ((2 ^ n) - 1)) (pk_sub Nat.one_le_two_pow) ?_
  refine lv_istore_n (lv' := [(3, .int (nI ((2 ^ n) - 1))), (0, .ref x), (1, .ref o9), (2, .int (nI gv))]) hx hb dL_areOrders_8 rfl hl (by decide) rfl (fun ls hl => ?_)
  refine lv_aload_n hx hb dL_areOrders_9 rfl (lv_at hl 1 rfl) ?_
  obtain ⟨fs0, g0⟩ := hap.at0
  refine mcV (c_X4_fewestChanges_0 hP hD hap hLR.1 hT hn1) ⟨hx, hb, hml, hown, hts⟩ hK gL_areOrders_X4_fewestChanges rfl hd_X4_fewestChanges ⟨by omega, by omega⟩ (va_recv hK hP (ci := 4) (q0 := 0) rfl g0) rfl hl.1 rfl (Nat.le_of_ble_eq_true rfl) dL_areOrders_10 ⟨Nat.zero_le _, Nat.zero_le _⟩ hS (fun rv ws1 H locs hq3 hP hD hS => ?_)
  obtain ⟨hr4, hap, fr2⟩ := hq3
  replace f19 := (fr2 19 (by decide)).trans f19
  refine sv_top (y := nI (few C Hd b q T n)) (hr4.trans (if_neg (by omega))) ?_
  refine lv_istore (lv' := [(4, .int (nI (few C Hd b q T n))), (3, .int (nI ((2 ^ n) - 1))), (0, .ref x), (1, .ref o9), (2, .int (nI gv))]) hx hb dL_areOrders_13 hl (by decide) rfl (fun ls hl => ?_)
  refine lv_aload_n hx hb dL_areOrders_15 rfl (lv_at hl 2 rfl) ?_
  obtain ⟨fs0, g0⟩ := hap.at0
  refine mcV (c_X4_orders_0 hP hD hap hLR.1 hT hn1) ⟨hx, hb, hml, hown, hts⟩ hK gL_areOrders_X4_orders rfl hd_X4_orders ⟨by omega, by omega⟩ (va_recv hK hP (ci := 4) (q0 := 0) rfl g0) rfl hl.1 rfl (Nat.le_of_ble_eq_true rfl) dL_areOrders_16 ⟨Nat.zero_le _, Nat.zero_le _⟩ hS (fun rv ws5 H locs hq7 hP hD hS => ?_)
  obtain ⟨hr8, hap, fr6⟩ := hq7
  replace f19 := (fr6 19 (by decide)).trans f19
  refine sv_top (y := nI (ord C Hd b q n 0)) hr8 ?_
  refine sn_if_le (tgt := 26) hx hb dL_areOrders_19 (by decide) ho31 (fun c9 => absurd c9 hop) (fun c9 => ?_)
  refine lv_iconst (v := nI 1) hx hb dL_areOrders_22 ci_1 ?_
  refine lv_goto (tgt := 27) hx hb dL_areOrders_23 (by decide) ?_
  refine lv_iload hx hb dL_areOrders_27 (lv_at hl 0 rfl) ?_
  refine lv_iconst (v := -1) hx hb dL_areOrders_29 ci_m1 ?_
  refine lv_icmp_eq (tgt := 37) hx hb dL_areOrders_30 (by decide) (fun z => absurd z.symm (m1_ne (by omega))) (fun _ => ?_)
  refine lv_iconst (v := nI 1) hx hb dL_areOrders_33 ci_1 ?_
  refine lv_goto (tgt := 38) hx hb dL_areOrders_34 (by decide) ?_
  refine lv_icmp_ne (tgt := 121) hx hb dL_areOrders_38 (by decide) (fun z => absurd rfl z) (fun _ => ?_)
  refine lv_aload_n hx hb dL_areOrders_41 rfl (lv_at hl 2 rfl) ?_
  obtain ⟨fs0, g0⟩ := hap.at0
  refine mcV (c_X4_fewestByListing_0 hP hD hap hLR.1 hT hn1 (by omega)) ⟨hx, hb, hml, hown, hts⟩ hK gL_areOrders_X4_fewestByListing rfl hd_X4_fewestByListing ⟨by omega, by omega⟩ (va_recv hK hP (ci := 4) (q0 := 0) rfl g0) rfl hl.1 rfl (Nat.le_of_ble_eq_true rfl) dL_areOrders_42 ⟨Nat.zero_le _, Nat.zero_le _⟩ hS (fun rv ws10 H locs hq12 hP hD hS => ?_)
  obtain ⟨hr13, hap, fr11⟩ := hq12
  replace f19 := (fr11 19 (by decide)).trans f19
  refine sv_top (y := nI (few C Hd b q T n)) (hr13.trans (if_neg (by omega))) ?_
  refine lv_iload hx hb dL_areOrders_45 (lv_at hl 0 rfl) ?_
  refine lv_icmp_ne (tgt := 121) hx hb dL_areOrders_47 (by decide) (fun z => absurd rfl z) (fun _ => ?_)
  refine lv_aload_n hx hb dL_areOrders_50 rfl (lv_at hl 2 rfl) ?_
  obtain ⟨fs0, g0⟩ := hap.at0
  refine mcV (c_X4_ways_0 hP hD hap hLR.1 hn1) ⟨hx, hb, hml, hown, hts⟩ hK gL_areOrders_X4_ways rfl hd_X4_ways ⟨by omega, by omega⟩ (va_recv hK hP (ci := 4) (q0 := 0) rfl g0) rfl hl.1 rfl (Nat.le_of_ble_eq_true rfl) dL_areOrders_51 ⟨Nat.zero_le _, Nat.zero_le _⟩ hS (fun rv ws14 H locs hq16 hP hD hS => ?_)
  obtain ⟨hr17, hap, fr15⟩ := hq16
  replace f19 := (fr15 19 (by decide)).trans f19
  refine sv_top (y := nI (wys C Hd n (2 ^ n - 1))) hr17 ?_
  refine sn_if_le (tgt := 61) hx hb dL_areOrders_54 (by decide) hw31 (fun c18 => ?_) (fun c18 => absurd hwz c18)
  refine lv_iconst (v := nI 0) hx hb dL_areOrders_61 ci_0 ?_
  refine lv_aload_n hx hb dL_areOrders_62 rfl (lv_at hl 2 rfl) ?_
  obtain ⟨fs0, g0⟩ := hap.at0
  refine mcV (c_X4_leastDepth_0 hP hD hap hLR.1 hn1) ⟨hx, hb, hml, hown, hts⟩ hK gL_areOrders_X4_leastDepth rfl hd_X4_leastDepth ⟨by omega, by omega⟩ (va_recv hK hP (ci := 4) (q0 := 0) rfl g0) rfl hl.1 rfl (Nat.le_of_ble_eq_true rfl) dL_areOrders_63 ⟨Nat.zero_le _, Nat.zero_le _⟩ hS (fun rv ws19 H locs hq21 hP hD hS => ?_)
  obtain ⟨hr22, hap, fr20⟩ := hq21
  replace f19 := (fr20 19 (by decide)).trans f19
  refine sv_top (y := -1) (hr22.trans (if_pos hdn)) ?_
  refine lv_iconst (v := -1) hx hb dL_areOrders_66 ci_m1 ?_
  refine lv_icmp_eq (tgt := 74) hx hb dL_areOrders_67 (by decide) (fun _ => ?_) (fun z => absurd rfl z)
  refine lv_iconst (v := nI 0) hx hb dL_areOrders_74 ci_0 ?_
  refine lv_icmp_ne (tgt := 121) hx hb dL_areOrders_75 (by decide) (fun z => absurd rfl z) (fun _ => ?_)
  refine lv_aload_n hx hb dL_areOrders_78 rfl (lv_at hl 2 rfl) ?_
  obtain ⟨fs0, g0⟩ := hap.at0
  refine mcV (c_X4_ways_0 hP hD hap hLR.1 hn1) ⟨hx, hb, hml, hown, hts⟩ hK gL_areOrders_X4_ways rfl hd_X4_ways ⟨by omega, by omega⟩ (va_recv hK hP (ci := 4) (q0 := 0) rfl g0) rfl hl.1 rfl (Nat.le_of_ble_eq_true rfl) dL_areOrders_79 ⟨Nat.zero_le _, Nat.zero_le _⟩ hS (fun rv ws23 H locs hq25 hP hD hS => ?_)
  obtain ⟨hr26, hap, fr24⟩ := hq25
  replace f19 := (fr24 19 (by decide)).trans f19
  refine sv_top (y := nI (wys C Hd n (2 ^ n - 1))) hr26 ?_
  refine sn_if_eq (tgt := 117) hx hb dL_areOrders_82 (by decide) hw31 (fun c27 => ?_) (fun c27 => absurd hwz c27)
  refine lv_iconst (v := nI 1) hx hb dL_areOrders_117 ci_1 ?_
  refine lv_goto (tgt := 122) hx hb dL_areOrders_118 (by decide) ?_
  refine lv_istore (lv' := [(5, .int (nI 1)), (4, .int (nI (few C Hd b q T n))), (3, .int (nI ((2 ^ n) - 1))), (0, .ref x), (1, .ref o9), (2, .int (nI gv))]) hx hb dL_areOrders_122 hl (by decide) rfl (fun ls hl => ?_)
  refine lv_iload hx hb dL_areOrders_124 (lv_at hl 1 rfl) ?_
  refine lv_iconst (v := -1) hx hb dL_areOrders_126 ci_m1 ?_
  refine lv_icmp_ne (tgt := 133) hx hb dL_areOrders_127 (by decide) (fun _ => ?_) (fun z => absurd z.symm (m1_ne (by omega)))
  refine lv_iconst (v := nI 0) hx hb dL_areOrders_133 ci_0 ?_
  refine lv_istore (lv' := [(6, .int (nI 0)), (5, .int (nI 1)), (4, .int (nI (few C Hd b q T n))), (3, .int (nI ((2 ^ n) - 1))), (0, .ref x), (1, .ref o9), (2, .int (nI gv))]) hx hb dL_areOrders_134 hl (by decide) rfl (fun ls hl => ?_)
  refine lv_iconst (v := nI 0) hx hb dL_areOrders_136 ci_0 ?_
  refine lv_istore (lv' := [(7, .int (nI 0)), (6, .int (nI 0)), (5, .int (nI 1)), (4, .int (nI (few C Hd b q T n))), (3, .int (nI ((2 ^ n) - 1))), (0, .ref x), (1, .ref o9), (2, .int (nI gv))]) hx hb dL_areOrders_137 hl (by decide) rfl (fun ls hl => ?_)
  have L139 : ∀ (L139d : Nat) (k9 : Nat), n - k9 < L139d → ∀ (wl139 : va_W) (H : Heap), k9 ≤ n → va_P D CL wl139 H → va_D A wl139 → wl139[19]? = some (o9, .inl (ky.1, 59, .inl (fun i => nI (f i)))) → AP ky wl139 x n T C Hd b q J bg pi bu tm tl K → fr ws wl139 0 18 → ∀ (ls : Array Slot) (locs : List Loc), lv_has ls 8 [(0, .ref x), (1, .ref o9), (2, .int (nI gv)), (3, .int (nI (2 ^ n - 1))), (4, .int (nI (few C Hd b q T n))), (5, .int (nI 1)), (6, .int (nI ((bq C Hd b q T n k9).1))), (7, .int (nI k9))] → va_S A Hs H locs → W pg l en Rm sg mi av below meth co H locs 0 0 Qo (F0 mi 139 ls []) := by
    intro L139d
    induction L139d with
    | zero => intro k9 hfu; exact absurd hfu (Nat.not_lt_zero _)
    | succ L139d ih139 =>
      intro k9 hfu wl139 H i139_0 hP hD f19 hap frwl139 ls locs hl hS
      refine lv_iload hx hb dL_areOrders_139 (lv_at hl 7 rfl) ?_
      refine lv_aload_n hx hb dL_areOrders_141 rfl (lv_at hl 1 rfl) ?_
      refine lv_bipush (v := nI 56) hx hb dL_areOrders_142 bi_56 ?_
      refine sv_iald hx hb hK hP 19 f19 (j := 56) (by omega) (by decide) dL_areOrders_144 ?_
      refine W.eq (g2 := F0 mi 145 ls (.int (nI (f 56)) :: [.int (nI k9)])) rfl ?_
      refine sv_top (y := nI n) (by rw [hTI.2.2.1]) ?_
      refine sn_icmp_ge (tgt := 186) hx hb dL_areOrders_145 (by decide) (by omega) (by omega) (fun c28 => ?_) (fun c28 => ?_)
      · refine lv_iload hx hb dL_areOrders_186 (lv_at hl 5 rfl) ?_
        refine sn_if_eq (tgt := 219) hx hb dL_areOrders_188 (by decide) (by decide) (fun q => absurd q (by decide)) (fun _ => ?_)
        refine lv_iload hx hb dL_areOrders_191 (lv_at hl 6 rfl) ?_
        refine lv_iload_n hx hb dL_areOrders_193 rfl (lv_at hl 3 rfl) ?_
        refine sn_icmp_ne (tgt := 219) hx hb dL_areOrders_194 (by decide) (lt_31 (bq_ok (by omega) hT hf _ (by omega)).1 (by omega)) (by omega) (fun c30 => absurd (by rw [show k9 = n by omega]; exact (lz_bqn (by omega) hT hf).1) c30) (fun c30 => ?_)
        refine lv_iload hx hb dL_areOrders_197 (lv_at hl 4 rfl) ?_
        refine lv_aload_n hx hb dL_areOrders_199 rfl (lv_at hl 1 rfl) ?_
        refine lv_bipush (v := nI 56) hx hb dL_areOrders_200 bi_56 ?_
        refine sv_iald hx hb hK hP 19 f19 (j := 56) (by omega) (by decide) dL_areOrders_202 ?_
        refine W.eq (g2 := F0 mi 203 ls (.int (nI (f 56)) :: [.int (nI (few C Hd b q T n))])) rfl ?_
        refine sv_top (y := nI n) (by rw [hTI.2.2.1]) ?_
        refine sn_icmp_ge (tgt := 219) hx hb dL_areOrders_203 (by decide) (by omega) (by omega) (fun c31 => absurd c31 (by omega)) (fun c31 => ?_)
        refine lv_aload_n hx hb dL_areOrders_206 rfl (lv_at hl 0 rfl) ?_
        refine lv_aload_n hx hb dL_areOrders_207 rfl (lv_at hl 1 rfl) ?_
        refine lv_iload_n hx hb dL_areOrders_208 rfl (lv_at hl 2 rfl) ?_
        refine mcS (c_L_isRun hP hD hap f19 hTI hLR hgv hn1 hf) ⟨hx, hb, hml, hown, hts⟩ hK gL_areOrders_L_isRun rfl hd_L_isRun ⟨by omega, by omega⟩ rfl hl.1 rfl (Nat.le_of_ble_eq_true rfl) dL_areOrders_209 ⟨Nat.zero_le _, Nat.zero_le _⟩ hS (fun rv ws32 H locs hq34 hP hD hS => ?_)
        obtain ⟨hr35, ⟨J1, bg1, pi1, bu1, tm1, tl1, K1, hap, hJ1, hK1⟩, fr33⟩ := hq34
        refine sv_top (y := nI 1) hr35 ?_
        refine sn_if_eq (tgt := 219) hx hb dL_areOrders_212 (by decide) (by decide) (fun q => absurd q (by decide)) (fun _ => ?_)
        refine lv_iconst (v := nI 1) hx hb dL_areOrders_215 ci_1 ?_
        refine lv_goto (tgt := 220) hx hb dL_areOrders_216 (by decide) ?_
        exact hret 220 ls _ _ locs _ dL_areOrders_220 hP hD hS rfl (⟨rfl, ⟨_, _, _, _, _, _, _, hap, hJ1, hK1⟩, ((fr.wd frwl139 : fr _ _ 0 18).tr fr33)⟩)
      · refine lv_iload hx hb dL_areOrders_148 (lv_at hl 5 rfl) ?_
        refine sn_if_eq (tgt := 186) hx hb dL_areOrders_150 (by decide) (by decide) (fun q => absurd q (by decide)) (fun _ => ?_)
        refine lv_iload hx hb dL_areOrders_153 (lv_at hl 6 rfl) ?_
        refine lv_iconst (v := nI 1) hx hb dL_areOrders_155 ci_1 ?_
        refine lv_aload_n hx hb dL_areOrders_156 rfl (lv_at hl 0 rfl) ?_
        refine lv_iload hx hb dL_areOrders_157 (lv_at hl 7 rfl) ?_
        obtain ⟨fs0, g0⟩ := hap.at0
        refine mcV (c_X4_orderAt_0 hP hD hap hLR.1 hT (by omega) hf) ⟨hx, hb, hml, hown, hts⟩ hK gL_areOrders_X4_orderAt rfl hd_X4_orderAt ⟨by omega, by omega⟩ (va_recv hK hP (ci := 4) (q0 := 0) rfl g0) rfl hl.1 rfl (Nat.le_of_ble_eq_true rfl) dL_areOrders_159 ⟨Nat.zero_le _, Nat.zero_le _⟩ hS (fun rv ws38 H locs hq40 hP hD hS => ?_)
        obtain ⟨hr41, hap, fr39⟩ := hq40
        replace f19 := (fr39 19 (by decide)).trans f19
        refine sv_top (y := nI (bp C Hd b q T n k9)) hr41 ?_
        refine lv_ishl hx hb dL_areOrders_162 ?_
        refine sv_top (y := nI (2 ^ (bp C Hd b q T n k9))) (sh_l1 (Nat.lt_of_lt_of_le (hbpn _ (by omega)) (by omega))) ?_
        refine lv_ior hx hb dL_areOrders_163 ?_
        refine sv_top (y := nI (((bq C Hd b q T n k9).1) ||| (2 ^ (bp C Hd b q T n k9)))) (an_or _ _) ?_
        refine lv_istore (lv' := [(6, .int (nI (((bq C Hd b q T n k9).1) ||| (2 ^ (bp C Hd b q T n k9))))), (0, .ref x), (1, .ref o9), (2, .int (nI gv)), (3, .int (nI (2 ^ n - 1))), (4, .int (nI (few C Hd b q T n))), (5, .int (nI 1)), (7, .int (nI k9))]) hx hb dL_areOrders_164 hl (by decide) rfl (fun ls hl => ?_)
        refine lv_aload_n hx hb dL_areOrders_166 rfl (lv_at hl 1 rfl) ?_
        refine lv_iload hx hb dL_areOrders_167 (lv_at hl 0 rfl) ?_
        refine lv_aload_n hx hb dL_areOrders_169 rfl (lv_at hl 1 rfl) ?_
        refine lv_iload hx hb dL_areOrders_170 (lv_at hl 7 rfl) ?_
        obtain ⟨fs0, g0⟩ := hap.at0
        refine mcV (c_X4_orderAt_0 hP hD hap hLR.1 hT (by omega) hf) ⟨hx, hb, hml, hown, hts⟩ hK gL_areOrders_X4_orderAt rfl hd_X4_orderAt ⟨by omega, by omega⟩ (va_recv hK hP (ci := 4) (q0 := 0) rfl g0) rfl hl.1 rfl (Nat.le_of_ble_eq_true rfl) dL_areOrders_172 ⟨Nat.zero_le _, Nat.zero_le _⟩ hS (fun rv ws42 H locs hq44 hP hD hS => ?_)
        obtain ⟨hr45, hap, fr43⟩ := hq44
        replace f19 := (fr43 19 (by decide)).trans f19
        refine sv_top (y := nI (bp C Hd b q T n k9)) hr45 ?_
        obtain ⟨fs0, g0⟩ := hap.at0
        refine mcV (c_X4_canTake_0 hP hD hap hLR.1 lz_orp (lz_cad (by omega) hT hf (by omega)).2.1 (hbpn _ (by omega)) lz_orb) ⟨hx, hb, hml, hown, hts⟩ hK gL_areOrders_X4_canTake rfl hd_X4_canTake ⟨by omega, by omega⟩ (va_recv hK hP (ci := 4) (q0 := 0) rfl g0) rfl hl.1 rfl (Nat.le_of_ble_eq_true rfl) dL_areOrders_175 ⟨Nat.zero_le _, Nat.zero_le _⟩ hS (fun rv ws46 H locs hq48 hP hD hS => ?_)
        obtain ⟨hr49, hap, fr47⟩ := hq48
        replace f19 := (fr47 19 (by decide)).trans f19
        refine sv_top (y := bI (tke C Hd b q (((bq C Hd b q T n k9).1) ||| (2 ^ (bp C Hd b q T n k9))) (bp C Hd b q T n k9))) hr49 ?_
        refine lv_istore (lv' := [(5, .int (bI (tke C Hd b q (((bq C Hd b q T n k9).1) ||| (2 ^ (bp C Hd b q T n k9))) (bp C Hd b q T n k9)))), (6, .int (nI (((bq C Hd b q T n k9).1) ||| (2 ^ (bp C Hd b q T n k9))))), (0, .ref x), (1, .ref o9), (2, .int (nI gv)), (3, .int (nI (2 ^ n - 1))), (4, .int (nI (few C Hd b q T n))), (7, .int (nI k9))]) hx hb dL_areOrders_178 hl (by decide) rfl (fun ls hl => ?_)
        refine lv_iinc (v := nI (k9 + 1)) (lv' := [(7, .int (nI (k9 + 1))), (5, .int (bI (tke C Hd b q (((bq C Hd b q T n k9).1) ||| (2 ^ (bp C Hd b q T n k9))) (bp C Hd b q T n k9)))), (6, .int (nI (((bq C Hd b q T n k9).1) ||| (2 ^ (bp C Hd b q T n k9))))), (0, .ref x), (1, .ref o9), (2, .int (nI gv)), (3, .int (nI (2 ^ n - 1))), (4, .int (nI (few C Hd b q T n)))]) hx hb dL_areOrders_180 hl (k := 7) rfl (nI_1 _) (by decide) rfl (fun ls hl => ?_)
        refine lv_goto (tgt := 139) hx hb dL_areOrders_183 (by decide) ?_
        have e5 : bI (tke C Hd b q (((bq C Hd b q T n k9).1) ||| (2 ^ (bp C Hd b q T n k9))) (bp C Hd b q T n k9)) = nI 1 := (bI_t (lz_tke (lz_cad (by omega) hT hf (show k9 < n by omega)).1)).symm
        rw [e5] at hl
        exact ih139 (k9 + 1) (by omega) _ _ (by omega) hP hD f19 hap ((((fr.wd frwl139 : fr _ _ 0 18).tr fr39).tr fr43).tr fr47) ls locs (lv_sub hl [3, 4, 5, 6, 7, 1, 2, 0] rfl) hS
  exact L139 ((n - 0) + 1) 0 (Nat.lt_succ_self _) _ _ (Nat.zero_le _) hP hD f19 hap ((((((fr.wd fr2 : fr _ _ 0 18).tr fr6).tr fr11).tr fr15).tr fr20).tr fr24) ls locs (lv_sub hl [5, 6, 7, 4, 3, 2, 1, 0] rfl) hS
set_option maxHeartbeats 4000000 in
set_option maxRecDepth 100000 in
theorem c_L_areOrders_B1 {l : Launch} {D : va_G} {ky : kT} {A : Nat → Prop} {Hs : Heap} {ws : va_W} (hP : va_P D CL ws Hs) (hD : va_D A ws) {x o9 n : Nat} {T C Hd : Nat → Nat} {b : Nat} {q : Bool} {J : Nat → Nat} {bg : Bool} {pi bu : Nat} {tm tl : Int32} {K : Nat → Nat} {f : Nat → Nat} (hap : AP ky ws x n T C Hd b q J bg pi bu tm tl K) (f19 : ws[19]? = some (o9, .inl (ky.1, 59, .inl (fun i => nI (f i))))) (hTI : TI n C Hd b q f) (hLR : LR n T C Hd b J K) {gv : Nat} (hgv : gv < 2 ^ 31) (hn1 : 0 < n) (hf : few C Hd b q T n = 1000) (hoz : ord C Hd b q n 0 = 0) (hwp : 0 < wys C Hd n (2 ^ n - 1)) (hdn : ¬ dps C Hd n (2 ^ n - 1) = 1000) (hdl : dps C Hd n (2 ^ n - 1) < n) (hdg : n ≤ 2 ^ dps C Hd n (2 ^ n - 1)) : MU l yL_areOrders wsL_areOrders 11 277 0 0 D ky A Hs [.ref x, .ref o9, .int (nI gv)] (fun r w => r = nI 1 ∧ (∃ (J1 : Nat → Nat) (bg1 : Bool) (pi1 bu1 : Nat) (tm1 tl1 : Int32) (K1 : Nat → Nat), AP ky w x n T C Hd b q J1 bg1 pi1 bu1 tm1 tl1 K1 ∧ (∀ i, J1 i ≤ 5) ∧ ∀ i, K1 i ≤ 2) ∧ fr ws w 0 18) := by
  refine MU.of (cc := cL_areOrders) (maxL := 8) (ty := .boolean) (by decide) rfl (Nat.le_of_ble_eq_true rfl) ?_
  intro pg en Rm sg mi av below meth co Qo hRf hRl hRc hRs hx hb hml hown hts hK hret ls hl
  have hl : lv_has ls 8 [(0, .ref x), (1, .ref o9), (2, .int (nI gv))] := hl
  have hS : va_S A Hs Hs [] := va_S.rf
  generalize ([] : List Loc) = locs at hS ⊢
  have hn6 : n ≤ 6 := hLR.2.1
  have hT := hLR.2.2.1
  have hp64 := p2_64 hn6
  have hp1 : 1 ≤ 2 ^ n := Nat.one_le_two_pow
  have hb8 : b < 8 := hLR.1.2.1
  have hTb : ∀ p, T p < 2 ^ 31 := fun p => Nat.lt_of_lt_of_le (hT p) (by decide)
  have hq2 : q.toNat ≤ 1 := tn_1 q
  have hJ := hLR.2.2.2.1
  have hK2 := hLR.2.2.2.2
  have hp2n : 2 ^ 1 ≤ 2 ^ n := Nat.pow_le_pow_right (by decide) hn1
  have hw31 : wys C Hd n (2 ^ n - 1) < 2 ^ 31 := lz_ways31 (by omega) (by omega)
  have hd31 : dps C Hd n (2 ^ n - 1) < 2 ^ 31 := by have := dps_ok (C := C) (Hd := Hd) (n := n) (2 ^ n - 1) (by omega); omega
  have ho31 := (lz_few (C := C) (Hd := Hd) (b := b) (q := q) hn6 hT).1
  refine lv_iconst (v := nI 1) hx hb dL_areOrders_0 ci_1 ?_
  refine lv_aload_n hx hb dL_areOrders_1 rfl (lv_at hl 1 rfl) ?_
  refine lv_bipush (v := nI 56) hx hb dL_areOrders_2 bi_56 ?_
  refine sv_iald hx hb hK hP 19 f19 (j := 56) (by omega) (by decide) dL_areOrders_4 ?_
  refine W.eq (g2 := F0 mi 5 ls (.int (nI (f 56)) :: [.int (nI 1)])) rfl ?_
  refine sv_top (y := nI n) (by rw [hTI.2.2.1]) ?_
  refine lv_ishl hx hb dL_areOrders_5 ?_
  refine sv_top (y := nI (2 ^ n)) (sh_l1 (by omega)) ?_
  refine lv_iconst (v := nI 1) hx hb dL_areOrders_6 ci_1 ?_
  refine lv_isub hx hb dL_areOrders_7 ?_
  refine sv_top (y := nI ((2 ^ n) - 1)) (pk_sub Nat.one_le_two_pow) ?_
  refine lv_istore_n (lv' := [(3, .int (nI ((2 ^ n) - 1))), (0, .ref x), (1, .ref o9), (2, .int (nI gv))]) hx hb dL_areOrders_8 rfl hl (by decide) rfl (fun ls hl => ?_)
  refine lv_aload_n hx hb dL_areOrders_9 rfl (lv_at hl 1 rfl) ?_
  obtain ⟨fs0, g0⟩ := hap.at0
  refine mcV (c_X4_fewestChanges_0 hP hD hap hLR.1 hT hn1) ⟨hx, hb, hml, hown, hts⟩ hK gL_areOrders_X4_fewestChanges rfl hd_X4_fewestChanges ⟨by omega, by omega⟩ (va_recv hK hP (ci := 4) (q0 := 0) rfl g0) rfl hl.1 rfl (Nat.le_of_ble_eq_true rfl) dL_areOrders_10 ⟨Nat.zero_le _, Nat.zero_le _⟩ hS (fun rv ws1 H locs hq3 hP hD hS => ?_)
  obtain ⟨hr4, hap, fr2⟩ := hq3
  replace f19 := (fr2 19 (by decide)).trans f19
  refine sv_top (y := -1) (hr4.trans (if_pos hf)) ?_
  refine lv_istore (lv' := [(4, .int (-1)), (3, .int (nI ((2 ^ n) - 1))), (0, .ref x), (1, .ref o9), (2, .int (nI gv))]) hx hb dL_areOrders_13 hl (by decide) rfl (fun ls hl => ?_)
  refine lv_aload_n hx hb dL_areOrders_15 rfl (lv_at hl 2 rfl) ?_
  obtain ⟨fs0, g0⟩ := hap.at0
  refine mcV (c_X4_orders_0 hP hD hap hLR.1 hT hn1) ⟨hx, hb, hml, hown, hts⟩ hK gL_areOrders_X4_orders rfl hd_X4_orders ⟨by omega, by omega⟩ (va_recv hK hP (ci := 4) (q0 := 0) rfl g0) rfl hl.1 rfl (Nat.le_of_ble_eq_true rfl) dL_areOrders_16 ⟨Nat.zero_le _, Nat.zero_le _⟩ hS (fun rv ws5 H locs hq7 hP hD hS => ?_)
  obtain ⟨hr8, hap, fr6⟩ := hq7
  replace f19 := (fr6 19 (by decide)).trans f19
  refine sv_top (y := nI (ord C Hd b q n 0)) hr8 ?_
  refine sn_if_le (tgt := 26) hx hb dL_areOrders_19 (by decide) ho31 (fun c9 => ?_) (fun c9 => absurd hoz c9)
  refine lv_iconst (v := nI 0) hx hb dL_areOrders_26 ci_0 ?_
  refine lv_iload hx hb dL_areOrders_27 (lv_at hl 0 rfl) ?_
  refine lv_iconst (v := -1) hx hb dL_areOrders_29 ci_m1 ?_
  refine lv_icmp_eq (tgt := 37) hx hb dL_areOrders_30 (by decide) (fun _ => ?_) (fun z => absurd rfl z)
  refine lv_iconst (v := nI 0) hx hb dL_areOrders_37 ci_0 ?_
  refine lv_icmp_ne (tgt := 121) hx hb dL_areOrders_38 (by decide) (fun z => absurd rfl z) (fun _ => ?_)
  refine lv_aload_n hx hb dL_areOrders_41 rfl (lv_at hl 2 rfl) ?_
  obtain ⟨fs0, g0⟩ := hap.at0
  refine mcV (c_X4_fewestByListing_0 hP hD hap hLR.1 hT hn1 (by omega)) ⟨hx, hb, hml, hown, hts⟩ hK gL_areOrders_X4_fewestByListing rfl hd_X4_fewestByListing ⟨by omega, by omega⟩ (va_recv hK hP (ci := 4) (q0 := 0) rfl g0) rfl hl.1 rfl (Nat.le_of_ble_eq_true rfl) dL_areOrders_42 ⟨Nat.zero_le _, Nat.zero_le _⟩ hS (fun rv ws10 H locs hq12 hP hD hS => ?_)
  obtain ⟨hr13, hap, fr11⟩ := hq12
  replace f19 := (fr11 19 (by decide)).trans f19
  refine sv_top (y := -1) (hr13.trans (if_pos hf)) ?_
  refine lv_iload hx hb dL_areOrders_45 (lv_at hl 0 rfl) ?_
  refine lv_icmp_ne (tgt := 121) hx hb dL_areOrders_47 (by decide) (fun z => absurd rfl z) (fun _ => ?_)
  refine lv_aload_n hx hb dL_areOrders_50 rfl (lv_at hl 2 rfl) ?_
  obtain ⟨fs0, g0⟩ := hap.at0
  refine mcV (c_X4_ways_0 hP hD hap hLR.1 hn1) ⟨hx, hb, hml, hown, hts⟩ hK gL_areOrders_X4_ways rfl hd_X4_ways ⟨by omega, by omega⟩ (va_recv hK hP (ci := 4) (q0 := 0) rfl g0) rfl hl.1 rfl (Nat.le_of_ble_eq_true rfl) dL_areOrders_51 ⟨Nat.zero_le _, Nat.zero_le _⟩ hS (fun rv ws14 H locs hq16 hP hD hS => ?_)
  obtain ⟨hr17, hap, fr15⟩ := hq16
  replace f19 := (fr15 19 (by decide)).trans f19
  refine sv_top (y := nI (wys C Hd n (2 ^ n - 1))) hr17 ?_
  refine sn_if_le (tgt := 61) hx hb dL_areOrders_54 (by decide) hw31 (fun c18 => absurd c18 (by omega)) (fun c18 => ?_)
  refine lv_iconst (v := nI 1) hx hb dL_areOrders_57 ci_1 ?_
  refine lv_goto (tgt := 62) hx hb dL_areOrders_58 (by decide) ?_
  refine lv_aload_n hx hb dL_areOrders_62 rfl (lv_at hl 2 rfl) ?_
  obtain ⟨fs0, g0⟩ := hap.at0
  refine mcV (c_X4_leastDepth_0 hP hD hap hLR.1 hn1) ⟨hx, hb, hml, hown, hts⟩ hK gL_areOrders_X4_leastDepth rfl hd_X4_leastDepth ⟨by omega, by omega⟩ (va_recv hK hP (ci := 4) (q0 := 0) rfl g0) rfl hl.1 rfl (Nat.le_of_ble_eq_true rfl) dL_areOrders_63 ⟨Nat.zero_le _, Nat.zero_le _⟩ hS (fun rv ws19 H locs hq21 hP hD hS => ?_)
  obtain ⟨hr22, hap, fr20⟩ := hq21
  replace f19 := (fr20 19 (by decide)).trans f19
  refine sv_top (y := nI (dps C Hd n (2 ^ n - 1))) (hr22.trans (if_neg hdn)) ?_
  refine lv_iconst (v := -1) hx hb dL_areOrders_66 ci_m1 ?_
  refine lv_icmp_eq (tgt := 74) hx hb dL_areOrders_67 (by decide) (fun z => absurd z.symm (m1_ne hd31)) (fun _ => ?_)
  refine lv_iconst (v := nI 1) hx hb dL_areOrders_70 ci_1 ?_
  refine lv_goto (tgt := 75) hx hb dL_areOrders_71 (by decide) ?_
  refine lv_icmp_ne (tgt := 121) hx hb dL_areOrders_75 (by decide) (fun z => absurd rfl z) (fun _ => ?_)
  refine lv_aload_n hx hb dL_areOrders_78 rfl (lv_at hl 2 rfl) ?_
  obtain ⟨fs0, g0⟩ := hap.at0
  refine mcV (c_X4_ways_0 hP hD hap hLR.1 hn1) ⟨hx, hb, hml, hown, hts⟩ hK gL_areOrders_X4_ways rfl hd_X4_ways ⟨by omega, by omega⟩ (va_recv hK hP (ci := 4) (q0 := 0) rfl g0) rfl hl.1 rfl (Nat.le_of_ble_eq_true rfl) dL_areOrders_79 ⟨Nat.zero_le _, Nat.zero_le _⟩ hS (fun rv ws23 H locs hq25 hP hD hS => ?_)
  obtain ⟨hr26, hap, fr24⟩ := hq25
  replace f19 := (fr24 19 (by decide)).trans f19
  refine sv_top (y := nI (wys C Hd n (2 ^ n - 1))) hr26 ?_
  refine sn_if_eq (tgt := 117) hx hb dL_areOrders_82 (by decide) hw31 (fun c27 => absurd c27 (by omega)) (fun c27 => ?_)
  refine lv_aload_n hx hb dL_areOrders_85 rfl (lv_at hl 2 rfl) ?_
  refine lv_iload_n hx hb dL_areOrders_86 rfl (lv_at hl 1 rfl) ?_
  obtain ⟨fs0, g0⟩ := hap.at0
  refine mcV (c_X4_isConnected_0 hP hD hap hLR.1 (by omega) (by omega)) ⟨hx, hb, hml, hown, hts⟩ hK gL_areOrders_X4_isConnected rfl hd_X4_isConnected ⟨by omega, by omega⟩ (va_recv hK hP (ci := 4) (q0 := 0) rfl g0) rfl hl.1 rfl (Nat.le_of_ble_eq_true rfl) dL_areOrders_87 ⟨Nat.zero_le _, Nat.zero_le _⟩ hS (fun rv ws28 H locs hq30 hP hD hS => ?_)
  obtain ⟨hr31, hap, fr29⟩ := hq30
  replace f19 := (fr29 19 (by decide)).trans f19
  refine sv_top (y := bI (conn C ((2 ^ n) - 1))) hr31 ?_
  refine sb_if_eq (tgt := 121) hx hb dL_areOrders_90 (by decide) (fun c32 => absurd (ff_not (Hd := Hd) (n := n) (show 2 ^ n - 1 < 256 by omega) (by omega) c32).2.1 (by omega)) (fun c32 => ?_)
  refine lv_aload_n hx hb dL_areOrders_93 rfl (lv_at hl 2 rfl) ?_
  obtain ⟨fs0, g0⟩ := hap.at0
  refine mcV (c_X4_leastDepth_0 hP hD hap hLR.1 hn1) ⟨hx, hb, hml, hown, hts⟩ hK gL_areOrders_X4_leastDepth rfl hd_X4_leastDepth ⟨by omega, by omega⟩ (va_recv hK hP (ci := 4) (q0 := 0) rfl g0) rfl hl.1 rfl (Nat.le_of_ble_eq_true rfl) dL_areOrders_94 ⟨Nat.zero_le _, Nat.zero_le _⟩ hS (fun rv ws33 H locs hq35 hP hD hS => ?_)
  obtain ⟨hr36, hap, fr34⟩ := hq35
  replace f19 := (fr34 19 (by decide)).trans f19
  refine sv_top (y := nI (dps C Hd n (2 ^ n - 1))) (hr36.trans (if_neg hdn)) ?_
  refine lv_aload_n hx hb dL_areOrders_97 rfl (lv_at hl 3 rfl) ?_
  refine lv_bipush (v := nI 56) hx hb dL_areOrders_98 bi_56 ?_
  refine sv_iald hx hb hK hP 19 f19 (j := 56) (by omega) (by decide) dL_areOrders_100 ?_
  refine W.eq (g2 := F0 mi 101 ls (.int (nI (f 56)) :: [.int (nI (dps C Hd n (2 ^ n - 1)))])) rfl ?_
  refine sv_top (y := nI n) (by rw [hTI.2.2.1]) ?_
  refine sn_icmp_ge (tgt := 121) hx hb dL_areOrders_101 (by decide) hd31 (by omega) (fun c37 => absurd c37 (by omega)) (fun c37 => ?_)
  refine lv_iconst (v := nI 1) hx hb dL_areOrders_104 ci_1 ?_
  refine lv_aload_n hx hb dL_areOrders_105 rfl (lv_at hl 2 rfl) ?_
  obtain ⟨fs0, g0⟩ := hap.at0
  refine mcV (c_X4_leastDepth_0 hP hD hap hLR.1 hn1) ⟨hx, hb, hml, hown, hts⟩ hK gL_areOrders_X4_leastDepth rfl hd_X4_leastDepth ⟨by omega, by omega⟩ (va_recv hK hP (ci := 4) (q0 := 0) rfl g0) rfl hl.1 rfl (Nat.le_of_ble_eq_true rfl) dL_areOrders_106 ⟨Nat.zero_le _, Nat.zero_le _⟩ hS (fun rv ws38 H locs hq40 hP hD hS => ?_)
  obtain ⟨hr41, hap, fr39⟩ := hq40
  replace f19 := (fr39 19 (by decide)).trans f19
  refine sv_top (y := nI (dps C Hd n (2 ^ n - 1))) (hr41.trans (if_neg hdn)) ?_
  refine lv_ishl hx hb dL_areOrders_109 ?_
  refine sv_top (y := nI (2 ^ (dps C Hd n (2 ^ n - 1)))) (sh_l1 (by omega)) ?_
  refine lv_aload_n hx hb dL_areOrders_110 rfl (lv_at hl 3 rfl) ?_
  refine lv_bipush (v := nI 56) hx hb dL_areOrders_111 bi_56 ?_
  refine sv_iald hx hb hK hP 19 f19 (j := 56) (by omega) (by decide) dL_areOrders_113 ?_
  refine W.eq (g2 := F0 mi 114 ls (.int (nI (f 56)) :: [.int (nI (2 ^ (dps C Hd n (2 ^ n - 1))))])) rfl ?_
  refine sv_top (y := nI n) (by rw [hTI.2.2.1]) ?_
  refine sn_icmp_lt (tgt := 121) hx hb dL_areOrders_114 (by decide) (pw_lt (by omega)) (by omega) (fun c42 => absurd c42 (by omega)) (fun c42 => ?_)
  refine lv_iconst (v := nI 1) hx hb dL_areOrders_117 ci_1 ?_
  refine lv_goto (tgt := 122) hx hb dL_areOrders_118 (by decide) ?_
  refine lv_istore (lv' := [(5, .int (nI 1)), (4, .int (-1)), (3, .int (nI ((2 ^ n) - 1))), (0, .ref x), (1, .ref o9), (2, .int (nI gv))]) hx hb dL_areOrders_122 hl (by decide) rfl (fun ls hl => ?_)
  refine lv_iload hx hb dL_areOrders_124 (lv_at hl 1 rfl) ?_
  refine lv_iconst (v := -1) hx hb dL_areOrders_126 ci_m1 ?_
  refine lv_icmp_ne (tgt := 133) hx hb dL_areOrders_127 (by decide) (fun z => absurd rfl z) (fun _ => ?_)
  refine lv_iload hx hb dL_areOrders_130 (lv_at hl 0 rfl) ?_
  exact hret 132 ls _ _ locs _ dL_areOrders_132 hP hD hS rfl (⟨rfl, ⟨_, _, _, _, _, _, _, hap, hJ, hK2⟩, (((((((((fr.wd fr2 : fr _ _ 0 18).tr fr6).tr fr11).tr fr15).tr fr20).tr fr24).tr fr29).tr fr34).tr fr39)⟩)
set_option maxHeartbeats 4000000 in
set_option maxRecDepth 100000 in
theorem c_L_areOrders_B0 {l : Launch} {D : va_G} {ky : kT} {A : Nat → Prop} {Hs : Heap} {ws : va_W} (hP : va_P D CL ws Hs) (hD : va_D A ws) {x o9 n : Nat} {T C Hd : Nat → Nat} {b : Nat} {q : Bool} {J : Nat → Nat} {bg : Bool} {pi bu : Nat} {tm tl : Int32} {K : Nat → Nat} {f : Nat → Nat} (hap : AP ky ws x n T C Hd b q J bg pi bu tm tl K) (f19 : ws[19]? = some (o9, .inl (ky.1, 59, .inl (fun i => nI (f i))))) (hTI : TI n C Hd b q f) (hLR : LR n T C Hd b J K) {gv : Nat} (hgv : gv < 2 ^ 31) (hn1 : 0 < n) (hf : few C Hd b q T n = 1000) (hoz : ord C Hd b q n 0 = 0) (hwz : wys C Hd n (2 ^ n - 1) = 0) (hdn : dps C Hd n (2 ^ n - 1) = 1000) : MU l yL_areOrders wsL_areOrders 11 277 0 0 D ky A Hs [.ref x, .ref o9, .int (nI gv)] (fun r w => r = nI 1 ∧ (∃ (J1 : Nat → Nat) (bg1 : Bool) (pi1 bu1 : Nat) (tm1 tl1 : Int32) (K1 : Nat → Nat), AP ky w x n T C Hd b q J1 bg1 pi1 bu1 tm1 tl1 K1 ∧ (∀ i, J1 i ≤ 5) ∧ ∀ i, K1 i ≤ 2) ∧ fr ws w 0 18) := by
  refine MU.of (cc := cL_areOrders) (maxL := 8) (ty := .boolean) (by decide) rfl (Nat.le_of_ble_eq_true rfl) ?_
  intro pg en Rm sg mi av below meth co Qo hRf hRl hRc hRs hx hb hml hown hts hK hret ls hl
  have hl : lv_has ls 8 [(0, .ref x), (1, .ref o9), (2, .int (nI gv))] := hl
  have hS : va_S A Hs Hs [] := va_S.rf
  generalize ([] : List Loc) = locs at hS ⊢
  have hn6 : n ≤ 6 := hLR.2.1
  have hT := hLR.2.2.1
  have hp64 := p2_64 hn6
  have hp1 : 1 ≤ 2 ^ n := Nat.one_le_two_pow
  have hb8 : b < 8 := hLR.1.2.1
  have hTb : ∀ p, T p < 2 ^ 31 := fun p => Nat.lt_of_lt_of_le (hT p) (by decide)
  have hq2 : q.toNat ≤ 1 := tn_1 q
  have hJ := hLR.2.2.2.1
  have hK2 := hLR.2.2.2.2
  have hp2n : 2 ^ 1 ≤ 2 ^ n := Nat.pow_le_pow_right (by decide) hn1
  have hw31 : wys C Hd n (2 ^ n - 1) < 2 ^ 31 := lz_ways31 (by omega) (by omega)
  have hd31 : dps C Hd n (2 ^ n - 1) < 2 ^ 31 := by have := dps_ok (C := C) (Hd := Hd) (n := n) (2 ^ n - 1) (by omega); omega
  have ho31 := (lz_few (C := C) (Hd := Hd) (b := b) (q := q) hn6 hT).1
  refine lv_iconst (v := nI 1) hx hb dL_areOrders_0 ci_1 ?_
  refine lv_aload_n hx hb dL_areOrders_1 rfl (lv_at hl 1 rfl) ?_
  refine lv_bipush (v := nI 56) hx hb dL_areOrders_2 bi_56 ?_
  refine sv_iald hx hb hK hP 19 f19 (j := 56) (by omega) (by decide) dL_areOrders_4 ?_
  refine W.eq (g2 := F0 mi 5 ls (.int (nI (f 56)) :: [.int (nI 1)])) rfl ?_
  refine sv_top (y := nI n) (by rw [hTI.2.2.1]) ?_
  refine lv_ishl hx hb dL_areOrders_5 ?_
  refine sv_top (y := nI (2 ^ n)) (sh_l1 (by omega)) ?_
  refine lv_iconst (v := nI 1) hx hb dL_areOrders_6 ci_1 ?_
  refine lv_isub hx hb dL_areOrders_7 ?_
  refine sv_top (y := nI ((2 ^ n) - 1)) (pk_sub Nat.one_le_two_pow) ?_
  refine lv_istore_n (lv' := [(3, .int (nI ((2 ^ n) - 1))), (0, .ref x), (1, .ref o9), (2, .int (nI gv))]) hx hb dL_areOrders_8 rfl hl (by decide) rfl (fun ls hl => ?_)
  refine lv_aload_n hx hb dL_areOrders_9 rfl (lv_at hl 1 rfl) ?_
  obtain ⟨fs0, g0⟩ := hap.at0
  refine mcV (c_X4_fewestChanges_0 hP hD hap hLR.1 hT hn1) ⟨hx, hb, hml, hown, hts⟩ hK gL_areOrders_X4_fewestChanges rfl hd_X4_fewestChanges ⟨by omega, by omega⟩ (va_recv hK hP (ci := 4) (q0 := 0) rfl g0) rfl hl.1 rfl (Nat.le_of_ble_eq_true rfl) dL_areOrders_10 ⟨Nat.zero_le _, Nat.zero_le _⟩ hS (fun rv ws1 H locs hq3 hP hD hS => ?_)
  obtain ⟨hr4, hap, fr2⟩ := hq3
  replace f19 := (fr2 19 (by decide)).trans f19
  refine sv_top (y := -1) (hr4.trans (if_pos hf)) ?_
  refine lv_istore (lv' := [(4, .int (-1)), (3, .int (nI ((2 ^ n) - 1))), (0, .ref x), (1, .ref o9), (2, .int (nI gv))]) hx hb dL_areOrders_13 hl (by decide) rfl (fun ls hl => ?_)
  refine lv_aload_n hx hb dL_areOrders_15 rfl (lv_at hl 2 rfl) ?_
  obtain ⟨fs0, g0⟩ := hap.at0
  refine mcV (c_X4_orders_0 hP hD hap hLR.1 hT hn1) ⟨hx, hb, hml, hown, hts⟩ hK gL_areOrders_X4_orders rfl hd_X4_orders ⟨by omega, by omega⟩ (va_recv hK hP (ci := 4) (q0 := 0) rfl g0) rfl hl.1 rfl (Nat.le_of_ble_eq_true rfl) dL_areOrders_16 ⟨Nat.zero_le _, Nat.zero_le _⟩ hS (fun rv ws5 H locs hq7 hP hD hS => ?_)
  obtain ⟨hr8, hap, fr6⟩ := hq7
  replace f19 := (fr6 19 (by decide)).trans f19
  refine sv_top (y := nI (ord C Hd b q n 0)) hr8 ?_
  refine sn_if_le (tgt := 26) hx hb dL_areOrders_19 (by decide) ho31 (fun c9 => ?_) (fun c9 => absurd hoz c9)
  refine lv_iconst (v := nI 0) hx hb dL_areOrders_26 ci_0 ?_
  refine lv_iload hx hb dL_areOrders_27 (lv_at hl 0 rfl) ?_
  refine lv_iconst (v := -1) hx hb dL_areOrders_29 ci_m1 ?_
  refine lv_icmp_eq (tgt := 37) hx hb dL_areOrders_30 (by decide) (fun _ => ?_) (fun z => absurd rfl z)
  refine lv_iconst (v := nI 0) hx hb dL_areOrders_37 ci_0 ?_
  refine lv_icmp_ne (tgt := 121) hx hb dL_areOrders_38 (by decide) (fun z => absurd rfl z) (fun _ => ?_)
  refine lv_aload_n hx hb dL_areOrders_41 rfl (lv_at hl 2 rfl) ?_
  obtain ⟨fs0, g0⟩ := hap.at0
  refine mcV (c_X4_fewestByListing_0 hP hD hap hLR.1 hT hn1 (by omega)) ⟨hx, hb, hml, hown, hts⟩ hK gL_areOrders_X4_fewestByListing rfl hd_X4_fewestByListing ⟨by omega, by omega⟩ (va_recv hK hP (ci := 4) (q0 := 0) rfl g0) rfl hl.1 rfl (Nat.le_of_ble_eq_true rfl) dL_areOrders_42 ⟨Nat.zero_le _, Nat.zero_le _⟩ hS (fun rv ws10 H locs hq12 hP hD hS => ?_)
  obtain ⟨hr13, hap, fr11⟩ := hq12
  replace f19 := (fr11 19 (by decide)).trans f19
  refine sv_top (y := -1) (hr13.trans (if_pos hf)) ?_
  refine lv_iload hx hb dL_areOrders_45 (lv_at hl 0 rfl) ?_
  refine lv_icmp_ne (tgt := 121) hx hb dL_areOrders_47 (by decide) (fun z => absurd rfl z) (fun _ => ?_)
  refine lv_aload_n hx hb dL_areOrders_50 rfl (lv_at hl 2 rfl) ?_
  obtain ⟨fs0, g0⟩ := hap.at0
  refine mcV (c_X4_ways_0 hP hD hap hLR.1 hn1) ⟨hx, hb, hml, hown, hts⟩ hK gL_areOrders_X4_ways rfl hd_X4_ways ⟨by omega, by omega⟩ (va_recv hK hP (ci := 4) (q0 := 0) rfl g0) rfl hl.1 rfl (Nat.le_of_ble_eq_true rfl) dL_areOrders_51 ⟨Nat.zero_le _, Nat.zero_le _⟩ hS (fun rv ws14 H locs hq16 hP hD hS => ?_)
  obtain ⟨hr17, hap, fr15⟩ := hq16
  replace f19 := (fr15 19 (by decide)).trans f19
  refine sv_top (y := nI (wys C Hd n (2 ^ n - 1))) hr17 ?_
  refine sn_if_le (tgt := 61) hx hb dL_areOrders_54 (by decide) hw31 (fun c18 => ?_) (fun c18 => absurd hwz c18)
  refine lv_iconst (v := nI 0) hx hb dL_areOrders_61 ci_0 ?_
  refine lv_aload_n hx hb dL_areOrders_62 rfl (lv_at hl 2 rfl) ?_
  obtain ⟨fs0, g0⟩ := hap.at0
  refine mcV (c_X4_leastDepth_0 hP hD hap hLR.1 hn1) ⟨hx, hb, hml, hown, hts⟩ hK gL_areOrders_X4_leastDepth rfl hd_X4_leastDepth ⟨by omega, by omega⟩ (va_recv hK hP (ci := 4) (q0 := 0) rfl g0) rfl hl.1 rfl (Nat.le_of_ble_eq_true rfl) dL_areOrders_63 ⟨Nat.zero_le _, Nat.zero_le _⟩ hS (fun rv ws19 H locs hq21 hP hD hS => ?_)
  obtain ⟨hr22, hap, fr20⟩ := hq21
  replace f19 := (fr20 19 (by decide)).trans f19
  refine sv_top (y := -1) (hr22.trans (if_pos hdn)) ?_
  refine lv_iconst (v := -1) hx hb dL_areOrders_66 ci_m1 ?_
  refine lv_icmp_eq (tgt := 74) hx hb dL_areOrders_67 (by decide) (fun _ => ?_) (fun z => absurd rfl z)
  refine lv_iconst (v := nI 0) hx hb dL_areOrders_74 ci_0 ?_
  refine lv_icmp_ne (tgt := 121) hx hb dL_areOrders_75 (by decide) (fun z => absurd rfl z) (fun _ => ?_)
  refine lv_aload_n hx hb dL_areOrders_78 rfl (lv_at hl 2 rfl) ?_
  obtain ⟨fs0, g0⟩ := hap.at0
  refine mcV (c_X4_ways_0 hP hD hap hLR.1 hn1) ⟨hx, hb, hml, hown, hts⟩ hK gL_areOrders_X4_ways rfl hd_X4_ways ⟨by omega, by omega⟩ (va_recv hK hP (ci := 4) (q0 := 0) rfl g0) rfl hl.1 rfl (Nat.le_of_ble_eq_true rfl) dL_areOrders_79 ⟨Nat.zero_le _, Nat.zero_le _⟩ hS (fun rv ws23 H locs hq25 hP hD hS => ?_)
  obtain ⟨hr26, hap, fr24⟩ := hq25
  replace f19 := (fr24 19 (by decide)).trans f19
  refine sv_top (y := nI (wys C Hd n (2 ^ n - 1))) hr26 ?_
  refine sn_if_eq (tgt := 117) hx hb dL_areOrders_82 (by decide) hw31 (fun c27 => ?_) (fun c27 => absurd hwz c27)
  refine lv_iconst (v := nI 1) hx hb dL_areOrders_117 ci_1 ?_
  refine lv_goto (tgt := 122) hx hb dL_areOrders_118 (by decide) ?_
  refine lv_istore (lv' := [(5, .int (nI 1)), (4, .int (-1)), (3, .int (nI ((2 ^ n) - 1))), (0, .ref x), (1, .ref o9), (2, .int (nI gv))]) hx hb dL_areOrders_122 hl (by decide) rfl (fun ls hl => ?_)
  refine lv_iload hx hb dL_areOrders_124 (lv_at hl 1 rfl) ?_
  refine lv_iconst (v := -1) hx hb dL_areOrders_126 ci_m1 ?_
  refine lv_icmp_ne (tgt := 133) hx hb dL_areOrders_127 (by decide) (fun z => absurd rfl z) (fun _ => ?_)
  refine lv_iload hx hb dL_areOrders_130 (lv_at hl 0 rfl) ?_
  exact hret 132 ls _ _ locs _ dL_areOrders_132 hP hD hS rfl (⟨rfl, ⟨_, _, _, _, _, _, _, hap, hJ, hK2⟩, ((((((fr.wd fr2 : fr _ _ 0 18).tr fr6).tr fr11).tr fr15).tr fr20).tr fr24)⟩)
theorem c_L_areOrders {l : Launch} {D : va_G} {ky : kT} {A : Nat → Prop} {Hs : Heap} {ws : va_W} (hP : va_P D CL ws Hs) (hD : va_D A ws) {x o9 n : Nat} {T C Hd : Nat → Nat} {b : Nat} {q : Bool} {J : Nat → Nat} {bg : Bool} {pi bu : Nat} {tm tl : Int32} {K : Nat → Nat} {f : Nat → Nat} (hap : AP ky ws x n T C Hd b q J bg pi bu tm tl K) (f19 : ws[19]? = some (o9, .inl (ky.1, 59, .inl (fun i => nI (f i))))) (hTI : TI n C Hd b q f) (hLR : LR n T C Hd b J K) {gv : Nat} (hgv : gv < 2 ^ 31) (hn1 : 0 < n) : MU l yL_areOrders wsL_areOrders 11 277 0 0 D ky A Hs [.ref x, .ref o9, .int (nI gv)] (fun r w => r = nI 1 ∧ (∃ (J1 : Nat → Nat) (bg1 : Bool) (pi1 bu1 : Nat) (tm1 tl1 : Int32) (K1 : Nat → Nat), AP ky w x n T C Hd b q J1 bg1 pi1 bu1 tm1 tl1 K1 ∧ (∀ i, J1 i ≤ 5) ∧ ∀ i, K1 i ≤ 2) ∧ fr ws w 0 18) := by
  have hn6 := hLR.2.1
  have hp2n : 2 ^ 1 ≤ 2 ^ n := Nat.pow_le_pow_right (by decide) hn1
  have hp64 := p2_64 hn6
  have h1 := (lz_few (C := C) (Hd := Hd) (b := b) (q := q) hn6 hLR.2.2.1).2
  have h2 := (lz_ways (C := C) (Hd := Hd) (n := n) (2 ^ n - 1) (by omega) (by omega)).2
  rw [ct8_all n (by omega)] at h2
  rcases h1 with ⟨h1, h3⟩ | ⟨h1, h3⟩
  · have hfn := lz_fewn hn6 hLR.2.2.1 (show few C Hd b q T n < 1000 by omega) hn1
    rcases h2 with ⟨h4, h5, h6⟩ | ⟨h4, h5⟩
    · exact c_L_areOrders_A1 hP hD hap f19 hTI hLR hgv hn1 (by omega) hfn (by omega) h4 (by omega) h5 h6
    · exact c_L_areOrders_A0 hP hD hap f19 hTI hLR hgv hn1 (by omega) hfn (by omega) h4 h5
  · rcases h2 with ⟨h4, h5, h6⟩ | ⟨h4, h5⟩
    · exact c_L_areOrders_B1 hP hD hap f19 hTI hLR hgv hn1 h3 h1 h4 (by omega) h5 h6
    · exact c_L_areOrders_B0 hP hD hap f19 hTI hLR hgv hn1 h3 h1 h4 h5
