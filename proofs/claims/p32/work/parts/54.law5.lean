theorem hd_X4_begin : yX4_begin.cls = RX4 ∧ yX4_begin.cls ≠ "java/lang/invoke/MethodHandle" ∧ yX4_begin.cls ≠ "java/lang/invoke/VarHandle" ∧ (parseMethodDescriptor yX4_begin.desc).map (fun d => d.parameters.length) = some 0 := by decide +kernel
theorem hd_X4_clock : yX4_clock.cls = RX4 ∧ yX4_clock.cls ≠ "java/lang/invoke/MethodHandle" ∧ yX4_clock.cls ≠ "java/lang/invoke/VarHandle" ∧ (parseMethodDescriptor yX4_clock.desc).map (fun d => d.parameters.length) = some 0 := by decide +kernel
theorem hd_X4_fewestChanges : yX4_fewestChanges.cls = RX4 ∧ yX4_fewestChanges.cls ≠ "java/lang/invoke/MethodHandle" ∧ yX4_fewestChanges.cls ≠ "java/lang/invoke/VarHandle" ∧ (parseMethodDescriptor yX4_fewestChanges.desc).map (fun d => d.parameters.length) = some 0 := by decide +kernel
theorem hd_X4_isBypassed : yX4_isBypassed.cls = RX4 ∧ yX4_isBypassed.cls ≠ "java/lang/invoke/MethodHandle" ∧ yX4_isBypassed.cls ≠ "java/lang/invoke/VarHandle" ∧ (parseMethodDescriptor yX4_isBypassed.desc).map (fun d => d.parameters.length) = some 1 := by decide +kernel
theorem hd_X4_orderAt : yX4_orderAt.cls = RX4 ∧ yX4_orderAt.cls ≠ "java/lang/invoke/MethodHandle" ∧ yX4_orderAt.cls ≠ "java/lang/invoke/VarHandle" ∧ (parseMethodDescriptor yX4_orderAt.desc).map (fun d => d.parameters.length) = some 1 := by decide +kernel
theorem hd_X4_step : yX4_step.cls = RX4 ∧ yX4_step.cls ≠ "java/lang/invoke/MethodHandle" ∧ yX4_step.cls ≠ "java/lang/invoke/VarHandle" ∧ (parseMethodDescriptor yX4_step.desc).map (fun d => d.parameters.length) = some 0 := by decide +kernel
theorem hd_X4_stepBack : yX4_stepBack.cls = RX4 ∧ yX4_stepBack.cls ≠ "java/lang/invoke/MethodHandle" ∧ yX4_stepBack.cls ≠ "java/lang/invoke/VarHandle" ∧ (parseMethodDescriptor yX4_stepBack.desc).map (fun d => d.parameters.length) = some 0 := by decide +kernel
theorem lz_back {C Hd : Nat → Nat} {b : Nat} {q : Bool} {T : Nat → Nat} {n : Nat} (hn : n ≤ 8) (hT : ∀ p, T p < 4) (hf : few C Hd b q T n < 1000) (h0 : 0 < n) : clr (bq C Hd b q T n n).1 (2 ^ (bp C Hd b q T n (n - 1))) ||| 2 ^ (bp C Hd b q T n (n - 1)) = 2 ^ n - 1 := by
  rw [(lz_bqn hn hT hf).1]
  refine or_clr ?_
  rw [Nat.testBit_two_pow_sub_one]
  exact decide_eq_true (bp_ok hn hT hf (by omega))
set_option maxHeartbeats 4000000 in
set_option maxRecDepth 100000 in
theorem c_L_isRun {l : Launch} {D : va_G} {ky : kT} {A : Nat → Prop} {Hs : Heap} {ws : va_W} (hP : va_P D CL ws Hs) (hD : va_D A ws) {x o9 n : Nat} {T C Hd : Nat → Nat} {b : Nat} {q : Bool} {J : Nat → Nat} {bg : Bool} {pi bu : Nat} {tm tl : Int32} {K : Nat → Nat} {f : Nat → Nat} (hap : AP ky ws x n T C Hd b q J bg pi bu tm tl K) (f19 : ws[19]? = some (o9, .inl (ky.1, 59, .inl (fun i => nI (f i))))) (hTI : TI n C Hd b q f) (hLR : LR n T C Hd b J K) {gv : Nat} (hgv : gv < 2 ^ 31) (hn1 : 0 < n) (hf : few C Hd b q T n < 1000) : MU l yL_isRun wsL_isRun 7 159 0 0 D ky A Hs [.ref x, .ref o9, .int (nI gv)] (fun r w => r = nI 1 ∧ (∃ (J1 : Nat → Nat) (bg1 : Bool) (pi1 bu1 : Nat) (tm1 tl1 : Int32) (K1 : Nat → Nat), AP ky w x n T C Hd b q J1 bg1 pi1 bu1 tm1 tl1 K1 ∧ (∀ i, J1 i ≤ 5) ∧ ∀ i, K1 i ≤ 2) ∧ fr ws w 0 18) := by
  refine MU.of (cc := cL_isRun) (maxL := 14) (ty := .boolean) (by decide) rfl (Nat.le_of_ble_eq_true rfl) ?_
  intro pg en Rm sg mi av below meth co Qo hRf hRl hRc hRs hx hb hml hown hts hK hret ls hl
  have hl : lv_has ls 14 [(0, .ref x), (1, .ref o9), (2, .int (nI gv))] := hl
  have hS : va_S A Hs Hs [] := va_S.rf
  generalize ([] : List Loc) = locs at hS ⊢
  have hn6 : n ≤ 6 := hLR.2.1
  have hT := hLR.2.2.1
  have hp64 := p2_64 hn6
  have hp1 : 1 ≤ 2 ^ n := Nat.one_le_two_pow
  have hb8 : b < 8 := hLR.1.2.1
  have hTb : ∀ p, T p < 2 ^ 31 := fun p => Nat.lt_of_lt_of_le (hT p) (by decide)
  have hq2 : q.toNat ≤ 1 := tn_1 q
  have hJ := hLR.2.2.2.1
  have hK2 := hLR.2.2.2.2
  have hbpn : ∀ k, k < n → bp C Hd b q T n k < n := fun k hk => bp_ok (by omega) hT hf hk
  have hbp31 : ∀ k, k < n → bp C Hd b q T n k < 2 ^ 31 := fun k hk => by have := hbpn k hk; omega
  refine lv_iconst (v := nI 0) hx hb dL_isRun_0 ci_0 ?_
  refine lv_istore_n (lv' := [(3, .int (nI 0)), (0, .ref x), (1, .ref o9), (2, .int (nI gv))]) hx hb dL_isRun_1 rfl hl (by decide) rfl (fun ls hl => ?_)
  refine lv_iconst (v := nI 0) hx hb dL_isRun_2 ci_0 ?_
  refine lv_istore (lv' := [(4, .int (nI 0)), (3, .int (nI 0)), (0, .ref x), (1, .ref o9), (2, .int (nI gv))]) hx hb dL_isRun_3 hl (by decide) rfl (fun ls hl => ?_)
  refine lv_aload_n hx hb dL_isRun_5 rfl (lv_at hl 2 rfl) ?_
  obtain ⟨fs0, g0⟩ := hap.at0
  refine mcV (c_X4_begin_0 hP hD hap hLR.1 hT hn1 hf) ⟨hx, hb, hml, hown, hts⟩ hK gL_isRun_X4_begin rfl hd_X4_begin ⟨by omega, by omega⟩ (va_recv hK hP (ci := 4) (q0 := 0) rfl g0) rfl hl.1 rfl (Nat.le_of_ble_eq_true rfl) dL_isRun_6 ⟨Nat.zero_le _, Nat.zero_le _⟩ hS (fun rv ws1 H locs hq3 hP hD hS => ?_)
  obtain ⟨hr4, hap, fr2⟩ := hq3
  replace f19 := (fr2 19 (by decide)).trans f19
  refine sv_top (y := nI n) hr4 ?_
  refine lv_aload_n hx hb dL_isRun_9 rfl (lv_at hl 3 rfl) ?_
  refine lv_bipush (v := nI 56) hx hb dL_isRun_10 bi_56 ?_
  refine sv_iald hx hb hK hP 19 f19 (j := 56) (by omega) (by decide) dL_isRun_12 ?_
  refine W.eq (g2 := F0 mi 13 ls (.int (nI (f 56)) :: [.int (nI n)])) rfl ?_
  refine sv_top (y := nI n) (by rw [hTI.2.2.1]) ?_
  refine lv_icmp_ne (tgt := 42) hx hb dL_isRun_13 (by decide) (fun z => absurd rfl z) (fun _ => ?_)
  refine lv_aload_n hx hb dL_isRun_16 rfl (lv_at hl 2 rfl) ?_
  obtain ⟨fs0, g0⟩ := hap.at0
  refine mcV (c_X4_built_0 hP hD hap hLR.1 ) ⟨hx, hb, hml, hown, hts⟩ hK gL_isRun_X4_built rfl hd_X4_built ⟨by omega, by omega⟩ (va_recv hK hP (ci := 4) (q0 := 0) rfl g0) rfl hl.1 rfl (Nat.le_of_ble_eq_true rfl) dL_isRun_17 ⟨Nat.zero_le _, Nat.zero_le _⟩ hS (fun rv ws5 H locs hq7 hP hD hS => ?_)
  obtain ⟨hr8, hap, fr6⟩ := hq7
  replace f19 := (fr6 19 (by decide)).trans f19
  refine sv_top (y := nI 0) hr8 ?_
  refine sn_if_ne (tgt := 42) hx hb dL_isRun_20 (by decide) (by decide) (fun q => absurd q (by decide)) (fun _ => ?_)
  refine lv_aload_n hx hb dL_isRun_23 rfl (lv_at hl 2 rfl) ?_
  obtain ⟨fs0, g0⟩ := hap.at0
  refine mcV (c_X4_clock_0 hP hD hap hLR.1 ) ⟨hx, hb, hml, hown, hts⟩ hK gL_isRun_X4_clock rfl hd_X4_clock ⟨by omega, by omega⟩ (va_recv hK hP (ci := 4) (q0 := 0) rfl g0) rfl hl.1 rfl (Nat.le_of_ble_eq_true rfl) dL_isRun_24 ⟨Nat.zero_le _, Nat.zero_le _⟩ hS (fun rv ws10 H locs hq12 hP hD hS => ?_)
  obtain ⟨hr13, hap, fr11⟩ := hq12
  replace f19 := (fr11 19 (by decide)).trans f19
  refine sv_top (y := nI 0) hr13 ?_
  refine sn_if_ne (tgt := 42) hx hb dL_isRun_27 (by decide) (by decide) (fun q => absurd q (by decide)) (fun _ => ?_)
  refine lv_aload_n hx hb dL_isRun_30 rfl (lv_at hl 2 rfl) ?_
  obtain ⟨fs0, g0⟩ := hap.at0
  refine mcV (c_X4_mounted_0 hP hD hap hLR.1 ) ⟨hx, hb, hml, hown, hts⟩ hK gL_isRun_X4_mounted rfl hd_X4_mounted ⟨by omega, by omega⟩ (va_recv hK hP (ci := 4) (q0 := 0) rfl g0) rfl hl.1 rfl (Nat.le_of_ble_eq_true rfl) dL_isRun_31 ⟨Nat.zero_le _, Nat.zero_le _⟩ hS (fun rv ws15 H locs hq17 hP hD hS => ?_)
  obtain ⟨hr18, hap, fr16⟩ := hq17
  replace f19 := (fr16 19 (by decide)).trans f19
  refine sv_top (y := -1) hr18 ?_
  refine lv_iconst (v := -1) hx hb dL_isRun_34 ci_m1 ?_
  refine lv_icmp_ne (tgt := 42) hx hb dL_isRun_35 (by decide) (fun z => absurd rfl z) (fun _ => ?_)
  refine lv_iconst (v := nI 1) hx hb dL_isRun_38 ci_1 ?_
  refine lv_goto (tgt := 43) hx hb dL_isRun_39 (by decide) ?_
  refine lv_istore (lv' := [(5, .int (nI 1)), (4, .int (nI 0)), (3, .int (nI 0)), (0, .ref x), (1, .ref o9), (2, .int (nI gv))]) hx hb dL_isRun_43 hl (by decide) rfl (fun ls hl => ?_)
  refine lv_iconst (v := nI 0) hx hb dL_isRun_45 ci_0 ?_
  refine lv_istore (lv' := [(6, .int (nI 0)), (5, .int (nI 1)), (4, .int (nI 0)), (3, .int (nI 0)), (0, .ref x), (1, .ref o9), (2, .int (nI gv))]) hx hb dL_isRun_46 hl (by decide) rfl (fun ls hl => ?_)
  have L48 : ∀ (L48d : Nat) (kk : Nat) (k : Nat) (ch : Nat) (J2 : Nat → Nat) (K2 : Nat → Nat) (t2 : Int32) (l2 : Int32), 4 * n - kk < L48d → ∀ (wl48 : va_W) (H : Heap), k ≤ n → kk ≤ k + sm K2 n → (∀ i, J2 i ≤ 5) → (∀ i, K2 i ≤ 2) → TRI C Hd b q T n k ch l2 → (k = n → jm J2 K2 (bp C Hd b q T n (n - 1)) = false) → va_P D CL wl48 H → va_D A wl48 → wl48[19]? = some (o9, .inl (ky.1, 59, .inl (fun i => nI (f i)))) → AP ky wl48 x n T C Hd b q J2 true k ((bq C Hd b q T n k).1) t2 l2 K2 → fr ws wl48 0 18 → ∀ (ls : Array Slot) (locs : List Loc), lv_has ls 14 [(0, .ref x), (1, .ref o9), (2, .int (nI gv)), (3, .int (nI ch)), (4, .int (nI k)), (5, .int (nI 1)), (6, .int (nI kk))] → va_S A Hs H locs → W pg l en Rm sg mi av below meth co H locs 0 0 Qo (F0 mi 48 ls []) := by
    intro L48d
    induction L48d with
    | zero => intro kk k ch J2 K2 t2 l2 hfu; exact absurd hfu (Nat.not_lt_zero _)
    | succ L48d ih48 =>
      intro kk k ch J2 K2 t2 l2 hfu wl48 H i48_0 i48_1 i48_2 i48_3 i48_4 i48_5 hP hD f19 hap frwl48 ls locs hl hS
      have hsm := lz_sm2 i48_3 n
      refine lv_iload hx hb dL_isRun_48 (lv_at hl 6 rfl) ?_
      refine lv_iconst (v := nI 4) hx hb dL_isRun_50 ci_4 ?_
      refine lv_aload_n hx hb dL_isRun_51 rfl (lv_at hl 1 rfl) ?_
      refine lv_bipush (v := nI 56) hx hb dL_isRun_52 bi_56 ?_
      refine sv_iald hx hb hK hP 19 f19 (j := 56) (by omega) (by decide) dL_isRun_54 ?_
      refine W.eq (g2 := F0 mi 55 ls (.int (nI (f 56)) :: [.int (nI 4), .int (nI kk)])) rfl ?_
      refine sv_top (y := nI n) (by rw [hTI.2.2.1]) ?_
      refine lv_imul hx hb dL_isRun_55 ?_
      refine sv_top (y := nI (4 * n)) (mul_n _ _) ?_
      refine sn_icmp_ge (tgt := 264) hx hb dL_isRun_56 (by decide) (by omega) (by omega) (fun c19 => absurd c19 (by omega)) (fun c19 => ?_)
      refine lv_iload hx hb dL_isRun_59 (lv_at hl 5 rfl) ?_
      refine sn_if_eq (tgt := 264) hx hb dL_isRun_61 (by decide) (by decide) (fun q => absurd q (by decide)) (fun _ => ?_)
      refine lv_iload hx hb dL_isRun_64 (lv_at hl 4 rfl) ?_
      refine lv_aload_n hx hb dL_isRun_66 rfl (lv_at hl 1 rfl) ?_
      refine lv_bipush (v := nI 56) hx hb dL_isRun_67 bi_56 ?_
      refine sv_iald hx hb hK hP 19 f19 (j := 56) (by omega) (by decide) dL_isRun_69 ?_
      refine W.eq (g2 := F0 mi 70 ls (.int (nI (f 56)) :: [.int (nI k)])) rfl ?_
      refine sv_top (y := nI n) (by rw [hTI.2.2.1]) ?_
      refine sn_icmp_ge (tgt := 264) hx hb dL_isRun_70 (by decide) (by omega) (by omega) (fun c21 => ?_) (fun c21 => ?_)
      · refine lv_iload_n hx hb dL_isRun_264 rfl (lv_at hl 2 rfl) ?_
        refine lv_iconst (v := nI 3) hx hb dL_isRun_265 ci_3 ?_
        refine sn_irem hx hb (by omega) (by decide) (by decide) dL_isRun_266 ?_
        refine sn_if_ne (tgt := 274) hx hb dL_isRun_267 (by decide) (Nat.lt_trans (Nat.mod_lt _ (by decide : 3 > 0)) (by decide)) (fun c22 => ?_) (fun c22 => ?_)
        · refine lv_iconst (v := nI 0) hx hb dL_isRun_274 ci_0 ?_
          refine lv_istore (lv' := [(6, .int (nI 0)), (0, .ref x), (1, .ref o9), (2, .int (nI gv)), (3, .int (nI ch)), (4, .int (nI k)), (5, .int (nI 1))]) hx hb dL_isRun_275 hl (by decide) rfl (fun ls hl => ?_)
          refine lv_aload_n hx hb dL_isRun_277 rfl (lv_at hl 1 rfl) ?_
          obtain ⟨fs0, g0⟩ := hap.at0
          refine mcV (c_X4_clock_0 hP hD hap hLR.1 ) ⟨hx, hb, hml, hown, hts⟩ hK gL_isRun_X4_clock rfl hd_X4_clock ⟨by omega, by omega⟩ (va_recv hK hP (ci := 4) (q0 := 0) rfl g0) rfl hl.1 rfl (Nat.le_of_ble_eq_true rfl) dL_isRun_278 ⟨Nat.zero_le _, Nat.zero_le _⟩ hS (fun rv ws23 H locs hq25 hP hD hS => ?_)
          obtain ⟨hr26, hap, fr24⟩ := hq25
          replace f19 := (fr24 19 (by decide)).trans f19
          refine sv_top (y := t2) hr26 ?_
          refine lv_istore (lv' := [(7, .int t2), (6, .int (nI 0)), (0, .ref x), (1, .ref o9), (2, .int (nI gv)), (3, .int (nI ch)), (4, .int (nI k)), (5, .int (nI 1))]) hx hb dL_isRun_281 hl (by decide) rfl (fun ls hl => ?_)
          refine lv_aload_n hx hb dL_isRun_283 rfl (lv_at hl 2 rfl) ?_
          refine lv_aload_n hx hb dL_isRun_284 rfl (lv_at hl 3 rfl) ?_
          refine lv_bipush (v := nI 56) hx hb dL_isRun_285 bi_56 ?_
          refine sv_iald hx hb hK hP 19 f19 (j := 56) (by omega) (by decide) dL_isRun_287 ?_
          refine W.eq (g2 := F0 mi 288 ls (.int (nI (f 56)) :: [.ref x])) rfl ?_
          refine sv_top (y := nI n) (by rw [hTI.2.2.1]) ?_
          refine lv_iconst (v := nI 1) hx hb dL_isRun_288 ci_1 ?_
          refine lv_isub hx hb dL_isRun_289 ?_
          refine sv_top (y := nI (n - 1)) (pk_sub (by omega)) ?_
          obtain ⟨fs0, g0⟩ := hap.at0
          refine mcV (c_X4_orderAt_0 hP hD hap hLR.1 hT (by omega) hf) ⟨hx, hb, hml, hown, hts⟩ hK gL_isRun_X4_orderAt rfl hd_X4_orderAt ⟨by omega, by omega⟩ (va_recv hK hP (ci := 4) (q0 := 0) rfl g0) rfl hl.1 rfl (Nat.le_of_ble_eq_true rfl) dL_isRun_290 ⟨Nat.zero_le _, Nat.zero_le _⟩ hS (fun rv ws27 H locs hq29 hP hD hS => ?_)
          obtain ⟨hr30, hap, fr28⟩ := hq29
          replace f19 := (fr28 19 (by decide)).trans f19
          refine sv_top (y := nI (bp C Hd b q T n (n - 1))) hr30 ?_
          refine lv_istore (lv' := [(8, .int (nI (bp C Hd b q T n (n - 1)))), (7, .int t2), (6, .int (nI 0)), (0, .ref x), (1, .ref o9), (2, .int (nI gv)), (3, .int (nI ch)), (4, .int (nI k)), (5, .int (nI 1))]) hx hb dL_isRun_293 hl (by decide) rfl (fun ls hl => ?_)
          refine lv_iload hx hb dL_isRun_295 (lv_at hl 8 rfl) ?_
          refine sn_if_eq (tgt := 338) hx hb dL_isRun_297 (by decide) (by decide) (fun q => absurd q (by decide)) (fun _ => ?_)
          refine lv_iload hx hb dL_isRun_300 (lv_at hl 7 rfl) ?_
          refine lv_aload_n hx hb dL_isRun_302 rfl (lv_at hl 4 rfl) ?_
          refine lv_bipush (v := nI 56) hx hb dL_isRun_303 bi_56 ?_
          refine sv_iald hx hb hK hP 19 f19 (j := 56) (by omega) (by decide) dL_isRun_305 ?_
          refine W.eq (g2 := F0 mi 306 ls (.int (nI (f 56)) :: [.int (nI k)])) rfl ?_
          refine sv_top (y := nI n) (by rw [hTI.2.2.1]) ?_
          refine sn_icmp_ne (tgt := 338) hx hb dL_isRun_306 (by decide) (by omega) (by omega) (fun c32 => absurd (show k = n by omega) c32) (fun c32 => ?_)
          refine lv_aload_n hx hb dL_isRun_309 rfl (lv_at hl 3 rfl) ?_
          obtain ⟨fs0, g0⟩ := hap.at0
          refine mcV (c_X4_built_0 hP hD hap hLR.1 ) ⟨hx, hb, hml, hown, hts⟩ hK gL_isRun_X4_built rfl hd_X4_built ⟨by omega, by omega⟩ (va_recv hK hP (ci := 4) (q0 := 0) rfl g0) rfl hl.1 rfl (Nat.le_of_ble_eq_true rfl) dL_isRun_310 ⟨Nat.zero_le _, Nat.zero_le _⟩ hS (fun rv ws33 H locs hq35 hP hD hS => ?_)
          obtain ⟨hr36, hap, fr34⟩ := hq35
          replace f19 := (fr34 19 (by decide)).trans f19
          refine sv_top (y := nI ((bq C Hd b q T n k).1)) hr36 ?_
          refine lv_iconst (v := nI 1) hx hb dL_isRun_313 ci_1 ?_
          refine lv_aload_n hx hb dL_isRun_314 rfl (lv_at hl 4 rfl) ?_
          refine lv_bipush (v := nI 56) hx hb dL_isRun_315 bi_56 ?_
          refine sv_iald hx hb hK hP 19 f19 (j := 56) (by omega) (by decide) dL_isRun_317 ?_
          refine W.eq (g2 := F0 mi 318 ls (.int (nI (f 56)) :: [.int (nI 1), .int (nI ((bq C Hd b q T n k).1))])) rfl ?_
          refine sv_top (y := nI n) (by rw [hTI.2.2.1]) ?_
          refine lv_ishl hx hb dL_isRun_318 ?_
          refine sv_top (y := nI (2 ^ n)) (sh_l1 (by omega)) ?_
          refine lv_iconst (v := nI 1) hx hb dL_isRun_319 ci_1 ?_
          refine lv_isub hx hb dL_isRun_320 ?_
          refine sv_top (y := nI ((2 ^ n) - 1)) (pk_sub Nat.one_le_two_pow) ?_
          refine sn_icmp_ne (tgt := 338) hx hb dL_isRun_321 (by decide) (lt_31 (bq_ok (by omega) hT hf k (by omega)).1 (by omega)) (by omega) (fun c37 => absurd (by rw [(show k = n by omega)]; exact (lz_bqn (by omega) hT hf).1) c37) (fun c37 => ?_)
          refine lv_iload_n hx hb dL_isRun_324 rfl (lv_at hl 6 rfl) ?_
          refine lv_aload_n hx hb dL_isRun_325 rfl (lv_at hl 3 rfl) ?_
          obtain ⟨fs0, g0⟩ := hap.at0
          refine mcV (c_X4_fewestChanges_0 hP hD hap hLR.1 hT hn1) ⟨hx, hb, hml, hown, hts⟩ hK gL_isRun_X4_fewestChanges rfl hd_X4_fewestChanges ⟨by omega, by omega⟩ (va_recv hK hP (ci := 4) (q0 := 0) rfl g0) rfl hl.1 rfl (Nat.le_of_ble_eq_true rfl) dL_isRun_326 ⟨Nat.zero_le _, Nat.zero_le _⟩ hS (fun rv ws38 H locs hq40 hP hD hS => ?_)
          obtain ⟨hr41, hap, fr39⟩ := hq40
          replace f19 := (fr39 19 (by decide)).trans f19
          refine sv_top (y := nI (few C Hd b q T n)) (hr41.trans (if_neg (by omega))) ?_
          refine lv_iconst (v := nI 1) hx hb dL_isRun_329 ci_1 ?_
          refine lv_iadd hx hb dL_isRun_330 ?_
          refine sv_top (y := nI ((few C Hd b q T n) + 1)) (nI_add _ _) ?_
          refine sn_icmp_ne (tgt := 338) hx hb dL_isRun_331 (by decide) (by have := i48_4.fin (by omega) hT hf (by omega) hn1; omega) (by omega) (fun c42 => absurd (i48_4.fin (by omega) hT hf (by omega) hn1) c42) (fun c42 => ?_)
          refine lv_iconst (v := nI 1) hx hb dL_isRun_334 ci_1 ?_
          refine lv_goto (tgt := 339) hx hb dL_isRun_335 (by decide) ?_
          refine lv_istore (lv' := [(5, .int (nI 1)), (8, .int (nI (bp C Hd b q T n (n - 1)))), (7, .int t2), (6, .int (nI 0)), (0, .ref x), (1, .ref o9), (2, .int (nI gv)), (3, .int (nI ch)), (4, .int (nI k))]) hx hb dL_isRun_339 hl (by decide) rfl (fun ls hl => ?_)
          refine lv_iload hx hb dL_isRun_341 (lv_at hl 0 rfl) ?_
          refine sn_if_eq (tgt := 411) hx hb dL_isRun_343 (by decide) (by decide) (fun q => absurd q (by decide)) (fun _ => ?_)
          refine lv_iload hx hb dL_isRun_346 (lv_at hl 3 rfl) ?_
          refine sn_if_eq (tgt := 407) hx hb dL_isRun_348 (by decide) (by decide) (fun _ => ?_) (fun q => absurd q (by decide))
          refine lv_iconst (v := nI 1) hx hb dL_isRun_407 ci_1 ?_
          refine lv_goto (tgt := 412) hx hb dL_isRun_408 (by decide) ?_
          exact hret 412 ls _ _ locs _ dL_isRun_412 hP hD hS rfl (⟨rfl, ⟨_, _, _, _, _, _, _, hap, i48_2, i48_3⟩, (((((fr.wd frwl48 : fr _ _ 0 18).tr fr24).tr fr28).tr fr34).tr fr39)⟩)
        · refine lv_iconst (v := nI 1) hx hb dL_isRun_270 ci_1 ?_
          refine lv_goto (tgt := 275) hx hb dL_isRun_271 (by decide) ?_
          refine lv_istore (lv' := [(6, .int (nI 1)), (0, .ref x), (1, .ref o9), (2, .int (nI gv)), (3, .int (nI ch)), (4, .int (nI k)), (5, .int (nI 1))]) hx hb dL_isRun_275 hl (by decide) rfl (fun ls hl => ?_)
          refine lv_aload_n hx hb dL_isRun_277 rfl (lv_at hl 1 rfl) ?_
          obtain ⟨fs0, g0⟩ := hap.at0
          refine mcV (c_X4_clock_0 hP hD hap hLR.1 ) ⟨hx, hb, hml, hown, hts⟩ hK gL_isRun_X4_clock rfl hd_X4_clock ⟨by omega, by omega⟩ (va_recv hK hP (ci := 4) (q0 := 0) rfl g0) rfl hl.1 rfl (Nat.le_of_ble_eq_true rfl) dL_isRun_278 ⟨Nat.zero_le _, Nat.zero_le _⟩ hS (fun rv ws45 H locs hq47 hP hD hS => ?_)
          obtain ⟨hr48, hap, fr46⟩ := hq47
          replace f19 := (fr46 19 (by decide)).trans f19
          refine sv_top (y := t2) hr48 ?_
          refine lv_istore (lv' := [(7, .int t2), (6, .int (nI 1)), (0, .ref x), (1, .ref o9), (2, .int (nI gv)), (3, .int (nI ch)), (4, .int (nI k)), (5, .int (nI 1))]) hx hb dL_isRun_281 hl (by decide) rfl (fun ls hl => ?_)
          refine lv_aload_n hx hb dL_isRun_283 rfl (lv_at hl 2 rfl) ?_
          refine lv_aload_n hx hb dL_isRun_284 rfl (lv_at hl 3 rfl) ?_
          refine lv_bipush (v := nI 56) hx hb dL_isRun_285 bi_56 ?_
          refine sv_iald hx hb hK hP 19 f19 (j := 56) (by omega) (by decide) dL_isRun_287 ?_
          refine W.eq (g2 := F0 mi 288 ls (.int (nI (f 56)) :: [.ref x])) rfl ?_
          refine sv_top (y := nI n) (by rw [hTI.2.2.1]) ?_
          refine lv_iconst (v := nI 1) hx hb dL_isRun_288 ci_1 ?_
          refine lv_isub hx hb dL_isRun_289 ?_
          refine sv_top (y := nI (n - 1)) (pk_sub (by omega)) ?_
          obtain ⟨fs0, g0⟩ := hap.at0
          refine mcV (c_X4_orderAt_0 hP hD hap hLR.1 hT (by omega) hf) ⟨hx, hb, hml, hown, hts⟩ hK gL_isRun_X4_orderAt rfl hd_X4_orderAt ⟨by omega, by omega⟩ (va_recv hK hP (ci := 4) (q0 := 0) rfl g0) rfl hl.1 rfl (Nat.le_of_ble_eq_true rfl) dL_isRun_290 ⟨Nat.zero_le _, Nat.zero_le _⟩ hS (fun rv ws49 H locs hq51 hP hD hS => ?_)
          obtain ⟨hr52, hap, fr50⟩ := hq51
          replace f19 := (fr50 19 (by decide)).trans f19
          refine sv_top (y := nI (bp C Hd b q T n (n - 1))) hr52 ?_
          refine lv_istore (lv' := [(8, .int (nI (bp C Hd b q T n (n - 1)))), (7, .int t2), (6, .int (nI 1)), (0, .ref x), (1, .ref o9), (2, .int (nI gv)), (3, .int (nI ch)), (4, .int (nI k)), (5, .int (nI 1))]) hx hb dL_isRun_293 hl (by decide) rfl (fun ls hl => ?_)
          refine lv_iload hx hb dL_isRun_295 (lv_at hl 8 rfl) ?_
          refine sn_if_eq (tgt := 338) hx hb dL_isRun_297 (by decide) (by decide) (fun q => absurd q (by decide)) (fun _ => ?_)
          refine lv_iload hx hb dL_isRun_300 (lv_at hl 7 rfl) ?_
          refine lv_aload_n hx hb dL_isRun_302 rfl (lv_at hl 4 rfl) ?_
          refine lv_bipush (v := nI 56) hx hb dL_isRun_303 bi_56 ?_
          refine sv_iald hx hb hK hP 19 f19 (j := 56) (by omega) (by decide) dL_isRun_305 ?_
          refine W.eq (g2 := F0 mi 306 ls (.int (nI (f 56)) :: [.int (nI k)])) rfl ?_
          refine sv_top (y := nI n) (by rw [hTI.2.2.1]) ?_
          refine sn_icmp_ne (tgt := 338) hx hb dL_isRun_306 (by decide) (by omega) (by omega) (fun c54 => absurd (show k = n by omega) c54) (fun c54 => ?_)
          refine lv_aload_n hx hb dL_isRun_309 rfl (lv_at hl 3 rfl) ?_
          obtain ⟨fs0, g0⟩ := hap.at0
          refine mcV (c_X4_built_0 hP hD hap hLR.1 ) ⟨hx, hb, hml, hown, hts⟩ hK gL_isRun_X4_built rfl hd_X4_built ⟨by omega, by omega⟩ (va_recv hK hP (ci := 4) (q0 := 0) rfl g0) rfl hl.1 rfl (Nat.le_of_ble_eq_true rfl) dL_isRun_310 ⟨Nat.zero_le _, Nat.zero_le _⟩ hS (fun rv ws55 H locs hq57 hP hD hS => ?_)
          obtain ⟨hr58, hap, fr56⟩ := hq57
          replace f19 := (fr56 19 (by decide)).trans f19
          refine sv_top (y := nI ((bq C Hd b q T n k).1)) hr58 ?_
          refine lv_iconst (v := nI 1) hx hb dL_isRun_313 ci_1 ?_
          refine lv_aload_n hx hb dL_isRun_314 rfl (lv_at hl 4 rfl) ?_
          refine lv_bipush (v := nI 56) hx hb dL_isRun_315 bi_56 ?_
          refine sv_iald hx hb hK hP 19 f19 (j := 56) (by omega) (by decide) dL_isRun_317 ?_
          refine W.eq (g2 := F0 mi 318 ls (.int (nI (f 56)) :: [.int (nI 1), .int (nI ((bq C Hd b q T n k).1))])) rfl ?_
          refine sv_top (y := nI n) (by rw [hTI.2.2.1]) ?_
          refine lv_ishl hx hb dL_isRun_318 ?_
          refine sv_top (y := nI (2 ^ n)) (sh_l1 (by omega)) ?_
          refine lv_iconst (v := nI 1) hx hb dL_isRun_319 ci_1 ?_
          refine lv_isub hx hb dL_isRun_320 ?_
          refine sv_top (y := nI ((2 ^ n) - 1)) (pk_sub Nat.one_le_two_pow) ?_
          refine sn_icmp_ne (tgt := 338) hx hb dL_isRun_321 (by decide) (lt_31 (bq_ok (by omega) hT hf k (by omega)).1 (by omega)) (by omega) (fun c59 => absurd (by rw [(show k = n by omega)]; exact (lz_bqn (by omega) hT hf).1) c59) (fun c59 => ?_)
          refine lv_iload_n hx hb dL_isRun_324 rfl (lv_at hl 6 rfl) ?_
          refine lv_aload_n hx hb dL_isRun_325 rfl (lv_at hl 3 rfl) ?_
          obtain ⟨fs0, g0⟩ := hap.at0
          refine mcV (c_X4_fewestChanges_0 hP hD hap hLR.1 hT hn1) ⟨hx, hb, hml, hown, hts⟩ hK gL_isRun_X4_fewestChanges rfl hd_X4_fewestChanges ⟨by omega, by omega⟩ (va_recv hK hP (ci := 4) (q0 := 0) rfl g0) rfl hl.1 rfl (Nat.le_of_ble_eq_true rfl) dL_isRun_326 ⟨Nat.zero_le _, Nat.zero_le _⟩ hS (fun rv ws60 H locs hq62 hP hD hS => ?_)
          obtain ⟨hr63, hap, fr61⟩ := hq62
          replace f19 := (fr61 19 (by decide)).trans f19
          refine sv_top (y := nI (few C Hd b q T n)) (hr63.trans (if_neg (by omega))) ?_
          refine lv_iconst (v := nI 1) hx hb dL_isRun_329 ci_1 ?_
          refine lv_iadd hx hb dL_isRun_330 ?_
          refine sv_top (y := nI ((few C Hd b q T n) + 1)) (nI_add _ _) ?_
          refine sn_icmp_ne (tgt := 338) hx hb dL_isRun_331 (by decide) (by have := i48_4.fin (by omega) hT hf (by omega) hn1; omega) (by omega) (fun c64 => absurd (i48_4.fin (by omega) hT hf (by omega) hn1) c64) (fun c64 => ?_)
          refine lv_iconst (v := nI 1) hx hb dL_isRun_334 ci_1 ?_
          refine lv_goto (tgt := 339) hx hb dL_isRun_335 (by decide) ?_
          refine lv_istore (lv' := [(5, .int (nI 1)), (8, .int (nI (bp C Hd b q T n (n - 1)))), (7, .int t2), (6, .int (nI 1)), (0, .ref x), (1, .ref o9), (2, .int (nI gv)), (3, .int (nI ch)), (4, .int (nI k))]) hx hb dL_isRun_339 hl (by decide) rfl (fun ls hl => ?_)
          refine lv_iload hx hb dL_isRun_341 (lv_at hl 0 rfl) ?_
          refine sn_if_eq (tgt := 411) hx hb dL_isRun_343 (by decide) (by decide) (fun q => absurd q (by decide)) (fun _ => ?_)
          refine lv_iload hx hb dL_isRun_346 (lv_at hl 3 rfl) ?_
          refine sn_if_eq (tgt := 407) hx hb dL_isRun_348 (by decide) (by decide) (fun q => absurd q (by decide)) (fun _ => ?_)
          refine lv_aload_n hx hb dL_isRun_351 rfl (lv_at hl 4 rfl) ?_
          obtain ⟨fs0, g0⟩ := hap.at0
          refine mcV (c_X4_stepBack_0 hP hD hap hLR.1 hT (by omega) (by omega) hf) ⟨hx, hb, hml, hown, hts⟩ hK gL_isRun_X4_stepBack rfl hd_X4_stepBack ⟨by omega, by omega⟩ (va_recv hK hP (ci := 4) (q0 := 0) rfl g0) rfl hl.1 rfl (Nat.le_of_ble_eq_true rfl) dL_isRun_352 ⟨Nat.zero_le _, Nat.zero_le _⟩ hS (fun rv ws67 H locs hq69 hP hD hS => ?_)
          obtain ⟨hr70, hap, fr68⟩ := hq69
          replace f19 := (fr68 19 (by decide)).trans f19
          refine sv_top (y := nI (bp C Hd b q T n (k - 1))) hr70 ?_
          refine lv_iload hx hb dL_isRun_355 (lv_at hl 1 rfl) ?_
          refine sn_icmp_ne (tgt := 411) hx hb dL_isRun_357 (by decide) (hbp31 _ (by omega)) (hbp31 _ (by omega)) (fun c71 => absurd (by rw [(show k = n by omega)]) c71) (fun c71 => ?_)
          refine lv_aload_n hx hb dL_isRun_360 rfl (lv_at hl 4 rfl) ?_
          obtain ⟨fs0, g0⟩ := hap.at0
          refine mcV (c_X4_clock_0 hP hD hap hLR.1 ) ⟨hx, hb, hml, hown, hts⟩ hK gL_isRun_X4_clock rfl hd_X4_clock ⟨by omega, by omega⟩ (va_recv hK hP (ci := 4) (q0 := 0) rfl g0) rfl hl.1 rfl (Nat.le_of_ble_eq_true rfl) dL_isRun_361 ⟨Nat.zero_le _, Nat.zero_le _⟩ hS (fun rv ws72 H locs hq74 hP hD hS => ?_)
          obtain ⟨hr75, hap, fr73⟩ := hq74
          replace f19 := (fr73 19 (by decide)).trans f19
          refine sv_top (y := (t2 + nI 2)) hr75 ?_
          refine lv_iload hx hb dL_isRun_364 (lv_at hl 2 rfl) ?_
          refine lv_iconst (v := nI 2) hx hb dL_isRun_366 ci_2 ?_
          refine lv_iadd hx hb dL_isRun_367 ?_
          refine lv_icmp_ne (tgt := 411) hx hb dL_isRun_368 (by decide) (fun c76 => absurd rfl c76) (fun c76 => ?_)
          refine lv_aload_n hx hb dL_isRun_371 rfl (lv_at hl 4 rfl) ?_
          obtain ⟨fs0, g0⟩ := hap.at0
          refine mcV (c_X4_built_0 hP hD hap hLR.1 ) ⟨hx, hb, hml, hown, hts⟩ hK gL_isRun_X4_built rfl hd_X4_built ⟨by omega, by omega⟩ (va_recv hK hP (ci := 4) (q0 := 0) rfl g0) rfl hl.1 rfl (Nat.le_of_ble_eq_true rfl) dL_isRun_372 ⟨Nat.zero_le _, Nat.zero_le _⟩ hS (fun rv ws77 H locs hq79 hP hD hS => ?_)
          obtain ⟨hr80, hap, fr78⟩ := hq79
          replace f19 := (fr78 19 (by decide)).trans f19
          refine sv_top (y := nI ((clr ((bq C Hd b q T n k).1) (2 ^ (bp C Hd b q T n (k - 1)))))) hr80 ?_
          refine lv_iload hx hb dL_isRun_375 (lv_at hl 1 rfl) ?_
          refine lv_ishr hx hb dL_isRun_377 ?_
          refine sv_top (y := nI (((clr ((bq C Hd b q T n k).1) (2 ^ (bp C Hd b q T n (k - 1))))) / 2 ^ (bp C Hd b q T n (n - 1)))) (sh_r (Nat.lt_of_lt_of_le (hbpn _ (by omega)) (by omega)) (lt_31 (clr_lt (bq_ok (by omega) hT hf k (by omega)).1) (by omega))) ?_
          refine lv_iconst (v := nI 1) hx hb dL_isRun_378 ci_1 ?_
          refine lv_iand hx hb dL_isRun_379 ?_
          refine sv_top (y := nI (((clr ((bq C Hd b q T n k).1) (2 ^ (bp C Hd b q T n (k - 1))))) / 2 ^ (bp C Hd b q T n (n - 1)) % 2)) (an_1) ?_
          refine st_ifm_ne (tgt := 411) hx hb dL_isRun_380 (by decide) (fun c81 => absurd c81 (by rw [(show k = n by omega), clr_bit, Nat.testBit_two_pow_self]; simp)) (fun c81 => ?_)
          refine lv_aload_n hx hb dL_isRun_383 rfl (lv_at hl 4 rfl) ?_
          obtain ⟨fs0, g0⟩ := hap.at0
          refine mcV (c_X4_step_0n hP hD hap hLR.1 hT rfl (by omega) hf (fun i => Nat.lt_of_le_of_lt (i48_2 i) (by decide)) (fun i => Nat.lt_of_le_of_lt (i48_3 i) (by decide)) (by rw [show k - 1 = n - 1 by omega]; exact i48_5 (by omega))) ⟨hx, hb, hml, hown, hts⟩ hK gL_isRun_X4_step rfl hd_X4_step ⟨by omega, by omega⟩ (va_recv hK hP (ci := 4) (q0 := 0) rfl g0) rfl hl.1 rfl (Nat.le_of_ble_eq_true rfl) dL_isRun_384 ⟨Nat.zero_le _, Nat.zero_le _⟩ hS (fun rv ws82 H locs hq84 hP hD hS => ?_)
          obtain ⟨hr85, hap, fr83⟩ := hq84
          replace f19 := (fr83 19 (by decide)).trans f19
          refine sv_top (y := nI (bp C Hd b q T n ((k - 1)))) hr85 ?_
          refine lv_iload hx hb dL_isRun_387 (lv_at hl 1 rfl) ?_
          refine sn_icmp_ne (tgt := 411) hx hb dL_isRun_389 (by decide) (hbp31 _ (by omega)) (hbp31 _ (by omega)) (fun c86 => absurd (by rw [(show k = n by omega)]) c86) (fun c86 => ?_)
          refine lv_aload_n hx hb dL_isRun_392 rfl (lv_at hl 4 rfl) ?_
          obtain ⟨fs0, g0⟩ := hap.at0
          refine mcV (c_X4_built_0 hP hD hap hLR.1 ) ⟨hx, hb, hml, hown, hts⟩ hK gL_isRun_X4_built rfl hd_X4_built ⟨by omega, by omega⟩ (va_recv hK hP (ci := 4) (q0 := 0) rfl g0) rfl hl.1 rfl (Nat.le_of_ble_eq_true rfl) dL_isRun_393 ⟨Nat.zero_le _, Nat.zero_le _⟩ hS (fun rv ws87 H locs hq89 hP hD hS => ?_)
          obtain ⟨hr90, hap, fr88⟩ := hq89
          replace f19 := (fr88 19 (by decide)).trans f19
          refine sv_top (y := nI ((((clr ((bq C Hd b q T n k).1) (2 ^ (bp C Hd b q T n (k - 1))))) ||| 2 ^ (bp C Hd b q T n ((k - 1)))))) hr90 ?_
          refine lv_iconst (v := nI 1) hx hb dL_isRun_396 ci_1 ?_
          refine lv_aload_n hx hb dL_isRun_397 rfl (lv_at hl 5 rfl) ?_
          refine lv_bipush (v := nI 56) hx hb dL_isRun_398 bi_56 ?_
          refine sv_iald hx hb hK hP 19 f19 (j := 56) (by omega) (by decide) dL_isRun_400 ?_
          refine W.eq (g2 := F0 mi 401 ls (.int (nI (f 56)) :: [.int (nI 1), .int (nI ((((clr ((bq C Hd b q T n k).1) (2 ^ (bp C Hd b q T n (k - 1))))) ||| 2 ^ (bp C Hd b q T n ((k - 1))))))])) rfl ?_
          refine sv_top (y := nI n) (by rw [hTI.2.2.1]) ?_
          refine lv_ishl hx hb dL_isRun_401 ?_
          refine sv_top (y := nI (2 ^ n)) (sh_l1 (by omega)) ?_
          refine lv_iconst (v := nI 1) hx hb dL_isRun_402 ci_1 ?_
          refine lv_isub hx hb dL_isRun_403 ?_
          refine sv_top (y := nI ((2 ^ n) - 1)) (pk_sub Nat.one_le_two_pow) ?_
          refine sn_icmp_ne (tgt := 411) hx hb dL_isRun_404 (by decide) (lt_31 (or_lt (clr_lt (bq_ok (by omega) hT hf k (by omega)).1) (Nat.pow_lt_pow_right (by decide) (hbpn _ (by omega)))) (by omega)) (by omega) (fun c91 => absurd (by rw [(show k = n by omega)]; exact lz_back (by omega) hT hf hn1) c91) (fun c91 => ?_)
          refine lv_iconst (v := nI 1) hx hb dL_isRun_407 ci_1 ?_
          refine lv_goto (tgt := 412) hx hb dL_isRun_408 (by decide) ?_
          exact hret 412 ls _ _ locs _ dL_isRun_412 hP hD hS rfl (⟨rfl, ⟨_, _, _, _, _, _, _, hap, i48_2, i48_3⟩, ((((((((((fr.wd frwl48 : fr _ _ 0 18).tr fr46).tr fr50).tr fr56).tr fr61).tr fr68).tr fr73).tr fr78).tr fr83).tr fr88)⟩)
      · refine lv_aload_n hx hb dL_isRun_73 rfl (lv_at hl 0 rfl) ?_
        obtain ⟨fs0, g0⟩ := hap.at0
        refine mcV (c_X4_clock_0 hP hD hap hLR.1 ) ⟨hx, hb, hml, hown, hts⟩ hK gL_isRun_X4_clock rfl hd_X4_clock ⟨by omega, by omega⟩ (va_recv hK hP (ci := 4) (q0 := 0) rfl g0) rfl hl.1 rfl (Nat.le_of_ble_eq_true rfl) dL_isRun_74 ⟨Nat.zero_le _, Nat.zero_le _⟩ hS (fun rv ws92 H locs hq94 hP hD hS => ?_)
        obtain ⟨hr95, hap, fr93⟩ := hq94
        replace f19 := (fr93 19 (by decide)).trans f19
        refine sv_top (y := t2) hr95 ?_
        refine lv_istore (lv' := [(7, .int t2), (0, .ref x), (1, .ref o9), (2, .int (nI gv)), (3, .int (nI ch)), (4, .int (nI k)), (5, .int (nI 1)), (6, .int (nI kk))]) hx hb dL_isRun_77 hl (by decide) rfl (fun ls hl => ?_)
        refine lv_aload_n hx hb dL_isRun_79 rfl (lv_at hl 1 rfl) ?_
        obtain ⟨fs0, g0⟩ := hap.at0
        refine mcV (c_X4_mounted_0 hP hD hap hLR.1 ) ⟨hx, hb, hml, hown, hts⟩ hK gL_isRun_X4_mounted rfl hd_X4_mounted ⟨by omega, by omega⟩ (va_recv hK hP (ci := 4) (q0 := 0) rfl g0) rfl hl.1 rfl (Nat.le_of_ble_eq_true rfl) dL_isRun_80 ⟨Nat.zero_le _, Nat.zero_le _⟩ hS (fun rv ws96 H locs hq98 hP hD hS => ?_)
        obtain ⟨hr99, hap, fr97⟩ := hq98
        replace f19 := (fr97 19 (by decide)).trans f19
        refine sv_top (y := l2) hr99 ?_
        refine lv_istore (lv' := [(8, .int l2), (7, .int t2), (0, .ref x), (1, .ref o9), (2, .int (nI gv)), (3, .int (nI ch)), (4, .int (nI k)), (5, .int (nI 1)), (6, .int (nI kk))]) hx hb dL_isRun_83 hl (by decide) rfl (fun ls hl => ?_)
        refine lv_aload_n hx hb dL_isRun_85 rfl (lv_at hl 2 rfl) ?_
        refine lv_iload hx hb dL_isRun_86 (lv_at hl 6 rfl) ?_
        obtain ⟨fs0, g0⟩ := hap.at0
        refine mcV (c_X4_orderAt_0 hP hD hap hLR.1 hT (by omega) hf) ⟨hx, hb, hml, hown, hts⟩ hK gL_isRun_X4_orderAt rfl hd_X4_orderAt ⟨by omega, by omega⟩ (va_recv hK hP (ci := 4) (q0 := 0) rfl g0) rfl hl.1 rfl (Nat.le_of_ble_eq_true rfl) dL_isRun_88 ⟨Nat.zero_le _, Nat.zero_le _⟩ hS (fun rv ws100 H locs hq102 hP hD hS => ?_)
        obtain ⟨hr103, hap, fr101⟩ := hq102
        replace f19 := (fr101 19 (by decide)).trans f19
        refine sv_top (y := nI (bp C Hd b q T n k)) hr103 ?_
        refine lv_istore (lv' := [(9, .int (nI (bp C Hd b q T n k))), (8, .int l2), (7, .int t2), (0, .ref x), (1, .ref o9), (2, .int (nI gv)), (3, .int (nI ch)), (4, .int (nI k)), (5, .int (nI 1)), (6, .int (nI kk))]) hx hb dL_isRun_91 hl (by decide) rfl (fun ls hl => ?_)
        refine lv_aload_n hx hb dL_isRun_93 rfl (lv_at hl 3 rfl) ?_
        refine lv_iload hx hb dL_isRun_94 (lv_at hl 0 rfl) ?_
        obtain ⟨fs0, g0⟩ := hap.at0
        refine mcV (c_X4_isBypassed_0 hP hD hap hLR.1 (hbpn _ (by omega)) (fun i => Nat.lt_of_le_of_lt (i48_3 i) (by decide))) ⟨hx, hb, hml, hown, hts⟩ hK gL_isRun_X4_isBypassed rfl hd_X4_isBypassed ⟨by omega, by omega⟩ (va_recv hK hP (ci := 4) (q0 := 0) rfl g0) rfl hl.1 rfl (Nat.le_of_ble_eq_true rfl) dL_isRun_96 ⟨Nat.zero_le _, Nat.zero_le _⟩ hS (fun rv ws104 H locs hq106 hP hD hS => ?_)
        obtain ⟨hr107, hap, fr105⟩ := hq106
        replace f19 := (fr105 19 (by decide)).trans f19
        refine sv_top (y := bI (decide (2 ≤ K2 (bp C Hd b q T n k)))) hr107 ?_
        refine lv_istore (lv' := [(10, .int (bI (decide (2 ≤ K2 (bp C Hd b q T n k))))), (9, .int (nI (bp C Hd b q T n k))), (8, .int l2), (7, .int t2), (0, .ref x), (1, .ref o9), (2, .int (nI gv)), (3, .int (nI ch)), (4, .int (nI k)), (5, .int (nI 1)), (6, .int (nI kk))]) hx hb dL_isRun_99 hl (by decide) rfl (fun ls hl => ?_)
        refine lv_aload_n hx hb dL_isRun_101 rfl (lv_at hl 4 rfl) ?_
        cases hjm : jm J2 K2 (bp C Hd b q T n k)
        · obtain ⟨fs0, g0⟩ := hap.at0
          refine mcV (c_X4_step_0n hP hD hap hLR.1 hT rfl (by omega) hf (fun i => Nat.lt_of_le_of_lt (i48_2 i) (by decide)) (fun i => Nat.lt_of_le_of_lt (i48_3 i) (by decide)) hjm) ⟨hx, hb, hml, hown, hts⟩ hK gL_isRun_X4_step rfl hd_X4_step ⟨by omega, by omega⟩ (va_recv hK hP (ci := 4) (q0 := 0) rfl g0) rfl hl.1 rfl (Nat.le_of_ble_eq_true rfl) dL_isRun_102 ⟨Nat.zero_le _, Nat.zero_le _⟩ hS (fun rv ws108 H locs hq110 hP hD hS => ?_)
          obtain ⟨hr111, hap, fr109⟩ := hq110
          replace f19 := (fr109 19 (by decide)).trans f19
          refine sv_top (y := nI (bp C Hd b q T n k)) hr111 ?_
          refine lv_istore (lv' := [(11, .int (nI (bp C Hd b q T n k))), (10, .int (bI (decide (2 ≤ K2 (bp C Hd b q T n k))))), (9, .int (nI (bp C Hd b q T n k))), (8, .int l2), (7, .int t2), (0, .ref x), (1, .ref o9), (2, .int (nI gv)), (3, .int (nI ch)), (4, .int (nI k)), (5, .int (nI 1)), (6, .int (nI kk))]) hx hb dL_isRun_105 hl (by decide) rfl (fun ls hl => ?_)
          refine lv_iload hx hb dL_isRun_107 (lv_at hl 3 rfl) ?_
          refine lv_aload_n hx hb dL_isRun_109 rfl (lv_at hl 5 rfl) ?_
          obtain ⟨fs0, g0⟩ := hap.at0
          refine mcV (c_X4_mounted_0 hP hD hap hLR.1 ) ⟨hx, hb, hml, hown, hts⟩ hK gL_isRun_X4_mounted rfl hd_X4_mounted ⟨by omega, by omega⟩ (va_recv hK hP (ci := 4) (q0 := 0) rfl g0) rfl hl.1 rfl (Nat.le_of_ble_eq_true rfl) dL_isRun_110 ⟨Nat.zero_le _, Nat.zero_le _⟩ hS (fun rv ws112 H locs hq114 hP hD hS => ?_)
          obtain ⟨hr115, hap, fr113⟩ := hq114
          replace f19 := (fr113 19 (by decide)).trans f19
          refine sv_top (y := nI (T (bp C Hd b q T n k))) hr115 ?_
          refine lv_icmp_eq (tgt := 120) hx hb dL_isRun_113 (by decide) (fun c116 => ?_) (fun c116 => ?_)
          · refine lv_iconst (v := nI 0) hx hb dL_isRun_120 ci_0 ?_
            refine lv_istore (lv' := [(12, .int (nI 0)), (11, .int (nI (bp C Hd b q T n k))), (10, .int (bI (decide (2 ≤ K2 (bp C Hd b q T n k))))), (9, .int (nI (bp C Hd b q T n k))), (8, .int l2), (7, .int t2), (0, .ref x), (1, .ref o9), (2, .int (nI gv)), (3, .int (nI ch)), (4, .int (nI k)), (5, .int (nI 1)), (6, .int (nI kk))]) hx hb dL_isRun_121 hl (by decide) rfl (fun ls hl => ?_)
            refine lv_iload_n hx hb dL_isRun_123 rfl (lv_at hl 9 rfl) ?_
            refine lv_iload hx hb dL_isRun_124 (lv_at hl 0 rfl) ?_
            refine sn_if_eq (tgt := 133) hx hb dL_isRun_126 (by decide) (by decide) (fun _ => ?_) (fun q => absurd q (by decide))
            refine lv_iconst (v := nI 0) hx hb dL_isRun_133 ci_0 ?_
            refine lv_iadd hx hb dL_isRun_134 ?_
            refine sv_top (y := nI (ch + 0)) (nI_add _ _) ?_
            refine lv_istore_n (lv' := [(3, .int (nI (ch + 0))), (12, .int (nI 0)), (11, .int (nI (bp C Hd b q T n k))), (10, .int (bI (decide (2 ≤ K2 (bp C Hd b q T n k))))), (9, .int (nI (bp C Hd b q T n k))), (8, .int l2), (7, .int t2), (0, .ref x), (1, .ref o9), (2, .int (nI gv)), (4, .int (nI k)), (5, .int (nI 1)), (6, .int (nI kk))]) hx hb dL_isRun_135 rfl hl (by decide) rfl (fun ls hl => ?_)
            refine lv_iload hx hb dL_isRun_136 (lv_at hl 6 rfl) ?_
            refine lv_iload hx hb dL_isRun_138 (lv_at hl 1 rfl) ?_
            refine sn_if_eq (tgt := 147) hx hb dL_isRun_140 (by decide) (by decide) (fun _ => ?_) (fun q => absurd q (by decide))
            refine lv_iconst (v := nI 0) hx hb dL_isRun_147 ci_0 ?_
            refine lv_iadd hx hb dL_isRun_148 ?_
            refine lv_istore (lv' := [(7, .int (t2 + (nI 0))), (3, .int (nI (ch + 0))), (12, .int (nI 0)), (11, .int (nI (bp C Hd b q T n k))), (10, .int (bI (decide (2 ≤ K2 (bp C Hd b q T n k))))), (9, .int (nI (bp C Hd b q T n k))), (8, .int l2), (0, .ref x), (1, .ref o9), (2, .int (nI gv)), (4, .int (nI k)), (5, .int (nI 1)), (6, .int (nI kk))]) hx hb dL_isRun_149 hl (by decide) rfl (fun ls hl => ?_)
            refine lv_iload hx hb dL_isRun_151 (lv_at hl 3 rfl) ?_
            refine lv_iconst (v := -1) hx hb dL_isRun_153 ci_m1 ?_
            refine lv_icmp_ne (tgt := 183) hx hb dL_isRun_154 (by decide) (fun _ => ?_) (fun z => absurd z.symm (m1_ne (hbp31 _ (by omega))))
            refine lv_iinc (v := nI (k + 1)) (lv' := [(4, .int (nI (k + 1))), (7, .int (t2 + (nI 0))), (3, .int (nI (ch + 0))), (12, .int (nI 0)), (11, .int (nI (bp C Hd b q T n k))), (10, .int (bI (decide (2 ≤ K2 (bp C Hd b q T n k))))), (9, .int (nI (bp C Hd b q T n k))), (8, .int l2), (0, .ref x), (1, .ref o9), (2, .int (nI gv)), (5, .int (nI 1)), (6, .int (nI kk))]) hx hb dL_isRun_183 hl (k := 10) rfl (nI_1 _) (by decide) rfl (fun ls hl => ?_)
            refine lv_aload_n hx hb dL_isRun_186 rfl (lv_at hl 9 rfl) ?_
            refine lv_bipush (v := nI 32) hx hb dL_isRun_187 bi_32 ?_
            refine lv_iload hx hb dL_isRun_189 (lv_at hl 6 rfl) ?_
            refine lv_iadd hx hb dL_isRun_191 ?_
            refine sv_top (y := nI (32 + (bp C Hd b q T n k))) (nI_add _ _) ?_
            refine sv_iald hx hb hK hP 19 f19 (j := 32 + (bp C Hd b q T n k)) (by have := hbpn k (by omega); omega) (by decide) dL_isRun_192 ?_
            refine W.eq (g2 := F0 mi 193 ls (.int (nI (f (32 + (bp C Hd b q T n k)))) :: [])) rfl ?_
            refine sv_top (y := nI (Hd (32 + (bp C Hd b q T n k)))) (by rw [hTI.1 (32 + (bp C Hd b q T n k)) (by have := hbpn k (by omega); omega)]) ?_
            refine lv_aload_n hx hb dL_isRun_193 rfl (lv_at hl 8 rfl) ?_
            obtain ⟨fs0, g0⟩ := hap.at0
            refine mcV (c_X4_built_0 hP hD hap hLR.1 ) ⟨hx, hb, hml, hown, hts⟩ hK gL_isRun_X4_built rfl hd_X4_built ⟨by omega, by omega⟩ (va_recv hK hP (ci := 4) (q0 := 0) rfl g0) rfl hl.1 rfl (Nat.le_of_ble_eq_true rfl) dL_isRun_194 ⟨Nat.zero_le _, Nat.zero_le _⟩ hS (fun rv ws119 H locs hq121 hP hD hS => ?_)
            obtain ⟨hr122, hap, fr120⟩ := hq121
            replace f19 := (fr120 19 (by decide)).trans f19
            refine sv_top (y := nI ((((bq C Hd b q T n k).1) ||| 2 ^ (bp C Hd b q T n k)))) hr122 ?_
            refine lv_iand hx hb dL_isRun_197 ?_
            refine sv_top (y := nI ((Hd (32 + (bp C Hd b q T n k))) &&& ((((bq C Hd b q T n k).1) ||| 2 ^ (bp C Hd b q T n k))))) (an_and _ _) ?_
            refine sn_if_ne (tgt := 205) hx hb dL_isRun_198 (by decide) (and_b2 (lt_31 (lz_cad (by omega) hT hf (by omega)).2.1 (by omega))) (fun c123 => ?_) (fun c123 => ?_)
            · refine lv_iconst (v := nI 2) hx hb dL_isRun_205 ci_2 ?_
              refine lv_istore (lv' := [(13, .int (nI 2)), (4, .int (nI (k + 1))), (7, .int (t2 + (nI 0))), (3, .int (nI (ch + 0))), (12, .int (nI 0)), (11, .int (nI (bp C Hd b q T n k))), (10, .int (bI (decide (2 ≤ K2 (bp C Hd b q T n k))))), (9, .int (nI (bp C Hd b q T n k))), (8, .int l2), (0, .ref x), (1, .ref o9), (2, .int (nI gv)), (5, .int (nI 1)), (6, .int (nI kk))]) hx hb dL_isRun_206 hl (by decide) rfl (fun ls hl => ?_)
              refine lv_iload hx hb dL_isRun_208 (lv_at hl 5 rfl) ?_
              refine lv_iload hx hb dL_isRun_210 (lv_at hl 7 rfl) ?_
              refine lv_icmp_ne (tgt := 255) hx hb dL_isRun_212 (by decide) (fun z => absurd rfl z) (fun _ => ?_)
              refine lv_aload_n hx hb dL_isRun_215 rfl (lv_at hl 9 rfl) ?_
              obtain ⟨fs0, g0⟩ := hap.at0
              refine mcV (c_X4_built_0 hP hD hap hLR.1 ) ⟨hx, hb, hml, hown, hts⟩ hK gL_isRun_X4_built rfl hd_X4_built ⟨by omega, by omega⟩ (va_recv hK hP (ci := 4) (q0 := 0) rfl g0) rfl hl.1 rfl (Nat.le_of_ble_eq_true rfl) dL_isRun_216 ⟨Nat.zero_le _, Nat.zero_le _⟩ hS (fun rv ws124 H locs hq126 hP hD hS => ?_)
              obtain ⟨hr127, hap, fr125⟩ := hq126
              replace f19 := (fr125 19 (by decide)).trans f19
              refine sv_top (y := nI ((((bq C Hd b q T n k).1) ||| 2 ^ (bp C Hd b q T n k)))) hr127 ?_
              refine lv_iload hx hb dL_isRun_219 (lv_at hl 7 rfl) ?_
              refine lv_ishr hx hb dL_isRun_221 ?_
              refine sv_top (y := nI (((((bq C Hd b q T n k).1) ||| 2 ^ (bp C Hd b q T n k))) / 2 ^ (bp C Hd b q T n k))) (sh_r (Nat.lt_of_lt_of_le (hbpn _ (by omega)) (by omega)) (lt_31 (lz_cad (by omega) hT hf (by omega)).2.1 (by omega))) ?_
              refine lv_iconst (v := nI 1) hx hb dL_isRun_222 ci_1 ?_
              refine lv_iand hx hb dL_isRun_223 ?_
              refine sv_top (y := nI (((((bq C Hd b q T n k).1) ||| 2 ^ (bp C Hd b q T n k))) / 2 ^ (bp C Hd b q T n k) % 2)) (an_1) ?_
              refine lv_iconst (v := nI 1) hx hb dL_isRun_224 ci_1 ?_
              refine st_icmp_ne (tgt := 255) hx hb dL_isRun_225 (by decide) (fun c128 => absurd lz_orb (by rw [c128]; decide)) (fun c128 => ?_)
              refine lv_aload_n hx hb dL_isRun_228 rfl (lv_at hl 9 rfl) ?_
              obtain ⟨fs0, g0⟩ := hap.at0
              refine mcV (c_X4_clock_0 hP hD hap hLR.1 ) ⟨hx, hb, hml, hown, hts⟩ hK gL_isRun_X4_clock rfl hd_X4_clock ⟨by omega, by omega⟩ (va_recv hK hP (ci := 4) (q0 := 0) rfl g0) rfl hl.1 rfl (Nat.le_of_ble_eq_true rfl) dL_isRun_229 ⟨Nat.zero_le _, Nat.zero_le _⟩ hS (fun rv ws129 H locs hq131 hP hD hS => ?_)
              obtain ⟨hr132, hap, fr130⟩ := hq131
              replace f19 := (fr130 19 (by decide)).trans f19
              refine sv_top (y := (tmP (tmM t2 l2 (T (bp C Hd b q T n k)) + (if 2 ≤ K2 (bp C Hd b q T n k) then nI 4 else nI 1)) Hd (((bq C Hd b q T n k).1) ||| 2 ^ (bp C Hd b q T n k)) (bp C Hd b q T n k))) hr132 ?_
              refine lv_iload hx hb dL_isRun_232 (lv_at hl 2 rfl) ?_
              refine lv_iload hx hb dL_isRun_234 (lv_at hl 6 rfl) ?_
              refine sb_if_eq (tgt := 243) hx hb dL_isRun_236 (by decide) (fun c133 => ?_) (fun c133 => ?_)
              · refine lv_iconst (v := nI 1) hx hb dL_isRun_243 ci_1 ?_
                refine lv_iadd hx hb dL_isRun_244 ?_
                refine lv_iload hx hb dL_isRun_245 (lv_at hl 0 rfl) ?_
                refine lv_iadd hx hb dL_isRun_247 ?_
                refine lv_icmp_ne (tgt := 255) hx hb dL_isRun_248 (by decide) (fun c134 => absurd (by unfold tmP tmM; rw [if_pos c116, if_neg (of_decide_eq_false c133), if_neg c123, lz_n0]) c134) (fun c134 => ?_)
                refine lv_iconst (v := nI 1) hx hb dL_isRun_251 ci_1 ?_
                refine lv_goto (tgt := 256) hx hb dL_isRun_252 (by decide) ?_
                refine lv_istore (lv' := [(5, .int (nI 1)), (13, .int (nI 2)), (4, .int (nI (k + 1))), (7, .int (t2 + (nI 0))), (3, .int (nI (ch + 0))), (12, .int (nI 0)), (11, .int (nI (bp C Hd b q T n k))), (10, .int (bI (decide (2 ≤ K2 (bp C Hd b q T n k))))), (9, .int (nI (bp C Hd b q T n k))), (8, .int l2), (0, .ref x), (1, .ref o9), (2, .int (nI gv)), (6, .int (nI kk))]) hx hb dL_isRun_256 hl (by decide) rfl (fun ls hl => ?_)
                refine lv_iinc (v := nI (kk + 1)) (lv' := [(6, .int (nI (kk + 1))), (5, .int (nI 1)), (13, .int (nI 2)), (4, .int (nI (k + 1))), (7, .int (t2 + (nI 0))), (3, .int (nI (ch + 0))), (12, .int (nI 0)), (11, .int (nI (bp C Hd b q T n k))), (10, .int (bI (decide (2 ≤ K2 (bp C Hd b q T n k))))), (9, .int (nI (bp C Hd b q T n k))), (8, .int l2), (0, .ref x), (1, .ref o9), (2, .int (nI gv))]) hx hb dL_isRun_258 hl (k := 13) rfl (nI_1 _) (by decide) rfl (fun ls hl => ?_)
                refine lv_goto (tgt := 48) hx hb dL_isRun_261 (by decide) ?_
                exact ih48 (kk + 1) (k + 1) (ch + 0) J2 K2 ((tmP (tmM t2 l2 (T (bp C Hd b q T n k)) + (if 2 ≤ K2 (bp C Hd b q T n k) then nI 4 else nI 1)) Hd (((bq C Hd b q T n k).1) ||| 2 ^ (bp C Hd b q T n k)) (bp C Hd b q T n k))) (nI (T (bp C Hd b q T n k))) (by omega) _ _ (by omega) (by omega) i48_2 i48_3 (TRI.put ((i48_4.go (by omega) hT hf (by omega)).1 c116)) (fun z => by rw [show n - 1 = k by omega]; exact hjm) hP hD f19 hap ((((((((((fr.wd frwl48 : fr _ _ 0 18).tr fr93).tr fr97).tr fr101).tr fr105).tr fr109).tr fr113).tr fr120).tr fr125).tr fr130) ls locs (lv_sub hl [11, 12, 13, 5, 3, 1, 0] rfl) hS
              · refine lv_iconst (v := nI 4) hx hb dL_isRun_239 ci_4 ?_
                refine lv_goto (tgt := 244) hx hb dL_isRun_240 (by decide) ?_
                refine lv_iadd hx hb dL_isRun_244 ?_
                refine lv_iload hx hb dL_isRun_245 (lv_at hl 0 rfl) ?_
                refine lv_iadd hx hb dL_isRun_247 ?_
                refine lv_icmp_ne (tgt := 255) hx hb dL_isRun_248 (by decide) (fun c135 => absurd (by unfold tmP tmM; rw [if_pos c116, if_pos (of_decide_eq_true c133), if_neg c123, lz_n0]) c135) (fun c135 => ?_)
                refine lv_iconst (v := nI 1) hx hb dL_isRun_251 ci_1 ?_
                refine lv_goto (tgt := 256) hx hb dL_isRun_252 (by decide) ?_
                refine lv_istore (lv' := [(5, .int (nI 1)), (13, .int (nI 2)), (4, .int (nI (k + 1))), (7, .int (t2 + (nI 0))), (3, .int (nI (ch + 0))), (12, .int (nI 0)), (11, .int (nI (bp C Hd b q T n k))), (10, .int (bI (decide (2 ≤ K2 (bp C Hd b q T n k))))), (9, .int (nI (bp C Hd b q T n k))), (8, .int l2), (0, .ref x), (1, .ref o9), (2, .int (nI gv)), (6, .int (nI kk))]) hx hb dL_isRun_256 hl (by decide) rfl (fun ls hl => ?_)
                refine lv_iinc (v := nI (kk + 1)) (lv' := [(6, .int (nI (kk + 1))), (5, .int (nI 1)), (13, .int (nI 2)), (4, .int (nI (k + 1))), (7, .int (t2 + (nI 0))), (3, .int (nI (ch + 0))), (12, .int (nI 0)), (11, .int (nI (bp C Hd b q T n k))), (10, .int (bI (decide (2 ≤ K2 (bp C Hd b q T n k))))), (9, .int (nI (bp C Hd b q T n k))), (8, .int l2), (0, .ref x), (1, .ref o9), (2, .int (nI gv))]) hx hb dL_isRun_258 hl (k := 13) rfl (nI_1 _) (by decide) rfl (fun ls hl => ?_)
                refine lv_goto (tgt := 48) hx hb dL_isRun_261 (by decide) ?_
                exact ih48 (kk + 1) (k + 1) (ch + 0) J2 K2 ((tmP (tmM t2 l2 (T (bp C Hd b q T n k)) + (if 2 ≤ K2 (bp C Hd b q T n k) then nI 4 else nI 1)) Hd (((bq C Hd b q T n k).1) ||| 2 ^ (bp C Hd b q T n k)) (bp C Hd b q T n k))) (nI (T (bp C Hd b q T n k))) (by omega) _ _ (by omega) (by omega) i48_2 i48_3 (TRI.put ((i48_4.go (by omega) hT hf (by omega)).1 c116)) (fun z => by rw [show n - 1 = k by omega]; exact hjm) hP hD f19 hap ((((((((((fr.wd frwl48 : fr _ _ 0 18).tr fr93).tr fr97).tr fr101).tr fr105).tr fr109).tr fr113).tr fr120).tr fr125).tr fr130) ls locs (lv_sub hl [11, 12, 13, 5, 3, 1, 0] rfl) hS
            · refine lv_iconst (v := nI 1) hx hb dL_isRun_201 ci_1 ?_
              refine lv_goto (tgt := 206) hx hb dL_isRun_202 (by decide) ?_
              refine lv_istore (lv' := [(13, .int (nI 1)), (4, .int (nI (k + 1))), (7, .int (t2 + (nI 0))), (3, .int (nI (ch + 0))), (12, .int (nI 0)), (11, .int (nI (bp C Hd b q T n k))), (10, .int (bI (decide (2 ≤ K2 (bp C Hd b q T n k))))), (9, .int (nI (bp C Hd b q T n k))), (8, .int l2), (0, .ref x), (1, .ref o9), (2, .int (nI gv)), (5, .int (nI 1)), (6, .int (nI kk))]) hx hb dL_isRun_206 hl (by decide) rfl (fun ls hl => ?_)
              refine lv_iload hx hb dL_isRun_208 (lv_at hl 5 rfl) ?_
              refine lv_iload hx hb dL_isRun_210 (lv_at hl 7 rfl) ?_
              refine lv_icmp_ne (tgt := 255) hx hb dL_isRun_212 (by decide) (fun z => absurd rfl z) (fun _ => ?_)
              refine lv_aload_n hx hb dL_isRun_215 rfl (lv_at hl 9 rfl) ?_
              obtain ⟨fs0, g0⟩ := hap.at0
              refine mcV (c_X4_built_0 hP hD hap hLR.1 ) ⟨hx, hb, hml, hown, hts⟩ hK gL_isRun_X4_built rfl hd_X4_built ⟨by omega, by omega⟩ (va_recv hK hP (ci := 4) (q0 := 0) rfl g0) rfl hl.1 rfl (Nat.le_of_ble_eq_true rfl) dL_isRun_216 ⟨Nat.zero_le _, Nat.zero_le _⟩ hS (fun rv ws136 H locs hq138 hP hD hS => ?_)
              obtain ⟨hr139, hap, fr137⟩ := hq138
              replace f19 := (fr137 19 (by decide)).trans f19
              refine sv_top (y := nI ((((bq C Hd b q T n k).1) ||| 2 ^ (bp C Hd b q T n k)))) hr139 ?_
              refine lv_iload hx hb dL_isRun_219 (lv_at hl 7 rfl) ?_
              refine lv_ishr hx hb dL_isRun_221 ?_
              refine sv_top (y := nI (((((bq C Hd b q T n k).1) ||| 2 ^ (bp C Hd b q T n k))) / 2 ^ (bp C Hd b q T n k))) (sh_r (Nat.lt_of_lt_of_le (hbpn _ (by omega)) (by omega)) (lt_31 (lz_cad (by omega) hT hf (by omega)).2.1 (by omega))) ?_
              refine lv_iconst (v := nI 1) hx hb dL_isRun_222 ci_1 ?_
              refine lv_iand hx hb dL_isRun_223 ?_
              refine sv_top (y := nI (((((bq C Hd b q T n k).1) ||| 2 ^ (bp C Hd b q T n k))) / 2 ^ (bp C Hd b q T n k) % 2)) (an_1) ?_
              refine lv_iconst (v := nI 1) hx hb dL_isRun_224 ci_1 ?_
              refine st_icmp_ne (tgt := 255) hx hb dL_isRun_225 (by decide) (fun c140 => absurd lz_orb (by rw [c140]; decide)) (fun c140 => ?_)
              refine lv_aload_n hx hb dL_isRun_228 rfl (lv_at hl 9 rfl) ?_
              obtain ⟨fs0, g0⟩ := hap.at0
              refine mcV (c_X4_clock_0 hP hD hap hLR.1 ) ⟨hx, hb, hml, hown, hts⟩ hK gL_isRun_X4_clock rfl hd_X4_clock ⟨by omega, by omega⟩ (va_recv hK hP (ci := 4) (q0 := 0) rfl g0) rfl hl.1 rfl (Nat.le_of_ble_eq_true rfl) dL_isRun_229 ⟨Nat.zero_le _, Nat.zero_le _⟩ hS (fun rv ws141 H locs hq143 hP hD hS => ?_)
              obtain ⟨hr144, hap, fr142⟩ := hq143
              replace f19 := (fr142 19 (by decide)).trans f19
              refine sv_top (y := (tmP (tmM t2 l2 (T (bp C Hd b q T n k)) + (if 2 ≤ K2 (bp C Hd b q T n k) then nI 4 else nI 1)) Hd (((bq C Hd b q T n k).1) ||| 2 ^ (bp C Hd b q T n k)) (bp C Hd b q T n k))) hr144 ?_
              refine lv_iload hx hb dL_isRun_232 (lv_at hl 2 rfl) ?_
              refine lv_iload hx hb dL_isRun_234 (lv_at hl 6 rfl) ?_
              refine sb_if_eq (tgt := 243) hx hb dL_isRun_236 (by decide) (fun c145 => ?_) (fun c145 => ?_)
              · refine lv_iconst (v := nI 1) hx hb dL_isRun_243 ci_1 ?_
                refine lv_iadd hx hb dL_isRun_244 ?_
                refine lv_iload hx hb dL_isRun_245 (lv_at hl 0 rfl) ?_
                refine lv_iadd hx hb dL_isRun_247 ?_
                refine lv_icmp_ne (tgt := 255) hx hb dL_isRun_248 (by decide) (fun c146 => absurd (by unfold tmP tmM; rw [if_pos c116, if_neg (of_decide_eq_false c145), if_pos c123, lz_n0]) c146) (fun c146 => ?_)
                refine lv_iconst (v := nI 1) hx hb dL_isRun_251 ci_1 ?_
                refine lv_goto (tgt := 256) hx hb dL_isRun_252 (by decide) ?_
                refine lv_istore (lv' := [(5, .int (nI 1)), (13, .int (nI 1)), (4, .int (nI (k + 1))), (7, .int (t2 + (nI 0))), (3, .int (nI (ch + 0))), (12, .int (nI 0)), (11, .int (nI (bp C Hd b q T n k))), (10, .int (bI (decide (2 ≤ K2 (bp C Hd b q T n k))))), (9, .int (nI (bp C Hd b q T n k))), (8, .int l2), (0, .ref x), (1, .ref o9), (2, .int (nI gv)), (6, .int (nI kk))]) hx hb dL_isRun_256 hl (by decide) rfl (fun ls hl => ?_)
                refine lv_iinc (v := nI (kk + 1)) (lv' := [(6, .int (nI (kk + 1))), (5, .int (nI 1)), (13, .int (nI 1)), (4, .int (nI (k + 1))), (7, .int (t2 + (nI 0))), (3, .int (nI (ch + 0))), (12, .int (nI 0)), (11, .int (nI (bp C Hd b q T n k))), (10, .int (bI (decide (2 ≤ K2 (bp C Hd b q T n k))))), (9, .int (nI (bp C Hd b q T n k))), (8, .int l2), (0, .ref x), (1, .ref o9), (2, .int (nI gv))]) hx hb dL_isRun_258 hl (k := 13) rfl (nI_1 _) (by decide) rfl (fun ls hl => ?_)
                refine lv_goto (tgt := 48) hx hb dL_isRun_261 (by decide) ?_
                exact ih48 (kk + 1) (k + 1) (ch + 0) J2 K2 ((tmP (tmM t2 l2 (T (bp C Hd b q T n k)) + (if 2 ≤ K2 (bp C Hd b q T n k) then nI 4 else nI 1)) Hd (((bq C Hd b q T n k).1) ||| 2 ^ (bp C Hd b q T n k)) (bp C Hd b q T n k))) (nI (T (bp C Hd b q T n k))) (by omega) _ _ (by omega) (by omega) i48_2 i48_3 (TRI.put ((i48_4.go (by omega) hT hf (by omega)).1 c116)) (fun z => by rw [show n - 1 = k by omega]; exact hjm) hP hD f19 hap ((((((((((fr.wd frwl48 : fr _ _ 0 18).tr fr93).tr fr97).tr fr101).tr fr105).tr fr109).tr fr113).tr fr120).tr fr137).tr fr142) ls locs (lv_sub hl [11, 12, 13, 5, 3, 1, 0] rfl) hS
              · refine lv_iconst (v := nI 4) hx hb dL_isRun_239 ci_4 ?_
                refine lv_goto (tgt := 244) hx hb dL_isRun_240 (by decide) ?_
                refine lv_iadd hx hb dL_isRun_244 ?_
                refine lv_iload hx hb dL_isRun_245 (lv_at hl 0 rfl) ?_
                refine lv_iadd hx hb dL_isRun_247 ?_
                refine lv_icmp_ne (tgt := 255) hx hb dL_isRun_248 (by decide) (fun c147 => absurd (by unfold tmP tmM; rw [if_pos c116, if_pos (of_decide_eq_true c145), if_pos c123, lz_n0]) c147) (fun c147 => ?_)
                refine lv_iconst (v := nI 1) hx hb dL_isRun_251 ci_1 ?_
                refine lv_goto (tgt := 256) hx hb dL_isRun_252 (by decide) ?_
                refine lv_istore (lv' := [(5, .int (nI 1)), (13, .int (nI 1)), (4, .int (nI (k + 1))), (7, .int (t2 + (nI 0))), (3, .int (nI (ch + 0))), (12, .int (nI 0)), (11, .int (nI (bp C Hd b q T n k))), (10, .int (bI (decide (2 ≤ K2 (bp C Hd b q T n k))))), (9, .int (nI (bp C Hd b q T n k))), (8, .int l2), (0, .ref x), (1, .ref o9), (2, .int (nI gv)), (6, .int (nI kk))]) hx hb dL_isRun_256 hl (by decide) rfl (fun ls hl => ?_)
                refine lv_iinc (v := nI (kk + 1)) (lv' := [(6, .int (nI (kk + 1))), (5, .int (nI 1)), (13, .int (nI 1)), (4, .int (nI (k + 1))), (7, .int (t2 + (nI 0))), (3, .int (nI (ch + 0))), (12, .int (nI 0)), (11, .int (nI (bp C Hd b q T n k))), (10, .int (bI (decide (2 ≤ K2 (bp C Hd b q T n k))))), (9, .int (nI (bp C Hd b q T n k))), (8, .int l2), (0, .ref x), (1, .ref o9), (2, .int (nI gv))]) hx hb dL_isRun_258 hl (k := 13) rfl (nI_1 _) (by decide) rfl (fun ls hl => ?_)
                refine lv_goto (tgt := 48) hx hb dL_isRun_261 (by decide) ?_
                exact ih48 (kk + 1) (k + 1) (ch + 0) J2 K2 ((tmP (tmM t2 l2 (T (bp C Hd b q T n k)) + (if 2 ≤ K2 (bp C Hd b q T n k) then nI 4 else nI 1)) Hd (((bq C Hd b q T n k).1) ||| 2 ^ (bp C Hd b q T n k)) (bp C Hd b q T n k))) (nI (T (bp C Hd b q T n k))) (by omega) _ _ (by omega) (by omega) i48_2 i48_3 (TRI.put ((i48_4.go (by omega) hT hf (by omega)).1 c116)) (fun z => by rw [show n - 1 = k by omega]; exact hjm) hP hD f19 hap ((((((((((fr.wd frwl48 : fr _ _ 0 18).tr fr93).tr fr97).tr fr101).tr fr105).tr fr109).tr fr113).tr fr120).tr fr137).tr fr142) ls locs (lv_sub hl [11, 12, 13, 5, 3, 1, 0] rfl) hS
          · refine lv_iconst (v := nI 1) hx hb dL_isRun_116 ci_1 ?_
            refine lv_goto (tgt := 121) hx hb dL_isRun_117 (by decide) ?_
            refine lv_istore (lv' := [(12, .int (nI 1)), (11, .int (nI (bp C Hd b q T n k))), (10, .int (bI (decide (2 ≤ K2 (bp C Hd b q T n k))))), (9, .int (nI (bp C Hd b q T n k))), (8, .int l2), (7, .int t2), (0, .ref x), (1, .ref o9), (2, .int (nI gv)), (3, .int (nI ch)), (4, .int (nI k)), (5, .int (nI 1)), (6, .int (nI kk))]) hx hb dL_isRun_121 hl (by decide) rfl (fun ls hl => ?_)
            refine lv_iload_n hx hb dL_isRun_123 rfl (lv_at hl 9 rfl) ?_
            refine lv_iload hx hb dL_isRun_124 (lv_at hl 0 rfl) ?_
            refine sn_if_eq (tgt := 133) hx hb dL_isRun_126 (by decide) (by decide) (fun q => absurd q (by decide)) (fun _ => ?_)
            refine lv_iconst (v := nI 1) hx hb dL_isRun_129 ci_1 ?_
            refine lv_goto (tgt := 134) hx hb dL_isRun_130 (by decide) ?_
            refine lv_iadd hx hb dL_isRun_134 ?_
            refine sv_top (y := nI (ch + 1)) (nI_add _ _) ?_
            refine lv_istore_n (lv' := [(3, .int (nI (ch + 1))), (12, .int (nI 1)), (11, .int (nI (bp C Hd b q T n k))), (10, .int (bI (decide (2 ≤ K2 (bp C Hd b q T n k))))), (9, .int (nI (bp C Hd b q T n k))), (8, .int l2), (7, .int t2), (0, .ref x), (1, .ref o9), (2, .int (nI gv)), (4, .int (nI k)), (5, .int (nI 1)), (6, .int (nI kk))]) hx hb dL_isRun_135 rfl hl (by decide) rfl (fun ls hl => ?_)
            refine lv_iload hx hb dL_isRun_136 (lv_at hl 6 rfl) ?_
            refine lv_iload hx hb dL_isRun_138 (lv_at hl 1 rfl) ?_
            refine sn_if_eq (tgt := 147) hx hb dL_isRun_140 (by decide) (by decide) (fun q => absurd q (by decide)) (fun _ => ?_)
            refine lv_iconst (v := nI 5) hx hb dL_isRun_143 ci_5 ?_
            refine lv_goto (tgt := 148) hx hb dL_isRun_144 (by decide) ?_
            refine lv_iadd hx hb dL_isRun_148 ?_
            refine lv_istore (lv' := [(7, .int (t2 + (nI 5))), (3, .int (nI (ch + 1))), (12, .int (nI 1)), (11, .int (nI (bp C Hd b q T n k))), (10, .int (bI (decide (2 ≤ K2 (bp C Hd b q T n k))))), (9, .int (nI (bp C Hd b q T n k))), (8, .int l2), (0, .ref x), (1, .ref o9), (2, .int (nI gv)), (4, .int (nI k)), (5, .int (nI 1)), (6, .int (nI kk))]) hx hb dL_isRun_149 hl (by decide) rfl (fun ls hl => ?_)
            refine lv_iload hx hb dL_isRun_151 (lv_at hl 3 rfl) ?_
            refine lv_iconst (v := -1) hx hb dL_isRun_153 ci_m1 ?_
            refine lv_icmp_ne (tgt := 183) hx hb dL_isRun_154 (by decide) (fun _ => ?_) (fun z => absurd z.symm (m1_ne (hbp31 _ (by omega))))
            refine lv_iinc (v := nI (k + 1)) (lv' := [(4, .int (nI (k + 1))), (7, .int (t2 + (nI 5))), (3, .int (nI (ch + 1))), (12, .int (nI 1)), (11, .int (nI (bp C Hd b q T n k))), (10, .int (bI (decide (2 ≤ K2 (bp C Hd b q T n k))))), (9, .int (nI (bp C Hd b q T n k))), (8, .int l2), (0, .ref x), (1, .ref o9), (2, .int (nI gv)), (5, .int (nI 1)), (6, .int (nI kk))]) hx hb dL_isRun_183 hl (k := 10) rfl (nI_1 _) (by decide) rfl (fun ls hl => ?_)
            refine lv_aload_n hx hb dL_isRun_186 rfl (lv_at hl 9 rfl) ?_
            refine lv_bipush (v := nI 32) hx hb dL_isRun_187 bi_32 ?_
            refine lv_iload hx hb dL_isRun_189 (lv_at hl 6 rfl) ?_
            refine lv_iadd hx hb dL_isRun_191 ?_
            refine sv_top (y := nI (32 + (bp C Hd b q T n k))) (nI_add _ _) ?_
            refine sv_iald hx hb hK hP 19 f19 (j := 32 + (bp C Hd b q T n k)) (by have := hbpn k (by omega); omega) (by decide) dL_isRun_192 ?_
            refine W.eq (g2 := F0 mi 193 ls (.int (nI (f (32 + (bp C Hd b q T n k)))) :: [])) rfl ?_
            refine sv_top (y := nI (Hd (32 + (bp C Hd b q T n k)))) (by rw [hTI.1 (32 + (bp C Hd b q T n k)) (by have := hbpn k (by omega); omega)]) ?_
            refine lv_aload_n hx hb dL_isRun_193 rfl (lv_at hl 8 rfl) ?_
            obtain ⟨fs0, g0⟩ := hap.at0
            refine mcV (c_X4_built_0 hP hD hap hLR.1 ) ⟨hx, hb, hml, hown, hts⟩ hK gL_isRun_X4_built rfl hd_X4_built ⟨by omega, by omega⟩ (va_recv hK hP (ci := 4) (q0 := 0) rfl g0) rfl hl.1 rfl (Nat.le_of_ble_eq_true rfl) dL_isRun_194 ⟨Nat.zero_le _, Nat.zero_le _⟩ hS (fun rv ws150 H locs hq152 hP hD hS => ?_)
            obtain ⟨hr153, hap, fr151⟩ := hq152
            replace f19 := (fr151 19 (by decide)).trans f19
            refine sv_top (y := nI ((((bq C Hd b q T n k).1) ||| 2 ^ (bp C Hd b q T n k)))) hr153 ?_
            refine lv_iand hx hb dL_isRun_197 ?_
            refine sv_top (y := nI ((Hd (32 + (bp C Hd b q T n k))) &&& ((((bq C Hd b q T n k).1) ||| 2 ^ (bp C Hd b q T n k))))) (an_and _ _) ?_
            refine sn_if_ne (tgt := 205) hx hb dL_isRun_198 (by decide) (and_b2 (lt_31 (lz_cad (by omega) hT hf (by omega)).2.1 (by omega))) (fun c154 => ?_) (fun c154 => ?_)
            · refine lv_iconst (v := nI 2) hx hb dL_isRun_205 ci_2 ?_
              refine lv_istore (lv' := [(13, .int (nI 2)), (4, .int (nI (k + 1))), (7, .int (t2 + (nI 5))), (3, .int (nI (ch + 1))), (12, .int (nI 1)), (11, .int (nI (bp C Hd b q T n k))), (10, .int (bI (decide (2 ≤ K2 (bp C Hd b q T n k))))), (9, .int (nI (bp C Hd b q T n k))), (8, .int l2), (0, .ref x), (1, .ref o9), (2, .int (nI gv)), (5, .int (nI 1)), (6, .int (nI kk))]) hx hb dL_isRun_206 hl (by decide) rfl (fun ls hl => ?_)
              refine lv_iload hx hb dL_isRun_208 (lv_at hl 5 rfl) ?_
              refine lv_iload hx hb dL_isRun_210 (lv_at hl 7 rfl) ?_
              refine lv_icmp_ne (tgt := 255) hx hb dL_isRun_212 (by decide) (fun z => absurd rfl z) (fun _ => ?_)
              refine lv_aload_n hx hb dL_isRun_215 rfl (lv_at hl 9 rfl) ?_
              obtain ⟨fs0, g0⟩ := hap.at0
              refine mcV (c_X4_built_0 hP hD hap hLR.1 ) ⟨hx, hb, hml, hown, hts⟩ hK gL_isRun_X4_built rfl hd_X4_built ⟨by omega, by omega⟩ (va_recv hK hP (ci := 4) (q0 := 0) rfl g0) rfl hl.1 rfl (Nat.le_of_ble_eq_true rfl) dL_isRun_216 ⟨Nat.zero_le _, Nat.zero_le _⟩ hS (fun rv ws155 H locs hq157 hP hD hS => ?_)
              obtain ⟨hr158, hap, fr156⟩ := hq157
              replace f19 := (fr156 19 (by decide)).trans f19
              refine sv_top (y := nI ((((bq C Hd b q T n k).1) ||| 2 ^ (bp C Hd b q T n k)))) hr158 ?_
              refine lv_iload hx hb dL_isRun_219 (lv_at hl 7 rfl) ?_
              refine lv_ishr hx hb dL_isRun_221 ?_
              refine sv_top (y := nI (((((bq C Hd b q T n k).1) ||| 2 ^ (bp C Hd b q T n k))) / 2 ^ (bp C Hd b q T n k))) (sh_r (Nat.lt_of_lt_of_le (hbpn _ (by omega)) (by omega)) (lt_31 (lz_cad (by omega) hT hf (by omega)).2.1 (by omega))) ?_
              refine lv_iconst (v := nI 1) hx hb dL_isRun_222 ci_1 ?_
              refine lv_iand hx hb dL_isRun_223 ?_
              refine sv_top (y := nI (((((bq C Hd b q T n k).1) ||| 2 ^ (bp C Hd b q T n k))) / 2 ^ (bp C Hd b q T n k) % 2)) (an_1) ?_
              refine lv_iconst (v := nI 1) hx hb dL_isRun_224 ci_1 ?_
              refine st_icmp_ne (tgt := 255) hx hb dL_isRun_225 (by decide) (fun c159 => absurd lz_orb (by rw [c159]; decide)) (fun c159 => ?_)
              refine lv_aload_n hx hb dL_isRun_228 rfl (lv_at hl 9 rfl) ?_
              obtain ⟨fs0, g0⟩ := hap.at0
              refine mcV (c_X4_clock_0 hP hD hap hLR.1 ) ⟨hx, hb, hml, hown, hts⟩ hK gL_isRun_X4_clock rfl hd_X4_clock ⟨by omega, by omega⟩ (va_recv hK hP (ci := 4) (q0 := 0) rfl g0) rfl hl.1 rfl (Nat.le_of_ble_eq_true rfl) dL_isRun_229 ⟨Nat.zero_le _, Nat.zero_le _⟩ hS (fun rv ws160 H locs hq162 hP hD hS => ?_)
              obtain ⟨hr163, hap, fr161⟩ := hq162
              replace f19 := (fr161 19 (by decide)).trans f19
              refine sv_top (y := (tmP (tmM t2 l2 (T (bp C Hd b q T n k)) + (if 2 ≤ K2 (bp C Hd b q T n k) then nI 4 else nI 1)) Hd (((bq C Hd b q T n k).1) ||| 2 ^ (bp C Hd b q T n k)) (bp C Hd b q T n k))) hr163 ?_
              refine lv_iload hx hb dL_isRun_232 (lv_at hl 2 rfl) ?_
              refine lv_iload hx hb dL_isRun_234 (lv_at hl 6 rfl) ?_
              refine sb_if_eq (tgt := 243) hx hb dL_isRun_236 (by decide) (fun c164 => ?_) (fun c164 => ?_)
              · refine lv_iconst (v := nI 1) hx hb dL_isRun_243 ci_1 ?_
                refine lv_iadd hx hb dL_isRun_244 ?_
                refine lv_iload hx hb dL_isRun_245 (lv_at hl 0 rfl) ?_
                refine lv_iadd hx hb dL_isRun_247 ?_
                refine lv_icmp_ne (tgt := 255) hx hb dL_isRun_248 (by decide) (fun c165 => absurd (by unfold tmP tmM; rw [if_neg c116, if_neg (of_decide_eq_false c164), if_neg c154]) c165) (fun c165 => ?_)
                refine lv_iconst (v := nI 1) hx hb dL_isRun_251 ci_1 ?_
                refine lv_goto (tgt := 256) hx hb dL_isRun_252 (by decide) ?_
                refine lv_istore (lv' := [(5, .int (nI 1)), (13, .int (nI 2)), (4, .int (nI (k + 1))), (7, .int (t2 + (nI 5))), (3, .int (nI (ch + 1))), (12, .int (nI 1)), (11, .int (nI (bp C Hd b q T n k))), (10, .int (bI (decide (2 ≤ K2 (bp C Hd b q T n k))))), (9, .int (nI (bp C Hd b q T n k))), (8, .int l2), (0, .ref x), (1, .ref o9), (2, .int (nI gv)), (6, .int (nI kk))]) hx hb dL_isRun_256 hl (by decide) rfl (fun ls hl => ?_)
                refine lv_iinc (v := nI (kk + 1)) (lv' := [(6, .int (nI (kk + 1))), (5, .int (nI 1)), (13, .int (nI 2)), (4, .int (nI (k + 1))), (7, .int (t2 + (nI 5))), (3, .int (nI (ch + 1))), (12, .int (nI 1)), (11, .int (nI (bp C Hd b q T n k))), (10, .int (bI (decide (2 ≤ K2 (bp C Hd b q T n k))))), (9, .int (nI (bp C Hd b q T n k))), (8, .int l2), (0, .ref x), (1, .ref o9), (2, .int (nI gv))]) hx hb dL_isRun_258 hl (k := 13) rfl (nI_1 _) (by decide) rfl (fun ls hl => ?_)
                refine lv_goto (tgt := 48) hx hb dL_isRun_261 (by decide) ?_
                exact ih48 (kk + 1) (k + 1) (ch + 1) J2 K2 ((tmP (tmM t2 l2 (T (bp C Hd b q T n k)) + (if 2 ≤ K2 (bp C Hd b q T n k) then nI 4 else nI 1)) Hd (((bq C Hd b q T n k).1) ||| 2 ^ (bp C Hd b q T n k)) (bp C Hd b q T n k))) (nI (T (bp C Hd b q T n k))) (by omega) _ _ (by omega) (by omega) i48_2 i48_3 (TRI.put ((i48_4.go (by omega) hT hf (by omega)).2 c116)) (fun z => by rw [show n - 1 = k by omega]; exact hjm) hP hD f19 hap ((((((((((fr.wd frwl48 : fr _ _ 0 18).tr fr93).tr fr97).tr fr101).tr fr105).tr fr109).tr fr113).tr fr151).tr fr156).tr fr161) ls locs (lv_sub hl [11, 12, 13, 5, 3, 1, 0] rfl) hS
              · refine lv_iconst (v := nI 4) hx hb dL_isRun_239 ci_4 ?_
                refine lv_goto (tgt := 244) hx hb dL_isRun_240 (by decide) ?_
                refine lv_iadd hx hb dL_isRun_244 ?_
                refine lv_iload hx hb dL_isRun_245 (lv_at hl 0 rfl) ?_
                refine lv_iadd hx hb dL_isRun_247 ?_
                refine lv_icmp_ne (tgt := 255) hx hb dL_isRun_248 (by decide) (fun c166 => absurd (by unfold tmP tmM; rw [if_neg c116, if_pos (of_decide_eq_true c164), if_neg c154]) c166) (fun c166 => ?_)
                refine lv_iconst (v := nI 1) hx hb dL_isRun_251 ci_1 ?_
                refine lv_goto (tgt := 256) hx hb dL_isRun_252 (by decide) ?_
                refine lv_istore (lv' := [(5, .int (nI 1)), (13, .int (nI 2)), (4, .int (nI (k + 1))), (7, .int (t2 + (nI 5))), (3, .int (nI (ch + 1))), (12, .int (nI 1)), (11, .int (nI (bp C Hd b q T n k))), (10, .int (bI (decide (2 ≤ K2 (bp C Hd b q T n k))))), (9, .int (nI (bp C Hd b q T n k))), (8, .int l2), (0, .ref x), (1, .ref o9), (2, .int (nI gv)), (6, .int (nI kk))]) hx hb dL_isRun_256 hl (by decide) rfl (fun ls hl => ?_)
                refine lv_iinc (v := nI (kk + 1)) (lv' := [(6, .int (nI (kk + 1))), (5, .int (nI 1)), (13, .int (nI 2)), (4, .int (nI (k + 1))), (7, .int (t2 + (nI 5))), (3, .int (nI (ch + 1))), (12, .int (nI 1)), (11, .int (nI (bp C Hd b q T n k))), (10, .int (bI (decide (2 ≤ K2 (bp C Hd b q T n k))))), (9, .int (nI (bp C Hd b q T n k))), (8, .int l2), (0, .ref x), (1, .ref o9), (2, .int (nI gv))]) hx hb dL_isRun_258 hl (k := 13) rfl (nI_1 _) (by decide) rfl (fun ls hl => ?_)
                refine lv_goto (tgt := 48) hx hb dL_isRun_261 (by decide) ?_
                exact ih48 (kk + 1) (k + 1) (ch + 1) J2 K2 ((tmP (tmM t2 l2 (T (bp C Hd b q T n k)) + (if 2 ≤ K2 (bp C Hd b q T n k) then nI 4 else nI 1)) Hd (((bq C Hd b q T n k).1) ||| 2 ^ (bp C Hd b q T n k)) (bp C Hd b q T n k))) (nI (T (bp C Hd b q T n k))) (by omega) _ _ (by omega) (by omega) i48_2 i48_3 (TRI.put ((i48_4.go (by omega) hT hf (by omega)).2 c116)) (fun z => by rw [show n - 1 = k by omega]; exact hjm) hP hD f19 hap ((((((((((fr.wd frwl48 : fr _ _ 0 18).tr fr93).tr fr97).tr fr101).tr fr105).tr fr109).tr fr113).tr fr151).tr fr156).tr fr161) ls locs (lv_sub hl [11, 12, 13, 5, 3, 1, 0] rfl) hS
            · refine lv_iconst (v := nI 1) hx hb dL_isRun_201 ci_1 ?_
              refine lv_goto (tgt := 206) hx hb dL_isRun_202 (by decide) ?_
              refine lv_istore (lv' := [(13, .int (nI 1)), (4, .int (nI (k + 1))), (7, .int (t2 + (nI 5))), (3, .int (nI (ch + 1))), (12, .int (nI 1)), (11, .int (nI (bp C Hd b q T n k))), (10, .int (bI (decide (2 ≤ K2 (bp C Hd b q T n k))))), (9, .int (nI (bp C Hd b q T n k))), (8, .int l2), (0, .ref x), (1, .ref o9), (2, .int (nI gv)), (5, .int (nI 1)), (6, .int (nI kk))]) hx hb dL_isRun_206 hl (by decide) rfl (fun ls hl => ?_)
              refine lv_iload hx hb dL_isRun_208 (lv_at hl 5 rfl) ?_
              refine lv_iload hx hb dL_isRun_210 (lv_at hl 7 rfl) ?_
              refine lv_icmp_ne (tgt := 255) hx hb dL_isRun_212 (by decide) (fun z => absurd rfl z) (fun _ => ?_)
              refine lv_aload_n hx hb dL_isRun_215 rfl (lv_at hl 9 rfl) ?_
              obtain ⟨fs0, g0⟩ := hap.at0
              refine mcV (c_X4_built_0 hP hD hap hLR.1 ) ⟨hx, hb, hml, hown, hts⟩ hK gL_isRun_X4_built rfl hd_X4_built ⟨by omega, by omega⟩ (va_recv hK hP (ci := 4) (q0 := 0) rfl g0) rfl hl.1 rfl (Nat.le_of_ble_eq_true rfl) dL_isRun_216 ⟨Nat.zero_le _, Nat.zero_le _⟩ hS (fun rv ws167 H locs hq169 hP hD hS => ?_)
              obtain ⟨hr170, hap, fr168⟩ := hq169
              replace f19 := (fr168 19 (by decide)).trans f19
              refine sv_top (y := nI ((((bq C Hd b q T n k).1) ||| 2 ^ (bp C Hd b q T n k)))) hr170 ?_
              refine lv_iload hx hb dL_isRun_219 (lv_at hl 7 rfl) ?_
              refine lv_ishr hx hb dL_isRun_221 ?_
              refine sv_top (y := nI (((((bq C Hd b q T n k).1) ||| 2 ^ (bp C Hd b q T n k))) / 2 ^ (bp C Hd b q T n k))) (sh_r (Nat.lt_of_lt_of_le (hbpn _ (by omega)) (by omega)) (lt_31 (lz_cad (by omega) hT hf (by omega)).2.1 (by omega))) ?_
              refine lv_iconst (v := nI 1) hx hb dL_isRun_222 ci_1 ?_
              refine lv_iand hx hb dL_isRun_223 ?_
              refine sv_top (y := nI (((((bq C Hd b q T n k).1) ||| 2 ^ (bp C Hd b q T n k))) / 2 ^ (bp C Hd b q T n k) % 2)) (an_1) ?_
              refine lv_iconst (v := nI 1) hx hb dL_isRun_224 ci_1 ?_
              refine st_icmp_ne (tgt := 255) hx hb dL_isRun_225 (by decide) (fun c171 => absurd lz_orb (by rw [c171]; decide)) (fun c171 => ?_)
              refine lv_aload_n hx hb dL_isRun_228 rfl (lv_at hl 9 rfl) ?_
              obtain ⟨fs0, g0⟩ := hap.at0
              refine mcV (c_X4_clock_0 hP hD hap hLR.1 ) ⟨hx, hb, hml, hown, hts⟩ hK gL_isRun_X4_clock rfl hd_X4_clock ⟨by omega, by omega⟩ (va_recv hK hP (ci := 4) (q0 := 0) rfl g0) rfl hl.1 rfl (Nat.le_of_ble_eq_true rfl) dL_isRun_229 ⟨Nat.zero_le _, Nat.zero_le _⟩ hS (fun rv ws172 H locs hq174 hP hD hS => ?_)
              obtain ⟨hr175, hap, fr173⟩ := hq174
              replace f19 := (fr173 19 (by decide)).trans f19
              refine sv_top (y := (tmP (tmM t2 l2 (T (bp C Hd b q T n k)) + (if 2 ≤ K2 (bp C Hd b q T n k) then nI 4 else nI 1)) Hd (((bq C Hd b q T n k).1) ||| 2 ^ (bp C Hd b q T n k)) (bp C Hd b q T n k))) hr175 ?_
              refine lv_iload hx hb dL_isRun_232 (lv_at hl 2 rfl) ?_
              refine lv_iload hx hb dL_isRun_234 (lv_at hl 6 rfl) ?_
              refine sb_if_eq (tgt := 243) hx hb dL_isRun_236 (by decide) (fun c176 => ?_) (fun c176 => ?_)
              · refine lv_iconst (v := nI 1) hx hb dL_isRun_243 ci_1 ?_
                refine lv_iadd hx hb dL_isRun_244 ?_
                refine lv_iload hx hb dL_isRun_245 (lv_at hl 0 rfl) ?_
                refine lv_iadd hx hb dL_isRun_247 ?_
                refine lv_icmp_ne (tgt := 255) hx hb dL_isRun_248 (by decide) (fun c177 => absurd (by unfold tmP tmM; rw [if_neg c116, if_neg (of_decide_eq_false c176), if_pos c154]) c177) (fun c177 => ?_)
                refine lv_iconst (v := nI 1) hx hb dL_isRun_251 ci_1 ?_
                refine lv_goto (tgt := 256) hx hb dL_isRun_252 (by decide) ?_
                refine lv_istore (lv' := [(5, .int (nI 1)), (13, .int (nI 1)), (4, .int (nI (k + 1))), (7, .int (t2 + (nI 5))), (3, .int (nI (ch + 1))), (12, .int (nI 1)), (11, .int (nI (bp C Hd b q T n k))), (10, .int (bI (decide (2 ≤ K2 (bp C Hd b q T n k))))), (9, .int (nI (bp C Hd b q T n k))), (8, .int l2), (0, .ref x), (1, .ref o9), (2, .int (nI gv)), (6, .int (nI kk))]) hx hb dL_isRun_256 hl (by decide) rfl (fun ls hl => ?_)
                refine lv_iinc (v := nI (kk + 1)) (lv' := [(6, .int (nI (kk + 1))), (5, .int (nI 1)), (13, .int (nI 1)), (4, .int (nI (k + 1))), (7, .int (t2 + (nI 5))), (3, .int (nI (ch + 1))), (12, .int (nI 1)), (11, .int (nI (bp C Hd b q T n k))), (10, .int (bI (decide (2 ≤ K2 (bp C Hd b q T n k))))), (9, .int (nI (bp C Hd b q T n k))), (8, .int l2), (0, .ref x), (1, .ref o9), (2, .int (nI gv))]) hx hb dL_isRun_258 hl (k := 13) rfl (nI_1 _) (by decide) rfl (fun ls hl => ?_)
                refine lv_goto (tgt := 48) hx hb dL_isRun_261 (by decide) ?_
                exact ih48 (kk + 1) (k + 1) (ch + 1) J2 K2 ((tmP (tmM t2 l2 (T (bp C Hd b q T n k)) + (if 2 ≤ K2 (bp C Hd b q T n k) then nI 4 else nI 1)) Hd (((bq C Hd b q T n k).1) ||| 2 ^ (bp C Hd b q T n k)) (bp C Hd b q T n k))) (nI (T (bp C Hd b q T n k))) (by omega) _ _ (by omega) (by omega) i48_2 i48_3 (TRI.put ((i48_4.go (by omega) hT hf (by omega)).2 c116)) (fun z => by rw [show n - 1 = k by omega]; exact hjm) hP hD f19 hap ((((((((((fr.wd frwl48 : fr _ _ 0 18).tr fr93).tr fr97).tr fr101).tr fr105).tr fr109).tr fr113).tr fr151).tr fr168).tr fr173) ls locs (lv_sub hl [11, 12, 13, 5, 3, 1, 0] rfl) hS
              · refine lv_iconst (v := nI 4) hx hb dL_isRun_239 ci_4 ?_
                refine lv_goto (tgt := 244) hx hb dL_isRun_240 (by decide) ?_
                refine lv_iadd hx hb dL_isRun_244 ?_
                refine lv_iload hx hb dL_isRun_245 (lv_at hl 0 rfl) ?_
                refine lv_iadd hx hb dL_isRun_247 ?_
                refine lv_icmp_ne (tgt := 255) hx hb dL_isRun_248 (by decide) (fun c178 => absurd (by unfold tmP tmM; rw [if_neg c116, if_pos (of_decide_eq_true c176), if_pos c154]) c178) (fun c178 => ?_)
                refine lv_iconst (v := nI 1) hx hb dL_isRun_251 ci_1 ?_
                refine lv_goto (tgt := 256) hx hb dL_isRun_252 (by decide) ?_
                refine lv_istore (lv' := [(5, .int (nI 1)), (13, .int (nI 1)), (4, .int (nI (k + 1))), (7, .int (t2 + (nI 5))), (3, .int (nI (ch + 1))), (12, .int (nI 1)), (11, .int (nI (bp C Hd b q T n k))), (10, .int (bI (decide (2 ≤ K2 (bp C Hd b q T n k))))), (9, .int (nI (bp C Hd b q T n k))), (8, .int l2), (0, .ref x), (1, .ref o9), (2, .int (nI gv)), (6, .int (nI kk))]) hx hb dL_isRun_256 hl (by decide) rfl (fun ls hl => ?_)
                refine lv_iinc (v := nI (kk + 1)) (lv' := [(6, .int (nI (kk + 1))), (5, .int (nI 1)), (13, .int (nI 1)), (4, .int (nI (k + 1))), (7, .int (t2 + (nI 5))), (3, .int (nI (ch + 1))), (12, .int (nI 1)), (11, .int (nI (bp C Hd b q T n k))), (10, .int (bI (decide (2 ≤ K2 (bp C Hd b q T n k))))), (9, .int (nI (bp C Hd b q T n k))), (8, .int l2), (0, .ref x), (1, .ref o9), (2, .int (nI gv))]) hx hb dL_isRun_258 hl (k := 13) rfl (nI_1 _) (by decide) rfl (fun ls hl => ?_)
                refine lv_goto (tgt := 48) hx hb dL_isRun_261 (by decide) ?_
                exact ih48 (kk + 1) (k + 1) (ch + 1) J2 K2 ((tmP (tmM t2 l2 (T (bp C Hd b q T n k)) + (if 2 ≤ K2 (bp C Hd b q T n k) then nI 4 else nI 1)) Hd (((bq C Hd b q T n k).1) ||| 2 ^ (bp C Hd b q T n k)) (bp C Hd b q T n k))) (nI (T (bp C Hd b q T n k))) (by omega) _ _ (by omega) (by omega) i48_2 i48_3 (TRI.put ((i48_4.go (by omega) hT hf (by omega)).2 c116)) (fun z => by rw [show n - 1 = k by omega]; exact hjm) hP hD f19 hap ((((((((((fr.wd frwl48 : fr _ _ 0 18).tr fr93).tr fr97).tr fr101).tr fr105).tr fr109).tr fr113).tr fr151).tr fr168).tr fr173) ls locs (lv_sub hl [11, 12, 13, 5, 3, 1, 0] rfl) hS
        · obtain ⟨fs0, g0⟩ := hap.at0
          refine mcV (c_X4_step_0j hP hD hap hLR.1 hT rfl (by omega) hf (fun i => Nat.lt_of_le_of_lt (i48_2 i) (by decide)) (fun i => Nat.lt_of_le_of_lt (i48_3 i) (by decide)) hjm) ⟨hx, hb, hml, hown, hts⟩ hK gL_isRun_X4_step rfl hd_X4_step ⟨by omega, by omega⟩ (va_recv hK hP (ci := 4) (q0 := 0) rfl g0) rfl hl.1 rfl (Nat.le_of_ble_eq_true rfl) dL_isRun_102 ⟨Nat.zero_le _, Nat.zero_le _⟩ hS (fun rv ws179 H locs hq181 hP hD hS => ?_)
          obtain ⟨hr182, hap, fr180⟩ := hq181
          replace f19 := (fr180 19 (by decide)).trans f19
          refine sv_top (y := -1) hr182 ?_
          refine lv_istore (lv' := [(11, .int (-1)), (10, .int (bI (decide (2 ≤ K2 (bp C Hd b q T n k))))), (9, .int (nI (bp C Hd b q T n k))), (8, .int l2), (7, .int t2), (0, .ref x), (1, .ref o9), (2, .int (nI gv)), (3, .int (nI ch)), (4, .int (nI k)), (5, .int (nI 1)), (6, .int (nI kk))]) hx hb dL_isRun_105 hl (by decide) rfl (fun ls hl => ?_)
          refine lv_iload hx hb dL_isRun_107 (lv_at hl 3 rfl) ?_
          refine lv_aload_n hx hb dL_isRun_109 rfl (lv_at hl 5 rfl) ?_
          obtain ⟨fs0, g0⟩ := hap.at0
          refine mcV (c_X4_mounted_0 hP hD hap hLR.1 ) ⟨hx, hb, hml, hown, hts⟩ hK gL_isRun_X4_mounted rfl hd_X4_mounted ⟨by omega, by omega⟩ (va_recv hK hP (ci := 4) (q0 := 0) rfl g0) rfl hl.1 rfl (Nat.le_of_ble_eq_true rfl) dL_isRun_110 ⟨Nat.zero_le _, Nat.zero_le _⟩ hS (fun rv ws183 H locs hq185 hP hD hS => ?_)
          obtain ⟨hr186, hap, fr184⟩ := hq185
          replace f19 := (fr184 19 (by decide)).trans f19
          refine sv_top (y := nI (T (bp C Hd b q T n k))) hr186 ?_
          refine lv_icmp_eq (tgt := 120) hx hb dL_isRun_113 (by decide) (fun c187 => ?_) (fun c187 => ?_)
          · refine lv_iconst (v := nI 0) hx hb dL_isRun_120 ci_0 ?_
            refine lv_istore (lv' := [(12, .int (nI 0)), (11, .int (-1)), (10, .int (bI (decide (2 ≤ K2 (bp C Hd b q T n k))))), (9, .int (nI (bp C Hd b q T n k))), (8, .int l2), (7, .int t2), (0, .ref x), (1, .ref o9), (2, .int (nI gv)), (3, .int (nI ch)), (4, .int (nI k)), (5, .int (nI 1)), (6, .int (nI kk))]) hx hb dL_isRun_121 hl (by decide) rfl (fun ls hl => ?_)
            refine lv_iload_n hx hb dL_isRun_123 rfl (lv_at hl 9 rfl) ?_
            refine lv_iload hx hb dL_isRun_124 (lv_at hl 0 rfl) ?_
            refine sn_if_eq (tgt := 133) hx hb dL_isRun_126 (by decide) (by decide) (fun _ => ?_) (fun q => absurd q (by decide))
            refine lv_iconst (v := nI 0) hx hb dL_isRun_133 ci_0 ?_
            refine lv_iadd hx hb dL_isRun_134 ?_
            refine sv_top (y := nI (ch + 0)) (nI_add _ _) ?_
            refine lv_istore_n (lv' := [(3, .int (nI (ch + 0))), (12, .int (nI 0)), (11, .int (-1)), (10, .int (bI (decide (2 ≤ K2 (bp C Hd b q T n k))))), (9, .int (nI (bp C Hd b q T n k))), (8, .int l2), (7, .int t2), (0, .ref x), (1, .ref o9), (2, .int (nI gv)), (4, .int (nI k)), (5, .int (nI 1)), (6, .int (nI kk))]) hx hb dL_isRun_135 rfl hl (by decide) rfl (fun ls hl => ?_)
            refine lv_iload hx hb dL_isRun_136 (lv_at hl 6 rfl) ?_
            refine lv_iload hx hb dL_isRun_138 (lv_at hl 1 rfl) ?_
            refine sn_if_eq (tgt := 147) hx hb dL_isRun_140 (by decide) (by decide) (fun _ => ?_) (fun q => absurd q (by decide))
            refine lv_iconst (v := nI 0) hx hb dL_isRun_147 ci_0 ?_
            refine lv_iadd hx hb dL_isRun_148 ?_
            refine lv_istore (lv' := [(7, .int (t2 + (nI 0))), (3, .int (nI (ch + 0))), (12, .int (nI 0)), (11, .int (-1)), (10, .int (bI (decide (2 ≤ K2 (bp C Hd b q T n k))))), (9, .int (nI (bp C Hd b q T n k))), (8, .int l2), (0, .ref x), (1, .ref o9), (2, .int (nI gv)), (4, .int (nI k)), (5, .int (nI 1)), (6, .int (nI kk))]) hx hb dL_isRun_149 hl (by decide) rfl (fun ls hl => ?_)
            refine lv_iload hx hb dL_isRun_151 (lv_at hl 3 rfl) ?_
            refine lv_iconst (v := -1) hx hb dL_isRun_153 ci_m1 ?_
            refine lv_icmp_ne (tgt := 183) hx hb dL_isRun_154 (by decide) (fun z => absurd rfl z) (fun _ => ?_)
            refine lv_iload hx hb dL_isRun_157 (lv_at hl 4 rfl) ?_
            refine sb_if_ne (tgt := 177) hx hb dL_isRun_159 (by decide) (fun c190 => absurd (of_decide_eq_true c190) (lz_jm hjm).2) (fun c190 => ?_)
            refine lv_aload_n hx hb dL_isRun_162 rfl (lv_at hl 7 rfl) ?_
            obtain ⟨fs0, g0⟩ := hap.at0
            refine mcV (c_X4_clock_0 hP hD hap hLR.1 ) ⟨hx, hb, hml, hown, hts⟩ hK gL_isRun_X4_clock rfl hd_X4_clock ⟨by omega, by omega⟩ (va_recv hK hP (ci := 4) (q0 := 0) rfl g0) rfl hl.1 rfl (Nat.le_of_ble_eq_true rfl) dL_isRun_163 ⟨Nat.zero_le _, Nat.zero_le _⟩ hS (fun rv ws191 H locs hq193 hP hD hS => ?_)
            obtain ⟨hr194, hap, fr192⟩ := hq193
            replace f19 := (fr192 19 (by decide)).trans f19
            refine sv_top (y := (tmM t2 l2 (T (bp C Hd b q T n k)) + nI 3)) hr194 ?_
            refine lv_iload hx hb dL_isRun_166 (lv_at hl 0 rfl) ?_
            refine lv_iconst (v := nI 3) hx hb dL_isRun_168 ci_3 ?_
            refine lv_iadd hx hb dL_isRun_169 ?_
            refine lv_icmp_ne (tgt := 177) hx hb dL_isRun_170 (by decide) (fun c195 => absurd (by unfold tmM; rw [if_pos c187, lz_n0]) c195) (fun c195 => ?_)
            refine lv_iconst (v := nI 1) hx hb dL_isRun_173 ci_1 ?_
            refine lv_goto (tgt := 178) hx hb dL_isRun_174 (by decide) ?_
            refine lv_istore (lv' := [(5, .int (nI 1)), (7, .int (t2 + (nI 0))), (3, .int (nI (ch + 0))), (12, .int (nI 0)), (11, .int (-1)), (10, .int (bI (decide (2 ≤ K2 (bp C Hd b q T n k))))), (9, .int (nI (bp C Hd b q T n k))), (8, .int l2), (0, .ref x), (1, .ref o9), (2, .int (nI gv)), (4, .int (nI k)), (6, .int (nI kk))]) hx hb dL_isRun_178 hl (by decide) rfl (fun ls hl => ?_)
            refine lv_goto (tgt := 258) hx hb dL_isRun_180 (by decide) ?_
            refine lv_iinc (v := nI (kk + 1)) (lv' := [(6, .int (nI (kk + 1))), (5, .int (nI 1)), (7, .int (t2 + (nI 0))), (3, .int (nI (ch + 0))), (12, .int (nI 0)), (11, .int (-1)), (10, .int (bI (decide (2 ≤ K2 (bp C Hd b q T n k))))), (9, .int (nI (bp C Hd b q T n k))), (8, .int l2), (0, .ref x), (1, .ref o9), (2, .int (nI gv)), (4, .int (nI k))]) hx hb dL_isRun_258 hl (k := 12) rfl (nI_1 _) (by decide) rfl (fun ls hl => ?_)
            refine lv_goto (tgt := 48) hx hb dL_isRun_261 (by decide) ?_
            exact ih48 (kk + 1) k (ch + 0) ((upX J2 (bp C Hd b q T n k) (J2 (bp C Hd b q T n k) - 1))) ((upX K2 (bp C Hd b q T n k) (K2 (bp C Hd b q T n k) + 1))) ((tmM t2 l2 (T (bp C Hd b q T n k)) + nI 3)) (nI (T (bp C Hd b q T n k))) (by omega) _ _ (by omega) (by rw [lz_sm1 n (hbpn _ (by omega))]; omega) (lz_up i48_2 (by have := i48_2 (bp C Hd b q T n k); omega)) (lz_up i48_3 (by have := (lz_jm hjm).2; omega)) (TRI.jam (by omega) ((i48_4.go (by omega) hT hf (by omega)).1 c187)) (fun z => absurd z (by omega)) hP hD f19 hap ((((((((fr.wd frwl48 : fr _ _ 0 18).tr fr93).tr fr97).tr fr101).tr fr105).tr fr180).tr fr184).tr fr192) ls locs (lv_sub hl [9, 10, 11, 3, 12, 1, 0] rfl) hS
          · refine lv_iconst (v := nI 1) hx hb dL_isRun_116 ci_1 ?_
            refine lv_goto (tgt := 121) hx hb dL_isRun_117 (by decide) ?_
            refine lv_istore (lv' := [(12, .int (nI 1)), (11, .int (-1)), (10, .int (bI (decide (2 ≤ K2 (bp C Hd b q T n k))))), (9, .int (nI (bp C Hd b q T n k))), (8, .int l2), (7, .int t2), (0, .ref x), (1, .ref o9), (2, .int (nI gv)), (3, .int (nI ch)), (4, .int (nI k)), (5, .int (nI 1)), (6, .int (nI kk))]) hx hb dL_isRun_121 hl (by decide) rfl (fun ls hl => ?_)
            refine lv_iload_n hx hb dL_isRun_123 rfl (lv_at hl 9 rfl) ?_
            refine lv_iload hx hb dL_isRun_124 (lv_at hl 0 rfl) ?_
            refine sn_if_eq (tgt := 133) hx hb dL_isRun_126 (by decide) (by decide) (fun q => absurd q (by decide)) (fun _ => ?_)
            refine lv_iconst (v := nI 1) hx hb dL_isRun_129 ci_1 ?_
            refine lv_goto (tgt := 134) hx hb dL_isRun_130 (by decide) ?_
            refine lv_iadd hx hb dL_isRun_134 ?_
            refine sv_top (y := nI (ch + 1)) (nI_add _ _) ?_
            refine lv_istore_n (lv' := [(3, .int (nI (ch + 1))), (12, .int (nI 1)), (11, .int (-1)), (10, .int (bI (decide (2 ≤ K2 (bp C Hd b q T n k))))), (9, .int (nI (bp C Hd b q T n k))), (8, .int l2), (7, .int t2), (0, .ref x), (1, .ref o9), (2, .int (nI gv)), (4, .int (nI k)), (5, .int (nI 1)), (6, .int (nI kk))]) hx hb dL_isRun_135 rfl hl (by decide) rfl (fun ls hl => ?_)
            refine lv_iload hx hb dL_isRun_136 (lv_at hl 6 rfl) ?_
            refine lv_iload hx hb dL_isRun_138 (lv_at hl 1 rfl) ?_
            refine sn_if_eq (tgt := 147) hx hb dL_isRun_140 (by decide) (by decide) (fun q => absurd q (by decide)) (fun _ => ?_)
            refine lv_iconst (v := nI 5) hx hb dL_isRun_143 ci_5 ?_
            refine lv_goto (tgt := 148) hx hb dL_isRun_144 (by decide) ?_
            refine lv_iadd hx hb dL_isRun_148 ?_
            refine lv_istore (lv' := [(7, .int (t2 + (nI 5))), (3, .int (nI (ch + 1))), (12, .int (nI 1)), (11, .int (-1)), (10, .int (bI (decide (2 ≤ K2 (bp C Hd b q T n k))))), (9, .int (nI (bp C Hd b q T n k))), (8, .int l2), (0, .ref x), (1, .ref o9), (2, .int (nI gv)), (4, .int (nI k)), (5, .int (nI 1)), (6, .int (nI kk))]) hx hb dL_isRun_149 hl (by decide) rfl (fun ls hl => ?_)
            refine lv_iload hx hb dL_isRun_151 (lv_at hl 3 rfl) ?_
            refine lv_iconst (v := -1) hx hb dL_isRun_153 ci_m1 ?_
            refine lv_icmp_ne (tgt := 183) hx hb dL_isRun_154 (by decide) (fun z => absurd rfl z) (fun _ => ?_)
            refine lv_iload hx hb dL_isRun_157 (lv_at hl 4 rfl) ?_
            refine sb_if_ne (tgt := 177) hx hb dL_isRun_159 (by decide) (fun c198 => absurd (of_decide_eq_true c198) (lz_jm hjm).2) (fun c198 => ?_)
            refine lv_aload_n hx hb dL_isRun_162 rfl (lv_at hl 7 rfl) ?_
            obtain ⟨fs0, g0⟩ := hap.at0
            refine mcV (c_X4_clock_0 hP hD hap hLR.1 ) ⟨hx, hb, hml, hown, hts⟩ hK gL_isRun_X4_clock rfl hd_X4_clock ⟨by omega, by omega⟩ (va_recv hK hP (ci := 4) (q0 := 0) rfl g0) rfl hl.1 rfl (Nat.le_of_ble_eq_true rfl) dL_isRun_163 ⟨Nat.zero_le _, Nat.zero_le _⟩ hS (fun rv ws199 H locs hq201 hP hD hS => ?_)
            obtain ⟨hr202, hap, fr200⟩ := hq201
            replace f19 := (fr200 19 (by decide)).trans f19
            refine sv_top (y := (tmM t2 l2 (T (bp C Hd b q T n k)) + nI 3)) hr202 ?_
            refine lv_iload hx hb dL_isRun_166 (lv_at hl 0 rfl) ?_
            refine lv_iconst (v := nI 3) hx hb dL_isRun_168 ci_3 ?_
            refine lv_iadd hx hb dL_isRun_169 ?_
            refine lv_icmp_ne (tgt := 177) hx hb dL_isRun_170 (by decide) (fun c203 => absurd (by unfold tmM; rw [if_neg c187]) c203) (fun c203 => ?_)
            refine lv_iconst (v := nI 1) hx hb dL_isRun_173 ci_1 ?_
            refine lv_goto (tgt := 178) hx hb dL_isRun_174 (by decide) ?_
            refine lv_istore (lv' := [(5, .int (nI 1)), (7, .int (t2 + (nI 5))), (3, .int (nI (ch + 1))), (12, .int (nI 1)), (11, .int (-1)), (10, .int (bI (decide (2 ≤ K2 (bp C Hd b q T n k))))), (9, .int (nI (bp C Hd b q T n k))), (8, .int l2), (0, .ref x), (1, .ref o9), (2, .int (nI gv)), (4, .int (nI k)), (6, .int (nI kk))]) hx hb dL_isRun_178 hl (by decide) rfl (fun ls hl => ?_)
            refine lv_goto (tgt := 258) hx hb dL_isRun_180 (by decide) ?_
            refine lv_iinc (v := nI (kk + 1)) (lv' := [(6, .int (nI (kk + 1))), (5, .int (nI 1)), (7, .int (t2 + (nI 5))), (3, .int (nI (ch + 1))), (12, .int (nI 1)), (11, .int (-1)), (10, .int (bI (decide (2 ≤ K2 (bp C Hd b q T n k))))), (9, .int (nI (bp C Hd b q T n k))), (8, .int l2), (0, .ref x), (1, .ref o9), (2, .int (nI gv)), (4, .int (nI k))]) hx hb dL_isRun_258 hl (k := 12) rfl (nI_1 _) (by decide) rfl (fun ls hl => ?_)
            refine lv_goto (tgt := 48) hx hb dL_isRun_261 (by decide) ?_
            exact ih48 (kk + 1) k (ch + 1) ((upX J2 (bp C Hd b q T n k) (J2 (bp C Hd b q T n k) - 1))) ((upX K2 (bp C Hd b q T n k) (K2 (bp C Hd b q T n k) + 1))) ((tmM t2 l2 (T (bp C Hd b q T n k)) + nI 3)) (nI (T (bp C Hd b q T n k))) (by omega) _ _ (by omega) (by rw [lz_sm1 n (hbpn _ (by omega))]; omega) (lz_up i48_2 (by have := i48_2 (bp C Hd b q T n k); omega)) (lz_up i48_3 (by have := (lz_jm hjm).2; omega)) (TRI.jam (by omega) ((i48_4.go (by omega) hT hf (by omega)).2 c187)) (fun z => absurd z (by omega)) hP hD f19 hap ((((((((fr.wd frwl48 : fr _ _ 0 18).tr fr93).tr fr97).tr fr101).tr fr105).tr fr180).tr fr184).tr fr200) ls locs (lv_sub hl [9, 10, 11, 3, 12, 1, 0] rfl) hS
  exact L48 ((4 * n - 0) + 1) 0 0 0 J ((zro K 8)) ((nI 0)) ((-1)) (Nat.lt_succ_self _) _ _ (Nat.zero_le _) (Nat.zero_le _) hJ (lz_zro2 hK2) TRI.st (fun z => absurd z (by omega)) hP hD f19 hap ((((fr.wd fr2 : fr _ _ 0 18).tr fr6).tr fr11).tr fr16) ls locs (lv_sub hl [4, 5, 6, 3, 2, 1, 0] rfl) hS
