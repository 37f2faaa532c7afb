theorem bi_40 : (Int8.ofInt 40).toInt32 = nI 40 := by decide +kernel

/-- an array class, as the tables know it -/
theorem arr_KI {s : State} {av : Array Value} (h : (Cond.arrayClass .int).before av s = true) : ∃ cA : ClassId, ArrOfT s cA .int ∧ va_RA s cA .int := by
  obtain ⟨cA, kA, comp, hfind, hk, hkind⟩ := Cond.arrayClass_spec h
  exact ⟨cA, fun n z => ⟨fun k h => (by cases h), kA, hk, comp, hkind⟩, hfind⟩
theorem arr_KZ {s : State} {av : Array Value} (h : (Cond.arrayClass .boolean).before av s = true) : ∃ cA : ClassId, ArrOfT s cA .boolean ∧ va_RA s cA .boolean := by
  obtain ⟨cA, kA, comp, hfind, hk, hkind⟩ := Cond.arrayClass_spec h
  exact ⟨cA, fun n z => ⟨fun k h => (by cases h), kA, hk, comp, hkind⟩, hfind⟩
set_option maxHeartbeats 4000000 in
set_option maxRecDepth 100000 in
/-- from the entry, for every script of at most 260 ints, the law comes to its end with true -/
theorem whole_start {p : Program} {e : Env} {s : State} {m : MethodId} {below : List Frame} {meth : Method} {c : Code} (l : Launch) (hflags : l.flags = flags0) {b L : Nat} {xs : Nat → Int32} (hL : L ≤ 260) (C0 : lw_At p s m meth c b L xs) : W p l e room_1 s m #[Value.ref b] below meth c s.heap [] 0 0 (lw_Z below #[Value.ref b] s) (entryFrame m ([Value.ref b] : List Value).toArray 9) := by
  generalize b = sc at C0 ⊢
  obtain ⟨hx, hb, hr, hml, hown, hts0, hX, hbl, hlocks, hgv⟩ := id C0
  have hown : s.vm.findClass RL = some m.cls := hown
  have hts : ∀ w ∈ wsL_law, w.before #[Value.ref sc] s = true := fun w h => hts0 w (wsL_law_in w h)
  have hA : ∀ q : Nat, s.heap.size ≤ q → (fun q : Nat => s.heap.size ≤ q) q := fun _ h => h
  have hbA : ¬ (fun q : Nat => s.heap.size ≤ q) sc := Nat.not_le.mpr hbl
  obtain ⟨c0, iS0, hKn0⟩ := u_known (C := RX0) (T := TX0) (N := 8) (n := 8) hts inlX0 (hts (.instantiable RX0 8) (by decide +kernel))
  obtain ⟨c1, iS1, hKn1⟩ := u_known (C := RX1) (T := TX1) (N := 8) (n := 8) hts inlX1 (hts (.instantiable RX1 8) (by decide +kernel))
  obtain ⟨c2, iS2, hKn2⟩ := u_known (C := RX2) (T := TX2) (N := 6) (n := 6) hts inlX2 (hts (.instantiable RX2 6) (by decide +kernel))
  obtain ⟨c3, iS3, hKn3⟩ := u_known (C := RX3) (T := TX3) (N := 6) (n := 6) hts inlX3 (hts (.instantiable RX3 6) (by decide +kernel))
  obtain ⟨c4, iS4, hKn4⟩ := u_known (C := RX4) (T := TX4) (N := 4) (n := 4) hts inlX4 (hts (.instantiable RX4 4) (by decide +kernel))
  obtain ⟨D, hKc⟩ : ∃ D : va_G, ∀ (k : Nat) (q : vw_C), CL[k]? = some q → u_Kn s q.1 q.2.1 q.2.2 (D.1 k) (D.2 k) := by
    refine ⟨(fun k => [c0, c1, c2, c3, c4].getD k c0, fun k => [iS0, iS1, iS2, iS3, iS4].getD k iS0), ?_⟩
    intro k q hq
    match k, hq with
    | 0, hq => cases hq; exact hKn0
    | 1, hq => cases hq; exact hKn1
    | 2, hq => cases hq; exact hKn2
    | 3, hq => cases hq; exact hKn3
    | 4, hq => cases hq; exact hKn4
    | k + 5, hq => simp [CL] at hq
  obtain ⟨aI, hI1, hI2⟩ := arr_KI (hts (.arrayClass .int) (by decide +kernel))
  obtain ⟨aZ, hZ1, hZ2⟩ := arr_KZ (hts (.arrayClass .boolean) (by decide +kernel))
  have hK : ap_K D (aI, aZ, 0) s := by
    refine ⟨hKc, fun k q hq => ?_⟩
    match k, hq with
    | 0, hq => cases hq; exact ⟨hI1, hI2⟩
    | 1, hq => cases hq; exact ⟨hZ1, hZ2⟩
    | k + 2, hq => simp at hq
  generalize (aI, aZ, 0) = ky at hK
  have hNW : va_Nw NW s := va_Nw.of rfl (hts0 NW (by decide +kernel))
  have hS : va_S (fun q : Nat => s.heap.size ≤ q) s.heap s.heap [] := va_S.rf
  have hP : va_P D CL [] s.heap := fun k q h => by simp at h
  have hD : va_D (fun q : Nat => s.heap.size ≤ q) [] := ⟨fun i j p q h => by simp at h, fun k q h => by simp at h⟩
  have hRc : room_1.cells = 600104 := rfl
  have hRs : room_1.slots = 7301314 := rfl
  have hRf : room_1.frames = 2048 := rfl
  have hRl : room_1.locals = 84000 := rfl
  have hl := lv_entry ([.ref sc]) (n := 9) (Nat.le_of_ble_eq_true rfl)
  rw [lg_entry_eq]
  generalize (lg_sl ([.ref sc]) ++ List.replicate (9 - (lg_sl ([.ref sc])).length) Slot.unset).toArray = ls at hl ⊢
  have hl : lv_has ls 9 [(0, .ref sc)] := hl
  refine cv_new (ci := 4) (C := RX4) (T := TX4) (N := 4) hx hb hts inlX4 tyX4 tyX4_ok hown (by decide +kernel : Cond.classLink RL 11 RX4 ∈ wsL_law) (by decide +kernel) (by decide +kernel) hK hP hD hS hA (L := 0) rfl rfl [.null, .null, .null, .null] (fun j hj => by rcases (show j = 0 ∨ j = 1 ∨ j = 2 ∨ j = 3 by omega) with rfl | rfl | rfl | rfl <;> rfl) (by omega) (by omega) dL_law_0 (fun w1 x H hlen hP hD hS e0 fr1 => ?_)
  refine lv_dup hx hb dL_law_3 rfl ?_
  refine mvI2 hNW (c_X4_init (fun q z => hA q (Nat.le_trans hS.1 z)) hP hD hlen e0) ⟨hx, hb, hml, hown, hts⟩ hK gL_law_X4_init rfl (by decide +kernel) (by decide +kernel : Cond.methodLink RL 119 yX4_init ∈ wsL_law) (by decide +kernel) rfl (by decide +kernel) ⟨by omega, by omega⟩ rfl hl.1 rfl (Nat.le_of_ble_eq_true rfl) dL_law_4 ⟨by omega, by omega⟩ hS (fun w2 H locs hq hP hD hS => ?_)
  obtain ⟨hlen, hap, fr2⟩ := hq
  refine lv_astore_n (lv' := [(1, .ref x), (0, .ref sc)]) hx hb dL_law_7 rfl hl (by decide) rfl (fun ls hl => ?_)
  refine lv_bipush (v := nI 59) hx hb dL_law_8 (by decide +kernel) ?_
  refine cv_newI hx hb hts (by decide +kernel : Cond.arrayClass .int ∈ wsL_law) hK hP hD hS hA hlen (N := 59) (by decide) (by omega) (by omega) dL_law_10 (fun w5 o9 H hlen hP hD hS f19 fr5 => ?_)
  replace hap := hap.fr fr5
  have f19 : w5[19]? = some (o9, .inl (ky.1, 59, .inl (fun i => nI ((fun _ => 0) i)))) := f19
  refine lv_astore_n (lv' := [(2, .ref o9), (1, .ref x), (0, .ref sc)]) hx hb dL_law_12 rfl hl (by decide) rfl (fun ls hl => ?_)
  have hTI : TI 0 (fun _ => 0) (fun _ => 0) 0 false (fun _ => 0) := ⟨fun _ _ => rfl, fun _ _ => rfl, rfl, rfl, rfl⟩
  have hLR : LR 0 (fun _ => 0) (fun _ => 0) (fun _ => 0) 0 (fun _ => 0) (fun _ => 0) :=
    ⟨⟨by decide, by decide, fun _ => (by decide : (0 : Nat) < 2 ^ 0), fun _ => (by decide : (0 : Nat) < 2 ^ 0), fun _ _ _ _ _ _ => by show Nat.testBit 0 _ = Nat.testBit 0 _; rw [Nat.zero_testBit, Nat.zero_testBit]⟩, by decide, fun _ => (by decide : (0 : Nat) < 4), fun _ => Nat.zero_le _, fun _ => Nat.zero_le _⟩
  refine lv_aload_n hx hb dL_law_13 rfl (lv_at hl 1 rfl) ?_
  obtain ⟨fs0, g0⟩ := hap.at0
  refine mcV (c_X4_parts_0 hP hD hap hLR.1 ) ⟨hx, hb, hml, hown, hts⟩ hK gL_law_X4_parts rfl hd_X4_parts ⟨by omega, by omega⟩ (va_recv hK hP (ci := 4) (q0 := 0) rfl g0) rfl hl.1 rfl (Nat.le_of_ble_eq_true rfl) dL_law_14 ⟨by omega, by omega⟩ hS (fun rv ws1 H locs hq3 hP hD hS => ?_)
  obtain ⟨hr4, hap, fr2⟩ := hq3
  replace f19 := (fr2 19 (by decide)).trans f19
  refine sv_top (y := nI 0) hr4 ?_
  refine sn_if_ne (tgt := 39) hx hb dL_law_17 (by decide) (by decide) (fun q => absurd q (by decide)) (fun _ => ?_)
  refine lv_aload_n hx hb dL_law_20 rfl (lv_at hl 1 rfl) ?_
  refine lv_iconst (v := nI 3) hx hb dL_law_21 ci_3 ?_
  obtain ⟨fs0, g0⟩ := hap.at0
  refine mcV (c_X4_groups_0 hP hD hap hLR.1 (by decide)) ⟨hx, hb, hml, hown, hts⟩ hK gL_law_X4_groups rfl hd_X4_groups ⟨by omega, by omega⟩ (va_recv hK hP (ci := 4) (q0 := 0) rfl g0) rfl hl.1 rfl (Nat.le_of_ble_eq_true rfl) dL_law_22 ⟨by omega, by omega⟩ hS (fun rv ws6 H locs hq8 hP hD hS => ?_)
  obtain ⟨hr9, hap, fr7⟩ := hq8
  replace f19 := (fr7 19 (by decide)).trans f19
  refine sv_top (y := nI (grp (fun _ => 0) 0 3)) hr9 ?_
  refine sv_top (y := nI 0) (rfl) ?_
  refine sn_if_ne (tgt := 39) hx hb dL_law_25 (by decide) (by decide) (fun q => absurd q (by decide)) (fun _ => ?_)
  refine lv_aload_n hx hb dL_law_28 rfl (lv_at hl 1 rfl) ?_
  obtain ⟨fs0, g0⟩ := hap.at0
  refine mcV (c_X4_clock_0 hP hD hap hLR.1 ) ⟨hx, hb, hml, hown, hts⟩ hK gL_law_X4_clock rfl hd_X4_clock ⟨by omega, by omega⟩ (va_recv hK hP (ci := 4) (q0 := 0) rfl g0) rfl hl.1 rfl (Nat.le_of_ble_eq_true rfl) dL_law_29 ⟨by omega, by omega⟩ hS (fun rv ws11 H locs hq13 hP hD hS => ?_)
  obtain ⟨hr14, hap, fr12⟩ := hq13
  replace f19 := (fr12 19 (by decide)).trans f19
  refine sv_top (y := nI 0) hr14 ?_
  refine sn_if_ne (tgt := 39) hx hb dL_law_32 (by decide) (by decide) (fun q => absurd q (by decide)) (fun _ => ?_)
  refine lv_iconst (v := nI 1) hx hb dL_law_35 ci_1 ?_
  refine lv_goto (tgt := 40) hx hb dL_law_36 (by decide) ?_
  refine lv_istore_n (lv' := [(3, .int (nI 1)), (2, .ref o9), (1, .ref x), (0, .ref sc)]) hx hb dL_law_40 rfl hl (by decide) rfl (fun ls hl => ?_)
  refine lv_aload_n hx hb dL_law_41 rfl (lv_at hl 3 rfl) ?_
  refine va_slen hx hb hX hbl hbA hS dL_law_42 ?_
  refine sv_top (y := nI L) rfl ?_
  refine lv_iconst (v := nI 3) hx hb dL_law_43 ci_3 ?_
  refine sn_idiv hx hb (by omega) (by decide) (by decide) dL_law_44 ?_
  refine lv_bipush (v := nI 40) hx hb dL_law_45 bi_40 ?_
  refine sn_icmp_le (tgt := 55) hx hb dL_law_47 (by decide) (by omega) (by decide) (fun c16 => ?_) (fun c16 => ?_)
  · refine lv_aload_n hx hb dL_law_55 rfl (lv_at hl 3 rfl) ?_
    refine va_slen hx hb hX hbl hbA hS dL_law_56 ?_
    refine sv_top (y := nI L) rfl ?_
    refine lv_iconst (v := nI 3) hx hb dL_law_57 ci_3 ?_
    refine sn_idiv hx hb (by omega) (by decide) (by decide) dL_law_58 ?_
    refine lv_istore (lv' := [(4, .int (nI (L / 3))), (3, .int (nI 1)), (2, .ref o9), (1, .ref x), (0, .ref sc)]) hx hb dL_law_59 hl (by decide) rfl (fun ls hl => ?_)
    refine lv_iconst (v := nI 0) hx hb dL_law_61 ci_0 ?_
    refine lv_istore (lv' := [(5, .int (nI 0)), (4, .int (nI (L / 3))), (3, .int (nI 1)), (2, .ref o9), (1, .ref x), (0, .ref sc)]) hx hb dL_law_62 hl (by decide) rfl (fun ls hl => ?_)
    exact law_loop hL C0 hK (sp := L / 3) (by omega) ((L / 3) + 1) 0 _ H _ _ _ ls (by omega) (Nat.zero_le _) (by omega) (by omega) ⟨_, _, _, _, _, _, _, _, _, _, _, _, _, _, hap, f19, hTI, hLR, Nat.zero_le _⟩ hP hD hS (lv_sub hl [5, 4, 3, 2, 1, 0] rfl)
  · refine lv_bipush (v := nI 40) hx hb dL_law_50 bi_40 ?_
    refine lv_goto (tgt := 59) hx hb dL_law_52 (by decide) ?_
    refine lv_istore (lv' := [(4, .int (nI 40)), (3, .int (nI 1)), (2, .ref o9), (1, .ref x), (0, .ref sc)]) hx hb dL_law_59 hl (by decide) rfl (fun ls hl => ?_)
    refine lv_iconst (v := nI 0) hx hb dL_law_61 ci_0 ?_
    refine lv_istore (lv' := [(5, .int (nI 0)), (4, .int (nI 40)), (3, .int (nI 1)), (2, .ref o9), (1, .ref x), (0, .ref sc)]) hx hb dL_law_62 hl (by decide) rfl (fun ls hl => ?_)
    exact law_loop hL C0 hK (sp := 40) (by omega) ((40) + 1) 0 _ H _ _ _ ls (by omega) (Nat.zero_le _) (by omega) (by omega) ⟨_, _, _, _, _, _, _, _, _, _, _, _, _, _, hap, f19, hTI, hLR, Nat.zero_le _⟩ hP hD hS (lv_sub hl [5, 4, 3, 2, 1, 0] rfl)
