section ROWSJ
variable {p : Program} {l : Launch} {e : Env} {R : Room} {s : State} {m : MethodId} {av : Array Value} {below : List Frame} {meth : Method} {c : Code} {H : Heap} {locs : List Loc} {cells slots : Nat} {Q : State → Prop}
variable {cc : ByteArray} {pc : Nat} {ls : Array Slot} {rest st : List Value} {D : va_G} {k : kT} {A : Nat → Prop} {H0 : Heap} {ws : va_W} {a L : Nat}
theorem cv_newJ (hx : p.tables.exec = Jvm.exec) (hb : c.code = cc) {Ts : List Cond} (hts : ∀ w ∈ Ts, w.before av s = true) (harr : Cond.arrayClass .long ∈ Ts) (hK : ap_K D k s) (hP : va_P D CL ws H) (hD : va_D A ws) (hS : va_S A H0 H locs) (hA : ∀ q, H0.size ≤ q → A q) (hlen : ws.length = L) {N : Nat} (hN : N < 2 ^ 26) (hcells : cells + 1 ≤ R.cells) (hslots : slots + N ≤ R.slots) (hdg : decode cc pc = .ok (.newarray .long, 2))
    (kk : ∀ (ws1 : va_W) (q : Nat) (H1 : Heap), ws1.length = L + 1 → va_P D CL ws1 H1 → va_D A ws1 → va_S A H0 H1 locs → ws1[L]? = some (q, .inl (k.2.2, N, .inr (.inl (fun _ => 0)))) → fr ws ws1 L L →
      W p l e R s m av below meth c H1 locs (cells + 1) (slots + N) Q (F0 m (pc + 2) ls (.ref q :: rest))) : W p l e R s m av below meth c H locs cells slots Q (F0 m pc ls (.int (nI N) :: rest)) := by
  refine va_newa (atype := .long) (ty := .long) (N' := N) (a0 := (N, .inr (.inl (fun _ => 0)))) hx hb (hts _ harr) rfl hK hP hD hS hA (fun _ => rfl) (nI_pos (by omega)) (nI_clamp (by omega)) (by show N * 8 ≤ 536870912; omega) hcells hslots hdg (fun q cA H1 hK1 hP1 hD1 hS1 => ?_)
  have e1 : cA = k.2.2 := Option.some.inj ((va_nm_long (hK1.2 3 _ rfl).2).symm.trans (va_nm_long (hK.2 2 _ rfl).2))
  subst e1
  exact kk _ q H1 (by rw [List.length_append, hlen]; rfl) hP1 hD1 hS1 (psh_at hlen) (psh_fr hlen)
end ROWSJ
/-- an array class, as the tables know it -/
theorem arr_KI {s : State} {av : Array Value} (h : (Cond.arrayClass .int).before av s = true) : ∃ cA : ClassId, ArrOfT s cA .int ∧ va_RA s cA .int := by
  obtain ⟨cA, kA, comp, hfind, hk, hkind⟩ := Cond.arrayClass_spec h
  exact ⟨cA, fun n z => ⟨fun k h => (by cases h), kA, hk, comp, hkind⟩, hfind⟩
theorem arr_KZ {s : State} {av : Array Value} (h : (Cond.arrayClass .boolean).before av s = true) : ∃ cA : ClassId, ArrOfT s cA .boolean ∧ va_RA s cA .boolean := by
  obtain ⟨cA, kA, comp, hfind, hk, hkind⟩ := Cond.arrayClass_spec h
  exact ⟨cA, fun n z => ⟨fun k h => (by cases h), kA, hk, comp, hkind⟩, hfind⟩
theorem arr_KJ {s : State} {av : Array Value} (h : (Cond.arrayClass .long).before av s = true) : ∃ cA : ClassId, ArrOfT s cA .long ∧ va_RA s cA .long := by
  obtain ⟨cA, kA, comp, hfind, hk, hkind⟩ := Cond.arrayClass_spec h
  exact ⟨cA, fun n z => ⟨fun k h => (by cases h), kA, hk, comp, hkind⟩, hfind⟩
theorem str_at {s : State} {b k : Nat} {tx : String} (h1 : (Cond.stringRef RX4 k tx).before #[Value.ref b] s = true) (h2 : (Cond.exactly (.string RX4 k) "java/lang/String").before #[Value.ref b] s = true) : ∃ sa, vk_R RX4 k tx sa s := by
  obtain ⟨a, c, cA, kA, q1, -⟩ := Cond.exactly_spec (args := #[Value.ref b]) (first := s) (o := none) (s := s) (idx := []) (t := .string RX4 k) (cls := "java/lang/String") h2
  exact ⟨a, vk_R.of h1 q1⟩
set_option maxRecDepth 100000 in
/-- from the entry, for every script of at most 2560 ints, the law comes to its end with true -/
theorem whole_start {p : Program} {e : Env} {s : State} {m : MethodId} {below : List Frame} {meth : Method} {c : Code} (l : Launch) (hflags : l.flags = flags0) {b L : Nat} {xs : Nat → Int32} (hL : L ≤ 2560) (C0 : lw_At p s m meth c b L xs) : W p l e room_1 s m #[Value.ref b] below meth c s.heap [] 0 0 (lw_Z below #[Value.ref b] s) (entryFrame m ([Value.ref b] : List Value).toArray 7) := by
  obtain ⟨hx, hb, hr, hml, hown, hts0, hX, hbl, hlocks, hgv⟩ := id C0
  have hown : s.vm.findClass RL = some m.cls := hown
  have hst : l.stackTraces = false := by rw [Launch.stackTraces, hflags]; decide +kernel
  have hts : ∀ w ∈ wsL_law, w.before #[Value.ref b] s = true := fun w h => hts0 w (wsL_law_in w h)
  have hnw := flat_of_before _ hgv
  have hA : ∀ q : Nat, s.heap.size ≤ q → (fun q : Nat => s.heap.size ≤ q) q := fun _ h => h
  have hnA : ∀ a : Nat, a < s.heap.size → ¬ (fun q : Nat => s.heap.size ≤ q) a := fun a h => Nat.not_le.mpr h
  have hbA : ¬ (fun q : Nat => s.heap.size ≤ q) b := Nat.not_le.mpr hbl
  obtain ⟨c0, iS0, hKn0⟩ := u_known (C := RX0) (T := TX0) (N := 8) (n := 8) hts inlX0 (hts (.instantiable RX0 8) (by decide +kernel))
  obtain ⟨c1, iS1, hKn1⟩ := u_known (C := RX1) (T := TX1) (N := 8) (n := 8) hts inlX1 (hts (.instantiable RX1 8) (by decide +kernel))
  obtain ⟨c2, iS2, hKn2⟩ := u_known (C := RX2) (T := TX2) (N := 6) (n := 6) hts inlX2 (hts (.instantiable RX2 6) (by decide +kernel))
  obtain ⟨c3, iS3, hKn3⟩ := u_known (C := RX3) (T := TX3) (N := 6) (n := 6) hts inlX3 (hts (.instantiable RX3 6) (by decide +kernel))
  obtain ⟨c4, iS4, hKn4⟩ := u_known (C := RX4) (T := TX4) (N := 4) (n := 4) hts inlX4 (hts (.instantiable RX4 4) (by decide +kernel))
  obtain ⟨c5, iS5, hKn5⟩ := u_known (C := RX5) (T := TX5) (N := 19) (n := 19) hts inlX5 (hts (.instantiable RX5 19) (by decide +kernel))
  obtain ⟨D, hKc⟩ : ∃ D : va_G, ∀ (k : Nat) (q : vw_C), CL[k]? = some q → u_Kn s q.1 q.2.1 q.2.2 (D.1 k) (D.2 k) := by
    refine ⟨(fun k => [c0, c1, c2, c3, c4, c5].getD k c0, fun k => [iS0, iS1, iS2, iS3, iS4, iS5].getD k iS0), ?_⟩
    intro k q hq
    match k, hq with
    | 0, hq => cases hq; exact hKn0
    | 1, hq => cases hq; exact hKn1
    | 2, hq => cases hq; exact hKn2
    | 3, hq => cases hq; exact hKn3
    | 4, hq => cases hq; exact hKn4
    | 5, hq => cases hq; exact hKn5
    | k + 6, hq => simp [CL] at hq
  obtain ⟨aI, hI1, hI2⟩ := arr_KI (hts (.arrayClass .int) (by decide +kernel))
  obtain ⟨aZ, hZ1, hZ2⟩ := arr_KZ (hts (.arrayClass .boolean) (by decide +kernel))
  obtain ⟨aJ, hJ1, hJ2⟩ := arr_KJ (hts (.arrayClass .long) (by decide +kernel))
  have hK : ap_K D (aI, aZ, aJ) s := by
    refine ⟨hKc, fun k q hq => ?_⟩
    match k, hq with
    | 0, hq => cases hq; exact ⟨hI1, hI2⟩
    | 1, hq => cases hq; exact ⟨hZ1, hZ2⟩
    | 2, hq => cases hq; exact ⟨hJ1, hJ2⟩
    | k + 3, hq => simp at hq
  generalize (aI, aZ, aJ) = ky at hK
  have hXE : XE (fun q : Nat => s.heap.size ≤ q) s s.heap := by
    refine ⟨⟨va_Nw.of rfl (hts0 (.castable EXA EXA) (by decide +kernel)), va_Nw.of rfl (hts0 (.castable EXS EXS) (by decide +kernel)), va_Nw.of rfl (hts0 (.castable EXI EXI) (by decide +kernel))⟩,
      ⟨va_Nw.of rfl (hts0 (.declares (Bundle.initS "java/lang/RuntimeException")) (by decide +kernel)), va_Nw.of rfl (hts0 (.declares (Bundle.initS "java/lang/Exception")) (by decide +kernel)), va_Nw.of rfl (hts0 (.declares (Bundle.initS Bundle.tN)) (by decide +kernel))⟩,
      vx_Zqof (hts0 (.laysStatic Bundle.tN "UNASSIGNED_STACK" Bundle.steD) (by decide +kernel)) (hts0 (.initialized Bundle.tN) (by decide +kernel)) (hnw (.isRef (.static Bundle.tN "UNASSIGNED_STACK" Bundle.steD)) (by decide +kernel)) hnA,
      vx_Zqof (hts0 (.laysStatic Bundle.tN "SUPPRESSED_SENTINEL" Bundle.listD) (by decide +kernel)) (hts0 (.initialized Bundle.tN) (by decide +kernel)) (hnw (.isRef (.static Bundle.tN "SUPPRESSED_SENTINEL" Bundle.listD)) (by decide +kernel)) hnA, ?_⟩
    intro x hx
    have h1 : ∀ x ∈ STR, Cond.stringRef RX4 x.1 x.2 ∈ lw_tbl := by decide +kernel
    have h2 : ∀ x ∈ STR, Cond.exactly (.string RX4 x.1) "java/lang/String" ∈ flatC (Jvm.Cond.and given_1 narrow_1) := by decide +kernel
    exact str_at (hts0 _ (h1 x hx)) (hnw _ (h2 x hx))
  have hNC : NC s := ⟨va_Nc.of (hnw (.not (.castable EXS EXA)) (by decide +kernel)), va_Nc.of (hnw (.not (.castable EXA EXI)) (by decide +kernel))⟩
  have hNW : va_Nw NW s := va_Nw.of rfl (hts0 NW (by decide +kernel))
  have hC : LC p s m #[Value.ref b] c room_1 D ky (fun q : Nat => s.heap.size ≤ q) b L xs := ⟨hx, hb, hml, hown, hts, hK, hXE, hNC, hX, hbl, hbA, hL, by show 24 ≤ 2048; decide, by show 700 ≤ 84000; decide⟩
  have hS : va_S (fun q : Nat => s.heap.size ≤ q) s.heap s.heap [] := va_S.rf
  have hP : va_P D CL [] s.heap := fun k q h => by simp at h
  have hD : va_D (fun q : Nat => s.heap.size ≤ q) [] := ⟨fun i j p q h => by simp at h, fun k q h => by simp at h⟩
  have hRc : room_1.cells = 601024 := rfl
  have hRs : room_1.slots = 7293034 := rfl
  have hRf : room_1.frames = 2048 := rfl
  have hRl : room_1.locals = 84000 := rfl
  have hl := lv_entry ([.ref b]) (n := 7) (Nat.le_of_ble_eq_true rfl)
  rw [lg_entry_eq]
  generalize (lg_sl ([.ref b]) ++ List.replicate (7 - (lg_sl ([.ref b])).length) Slot.unset).toArray = ls at hl ⊢
  have hl : lv_has ls 7 [(0, .ref b)] := hl
  refine cv_new (ci := 4) (C := RX4) (T := TX4) (N := 4) hx hb hts inlX4 tyX4 tyX4_ok hown (by decide +kernel : Cond.classLink RL 8 RX4 ∈ wsL_law) (by decide +kernel) (by decide +kernel) hK hP hD hS hA (L := 0) rfl rfl [.null, .null, .null, .null] (fun j hj => by rcases (show j = 0 ∨ j = 1 ∨ j = 2 ∨ j = 3 by omega) with rfl | rfl | rfl | rfl <;> rfl) (by omega) (by omega) dL_law_0 (fun w1 x H hlen hP hD hS e0 fr1 => ?_)
  refine lv_dup hx hb dL_law_3 rfl ?_
  refine mvI2 hNW (c_X4_init (fun q z => hA q (Nat.le_trans hS.1 z)) hP hD hlen e0) ⟨hx, hb, hml, hown, hts⟩ hK gL_law_X4_init rfl (by decide +kernel) (by decide +kernel : Cond.methodLink RL 94 yX4_init ∈ wsL_law) (by decide +kernel) rfl (by decide +kernel) ⟨by omega, by omega⟩ rfl hl.1 rfl (Nat.le_of_ble_eq_true rfl) dL_law_4 ⟨by omega, by omega⟩ hS (fun w2 H locs hq hP hD hS => ?_)
  obtain ⟨hlen, hap, fr2⟩ := hq
  refine lv_astore_n (lv' := [(1, .ref x), (0, .ref b)]) hx hb dL_law_7 rfl hl (by decide) rfl (fun ls hl => ?_)
  refine cv_new (ci := 5) (C := RX5) (T := TX5) (N := 19) hx hb hts inlX5 tyX5 tyX5_ok hown (by decide +kernel : Cond.classLink RL 95 RX5 ∈ wsL_law) (by decide +kernel) (by decide +kernel) hK hP hD hS hA hlen rfl [.int (nI 0), .int (nI 0), .null, .null, .null, .int (nI 0), .int (bI false), .null, .int (bI false), .int (nI 0), .int (nI 0), .int (nI 0), .int (nI 0), .null, .null, .null, .null, .null, .null] (fun j hj => by rcases (show j = 0 ∨ j = 1 ∨ j = 2 ∨ j = 3 ∨ j = 4 ∨ j = 5 ∨ j = 6 ∨ j = 7 ∨ j = 8 ∨ j = 9 ∨ j = 10 ∨ j = 11 ∨ j = 12 ∨ j = 13 ∨ j = 14 ∨ j = 15 ∨ j = 16 ∨ j = 17 ∨ j = 18 by omega) with rfl | rfl | rfl | rfl | rfl | rfl | rfl | rfl | rfl | rfl | rfl | rfl | rfl | rfl | rfl | rfl | rfl | rfl | rfl <;> rfl) (by omega) (by omega) dL_law_8 (fun w3 mo H hlen hP hD hS e19 fr3 => ?_)
  replace hap := hap.fr fr3
  refine lv_dup hx hb dL_law_11 rfl ?_
  refine mvI (c_X5_init (fun q z => hA q (Nat.le_trans hS.1 z)) hP hD hlen e19) ⟨hx, hb, hml, hown, hts⟩ hK gL_law_X5_init rfl (by decide +kernel) (by decide +kernel : Cond.methodLink RL 97 yX5_init ∈ wsL_law) (by decide +kernel) rfl (by decide +kernel) ⟨by omega, by omega⟩ rfl hl.1 rfl (Nat.le_of_ble_eq_true rfl) dL_law_12 ⟨by omega, by omega⟩ hS (fun w4 H locs hq hP hD hS => ?_)
  obtain ⟨hlen, hmd, fr4⟩ := hq
  replace hap := hap.fr fr4
  refine lv_astore_n (lv' := [(2, .ref mo), (1, .ref x), (0, .ref b)]) hx hb dL_law_15 rfl hl (by decide) rfl (fun ls hl => ?_)
  refine lv_iconst (v := nI 1) hx hb dL_law_16 ci_1 ?_
  refine cv_newJ hx hb hts (by decide +kernel : Cond.arrayClass .long ∈ wsL_law) hK hP hD hS hA hlen (N := 1) (by decide) (by omega) (by omega) dL_law_17 (fun w5 o H hlen hP hD hS eo fr5 => ?_)
  replace hap := hap.fr fr5
  replace hmd := hmd.fr fr5
  refine lv_astore_n (lv' := [(3, .ref o), (2, .ref mo), (1, .ref x), (0, .ref b)]) hx hb dL_law_19 rfl hl (by decide) rfl (fun ls hl => ?_)
  refine lv_iconst (v := nI 0) hx hb dL_law_20 ci_0 ?_
  refine lv_istore (lv' := [(4, .int (nI 0)), (3, .ref o), (2, .ref mo), (1, .ref x), (0, .ref b)]) hx hb dL_law_21 hl (by decide) rfl (fun ls hl => ?_)
  have hLR : LR 0 (fun _ => 0) (fun _ => 0) (fun _ => 0) 0 false (fun _ => 0) false 0 0 (nI 0) (-1) (fun _ => 0) 0 0 (nI 0) (nI 0) (fun _ => 0) :=
    ⟨⟨by decide, by decide, fun _ => (by decide : (0 : Nat) < 2 ^ 0), fun _ => (by decide : (0 : Nat) < 2 ^ 0), fun _ _ _ _ _ _ => by show Nat.testBit 0 _ = Nat.testBit 0 _; rw [Nat.zero_testBit, Nat.zero_testBit]⟩, fun _ => (by decide : (0 : Nat) < 4), fun _ => Nat.zero_le _, fun _ => Nat.zero_le _, fun _ => Nat.zero_le _, fun _ _ => ⟨rfl, rfl⟩, fun z => Bool.noConfusion z, fun _ => ⟨rfl, rfl, rfl, rfl, rfl⟩⟩
  exact law_loop hst C0 hC (L + 1) 0 w5 H _ _ _ ls (Nat.zero_le _) (by omega) (by omega) (by omega) ⟨_, _, _, _, _, _, _, _, _, _, _, _, _, _, _, _, _, _, _, _, hap, hmd, eo, hLR⟩ hP hD hS (lv_sub hl [0, 4, 3, 2, 1] rfl)
