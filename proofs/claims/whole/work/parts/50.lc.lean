set_option maxHeartbeats 4000000 in
set_option maxRecDepth 100000 in
theorem lc_addPart {p : Program} {l : Launch} {e : Env} {R : Room} {s : State} {mi : MethodId} {av : Array Value} {below : List Frame} {meth : Method} {c : Code} {Q : State → Prop} {D : va_G} {ky : kT} {A : Nat → Prop} {sb L : Nat} {xs : Nat → Int32} (hst : l.stackTraces = false) (hC : LC p s mi av c R D ky A sb L xs) {ws : va_W} {H : Heap} {locs : List Loc} {cells slots : Nat} (hP : va_P D CL ws H) (hD : va_D A ws) (hS : va_S A s.heap H locs) (hc : cells + 1 ≤ R.cells) (hs : slots + 6 ≤ R.slots) {x m o i : Nat} (hi : i + 5 ≤ L) (hLI : LI ky ws x m o)
    (kk : ∀ (w : va_W) (H1 : Heap) (locs1 : List Loc) (ls1 : Array Slot), LI ky w x m o → va_P D CL w H1 → va_D A w → va_S A s.heap H1 locs1 → lv_has ls1 7 (hdl sb x m o (i + 5)) → W p l e R s mi av below meth c H1 locs1 (cells + 1) (slots + 6) Q (F0 mi 23 ls1 [])) (ls : Array Slot) (hl : lv_has ls 7 (hdl sb x m o i)) : W p l e R s mi av below meth c H locs cells slots Q (F0 mi 168 ls []) := by
  obtain ⟨n, T, C, Hd, b, q, J, bg, pi, bu, tm, tl, K, th, pu, bu9, cl, mo, K9, f, hap, hmd, heo, hLR⟩ := hLI
  obtain ⟨hI, hT, hJ, hK, hK9, hz8, hbt, hbf⟩ := id hLR
  obtain ⟨fs0, e0⟩ := hap.at0
  have hn8 := hI.1
  cases hk : prt 4 (xs (i + 1))
  · refine lk_addPart hC hP hD hS hc hs hi (P1 := fun w => AP ky w x n T C Hd b q J bg pi bu tm tl K ∧ MD ky w m th n T C Hd b q J bg pu bu9 cl mo K9 ∧ isOut ky w o f) (P2 := fun r w => AP ky w x n T C Hd b q J bg pi bu tm tl K ∧ MD ky w m 1 n T C Hd b q J bg pu bu9 cl mo K9 ∧ isOut ky w o f) (kc := 1) (by decide) ?_ ?_ ?_ ?_ ?_ ls hl
    · skip
      refine WU.mono (wxA_addPart hP hD e0 heo (by decide) (by decide) (x_X4_addPart_1 hst hP hD hap hI hk)) (fun r w z => ?_)
      obtain ⟨h1, hap1, hf1⟩ := z
      exact ⟨h1, hap1, hmd.fr hf1, heo.fr hf1⟩
    · intro w H1 hp hP1 hD1
      obtain ⟨hap1, hmd1, hg1⟩ := hp
      refine ⟨hmd1.at19, ?_⟩
      obtain ⟨fw, fd, fc, fg, fo, hmd2⟩ := hmd1
      skip
      refine ⟨_, _, ?_, ?_, MU.mono (c_X5_addPart_1 hP1 hD1 hmd2 hk) (fun r w2 z => ?_)⟩
      · decide
      · decide
      · obtain ⟨-, h2, h3⟩ := z
        exact ⟨hap1.fr h3, h2.md, hg1.fr h3⟩
    · intro r w z; exact z.2.1.thr
    · intro r w z h; exact absurd h (by decide)
    · intro r w H1 locs1 ls1 z hP1 hD1 hS1 hl1
      obtain ⟨hap1, hmd1, hg1⟩ := z
      exact kk w H1 locs1 ls1 ⟨_, _, _, _, _, _, _, _, _, _, _, _, _, _, _, _, _, _, _, _, hap1, hmd1, hg1, hLR⟩ hP1 hD1 hS1 hl1
  · obtain ⟨t, ht, hx1⟩ := prt_ex hk (show 4 ≤ 8 by decide)
    by_cases hn : n < 8
    · refine lk_addPart hC hP hD hS hc hs hi (P1 := fun w => AP ky w x (n + 1) (upX T n t) C Hd b q J false 0 0 ((nI 0)) ((-1)) ((zro K 8)) ∧ MD ky w m th n T C Hd b q J bg pu bu9 cl mo K9 ∧ ∃ g : Nat → Int64, isOut ky w o g ∧ g 0 = ((nI n) : Int32).toInt64) (P2 := fun r w => r = nI n ∧ AP ky w x (n + 1) (upX T n t) C Hd b q J false 0 0 ((nI 0)) ((-1)) ((zro K 8)) ∧ MD ky w m 0 (n + 1) (upX T n t) C Hd b q J false pu bu9 cl mo K9 ∧ ∃ g : Nat → Int64, isOut ky w o g ∧ g 0 = ((nI n) : Int32).toInt64) (kc := 0) (by decide) ?_ ?_ ?_ ?_ ?_ ls hl
      · rw [hx1]
        refine WU.mono (wk_addPart hP hD e0 heo (by decide) (by decide) (fun r w z => z.2.2) (c_X4_addPart_0 hP hD hap hI ht hn)) (fun r w z => ?_)
        obtain ⟨h1, r1, w1, ⟨rfl, hap1, hf1⟩, hf2, g, hg1, hg2⟩ := z
        exact ⟨h1, hap1.fr hf2, (hmd.fr hf1).fr hf2, g, hg1, hg2⟩
      · intro w H1 hp hP1 hD1
        obtain ⟨hap1, hmd1, g, hg1, hg2⟩ := hp
        refine ⟨hmd1.at19, ?_⟩
        obtain ⟨fw, fd, fc, fg, fo, hmd2⟩ := hmd1
        rw [hx1]
        refine ⟨_, _, ?_, ?_, MU.mono (c_X5_addPart_0 hP1 hD1 hmd2 ht hn) (fun r w2 z => ?_)⟩
        · decide
        · decide
        · obtain ⟨h1, h2, h3⟩ := z
          exact ⟨h1, hap1.fr h3, h2.md, g, hg1.fr h3, hg2⟩
      · intro r w z; exact z.2.2.1.thr
      · intro r w z _
        obtain ⟨h1, -, -, g, hg1, hg2⟩ := z
        exact ⟨g, hg1, by rw [h1]; exact hg2⟩
      · intro r w H1 locs1 ls1 z hP1 hD1 hS1 hl1
        obtain ⟨-, hap1, hmd1, g, hg1, -⟩ := z
        exact kk w H1 locs1 ls1 ⟨_, _, _, _, _, _, _, _, _, _, _, _, _, _, _, _, _, _, _, _, hap1, hmd1, hg1, (hLR.told (PI0_add hI hn) (fun z => by unfold upX; split; exact ht; exact hT z))⟩ hP1 hD1 hS1 hl1
    · have hn : n = 8 := by omega
      refine lk_addPart hC hP hD hS hc hs hi (P1 := fun w => AP ky w x n T C Hd b q J bg pi bu tm tl K ∧ MD ky w m th n T C Hd b q J bg pu bu9 cl mo K9 ∧ isOut ky w o f) (P2 := fun r w => AP ky w x n T C Hd b q J bg pi bu tm tl K ∧ MD ky w m 2 n T C Hd b q J bg pu bu9 cl mo K9 ∧ isOut ky w o f) (kc := 2) (by decide) ?_ ?_ ?_ ?_ ?_ ls hl
      · rw [hx1]
        refine WU.mono (wxS_addPart hP hD e0 heo (by decide) (by decide) (x_X4_addPart_2 hst hP hD hap hI ht hn)) (fun r w z => ?_)
        obtain ⟨h1, hap1, hf1⟩ := z
        exact ⟨h1, hap1, hmd.fr hf1, heo.fr hf1⟩
      · intro w H1 hp hP1 hD1
        obtain ⟨hap1, hmd1, hg1⟩ := hp
        refine ⟨hmd1.at19, ?_⟩
        obtain ⟨fw, fd, fc, fg, fo, hmd2⟩ := hmd1
        rw [hx1]
        refine ⟨_, _, ?_, ?_, MU.mono (c_X5_addPart_2 hP1 hD1 hmd2 (prt_in ht (by decide)) hn) (fun r w2 z => ?_)⟩
        · decide
        · decide
        · obtain ⟨-, h2, h3⟩ := z
          exact ⟨hap1.fr h3, h2.md, hg1.fr h3⟩
      · intro r w z; exact z.2.1.thr
      · intro r w z h; exact absurd h (by decide)
      · intro r w H1 locs1 ls1 z hP1 hD1 hS1 hl1
        obtain ⟨hap1, hmd1, hg1⟩ := z
        exact kk w H1 locs1 ls1 ⟨_, _, _, _, _, _, _, _, _, _, _, _, _, _, _, _, _, _, _, _, hap1, hmd1, hg1, hLR⟩ hP1 hD1 hS1 hl1
set_option maxHeartbeats 4000000 in
set_option maxRecDepth 100000 in
theorem lc_setTool {p : Program} {l : Launch} {e : Env} {R : Room} {s : State} {mi : MethodId} {av : Array Value} {below : List Frame} {meth : Method} {c : Code} {Q : State → Prop} {D : va_G} {ky : kT} {A : Nat → Prop} {sb L : Nat} {xs : Nat → Int32} (hst : l.stackTraces = false) (hC : LC p s mi av c R D ky A sb L xs) {ws : va_W} {H : Heap} {locs : List Loc} {cells slots : Nat} (hP : va_P D CL ws H) (hD : va_D A ws) (hS : va_S A s.heap H locs) (hc : cells + 1 ≤ R.cells) (hs : slots + 6 ≤ R.slots) {x m o i : Nat} (hi : i + 5 ≤ L) (hLI : LI ky ws x m o)
    (kk : ∀ (w : va_W) (H1 : Heap) (locs1 : List Loc) (ls1 : Array Slot), LI ky w x m o → va_P D CL w H1 → va_D A w → va_S A s.heap H1 locs1 → lv_has ls1 7 (hdl sb x m o (i + 5)) → W p l e R s mi av below meth c H1 locs1 (cells + 1) (slots + 6) Q (F0 mi 23 ls1 [])) (ls : Array Slot) (hl : lv_has ls 7 (hdl sb x m o i)) : W p l e R s mi av below meth c H locs cells slots Q (F0 mi 224 ls []) := by
  obtain ⟨n, T, C, Hd, b, q, J, bg, pi, bu, tm, tl, K, th, pu, bu9, cl, mo, K9, f, hap, hmd, heo, hLR⟩ := hLI
  obtain ⟨hI, hT, hJ, hK, hK9, hz8, hbt, hbf⟩ := id hLR
  obtain ⟨fs0, e0⟩ := hap.at0
  have hn8 := hI.1
  cases hk : prt n (xs (i + 1))
  · refine lk_setTool hC hP hD hS hc hs hi (P1 := fun w => AP ky w x n T C Hd b q J bg pi bu tm tl K ∧ MD ky w m th n T C Hd b q J bg pu bu9 cl mo K9 ∧ isOut ky w o f) (P2 := fun r w => AP ky w x n T C Hd b q J bg pi bu tm tl K ∧ MD ky w m 1 n T C Hd b q J bg pu bu9 cl mo K9 ∧ isOut ky w o f) (kc := 1) (by decide) ?_ ?_ ?_ ?_ ?_ ls hl
    · skip
      refine WU.mono (wxI_setTool hP hD e0 heo (by decide) (by decide) (x_X4_setTool_1 hst hP hD hap hI hk)) (fun r w z => ?_)
      obtain ⟨h1, hap1, hf1⟩ := z
      exact ⟨h1, hap1, hmd.fr hf1, heo.fr hf1⟩
    · intro w H1 hp hP1 hD1
      obtain ⟨hap1, hmd1, hg1⟩ := hp
      refine ⟨hmd1.at19, ?_⟩
      obtain ⟨fw, fd, fc, fg, fo, hmd2⟩ := hmd1
      skip
      refine ⟨_, _, ?_, ?_, MU.mono (c_X5_setTool_1 hP1 hD1 hmd2 hk) (fun r w2 z => ?_)⟩
      · decide
      · decide
      · obtain ⟨-, h2, h3⟩ := z
        exact ⟨hap1.fr h3, h2.md, hg1.fr h3⟩
    · intro r w z; exact z.2.1.thr
    · intro r w z h; exact absurd h (by decide)
    · intro r w H1 locs1 ls1 z hP1 hD1 hS1 hl1
      obtain ⟨hap1, hmd1, hg1⟩ := z
      exact kk w H1 locs1 ls1 ⟨_, _, _, _, _, _, _, _, _, _, _, _, _, _, _, _, _, _, _, _, hap1, hmd1, hg1, hLR⟩ hP1 hD1 hS1 hl1
  · obtain ⟨pt, hp, hx1⟩ := prt_ex hk hn8
    cases hk2 : prt 4 (xs (i + 2))
    · refine lk_setTool hC hP hD hS hc hs hi (P1 := fun w => AP ky w x n T C Hd b q J bg pi bu tm tl K ∧ MD ky w m th n T C Hd b q J bg pu bu9 cl mo K9 ∧ isOut ky w o f) (P2 := fun r w => AP ky w x n T C Hd b q J bg pi bu tm tl K ∧ MD ky w m 2 n T C Hd b q J bg pu bu9 cl mo K9 ∧ isOut ky w o f) (kc := 2) (by decide) ?_ ?_ ?_ ?_ ?_ ls hl
      · rw [hx1]
        refine WU.mono (wxA_setTool hP hD e0 heo (by decide) (by decide) (x_X4_setTool_2 hst hP hD hap hI hp hk2)) (fun r w z => ?_)
        obtain ⟨h1, hap1, hf1⟩ := z
        exact ⟨h1, hap1, hmd.fr hf1, heo.fr hf1⟩
      · intro w H1 hp hP1 hD1
        obtain ⟨hap1, hmd1, hg1⟩ := hp
        refine ⟨hmd1.at19, ?_⟩
        obtain ⟨fw, fd, fc, fg, fo, hmd2⟩ := hmd1
        rw [hx1]
        refine ⟨_, _, ?_, ?_, MU.mono (c_X5_setTool_2 hP1 hD1 hmd2 (prt_in hp hn8) hk2) (fun r w2 z => ?_)⟩
        · decide
        · decide
        · obtain ⟨-, h2, h3⟩ := z
          exact ⟨hap1.fr h3, h2.md, hg1.fr h3⟩
      · intro r w z; exact z.2.1.thr
      · intro r w z h; exact absurd h (by decide)
      · intro r w H1 locs1 ls1 z hP1 hD1 hS1 hl1
        obtain ⟨hap1, hmd1, hg1⟩ := z
        exact kk w H1 locs1 ls1 ⟨_, _, _, _, _, _, _, _, _, _, _, _, _, _, _, _, _, _, _, _, hap1, hmd1, hg1, hLR⟩ hP1 hD1 hS1 hl1
    · obtain ⟨t, ht, hx2⟩ := prt_ex hk2 (show 4 ≤ 8 by decide)
      refine lk_setTool hC hP hD hS hc hs hi (P1 := fun w => AP ky w x n (upX T pt t) C Hd b q J false 0 0 ((nI 0)) ((-1)) ((zro K 8)) ∧ MD ky w m th n T C Hd b q J bg pu bu9 cl mo K9 ∧ ∃ g : Nat → Int64, isOut ky w o g ∧ g 0 = ((nI (T pt)) : Int32).toInt64) (P2 := fun r w => r = nI (T pt) ∧ AP ky w x n (upX T pt t) C Hd b q J false 0 0 ((nI 0)) ((-1)) ((zro K 8)) ∧ MD ky w m 0 n (upX T pt t) C Hd b q J false pu bu9 cl mo K9 ∧ ∃ g : Nat → Int64, isOut ky w o g ∧ g 0 = ((nI (T pt)) : Int32).toInt64) (kc := 0) (by decide) ?_ ?_ ?_ ?_ ?_ ls hl
      · rw [hx1, hx2]
        refine WU.mono (wk_setTool hP hD e0 heo (by decide) (by decide) (fun r w z => z.2.2) (c_X4_setTool_0 hP hD hap hI hp ht)) (fun r w z => ?_)
        obtain ⟨h1, r1, w1, ⟨rfl, hap1, hf1⟩, hf2, g, hg1, hg2⟩ := z
        exact ⟨h1, hap1.fr hf2, (hmd.fr hf1).fr hf2, g, hg1, hg2⟩
      · intro w H1 hp hP1 hD1
        obtain ⟨hap1, hmd1, g, hg1, hg2⟩ := hp
        refine ⟨hmd1.at19, ?_⟩
        obtain ⟨fw, fd, fc, fg, fo, hmd2⟩ := hmd1
        rw [hx1, hx2]
        refine ⟨_, _, ?_, ?_, MU.mono (c_X5_setTool_0 hP1 hD1 hmd2 hn8 hp ht) (fun r w2 z => ?_)⟩
        · decide
        · decide
        · obtain ⟨h1, h2, h3⟩ := z
          exact ⟨h1, hap1.fr h3, h2.md, g, hg1.fr h3, hg2⟩
      · intro r w z; exact z.2.2.1.thr
      · intro r w z _
        obtain ⟨h1, -, -, g, hg1, hg2⟩ := z
        exact ⟨g, hg1, by rw [h1]; exact hg2⟩
      · intro r w H1 locs1 ls1 z hP1 hD1 hS1 hl1
        obtain ⟨-, hap1, hmd1, g, hg1, -⟩ := z
        exact kk w H1 locs1 ls1 ⟨_, _, _, _, _, _, _, _, _, _, _, _, _, _, _, _, _, _, _, _, hap1, hmd1, hg1, (hLR.told hI (fun z => by unfold upX; split; exact ht; exact hT z))⟩ hP1 hD1 hS1 hl1
set_option maxHeartbeats 4000000 in
set_option maxRecDepth 100000 in
theorem lc_contact {p : Program} {l : Launch} {e : Env} {R : Room} {s : State} {mi : MethodId} {av : Array Value} {below : List Frame} {meth : Method} {c : Code} {Q : State → Prop} {D : va_G} {ky : kT} {A : Nat → Prop} {sb L : Nat} {xs : Nat → Int32} (hst : l.stackTraces = false) (hC : LC p s mi av c R D ky A sb L xs) {ws : va_W} {H : Heap} {locs : List Loc} {cells slots : Nat} (hP : va_P D CL ws H) (hD : va_D A ws) (hS : va_S A s.heap H locs) (hc : cells + 1 ≤ R.cells) (hs : slots + 6 ≤ R.slots) {x m o i : Nat} (hi : i + 5 ≤ L) (hLI : LI ky ws x m o)
    (kk : ∀ (w : va_W) (H1 : Heap) (locs1 : List Loc) (ls1 : Array Slot), LI ky w x m o → va_P D CL w H1 → va_D A w → va_S A s.heap H1 locs1 → lv_has ls1 7 (hdl sb x m o (i + 5)) → W p l e R s mi av below meth c H1 locs1 (cells + 1) (slots + 6) Q (F0 mi 23 ls1 [])) (ls : Array Slot) (hl : lv_has ls 7 (hdl sb x m o i)) : W p l e R s mi av below meth c H locs cells slots Q (F0 mi 292 ls []) := by
  obtain ⟨n, T, C, Hd, b, q, J, bg, pi, bu, tm, tl, K, th, pu, bu9, cl, mo, K9, f, hap, hmd, heo, hLR⟩ := hLI
  obtain ⟨hI, hT, hJ, hK, hK9, hz8, hbt, hbf⟩ := id hLR
  obtain ⟨fs0, e0⟩ := hap.at0
  have hn8 := hI.1
  cases hk : prt n (xs (i + 1))
  · refine lk_contact hC hP hD hS hc hs hi (P1 := fun w => AP ky w x n T C Hd b q J bg pi bu tm tl K ∧ MD ky w m th n T C Hd b q J bg pu bu9 cl mo K9 ∧ isOut ky w o f) (P2 := fun r w => AP ky w x n T C Hd b q J bg pi bu tm tl K ∧ MD ky w m 1 n T C Hd b q J bg pu bu9 cl mo K9 ∧ isOut ky w o f) (kc := 1) (by decide) ?_ ?_ ?_ ?_ ?_ ls hl
    · skip
      refine WU.mono (wxI_contact hP hD e0 heo (by decide) (by decide) (x_X4_contact_1a hst hP hD hap hI hk)) (fun r w z => ?_)
      obtain ⟨h1, hap1, hf1⟩ := z
      exact ⟨h1, hap1, hmd.fr hf1, heo.fr hf1⟩
    · intro w H1 hp hP1 hD1
      obtain ⟨hap1, hmd1, hg1⟩ := hp
      refine ⟨hmd1.at19, ?_⟩
      obtain ⟨fw, fd, fc, fg, fo, hmd2⟩ := hmd1
      skip
      refine ⟨_, _, ?_, ?_, MU.mono (c_X5_contact_1 hP1 hD1 hmd2 (by rw [hk]; rfl)) (fun r w2 z => ?_)⟩
      · decide
      · decide
      · obtain ⟨-, h2, h3⟩ := z
        exact ⟨hap1.fr h3, h2.md, hg1.fr h3⟩
    · intro r w z; exact z.2.1.thr
    · intro r w z h; exact absurd h (by decide)
    · intro r w H1 locs1 ls1 z hP1 hD1 hS1 hl1
      obtain ⟨hap1, hmd1, hg1⟩ := z
      exact kk w H1 locs1 ls1 ⟨_, _, _, _, _, _, _, _, _, _, _, _, _, _, _, _, _, _, _, _, hap1, hmd1, hg1, hLR⟩ hP1 hD1 hS1 hl1
  · obtain ⟨pt, hp, hx1⟩ := prt_ex hk hn8
    cases hk2 : prt n (xs (i + 2))
    · refine lk_contact hC hP hD hS hc hs hi (P1 := fun w => AP ky w x n T C Hd b q J bg pi bu tm tl K ∧ MD ky w m th n T C Hd b q J bg pu bu9 cl mo K9 ∧ isOut ky w o f) (P2 := fun r w => AP ky w x n T C Hd b q J bg pi bu tm tl K ∧ MD ky w m 1 n T C Hd b q J bg pu bu9 cl mo K9 ∧ isOut ky w o f) (kc := 1) (by decide) ?_ ?_ ?_ ?_ ?_ ls hl
      · rw [hx1]
        refine WU.mono (wxI_contact hP hD e0 heo (by decide) (by decide) (x_X4_contact_1b hst hP hD hap hI hp hk2)) (fun r w z => ?_)
        obtain ⟨h1, hap1, hf1⟩ := z
        exact ⟨h1, hap1, hmd.fr hf1, heo.fr hf1⟩
      · intro w H1 hp hP1 hD1
        obtain ⟨hap1, hmd1, hg1⟩ := hp
        refine ⟨hmd1.at19, ?_⟩
        obtain ⟨fw, fd, fc, fg, fo, hmd2⟩ := hmd1
        rw [hx1]
        refine ⟨_, _, ?_, ?_, MU.mono (c_X5_contact_1 hP1 hD1 hmd2 (by rw [hk2, Bool.and_false])) (fun r w2 z => ?_)⟩
        · decide
        · decide
        · obtain ⟨-, h2, h3⟩ := z
          exact ⟨hap1.fr h3, h2.md, hg1.fr h3⟩
      · intro r w z; exact z.2.1.thr
      · intro r w z h; exact absurd h (by decide)
      · intro r w H1 locs1 ls1 z hP1 hD1 hS1 hl1
        obtain ⟨hap1, hmd1, hg1⟩ := z
        exact kk w H1 locs1 ls1 ⟨_, _, _, _, _, _, _, _, _, _, _, _, _, _, _, _, _, _, _, _, hap1, hmd1, hg1, hLR⟩ hP1 hD1 hS1 hl1
    · obtain ⟨ot, ho, hx2⟩ := prt_ex hk2 hn8
      by_cases hne : pt = ot
      · subst hne
        refine lk_contact hC hP hD hS hc hs hi (P1 := fun w => AP ky w x n T C Hd b q J bg pi bu tm tl K ∧ MD ky w m th n T C Hd b q J bg pu bu9 cl mo K9 ∧ isOut ky w o f) (P2 := fun r w => AP ky w x n T C Hd b q J bg pi bu tm tl K ∧ MD ky w m 2 n T C Hd b q J bg pu bu9 cl mo K9 ∧ isOut ky w o f) (kc := 2) (by decide) ?_ ?_ ?_ ?_ ?_ ls hl
        · rw [hx1, hx2]
          refine WU.mono (wxA_contact hP hD e0 heo (by decide) (by decide) (x_X4_contact_2 hst hP hD hap hI hp)) (fun r w z => ?_)
          obtain ⟨h1, hap1, hf1⟩ := z
          exact ⟨h1, hap1, hmd.fr hf1, heo.fr hf1⟩
        · intro w H1 hp hP1 hD1
          obtain ⟨hap1, hmd1, hg1⟩ := hp
          refine ⟨hmd1.at19, ?_⟩
          obtain ⟨fw, fd, fc, fg, fo, hmd2⟩ := hmd1
          rw [hx1, hx2]
          refine ⟨_, _, ?_, ?_, MU.mono (c_X5_contact_2 hP1 hD1 hmd2 (prt_in hp hn8)) (fun r w2 z => ?_)⟩
          · decide
          · decide
          · obtain ⟨-, h2, h3⟩ := z
            exact ⟨hap1.fr h3, h2.md, hg1.fr h3⟩
        · intro r w z; exact z.2.1.thr
        · intro r w z h; exact absurd h (by decide)
        · intro r w H1 locs1 ls1 z hP1 hD1 hS1 hl1
          obtain ⟨hap1, hmd1, hg1⟩ := z
          exact kk w H1 locs1 ls1 ⟨_, _, _, _, _, _, _, _, _, _, _, _, _, _, _, _, _, _, _, _, hap1, hmd1, hg1, hLR⟩ hP1 hD1 hS1 hl1
      · refine lk_contact hC hP hD hS hc hs hi (P1 := fun w => AP ky w x n T (ctc C pt ot (decide (¬ xs (i + 3) = 0))) Hd b q J false 0 0 ((nI 0)) ((-1)) ((zro K 8)) ∧ MD ky w m th n T C Hd b q J bg pu bu9 cl mo K9 ∧ ∃ g : Nat → Int64, isOut ky w o g ∧ g 0 = ((nI (cnt (ctc C pt ot (decide (¬ xs (i + 3) = 0)) pt))) : Int32).toInt64) (P2 := fun r w => r = nI (cnt (ctc C pt ot (decide (¬ xs (i + 3) = 0)) pt)) ∧ AP ky w x n T (ctc C pt ot (decide (¬ xs (i + 3) = 0))) Hd b q J false 0 0 ((nI 0)) ((-1)) ((zro K 8)) ∧ MD ky w m 0 n T (ctc C pt ot (decide (¬ xs (i + 3) = 0))) Hd b q J false pu bu9 cl mo K9 ∧ ∃ g : Nat → Int64, isOut ky w o g ∧ g 0 = ((nI (cnt (ctc C pt ot (decide (¬ xs (i + 3) = 0)) pt))) : Int32).toInt64) (kc := 0) (by decide) ?_ ?_ ?_ ?_ ?_ ls hl
        · rw [hx1, hx2]
          refine WU.mono (wk_contact hP hD e0 heo (by decide) (by decide) (fun r w z => z.2.2) (c_X4_contact_0 hP hD hap hI hp ho hne)) (fun r w z => ?_)
          obtain ⟨h1, r1, w1, ⟨rfl, hap1, hf1⟩, hf2, g, hg1, hg2⟩ := z
          exact ⟨h1, hap1.fr hf2, (hmd.fr hf1).fr hf2, g, hg1, hg2⟩
        · intro w H1 hp hP1 hD1
          obtain ⟨hap1, hmd1, g, hg1, hg2⟩ := hp
          refine ⟨hmd1.at19, ?_⟩
          obtain ⟨fw, fd, fc, fg, fo, hmd2⟩ := hmd1
          rw [hx1, hx2]
          refine ⟨_, _, ?_, ?_, MU.mono (c_X5_contact_0 hP1 hD1 hmd2 hI hp ho hne) (fun r w2 z => ?_)⟩
          · decide
          · decide
          · obtain ⟨h1, h2, h3⟩ := z
            exact ⟨h1, hap1.fr h3, h2.md, g, hg1.fr h3, hg2⟩
        · intro r w z; exact z.2.2.1.thr
        · intro r w z _
          obtain ⟨h1, -, -, g, hg1, hg2⟩ := z
          exact ⟨g, hg1, by rw [h1]; exact hg2⟩
        · intro r w H1 locs1 ls1 z hP1 hD1 hS1 hl1
          obtain ⟨-, hap1, hmd1, g, hg1, -⟩ := z
          exact kk w H1 locs1 ls1 ⟨_, _, _, _, _, _, _, _, _, _, _, _, _, _, _, _, _, _, _, _, hap1, hmd1, hg1, (hLR.told (PI0_ctc hI hp ho) hT)⟩ hP1 hD1 hS1 hl1
set_option maxHeartbeats 4000000 in
set_option maxRecDepth 100000 in
theorem lc_hinder {p : Program} {l : Launch} {e : Env} {R : Room} {s : State} {mi : MethodId} {av : Array Value} {below : List Frame} {meth : Method} {c : Code} {Q : State → Prop} {D : va_G} {ky : kT} {A : Nat → Prop} {sb L : Nat} {xs : Nat → Int32} (hst : l.stackTraces = false) (hC : LC p s mi av c R D ky A sb L xs) {ws : va_W} {H : Heap} {locs : List Loc} {cells slots : Nat} (hP : va_P D CL ws H) (hD : va_D A ws) (hS : va_S A s.heap H locs) (hc : cells + 1 ≤ R.cells) (hs : slots + 6 ≤ R.slots) {x m o i : Nat} (hi : i + 5 ≤ L) (hLI : LI ky ws x m o)
    (kk : ∀ (w : va_W) (H1 : Heap) (locs1 : List Loc) (ls1 : Array Slot), LI ky w x m o → va_P D CL w H1 → va_D A w → va_S A s.heap H1 locs1 → lv_has ls1 7 (hdl sb x m o (i + 5)) → W p l e R s mi av below meth c H1 locs1 (cells + 1) (slots + 6) Q (F0 mi 23 ls1 [])) (ls : Array Slot) (hl : lv_has ls 7 (hdl sb x m o i)) : W p l e R s mi av below meth c H locs cells slots Q (F0 mi 388 ls []) := by
  obtain ⟨n, T, C, Hd, b, q, J, bg, pi, bu, tm, tl, K, th, pu, bu9, cl, mo, K9, f, hap, hmd, heo, hLR⟩ := hLI
  obtain ⟨hI, hT, hJ, hK, hK9, hz8, hbt, hbf⟩ := id hLR
  obtain ⟨fs0, e0⟩ := hap.at0
  have hn8 := hI.1
  cases hk : prt n (xs (i + 1))
  · refine lk_hinder hC hP hD hS hc hs hi (P1 := fun w => AP ky w x n T C Hd b q J bg pi bu tm tl K ∧ MD ky w m th n T C Hd b q J bg pu bu9 cl mo K9 ∧ isOut ky w o f) (P2 := fun r w => AP ky w x n T C Hd b q J bg pi bu tm tl K ∧ MD ky w m 1 n T C Hd b q J bg pu bu9 cl mo K9 ∧ isOut ky w o f) (kc := 1) (by decide) ?_ ?_ ?_ ?_ ?_ ls hl
    · skip
      refine WU.mono (wxI_hinder hP hD e0 heo (by decide) (by decide) (x_X4_hinder_1a hst hP hD hap hI hk)) (fun r w z => ?_)
      obtain ⟨h1, hap1, hf1⟩ := z
      exact ⟨h1, hap1, hmd.fr hf1, heo.fr hf1⟩
    · intro w H1 hp hP1 hD1
      obtain ⟨hap1, hmd1, hg1⟩ := hp
      refine ⟨hmd1.at19, ?_⟩
      obtain ⟨fw, fd, fc, fg, fo, hmd2⟩ := hmd1
      skip
      refine ⟨_, _, ?_, ?_, MU.mono (c_X5_hinder_1 hP1 hD1 hmd2 (by rw [hk]; rfl)) (fun r w2 z => ?_)⟩
      · decide
      · decide
      · obtain ⟨-, h2, h3⟩ := z
        exact ⟨hap1.fr h3, h2.md, hg1.fr h3⟩
    · intro r w z; exact z.2.1.thr
    · intro r w z h; exact absurd h (by decide)
    · intro r w H1 locs1 ls1 z hP1 hD1 hS1 hl1
      obtain ⟨hap1, hmd1, hg1⟩ := z
      exact kk w H1 locs1 ls1 ⟨_, _, _, _, _, _, _, _, _, _, _, _, _, _, _, _, _, _, _, _, hap1, hmd1, hg1, hLR⟩ hP1 hD1 hS1 hl1
  · obtain ⟨pt, hp, hx1⟩ := prt_ex hk hn8
    cases hk2 : prt 6 (xs (i + 2))
    · refine lk_hinder hC hP hD hS hc hs hi (P1 := fun w => AP ky w x n T C Hd b q J bg pi bu tm tl K ∧ MD ky w m th n T C Hd b q J bg pu bu9 cl mo K9 ∧ isOut ky w o f) (P2 := fun r w => AP ky w x n T C Hd b q J bg pi bu tm tl K ∧ MD ky w m 1 n T C Hd b q J bg pu bu9 cl mo K9 ∧ isOut ky w o f) (kc := 1) (by decide) ?_ ?_ ?_ ?_ ?_ ls hl
      · rw [hx1]
        refine WU.mono (wxI_hinder hP hD e0 heo (by decide) (by decide) (x_X4_hinder_1b hst hP hD hap hI hp hk2)) (fun r w z => ?_)
        obtain ⟨h1, hap1, hf1⟩ := z
        exact ⟨h1, hap1, hmd.fr hf1, heo.fr hf1⟩
      · intro w H1 hp hP1 hD1
        obtain ⟨hap1, hmd1, hg1⟩ := hp
        refine ⟨hmd1.at19, ?_⟩
        obtain ⟨fw, fd, fc, fg, fo, hmd2⟩ := hmd1
        rw [hx1]
        refine ⟨_, _, ?_, ?_, MU.mono (c_X5_hinder_1 hP1 hD1 hmd2 (by rw [hk2, Bool.and_false, Bool.and_false])) (fun r w2 z => ?_)⟩
        · decide
        · decide
        · obtain ⟨-, h2, h3⟩ := z
          exact ⟨hap1.fr h3, h2.md, hg1.fr h3⟩
      · intro r w z; exact z.2.1.thr
      · intro r w z h; exact absurd h (by decide)
      · intro r w H1 locs1 ls1 z hP1 hD1 hS1 hl1
        obtain ⟨hap1, hmd1, hg1⟩ := z
        exact kk w H1 locs1 ls1 ⟨_, _, _, _, _, _, _, _, _, _, _, _, _, _, _, _, _, _, _, _, hap1, hmd1, hg1, hLR⟩ hP1 hD1 hS1 hl1
    · obtain ⟨d, hd, hx2⟩ := prt_ex hk2 (show 6 ≤ 8 by decide)
      cases hk3 : prt n (xs (i + 3))
      · refine lk_hinder hC hP hD hS hc hs hi (P1 := fun w => AP ky w x n T C Hd b q J bg pi bu tm tl K ∧ MD ky w m th n T C Hd b q J bg pu bu9 cl mo K9 ∧ isOut ky w o f) (P2 := fun r w => AP ky w x n T C Hd b q J bg pi bu tm tl K ∧ MD ky w m 1 n T C Hd b q J bg pu bu9 cl mo K9 ∧ isOut ky w o f) (kc := 1) (by decide) ?_ ?_ ?_ ?_ ?_ ls hl
        · rw [hx1, hx2]
          refine WU.mono (wxI_hinder hP hD e0 heo (by decide) (by decide) (x_X4_hinder_1c hst hP hD hap hI hp hd hk3)) (fun r w z => ?_)
          obtain ⟨h1, hap1, hf1⟩ := z
          exact ⟨h1, hap1, hmd.fr hf1, heo.fr hf1⟩
        · intro w H1 hp hP1 hD1
          obtain ⟨hap1, hmd1, hg1⟩ := hp
          refine ⟨hmd1.at19, ?_⟩
          obtain ⟨fw, fd, fc, fg, fo, hmd2⟩ := hmd1
          rw [hx1, hx2]
          refine ⟨_, _, ?_, ?_, MU.mono (c_X5_hinder_1 hP1 hD1 hmd2 (by rw [hk3, Bool.false_and, Bool.and_false])) (fun r w2 z => ?_)⟩
          · decide
          · decide
          · obtain ⟨-, h2, h3⟩ := z
            exact ⟨hap1.fr h3, h2.md, hg1.fr h3⟩
        · intro r w z; exact z.2.1.thr
        · intro r w z h; exact absurd h (by decide)
        · intro r w H1 locs1 ls1 z hP1 hD1 hS1 hl1
          obtain ⟨hap1, hmd1, hg1⟩ := z
          exact kk w H1 locs1 ls1 ⟨_, _, _, _, _, _, _, _, _, _, _, _, _, _, _, _, _, _, _, _, hap1, hmd1, hg1, hLR⟩ hP1 hD1 hS1 hl1
      · obtain ⟨ot, ho, hx3⟩ := prt_ex hk3 hn8
        by_cases hne : pt = ot
        · subst hne
          refine lk_hinder hC hP hD hS hc hs hi (P1 := fun w => AP ky w x n T C Hd b q J bg pi bu tm tl K ∧ MD ky w m th n T C Hd b q J bg pu bu9 cl mo K9 ∧ isOut ky w o f) (P2 := fun r w => AP ky w x n T C Hd b q J bg pi bu tm tl K ∧ MD ky w m 2 n T C Hd b q J bg pu bu9 cl mo K9 ∧ isOut ky w o f) (kc := 2) (by decide) ?_ ?_ ?_ ?_ ?_ ls hl
          · rw [hx1, hx2, hx3]
            refine WU.mono (wxA_hinder hP hD e0 heo (by decide) (by decide) (x_X4_hinder_2 hst hP hD hap hI hp hd)) (fun r w z => ?_)
            obtain ⟨h1, hap1, hf1⟩ := z
            exact ⟨h1, hap1, hmd.fr hf1, heo.fr hf1⟩
          · intro w H1 hp hP1 hD1
            obtain ⟨hap1, hmd1, hg1⟩ := hp
            refine ⟨hmd1.at19, ?_⟩
            obtain ⟨fw, fd, fc, fg, fo, hmd2⟩ := hmd1
            rw [hx1, hx2, hx3]
            refine ⟨_, _, ?_, ?_, MU.mono (c_X5_hinder_2 hP1 hD1 hmd2 (prt_in hp hn8) (prt_in hd (by decide))) (fun r w2 z => ?_)⟩
            · decide
            · decide
            · obtain ⟨-, h2, h3⟩ := z
              exact ⟨hap1.fr h3, h2.md, hg1.fr h3⟩
          · intro r w z; exact z.2.1.thr
          · intro r w z h; exact absurd h (by decide)
          · intro r w H1 locs1 ls1 z hP1 hD1 hS1 hl1
            obtain ⟨hap1, hmd1, hg1⟩ := z
            exact kk w H1 locs1 ls1 ⟨_, _, _, _, _, _, _, _, _, _, _, _, _, _, _, _, _, _, _, _, hap1, hmd1, hg1, hLR⟩ hP1 hD1 hS1 hl1
        · refine lk_hinder hC hP hD hS hc hs hi (P1 := fun w => AP ky w x n T C (htc Hd pt d ot (decide (¬ xs (i + 4) = 0))) b q J false 0 0 ((nI 0)) ((-1)) ((zro K 8)) ∧ MD ky w m th n T C Hd b q J bg pu bu9 cl mo K9 ∧ ∃ g : Nat → Int64, isOut ky w o g ∧ g 0 = ((nI (cnt (htc Hd pt d ot (decide (¬ xs (i + 4) = 0)) (8 * d + pt)))) : Int32).toInt64) (P2 := fun r w => r = nI (cnt (htc Hd pt d ot (decide (¬ xs (i + 4) = 0)) (8 * d + pt))) ∧ AP ky w x n T C (htc Hd pt d ot (decide (¬ xs (i + 4) = 0))) b q J false 0 0 ((nI 0)) ((-1)) ((zro K 8)) ∧ MD ky w m 0 n T C (htc Hd pt d ot (decide (¬ xs (i + 4) = 0))) b q J false pu bu9 cl mo K9 ∧ ∃ g : Nat → Int64, isOut ky w o g ∧ g 0 = ((nI (cnt (htc Hd pt d ot (decide (¬ xs (i + 4) = 0)) (8 * d + pt)))) : Int32).toInt64) (kc := 0) (by decide) ?_ ?_ ?_ ?_ ?_ ls hl
          · rw [hx1, hx2, hx3]
            refine WU.mono (wk_hinder hP hD e0 heo (by decide) (by decide) (fun r w z => z.2.2) (c_X4_hinder_0 hP hD hap hI hp hd ho hne)) (fun r w z => ?_)
            obtain ⟨h1, r1, w1, ⟨rfl, hap1, hf1⟩, hf2, g, hg1, hg2⟩ := z
            exact ⟨h1, hap1.fr hf2, (hmd.fr hf1).fr hf2, g, hg1, hg2⟩
          · intro w H1 hp hP1 hD1
            obtain ⟨hap1, hmd1, g, hg1, hg2⟩ := hp
            refine ⟨hmd1.at19, ?_⟩
            obtain ⟨fw, fd, fc, fg, fo, hmd2⟩ := hmd1
            rw [hx1, hx2, hx3]
            refine ⟨_, _, ?_, ?_, MU.mono (c_X5_hinder_0 hP1 hD1 hmd2 hI hp hd ho hne) (fun r w2 z => ?_)⟩
            · decide
            · decide
            · obtain ⟨h1, h2, h3⟩ := z
              exact ⟨h1, hap1.fr h3, h2.md, g, hg1.fr h3, hg2⟩
          · intro r w z; exact z.2.2.1.thr
          · intro r w z _
            obtain ⟨h1, -, -, g, hg1, hg2⟩ := z
            exact ⟨g, hg1, by rw [h1]; exact hg2⟩
          · intro r w H1 locs1 ls1 z hP1 hD1 hS1 hl1
            obtain ⟨-, hap1, hmd1, g, hg1, -⟩ := z
            exact kk w H1 locs1 ls1 ⟨_, _, _, _, _, _, _, _, _, _, _, _, _, _, _, _, _, _, _, _, hap1, hmd1, hg1, (hLR.told (PI0_htc hI hp ho hd) hT)⟩ hP1 hD1 hS1 hl1
set_option maxHeartbeats 4000000 in
set_option maxRecDepth 100000 in
theorem lc_setBase {p : Program} {l : Launch} {e : Env} {R : Room} {s : State} {mi : MethodId} {av : Array Value} {below : List Frame} {meth : Method} {c : Code} {Q : State → Prop} {D : va_G} {ky : kT} {A : Nat → Prop} {sb L : Nat} {xs : Nat → Int32} (hst : l.stackTraces = false) (hC : LC p s mi av c R D ky A sb L xs) {ws : va_W} {H : Heap} {locs : List Loc} {cells slots : Nat} (hP : va_P D CL ws H) (hD : va_D A ws) (hS : va_S A s.heap H locs) (hc : cells + 1 ≤ R.cells) (hs : slots + 6 ≤ R.slots) {x m o i : Nat} (hi : i + 5 ≤ L) (hLI : LI ky ws x m o)
    (kk : ∀ (w : va_W) (H1 : Heap) (locs1 : List Loc) (ls1 : Array Slot), LI ky w x m o → va_P D CL w H1 → va_D A w → va_S A s.heap H1 locs1 → lv_has ls1 7 (hdl sb x m o (i + 5)) → W p l e R s mi av below meth c H1 locs1 (cells + 1) (slots + 6) Q (F0 mi 23 ls1 [])) (ls : Array Slot) (hl : lv_has ls 7 (hdl sb x m o i)) : W p l e R s mi av below meth c H locs cells slots Q (F0 mi 496 ls []) := by
  obtain ⟨n, T, C, Hd, b, q, J, bg, pi, bu, tm, tl, K, th, pu, bu9, cl, mo, K9, f, hap, hmd, heo, hLR⟩ := hLI
  obtain ⟨hI, hT, hJ, hK, hK9, hz8, hbt, hbf⟩ := id hLR
  obtain ⟨fs0, e0⟩ := hap.at0
  have hn8 := hI.1
  cases hk : prt n (xs (i + 1))
  · refine lk_setBase hC hP hD hS hc hs hi (P1 := fun w => AP ky w x n T C Hd b q J bg pi bu tm tl K ∧ MD ky w m th n T C Hd b q J bg pu bu9 cl mo K9 ∧ isOut ky w o f) (P2 := fun r w => AP ky w x n T C Hd b q J bg pi bu tm tl K ∧ MD ky w m 1 n T C Hd b q J bg pu bu9 cl mo K9 ∧ isOut ky w o f) (kc := 1) (by decide) ?_ ?_ ?_ ?_ ?_ ls hl
    · skip
      refine WU.mono (wxI_setBase hP hD e0 heo (by decide) (by decide) (x_X4_setBase_1 hst hP hD hap hI hk)) (fun r w z => ?_)
      obtain ⟨h1, hap1, hf1⟩ := z
      exact ⟨h1, hap1, hmd.fr hf1, heo.fr hf1⟩
    · intro w H1 hp hP1 hD1
      obtain ⟨hap1, hmd1, hg1⟩ := hp
      refine ⟨hmd1.at19, ?_⟩
      obtain ⟨fw, fd, fc, fg, fo, hmd2⟩ := hmd1
      skip
      refine ⟨_, _, ?_, ?_, MU.mono (c_X5_setBase_1 hP1 hD1 hmd2 hk) (fun r w2 z => ?_)⟩
      · decide
      · decide
      · obtain ⟨-, h2, h3⟩ := z
        exact ⟨hap1.fr h3, h2.md, hg1.fr h3⟩
    · intro r w z; exact z.2.1.thr
    · intro r w z h; exact absurd h (by decide)
    · intro r w H1 locs1 ls1 z hP1 hD1 hS1 hl1
      obtain ⟨hap1, hmd1, hg1⟩ := z
      exact kk w H1 locs1 ls1 ⟨_, _, _, _, _, _, _, _, _, _, _, _, _, _, _, _, _, _, _, _, hap1, hmd1, hg1, hLR⟩ hP1 hD1 hS1 hl1
  · obtain ⟨pt, hp, hx1⟩ := prt_ex hk hn8
    refine lk_setBase hC hP hD hS hc hs hi (P1 := fun w => AP ky w x n T C Hd pt q J false 0 0 ((nI 0)) ((-1)) ((zro K 8)) ∧ MD ky w m th n T C Hd b q J bg pu bu9 cl mo K9 ∧ ∃ g : Nat → Int64, isOut ky w o g ∧ g 0 = ((nI b) : Int32).toInt64) (P2 := fun r w => r = nI b ∧ AP ky w x n T C Hd pt q J false 0 0 ((nI 0)) ((-1)) ((zro K 8)) ∧ MD ky w m 0 n T C Hd pt q J false pu bu9 cl mo K9 ∧ ∃ g : Nat → Int64, isOut ky w o g ∧ g 0 = ((nI b) : Int32).toInt64) (kc := 0) (by decide) ?_ ?_ ?_ ?_ ?_ ls hl
    · rw [hx1]
      refine WU.mono (wk_setBase hP hD e0 heo (by decide) (by decide) (fun r w z => z.2.2) (c_X4_setBase_0 hP hD hap hI hp)) (fun r w z => ?_)
      obtain ⟨h1, r1, w1, ⟨rfl, hap1, hf1⟩, hf2, g, hg1, hg2⟩ := z
      exact ⟨h1, hap1.fr hf2, (hmd.fr hf1).fr hf2, g, hg1, hg2⟩
    · intro w H1 hp hP1 hD1
      obtain ⟨hap1, hmd1, g, hg1, hg2⟩ := hp
      refine ⟨hmd1.at19, ?_⟩
      obtain ⟨fw, fd, fc, fg, fo, hmd2⟩ := hmd1
      rw [hx1]
      refine ⟨_, _, ?_, ?_, MU.mono (c_X5_setBase_0 hP1 hD1 hmd2 hn8 hp) (fun r w2 z => ?_)⟩
      · decide
      · decide
      · obtain ⟨h1, h2, h3⟩ := z
        exact ⟨h1, hap1.fr h3, h2.md, g, hg1.fr h3, hg2⟩
    · intro r w z; exact z.2.2.1.thr
    · intro r w z _
      obtain ⟨h1, -, -, g, hg1, hg2⟩ := z
      exact ⟨g, hg1, by rw [h1]; exact hg2⟩
    · intro r w H1 locs1 ls1 z hP1 hD1 hS1 hl1
      obtain ⟨-, hap1, hmd1, g, hg1, -⟩ := z
      exact kk w H1 locs1 ls1 ⟨_, _, _, _, _, _, _, _, _, _, _, _, _, _, _, _, _, _, _, _, hap1, hmd1, hg1, (hLR.told ⟨hI.1, Nat.lt_of_lt_of_le hp hn8, hI.2.2⟩ hT)⟩ hP1 hD1 hS1 hl1
set_option maxHeartbeats 4000000 in
set_option maxRecDepth 100000 in
theorem lc_askSteady {p : Program} {l : Launch} {e : Env} {R : Room} {s : State} {mi : MethodId} {av : Array Value} {below : List Frame} {meth : Method} {c : Code} {Q : State → Prop} {D : va_G} {ky : kT} {A : Nat → Prop} {sb L : Nat} {xs : Nat → Int32} (hst : l.stackTraces = false) (hC : LC p s mi av c R D ky A sb L xs) {ws : va_W} {H : Heap} {locs : List Loc} {cells slots : Nat} (hP : va_P D CL ws H) (hD : va_D A ws) (hS : va_S A s.heap H locs) (hc : cells + 1 ≤ R.cells) (hs : slots + 6 ≤ R.slots) {x m o i : Nat} (hi : i + 5 ≤ L) (hLI : LI ky ws x m o)
    (kk : ∀ (w : va_W) (H1 : Heap) (locs1 : List Loc) (ls1 : Array Slot), LI ky w x m o → va_P D CL w H1 → va_D A w → va_S A s.heap H1 locs1 → lv_has ls1 7 (hdl sb x m o (i + 5)) → W p l e R s mi av below meth c H1 locs1 (cells + 1) (slots + 6) Q (F0 mi 23 ls1 [])) (ls : Array Slot) (hl : lv_has ls 7 (hdl sb x m o i)) : W p l e R s mi av below meth c H locs cells slots Q (F0 mi 552 ls []) := by
  obtain ⟨n, T, C, Hd, b, q, J, bg, pi, bu, tm, tl, K, th, pu, bu9, cl, mo, K9, f, hap, hmd, heo, hLR⟩ := hLI
  obtain ⟨hI, hT, hJ, hK, hK9, hz8, hbt, hbf⟩ := id hLR
  obtain ⟨fs0, e0⟩ := hap.at0
  have hn8 := hI.1
  have kk := fun w H1 locs1 ls1 z1 z2 z3 z4 z5 => W.widen (p := p) (l := l) (e := e) (s := s) (m := mi) (args := av) (below := below) (meth := meth) (c := c) (Q := Q) (cells := cells) (slots := slots) (k := cells + 1) (n := slots + 6) (by omega) (by omega) (kk w H1 locs1 ls1 z1 z2 z3 z4 z5)
  have hc0 : cells + 0 ≤ R.cells := by omega
  have hs0 : slots + 0 ≤ R.slots := by omega
  refine lk_askSteady hC hP hD hS hc0 hs0 hi (P1 := fun w => AP ky w x n T C Hd b ((decide (¬ xs (i + 1) = 0))) J false 0 0 ((nI 0)) ((-1)) ((zro K 8)) ∧ MD ky w m th n T C Hd b q J bg pu bu9 cl mo K9 ∧ isOut ky w o f) (P2 := fun r w => r = bI q ∧ AP ky w x n T C Hd b ((decide (¬ xs (i + 1) = 0))) J false 0 0 ((nI 0)) ((-1)) ((zro K 8)) ∧ MD ky w m 0 n T C Hd b ((decide (¬ xs (i + 1) = 0))) J false pu bu9 cl mo K9 ∧ isOut ky w o f) e0 (by decide) (by decide) (MU.mono (c_X4_askSteady_0 hP hD hap hI) (fun r w z => ⟨z.1, z.2.1, hmd.fr z.2.2, heo.fr z.2.2⟩)) ?_ ?_ ?_ ls hl
  · intro w H1 hp hP1 hD1
    obtain ⟨hap1, hmd1, hg1⟩ := hp
    refine ⟨hmd1.at19, ?_⟩
    obtain ⟨fw, fd, fc, fg, fo, hmd2⟩ := hmd1
    refine ⟨_, _, ?_, ?_, MU.mono (c_X5_askSteady_0 hP1 hD1 hmd2) (fun r w2 z => ?_)⟩
    · decide
    · decide
    · obtain ⟨h1, h2, h3⟩ := z
      exact ⟨h1, hap1.fr h3, h2.md, hg1.fr h3⟩
  · intro r w z; exact z.1
  · intro r w H1 locs1 ls1 z hP1 hD1 hS1 hl1
    obtain ⟨-, hap1, hmd1, hg1⟩ := z
    exact kk w H1 locs1 ls1 ⟨_, _, _, _, _, _, _, _, _, _, _, _, _, _, _, _, _, _, _, _, hap1, hmd1, hg1, (hLR.told hI hT)⟩ hP1 hD1 hS1 hl1
set_option maxHeartbeats 4000000 in
set_option maxRecDepth 100000 in
theorem lc_parts {p : Program} {l : Launch} {e : Env} {R : Room} {s : State} {mi : MethodId} {av : Array Value} {below : List Frame} {meth : Method} {c : Code} {Q : State → Prop} {D : va_G} {ky : kT} {A : Nat → Prop} {sb L : Nat} {xs : Nat → Int32} (hst : l.stackTraces = false) (hC : LC p s mi av c R D ky A sb L xs) {ws : va_W} {H : Heap} {locs : List Loc} {cells slots : Nat} (hP : va_P D CL ws H) (hD : va_D A ws) (hS : va_S A s.heap H locs) (hc : cells + 1 ≤ R.cells) (hs : slots + 6 ≤ R.slots) {x m o i : Nat} (hi : i + 5 ≤ L) (hLI : LI ky ws x m o)
    (kk : ∀ (w : va_W) (H1 : Heap) (locs1 : List Loc) (ls1 : Array Slot), LI ky w x m o → va_P D CL w H1 → va_D A w → va_S A s.heap H1 locs1 → lv_has ls1 7 (hdl sb x m o (i + 5)) → W p l e R s mi av below meth c H1 locs1 (cells + 1) (slots + 6) Q (F0 mi 23 ls1 [])) (ls : Array Slot) (hl : lv_has ls 7 (hdl sb x m o i)) : W p l e R s mi av below meth c H locs cells slots Q (F0 mi 593 ls []) := by
  obtain ⟨n, T, C, Hd, b, q, J, bg, pi, bu, tm, tl, K, th, pu, bu9, cl, mo, K9, f, hap, hmd, heo, hLR⟩ := hLI
  obtain ⟨hI, hT, hJ, hK, hK9, hz8, hbt, hbf⟩ := id hLR
  obtain ⟨fs0, e0⟩ := hap.at0
  have hn8 := hI.1
  have kk := fun w H1 locs1 ls1 z1 z2 z3 z4 z5 => W.widen (p := p) (l := l) (e := e) (s := s) (m := mi) (args := av) (below := below) (meth := meth) (c := c) (Q := Q) (cells := cells) (slots := slots) (k := cells + 1) (n := slots + 6) (by omega) (by omega) (kk w H1 locs1 ls1 z1 z2 z3 z4 z5)
  have hc0 : cells + 0 ≤ R.cells := by omega
  have hs0 : slots + 0 ≤ R.slots := by omega
  refine lk_parts hC hP hD hS hc0 hs0 hi (P1 := fun w => AP ky w x n T C Hd b q J bg pi bu tm tl K ∧ MD ky w m th n T C Hd b q J bg pu bu9 cl mo K9 ∧ isOut ky w o f) (P2 := fun r w => r = nI n ∧ AP ky w x n T C Hd b q J bg pi bu tm tl K ∧ MD ky w m 0 n T C Hd b q J bg pu bu9 cl mo K9 ∧ isOut ky w o f) e0 (by decide) (by decide) (MU.mono (c_X4_parts_0 hP hD hap hI) (fun r w z => ⟨z.1, z.2.1, hmd.fr z.2.2, heo.fr z.2.2⟩)) ?_ ?_ ?_ ls hl
  · intro w H1 hp hP1 hD1
    obtain ⟨hap1, hmd1, hg1⟩ := hp
    refine ⟨hmd1.at19, ?_⟩
    obtain ⟨fw, fd, fc, fg, fo, hmd2⟩ := hmd1
    refine ⟨_, _, ?_, ?_, MU.mono (c_X5_parts_0 hP1 hD1 hmd2) (fun r w2 z => ?_)⟩
    · decide
    · decide
    · obtain ⟨h1, h2, h3⟩ := z
      exact ⟨h1, hap1.fr h3, h2.md, hg1.fr h3⟩
  · intro r w z; exact z.1
  · intro r w H1 locs1 ls1 z hP1 hD1 hS1 hl1
    obtain ⟨-, hap1, hmd1, hg1⟩ := z
    exact kk w H1 locs1 ls1 ⟨_, _, _, _, _, _, _, _, _, _, _, _, _, _, _, _, _, _, _, _, hap1, hmd1, hg1, hLR⟩ hP1 hD1 hS1 hl1
set_option maxHeartbeats 4000000 in
set_option maxRecDepth 100000 in
theorem lc_isConnected {p : Program} {l : Launch} {e : Env} {R : Room} {s : State} {mi : MethodId} {av : Array Value} {below : List Frame} {meth : Method} {c : Code} {Q : State → Prop} {D : va_G} {ky : kT} {A : Nat → Prop} {sb L : Nat} {xs : Nat → Int32} (hst : l.stackTraces = false) (hC : LC p s mi av c R D ky A sb L xs) {ws : va_W} {H : Heap} {locs : List Loc} {cells slots : Nat} (hP : va_P D CL ws H) (hD : va_D A ws) (hS : va_S A s.heap H locs) (hc : cells + 1 ≤ R.cells) (hs : slots + 6 ≤ R.slots) {x m o i : Nat} (hi : i + 5 ≤ L) (hLI : LI ky ws x m o)
    (kk : ∀ (w : va_W) (H1 : Heap) (locs1 : List Loc) (ls1 : Array Slot), LI ky w x m o → va_P D CL w H1 → va_D A w → va_S A s.heap H1 locs1 → lv_has ls1 7 (hdl sb x m o (i + 5)) → W p l e R s mi av below meth c H1 locs1 (cells + 1) (slots + 6) Q (F0 mi 23 ls1 [])) (ls : Array Slot) (hl : lv_has ls 7 (hdl sb x m o i)) : W p l e R s mi av below meth c H locs cells slots Q (F0 mi 606 ls []) := by
  obtain ⟨n, T, C, Hd, b, q, J, bg, pi, bu, tm, tl, K, th, pu, bu9, cl, mo, K9, f, hap, hmd, heo, hLR⟩ := hLI
  obtain ⟨hI, hT, hJ, hK, hK9, hz8, hbt, hbf⟩ := id hLR
  obtain ⟨fs0, e0⟩ := hap.at0
  have hn8 := hI.1
  cases hk : stt n (xs (i + 1))
  · refine lk_isConnected hC hP hD hS hc hs hi (P1 := fun w => AP ky w x n T C Hd b q J bg pi bu tm tl K ∧ MD ky w m th n T C Hd b q J bg pu bu9 cl mo K9 ∧ isOut ky w o f) (P2 := fun r w => AP ky w x n T C Hd b q J bg pi bu tm tl K ∧ MD ky w m 1 n T C Hd b q J bg pu bu9 cl mo K9 ∧ isOut ky w o f) (kc := 1) (by decide) ?_ ?_ ?_ ?_ ?_ ls hl
    · skip
      refine WU.mono (wxA_isConnected hP hD e0 heo (by decide) (by decide) (x_X4_isConnected_1 hst hP hD hap hI hk)) (fun r w z => ?_)
      obtain ⟨h1, hap1, hf1⟩ := z
      exact ⟨h1, hap1, hmd.fr hf1, heo.fr hf1⟩
    · intro w H1 hp hP1 hD1
      obtain ⟨hap1, hmd1, hg1⟩ := hp
      refine ⟨hmd1.at19, ?_⟩
      obtain ⟨fw, fd, fc, fg, fo, hmd2⟩ := hmd1
      skip
      refine ⟨_, _, ?_, ?_, MU.mono (c_X5_isConnected_1 hP1 hD1 hmd2 hn8 hk) (fun r w2 z => ?_)⟩
      · decide
      · decide
      · obtain ⟨-, h2, h3⟩ := z
        exact ⟨hap1.fr h3, h2.md, hg1.fr h3⟩
    · intro r w z; exact z.2.1.thr
    · intro r w z h; exact absurd h (by decide)
    · intro r w H1 locs1 ls1 z hP1 hD1 hS1 hl1
      obtain ⟨hap1, hmd1, hg1⟩ := z
      exact kk w H1 locs1 ls1 ⟨_, _, _, _, _, _, _, _, _, _, _, _, _, _, _, _, _, _, _, _, hap1, hmd1, hg1, hLR⟩ hP1 hD1 hS1 hl1
  · obtain ⟨S, hS1, hS2, hx1⟩ := stt_ex hk hn8
    refine lk_isConnected hC hP hD hS hc hs hi (P1 := fun w => AP ky w x n T C Hd b q J bg pi bu tm tl K ∧ MD ky w m th n T C Hd b q J bg pu bu9 cl mo K9 ∧ ∃ g : Nat → Int64, isOut ky w o g ∧ g 0 = (if conn C S then 1 else 0)) (P2 := fun r w => r = bI (conn C S) ∧ AP ky w x n T C Hd b q J bg pi bu tm tl K ∧ MD ky w m 0 n T C Hd b q J bg pu bu9 cl mo K9 ∧ ∃ g : Nat → Int64, isOut ky w o g ∧ g 0 = (if conn C S then 1 else 0)) (kc := 0) (by decide) ?_ ?_ ?_ ?_ ?_ ls hl
    · rw [hx1]
      refine WU.mono (wk_isConnected hP hD e0 heo (by decide) (by decide) (fun r w z => z.2.2) (c_X4_isConnected_0 hP hD hap hI hS1 hS2)) (fun r w z => ?_)
      obtain ⟨h1, r1, w1, ⟨rfl, hap1, hf1⟩, hf2, g, hg1, hg2⟩ := z
      exact ⟨h1, hap1.fr hf2, (hmd.fr hf1).fr hf2, g, hg1, hg2.trans (bI_l _)⟩
    · intro w H1 hp hP1 hD1
      obtain ⟨hap1, hmd1, g, hg1, hg2⟩ := hp
      refine ⟨hmd1.at19, ?_⟩
      obtain ⟨fw, fd, fc, fg, fo, hmd2⟩ := hmd1
      rw [hx1]
      refine ⟨_, _, ?_, ?_, MU.mono (c_X5_isConnected_0 hP1 hD1 hmd2 hI hS1 hS2) (fun r w2 z => ?_)⟩
      · decide
      · decide
      · obtain ⟨h1, h2, h3⟩ := z
        exact ⟨h1, hap1.fr h3, h2.md, g, hg1.fr h3, hg2⟩
    · intro r w z; exact z.2.2.1.thr
    · intro r w z _
      obtain ⟨h1, -, -, g, hg1, hg2⟩ := z
      exact ⟨_, g, h1, hg1, hg2⟩
    · intro r w H1 locs1 ls1 z hP1 hD1 hS1 hl1
      obtain ⟨-, hap1, hmd1, g, hg1, -⟩ := z
      exact kk w H1 locs1 ls1 ⟨_, _, _, _, _, _, _, _, _, _, _, _, _, _, _, _, _, _, _, _, hap1, hmd1, hg1, hLR⟩ hP1 hD1 hS1 hl1
set_option maxHeartbeats 4000000 in
set_option maxRecDepth 100000 in
theorem lc_isSteady {p : Program} {l : Launch} {e : Env} {R : Room} {s : State} {mi : MethodId} {av : Array Value} {below : List Frame} {meth : Method} {c : Code} {Q : State → Prop} {D : va_G} {ky : kT} {A : Nat → Prop} {sb L : Nat} {xs : Nat → Int32} (hst : l.stackTraces = false) (hC : LC p s mi av c R D ky A sb L xs) {ws : va_W} {H : Heap} {locs : List Loc} {cells slots : Nat} (hP : va_P D CL ws H) (hD : va_D A ws) (hS : va_S A s.heap H locs) (hc : cells + 1 ≤ R.cells) (hs : slots + 6 ≤ R.slots) {x m o i : Nat} (hi : i + 5 ≤ L) (hLI : LI ky ws x m o)
    (kk : ∀ (w : va_W) (H1 : Heap) (locs1 : List Loc) (ls1 : Array Slot), LI ky w x m o → va_P D CL w H1 → va_D A w → va_S A s.heap H1 locs1 → lv_has ls1 7 (hdl sb x m o (i + 5)) → W p l e R s mi av below meth c H1 locs1 (cells + 1) (slots + 6) Q (F0 mi 23 ls1 [])) (ls : Array Slot) (hl : lv_has ls 7 (hdl sb x m o i)) : W p l e R s mi av below meth c H locs cells slots Q (F0 mi 669 ls []) := by
  obtain ⟨n, T, C, Hd, b, q, J, bg, pi, bu, tm, tl, K, th, pu, bu9, cl, mo, K9, f, hap, hmd, heo, hLR⟩ := hLI
  obtain ⟨hI, hT, hJ, hK, hK9, hz8, hbt, hbf⟩ := id hLR
  obtain ⟨fs0, e0⟩ := hap.at0
  have hn8 := hI.1
  cases hk : stt n (xs (i + 1))
  · refine lk_isSteady hC hP hD hS hc hs hi (P1 := fun w => AP ky w x n T C Hd b q J bg pi bu tm tl K ∧ MD ky w m th n T C Hd b q J bg pu bu9 cl mo K9 ∧ isOut ky w o f) (P2 := fun r w => AP ky w x n T C Hd b q J bg pi bu tm tl K ∧ MD ky w m 1 n T C Hd b q J bg pu bu9 cl mo K9 ∧ isOut ky w o f) (kc := 1) (by decide) ?_ ?_ ?_ ?_ ?_ ls hl
    · skip
      refine WU.mono (wxA_isSteady hP hD e0 heo (by decide) (by decide) (x_X4_isSteady_1 hst hP hD hap hI hk)) (fun r w z => ?_)
      obtain ⟨h1, hap1, hf1⟩ := z
      exact ⟨h1, hap1, hmd.fr hf1, heo.fr hf1⟩
    · intro w H1 hp hP1 hD1
      obtain ⟨hap1, hmd1, hg1⟩ := hp
      refine ⟨hmd1.at19, ?_⟩
      obtain ⟨fw, fd, fc, fg, fo, hmd2⟩ := hmd1
      skip
      refine ⟨_, _, ?_, ?_, MU.mono (c_X5_isSteady_1 hP1 hD1 hmd2 hn8 hk) (fun r w2 z => ?_)⟩
      · decide
      · decide
      · obtain ⟨-, h2, h3⟩ := z
        exact ⟨hap1.fr h3, h2.md, hg1.fr h3⟩
    · intro r w z; exact z.2.1.thr
    · intro r w z h; exact absurd h (by decide)
    · intro r w H1 locs1 ls1 z hP1 hD1 hS1 hl1
      obtain ⟨hap1, hmd1, hg1⟩ := z
      exact kk w H1 locs1 ls1 ⟨_, _, _, _, _, _, _, _, _, _, _, _, _, _, _, _, _, _, _, _, hap1, hmd1, hg1, hLR⟩ hP1 hD1 hS1 hl1
  · obtain ⟨S, hS1, hS2, hx1⟩ := stt_ex hk hn8
    refine lk_isSteady hC hP hD hS hc hs hi (P1 := fun w => AP ky w x n T C Hd b q J bg pi bu tm tl K ∧ MD ky w m th n T C Hd b q J bg pu bu9 cl mo K9 ∧ ∃ g : Nat → Int64, isOut ky w o g ∧ g 0 = (if stdy Hd b S then 1 else 0)) (P2 := fun r w => r = bI (stdy Hd b S) ∧ AP ky w x n T C Hd b q J bg pi bu tm tl K ∧ MD ky w m 0 n T C Hd b q J bg pu bu9 cl mo K9 ∧ ∃ g : Nat → Int64, isOut ky w o g ∧ g 0 = (if stdy Hd b S then 1 else 0)) (kc := 0) (by decide) ?_ ?_ ?_ ?_ ?_ ls hl
    · rw [hx1]
      refine WU.mono (wk_isSteady hP hD e0 heo (by decide) (by decide) (fun r w z => z.2.2) (c_X4_isSteady_0 hP hD hap hI hS1 hS2)) (fun r w z => ?_)
      obtain ⟨h1, r1, w1, ⟨rfl, hap1, hf1⟩, hf2, g, hg1, hg2⟩ := z
      exact ⟨h1, hap1.fr hf2, (hmd.fr hf1).fr hf2, g, hg1, hg2.trans (bI_l _)⟩
    · intro w H1 hp hP1 hD1
      obtain ⟨hap1, hmd1, g, hg1, hg2⟩ := hp
      refine ⟨hmd1.at19, ?_⟩
      obtain ⟨fw, fd, fc, fg, fo, hmd2⟩ := hmd1
      rw [hx1]
      refine ⟨_, _, ?_, ?_, MU.mono (c_X5_isSteady_0 hP1 hD1 hmd2 hI hS1 hS2) (fun r w2 z => ?_)⟩
      · decide
      · decide
      · obtain ⟨h1, h2, h3⟩ := z
        exact ⟨h1, hap1.fr h3, h2.md, g, hg1.fr h3, hg2⟩
    · intro r w z; exact z.2.2.1.thr
    · intro r w z _
      obtain ⟨h1, -, -, g, hg1, hg2⟩ := z
      exact ⟨_, g, h1, hg1, hg2⟩
    · intro r w H1 locs1 ls1 z hP1 hD1 hS1 hl1
      obtain ⟨-, hap1, hmd1, g, hg1, -⟩ := z
      exact kk w H1 locs1 ls1 ⟨_, _, _, _, _, _, _, _, _, _, _, _, _, _, _, _, _, _, _, _, hap1, hmd1, hg1, hLR⟩ hP1 hD1 hS1 hl1
set_option maxHeartbeats 4000000 in
set_option maxRecDepth 100000 in
theorem lc_free {p : Program} {l : Launch} {e : Env} {R : Room} {s : State} {mi : MethodId} {av : Array Value} {below : List Frame} {meth : Method} {c : Code} {Q : State → Prop} {D : va_G} {ky : kT} {A : Nat → Prop} {sb L : Nat} {xs : Nat → Int32} (hst : l.stackTraces = false) (hC : LC p s mi av c R D ky A sb L xs) {ws : va_W} {H : Heap} {locs : List Loc} {cells slots : Nat} (hP : va_P D CL ws H) (hD : va_D A ws) (hS : va_S A s.heap H locs) (hc : cells + 1 ≤ R.cells) (hs : slots + 6 ≤ R.slots) {x m o i : Nat} (hi : i + 5 ≤ L) (hLI : LI ky ws x m o)
    (kk : ∀ (w : va_W) (H1 : Heap) (locs1 : List Loc) (ls1 : Array Slot), LI ky w x m o → va_P D CL w H1 → va_D A w → va_S A s.heap H1 locs1 → lv_has ls1 7 (hdl sb x m o (i + 5)) → W p l e R s mi av below meth c H1 locs1 (cells + 1) (slots + 6) Q (F0 mi 23 ls1 [])) (ls : Array Slot) (hl : lv_has ls 7 (hdl sb x m o i)) : W p l e R s mi av below meth c H locs cells slots Q (F0 mi 732 ls []) := by
  obtain ⟨n, T, C, Hd, b, q, J, bg, pi, bu, tm, tl, K, th, pu, bu9, cl, mo, K9, f, hap, hmd, heo, hLR⟩ := hLI
  obtain ⟨hI, hT, hJ, hK, hK9, hz8, hbt, hbf⟩ := id hLR
  obtain ⟨fs0, e0⟩ := hap.at0
  have hn8 := hI.1
  cases hk : prt n (xs (i + 2))
  · refine lk_free hC hP hD hS hc hs hi (P1 := fun w => AP ky w x n T C Hd b q J bg pi bu tm tl K ∧ MD ky w m th n T C Hd b q J bg pu bu9 cl mo K9 ∧ isOut ky w o f) (P2 := fun r w => AP ky w x n T C Hd b q J bg pi bu tm tl K ∧ MD ky w m 1 n T C Hd b q J bg pu bu9 cl mo K9 ∧ isOut ky w o f) (kc := 1) (by decide) ?_ ?_ ?_ ?_ ?_ ls hl
    · skip
      refine WU.mono (wxI_free hP hD e0 heo (by decide) (by decide) (x_X4_free_1 hst hP hD hap hI hk)) (fun r w z => ?_)
      obtain ⟨h1, hap1, hf1⟩ := z
      exact ⟨h1, hap1, hmd.fr hf1, heo.fr hf1⟩
    · intro w H1 hp hP1 hD1
      obtain ⟨hap1, hmd1, hg1⟩ := hp
      refine ⟨hmd1.at19, ?_⟩
      obtain ⟨fw, fd, fc, fg, fo, hmd2⟩ := hmd1
      skip
      refine ⟨_, _, ?_, ?_, MU.mono (c_X5_free_1 hP1 hD1 hmd2 hk) (fun r w2 z => ?_)⟩
      · decide
      · decide
      · obtain ⟨-, h2, h3⟩ := z
        exact ⟨hap1.fr h3, h2.md, hg1.fr h3⟩
    · intro r w z; exact z.2.1.thr
    · intro r w z h; exact absurd h (by decide)
    · intro r w H1 locs1 ls1 z hP1 hD1 hS1 hl1
      obtain ⟨hap1, hmd1, hg1⟩ := z
      exact kk w H1 locs1 ls1 ⟨_, _, _, _, _, _, _, _, _, _, _, _, _, _, _, _, _, _, _, _, hap1, hmd1, hg1, hLR⟩ hP1 hD1 hS1 hl1
  · obtain ⟨pt, hp, hx2⟩ := prt_ex hk hn8
    cases hk2 : stt n (xs (i + 1))
    · refine lk_free hC hP hD hS hc hs hi (P1 := fun w => AP ky w x n T C Hd b q J bg pi bu tm tl K ∧ MD ky w m th n T C Hd b q J bg pu bu9 cl mo K9 ∧ isOut ky w o f) (P2 := fun r w => AP ky w x n T C Hd b q J bg pi bu tm tl K ∧ MD ky w m 2 n T C Hd b q J bg pu bu9 cl mo K9 ∧ isOut ky w o f) (kc := 2) (by decide) ?_ ?_ ?_ ?_ ?_ ls hl
      · rw [hx2]
        refine WU.mono (wxA_free hP hD e0 heo (by decide) (by decide) (x_X4_free_2a hst hP hD hap hI hp hk2)) (fun r w z => ?_)
        obtain ⟨h1, hap1, hf1⟩ := z
        exact ⟨h1, hap1, hmd.fr hf1, heo.fr hf1⟩
      · intro w H1 hp hP1 hD1
        obtain ⟨hap1, hmd1, hg1⟩ := hp
        refine ⟨hmd1.at19, ?_⟩
        obtain ⟨fw, fd, fc, fg, fo, hmd2⟩ := hmd1
        rw [hx2]
        refine ⟨_, _, ?_, ?_, MU.mono (c_X5_free_2a hP1 hD1 hmd2 hn8 hp hk2) (fun r w2 z => ?_)⟩
        · decide
        · decide
        · obtain ⟨-, h2, h3⟩ := z
          exact ⟨hap1.fr h3, h2.md, hg1.fr h3⟩
      · intro r w z; exact z.2.1.thr
      · intro r w z h; exact absurd h (by decide)
      · intro r w H1 locs1 ls1 z hP1 hD1 hS1 hl1
        obtain ⟨hap1, hmd1, hg1⟩ := z
        exact kk w H1 locs1 ls1 ⟨_, _, _, _, _, _, _, _, _, _, _, _, _, _, _, _, _, _, _, _, hap1, hmd1, hg1, hLR⟩ hP1 hD1 hS1 hl1
    · obtain ⟨S, hS1, hS2, hx1⟩ := stt_ex hk2 hn8
      cases hb9 : S.testBit pt
      · skip
        refine lk_free hC hP hD hS hc hs hi (P1 := fun w => AP ky w x n T C Hd b q J bg pi bu tm tl K ∧ MD ky w m th n T C Hd b q J bg pu bu9 cl mo K9 ∧ isOut ky w o f) (P2 := fun r w => AP ky w x n T C Hd b q J bg pi bu tm tl K ∧ MD ky w m 2 n T C Hd b q J bg pu bu9 cl mo K9 ∧ isOut ky w o f) (kc := 2) (by decide) ?_ ?_ ?_ ?_ ?_ ls hl
        · rw [hx1, hx2]
          refine WU.mono (wxA_free hP hD e0 heo (by decide) (by decide) (x_X4_free_2b hst hP hD hap hI hS1 hS2 hp hb9)) (fun r w z => ?_)
          obtain ⟨h1, hap1, hf1⟩ := z
          exact ⟨h1, hap1, hmd.fr hf1, heo.fr hf1⟩
        · intro w H1 hp hP1 hD1
          obtain ⟨hap1, hmd1, hg1⟩ := hp
          refine ⟨hmd1.at19, ?_⟩
          obtain ⟨fw, fd, fc, fg, fo, hmd2⟩ := hmd1
          rw [hx1, hx2]
          refine ⟨_, _, ?_, ?_, MU.mono (c_X5_free_2b hP1 hD1 hmd2 hn8 hp hS1 hS2 hb9) (fun r w2 z => ?_)⟩
          · decide
          · decide
          · obtain ⟨-, h2, h3⟩ := z
            exact ⟨hap1.fr h3, h2.md, hg1.fr h3⟩
        · intro r w z; exact z.2.1.thr
        · intro r w z h; exact absurd h (by decide)
        · intro r w H1 locs1 ls1 z hP1 hD1 hS1 hl1
          obtain ⟨hap1, hmd1, hg1⟩ := z
          exact kk w H1 locs1 ls1 ⟨_, _, _, _, _, _, _, _, _, _, _, _, _, _, _, _, _, _, _, _, hap1, hmd1, hg1, hLR⟩ hP1 hD1 hS1 hl1
      · skip
        refine lk_free hC hP hD hS hc hs hi (P1 := fun w => AP ky w x n T C Hd b q J bg pi bu tm tl K ∧ MD ky w m th n T C Hd b q J bg pu bu9 cl mo K9 ∧ ∃ g : Nat → Int64, isOut ky w o g ∧ g 0 = ((nI (frd Hd S pt)) : Int32).toInt64) (P2 := fun r w => r = nI (frd Hd S pt) ∧ AP ky w x n T C Hd b q J bg pi bu tm tl K ∧ MD ky w m 0 n T C Hd b q J bg pu bu9 cl mo K9 ∧ ∃ g : Nat → Int64, isOut ky w o g ∧ g 0 = ((nI (frd Hd S pt)) : Int32).toInt64) (kc := 0) (by decide) ?_ ?_ ?_ ?_ ?_ ls hl
        · rw [hx1, hx2]
          refine WU.mono (wk_free hP hD e0 heo (by decide) (by decide) (fun r w z => z.2.2) (c_X4_free_0 hP hD hap hI hS1 hS2 hp hb9)) (fun r w z => ?_)
          obtain ⟨h1, r1, w1, ⟨rfl, hap1, hf1⟩, hf2, g, hg1, hg2⟩ := z
          exact ⟨h1, hap1.fr hf2, (hmd.fr hf1).fr hf2, g, hg1, hg2⟩
        · intro w H1 hp hP1 hD1
          obtain ⟨hap1, hmd1, g, hg1, hg2⟩ := hp
          refine ⟨hmd1.at19, ?_⟩
          obtain ⟨fw, fd, fc, fg, fo, hmd2⟩ := hmd1
          rw [hx1, hx2]
          refine ⟨_, _, ?_, ?_, MU.mono (c_X5_free_0 hP1 hD1 hmd2 hI hp hS1 hS2 hb9) (fun r w2 z => ?_)⟩
          · decide
          · decide
          · obtain ⟨h1, h2, h3⟩ := z
            exact ⟨h1, hap1.fr h3, h2.md, g, hg1.fr h3, hg2⟩
        · intro r w z; exact z.2.2.1.thr
        · intro r w z _
          obtain ⟨h1, -, -, g, hg1, hg2⟩ := z
          exact ⟨g, hg1, by rw [h1]; exact hg2⟩
        · intro r w H1 locs1 ls1 z hP1 hD1 hS1 hl1
          obtain ⟨-, hap1, hmd1, g, hg1, -⟩ := z
          exact kk w H1 locs1 ls1 ⟨_, _, _, _, _, _, _, _, _, _, _, _, _, _, _, _, _, _, _, _, hap1, hmd1, hg1, hLR⟩ hP1 hD1 hS1 hl1
set_option maxHeartbeats 4000000 in
set_option maxRecDepth 100000 in
theorem lc_canTake {p : Program} {l : Launch} {e : Env} {R : Room} {s : State} {mi : MethodId} {av : Array Value} {below : List Frame} {meth : Method} {c : Code} {Q : State → Prop} {D : va_G} {ky : kT} {A : Nat → Prop} {sb L : Nat} {xs : Nat → Int32} (hst : l.stackTraces = false) (hC : LC p s mi av c R D ky A sb L xs) {ws : va_W} {H : Heap} {locs : List Loc} {cells slots : Nat} (hP : va_P D CL ws H) (hD : va_D A ws) (hS : va_S A s.heap H locs) (hc : cells + 1 ≤ R.cells) (hs : slots + 6 ≤ R.slots) {x m o i : Nat} (hi : i + 5 ≤ L) (hLI : LI ky ws x m o)
    (kk : ∀ (w : va_W) (H1 : Heap) (locs1 : List Loc) (ls1 : Array Slot), LI ky w x m o → va_P D CL w H1 → va_D A w → va_S A s.heap H1 locs1 → lv_has ls1 7 (hdl sb x m o (i + 5)) → W p l e R s mi av below meth c H1 locs1 (cells + 1) (slots + 6) Q (F0 mi 23 ls1 [])) (ls : Array Slot) (hl : lv_has ls 7 (hdl sb x m o i)) : W p l e R s mi av below meth c H locs cells slots Q (F0 mi 800 ls []) := by
  obtain ⟨n, T, C, Hd, b, q, J, bg, pi, bu, tm, tl, K, th, pu, bu9, cl, mo, K9, f, hap, hmd, heo, hLR⟩ := hLI
  obtain ⟨hI, hT, hJ, hK, hK9, hz8, hbt, hbf⟩ := id hLR
  obtain ⟨fs0, e0⟩ := hap.at0
  have hn8 := hI.1
  cases hk : prt n (xs (i + 2))
  · refine lk_canTake hC hP hD hS hc hs hi (P1 := fun w => AP ky w x n T C Hd b q J bg pi bu tm tl K ∧ MD ky w m th n T C Hd b q J bg pu bu9 cl mo K9 ∧ isOut ky w o f) (P2 := fun r w => AP ky w x n T C Hd b q J bg pi bu tm tl K ∧ MD ky w m 1 n T C Hd b q J bg pu bu9 cl mo K9 ∧ isOut ky w o f) (kc := 1) (by decide) ?_ ?_ ?_ ?_ ?_ ls hl
    · skip
      refine WU.mono (wxI_canTake hP hD e0 heo (by decide) (by decide) (x_X4_canTake_1 hst hP hD hap hI hk)) (fun r w z => ?_)
      obtain ⟨h1, hap1, hf1⟩ := z
      exact ⟨h1, hap1, hmd.fr hf1, heo.fr hf1⟩
    · intro w H1 hp hP1 hD1
      obtain ⟨hap1, hmd1, hg1⟩ := hp
      refine ⟨hmd1.at19, ?_⟩
      obtain ⟨fw, fd, fc, fg, fo, hmd2⟩ := hmd1
      skip
      refine ⟨_, _, ?_, ?_, MU.mono (c_X5_canTake_1 hP1 hD1 hmd2 hk) (fun r w2 z => ?_)⟩
      · decide
      · decide
      · obtain ⟨-, h2, h3⟩ := z
        exact ⟨hap1.fr h3, h2.md, hg1.fr h3⟩
    · intro r w z; exact z.2.1.thr
    · intro r w z h; exact absurd h (by decide)
    · intro r w H1 locs1 ls1 z hP1 hD1 hS1 hl1
      obtain ⟨hap1, hmd1, hg1⟩ := z
      exact kk w H1 locs1 ls1 ⟨_, _, _, _, _, _, _, _, _, _, _, _, _, _, _, _, _, _, _, _, hap1, hmd1, hg1, hLR⟩ hP1 hD1 hS1 hl1
  · obtain ⟨pt, hp, hx2⟩ := prt_ex hk hn8
    cases hk2 : stt n (xs (i + 1))
    · refine lk_canTake hC hP hD hS hc hs hi (P1 := fun w => AP ky w x n T C Hd b q J bg pi bu tm tl K ∧ MD ky w m th n T C Hd b q J bg pu bu9 cl mo K9 ∧ isOut ky w o f) (P2 := fun r w => AP ky w x n T C Hd b q J bg pi bu tm tl K ∧ MD ky w m 2 n T C Hd b q J bg pu bu9 cl mo K9 ∧ isOut ky w o f) (kc := 2) (by decide) ?_ ?_ ?_ ?_ ?_ ls hl
      · rw [hx2]
        refine WU.mono (wxA_canTake hP hD e0 heo (by decide) (by decide) (x_X4_canTake_2a hst hP hD hap hI hp hk2)) (fun r w z => ?_)
        obtain ⟨h1, hap1, hf1⟩ := z
        exact ⟨h1, hap1, hmd.fr hf1, heo.fr hf1⟩
      · intro w H1 hp hP1 hD1
        obtain ⟨hap1, hmd1, hg1⟩ := hp
        refine ⟨hmd1.at19, ?_⟩
        obtain ⟨fw, fd, fc, fg, fo, hmd2⟩ := hmd1
        rw [hx2]
        refine ⟨_, _, ?_, ?_, MU.mono (c_X5_canTake_2a hP1 hD1 hmd2 hn8 hp hk2) (fun r w2 z => ?_)⟩
        · decide
        · decide
        · obtain ⟨-, h2, h3⟩ := z
          exact ⟨hap1.fr h3, h2.md, hg1.fr h3⟩
      · intro r w z; exact z.2.1.thr
      · intro r w z h; exact absurd h (by decide)
      · intro r w H1 locs1 ls1 z hP1 hD1 hS1 hl1
        obtain ⟨hap1, hmd1, hg1⟩ := z
        exact kk w H1 locs1 ls1 ⟨_, _, _, _, _, _, _, _, _, _, _, _, _, _, _, _, _, _, _, _, hap1, hmd1, hg1, hLR⟩ hP1 hD1 hS1 hl1
    · obtain ⟨S, hS1, hS2, hx1⟩ := stt_ex hk2 hn8
      cases hb9 : S.testBit pt
      · skip
        refine lk_canTake hC hP hD hS hc hs hi (P1 := fun w => AP ky w x n T C Hd b q J bg pi bu tm tl K ∧ MD ky w m th n T C Hd b q J bg pu bu9 cl mo K9 ∧ isOut ky w o f) (P2 := fun r w => AP ky w x n T C Hd b q J bg pi bu tm tl K ∧ MD ky w m 2 n T C Hd b q J bg pu bu9 cl mo K9 ∧ isOut ky w o f) (kc := 2) (by decide) ?_ ?_ ?_ ?_ ?_ ls hl
        · rw [hx1, hx2]
          refine WU.mono (wxA_canTake hP hD e0 heo (by decide) (by decide) (x_X4_canTake_2b hst hP hD hap hI hS1 hS2 hp hb9)) (fun r w z => ?_)
          obtain ⟨h1, hap1, hf1⟩ := z
          exact ⟨h1, hap1, hmd.fr hf1, heo.fr hf1⟩
        · intro w H1 hp hP1 hD1
          obtain ⟨hap1, hmd1, hg1⟩ := hp
          refine ⟨hmd1.at19, ?_⟩
          obtain ⟨fw, fd, fc, fg, fo, hmd2⟩ := hmd1
          rw [hx1, hx2]
          refine ⟨_, _, ?_, ?_, MU.mono (c_X5_canTake_2b hP1 hD1 hmd2 hn8 hp hS1 hS2 hb9) (fun r w2 z => ?_)⟩
          · decide
          · decide
          · obtain ⟨-, h2, h3⟩ := z
            exact ⟨hap1.fr h3, h2.md, hg1.fr h3⟩
        · intro r w z; exact z.2.1.thr
        · intro r w z h; exact absurd h (by decide)
        · intro r w H1 locs1 ls1 z hP1 hD1 hS1 hl1
          obtain ⟨hap1, hmd1, hg1⟩ := z
          exact kk w H1 locs1 ls1 ⟨_, _, _, _, _, _, _, _, _, _, _, _, _, _, _, _, _, _, _, _, hap1, hmd1, hg1, hLR⟩ hP1 hD1 hS1 hl1
      · skip
        refine lk_canTake hC hP hD hS hc hs hi (P1 := fun w => AP ky w x n T C Hd b q J bg pi bu tm tl K ∧ MD ky w m th n T C Hd b q J bg pu bu9 cl mo K9 ∧ ∃ g : Nat → Int64, isOut ky w o g ∧ g 0 = (if tke C Hd b q S pt then 1 else 0)) (P2 := fun r w => r = bI (tke C Hd b q S pt) ∧ AP ky w x n T C Hd b q J bg pi bu tm tl K ∧ MD ky w m 0 n T C Hd b q J bg pu bu9 cl mo K9 ∧ ∃ g : Nat → Int64, isOut ky w o g ∧ g 0 = (if tke C Hd b q S pt then 1 else 0)) (kc := 0) (by decide) ?_ ?_ ?_ ?_ ?_ ls hl
        · rw [hx1, hx2]
          refine WU.mono (wk_canTake hP hD e0 heo (by decide) (by decide) (fun r w z => z.2.2) (c_X4_canTake_0 hP hD hap hI hS1 hS2 hp hb9)) (fun r w z => ?_)
          obtain ⟨h1, r1, w1, ⟨rfl, hap1, hf1⟩, hf2, g, hg1, hg2⟩ := z
          exact ⟨h1, hap1.fr hf2, (hmd.fr hf1).fr hf2, g, hg1, hg2.trans (bI_l _)⟩
        · intro w H1 hp hP1 hD1
          obtain ⟨hap1, hmd1, g, hg1, hg2⟩ := hp
          refine ⟨hmd1.at19, ?_⟩
          obtain ⟨fw, fd, fc, fg, fo, hmd2⟩ := hmd1
          rw [hx1, hx2]
          refine ⟨_, _, ?_, ?_, MU.mono (c_X5_canTake_0 hP1 hD1 hmd2 hI hp hS1 hS2 hb9) (fun r w2 z => ?_)⟩
          · decide
          · decide
          · obtain ⟨h1, h2, h3⟩ := z
            exact ⟨h1, hap1.fr h3, h2.md, g, hg1.fr h3, hg2⟩
        · intro r w z; exact z.2.2.1.thr
        · intro r w z _
          obtain ⟨h1, -, -, g, hg1, hg2⟩ := z
          exact ⟨_, g, h1, hg1, hg2⟩
        · intro r w H1 locs1 ls1 z hP1 hD1 hS1 hl1
          obtain ⟨-, hap1, hmd1, g, hg1, -⟩ := z
          exact kk w H1 locs1 ls1 ⟨_, _, _, _, _, _, _, _, _, _, _, _, _, _, _, _, _, _, _, _, hap1, hmd1, hg1, hLR⟩ hP1 hD1 hS1 hl1
set_option maxHeartbeats 4000000 in
set_option maxRecDepth 100000 in
theorem lc_movesWith {p : Program} {l : Launch} {e : Env} {R : Room} {s : State} {mi : MethodId} {av : Array Value} {below : List Frame} {meth : Method} {c : Code} {Q : State → Prop} {D : va_G} {ky : kT} {A : Nat → Prop} {sb L : Nat} {xs : Nat → Int32} (hst : l.stackTraces = false) (hC : LC p s mi av c R D ky A sb L xs) {ws : va_W} {H : Heap} {locs : List Loc} {cells slots : Nat} (hP : va_P D CL ws H) (hD : va_D A ws) (hS : va_S A s.heap H locs) (hc : cells + 1 ≤ R.cells) (hs : slots + 6 ≤ R.slots) {x m o i : Nat} (hi : i + 5 ≤ L) (hLI : LI ky ws x m o)
    (kk : ∀ (w : va_W) (H1 : Heap) (locs1 : List Loc) (ls1 : Array Slot), LI ky w x m o → va_P D CL w H1 → va_D A w → va_S A s.heap H1 locs1 → lv_has ls1 7 (hdl sb x m o (i + 5)) → W p l e R s mi av below meth c H1 locs1 (cells + 1) (slots + 6) Q (F0 mi 23 ls1 [])) (ls : Array Slot) (hl : lv_has ls 7 (hdl sb x m o i)) : W p l e R s mi av below meth c H locs cells slots Q (F0 mi 875 ls []) := by
  obtain ⟨n, T, C, Hd, b, q, J, bg, pi, bu, tm, tl, K, th, pu, bu9, cl, mo, K9, f, hap, hmd, heo, hLR⟩ := hLI
  obtain ⟨hI, hT, hJ, hK, hK9, hz8, hbt, hbf⟩ := id hLR
  obtain ⟨fs0, e0⟩ := hap.at0
  have hn8 := hI.1
  cases hk : prt n (xs (i + 1))
  · refine lk_movesWith hC hP hD hS hc hs hi (P1 := fun w => AP ky w x n T C Hd b q J bg pi bu tm tl K ∧ MD ky w m th n T C Hd b q J bg pu bu9 cl mo K9 ∧ isOut ky w o f) (P2 := fun r w => AP ky w x n T C Hd b q J bg pi bu tm tl K ∧ MD ky w m 1 n T C Hd b q J bg pu bu9 cl mo K9 ∧ isOut ky w o f) (kc := 1) (by decide) ?_ ?_ ?_ ?_ ?_ ls hl
    · skip
      refine WU.mono (wxI_movesWith hP hD e0 heo (by decide) (by decide) (x_X4_movesWith_1a hst hP hD hap hI hk)) (fun r w z => ?_)
      obtain ⟨h1, hap1, hf1⟩ := z
      exact ⟨h1, hap1, hmd.fr hf1, heo.fr hf1⟩
    · intro w H1 hp hP1 hD1
      obtain ⟨hap1, hmd1, hg1⟩ := hp
      refine ⟨hmd1.at19, ?_⟩
      obtain ⟨fw, fd, fc, fg, fo, hmd2⟩ := hmd1
      skip
      refine ⟨_, _, ?_, ?_, MU.mono (c_X5_movesWith_1 hP1 hD1 hmd2 (by rw [hk]; rfl)) (fun r w2 z => ?_)⟩
      · decide
      · decide
      · obtain ⟨-, h2, h3⟩ := z
        exact ⟨hap1.fr h3, h2.md, hg1.fr h3⟩
    · intro r w z; exact z.2.1.thr
    · intro r w z h; exact absurd h (by decide)
    · intro r w H1 locs1 ls1 z hP1 hD1 hS1 hl1
      obtain ⟨hap1, hmd1, hg1⟩ := z
      exact kk w H1 locs1 ls1 ⟨_, _, _, _, _, _, _, _, _, _, _, _, _, _, _, _, _, _, _, _, hap1, hmd1, hg1, hLR⟩ hP1 hD1 hS1 hl1
  · obtain ⟨pt, hp, hx1⟩ := prt_ex hk hn8
    cases hk2 : prt 6 (xs (i + 2))
    · refine lk_movesWith hC hP hD hS hc hs hi (P1 := fun w => AP ky w x n T C Hd b q J bg pi bu tm tl K ∧ MD ky w m th n T C Hd b q J bg pu bu9 cl mo K9 ∧ isOut ky w o f) (P2 := fun r w => AP ky w x n T C Hd b q J bg pi bu tm tl K ∧ MD ky w m 1 n T C Hd b q J bg pu bu9 cl mo K9 ∧ isOut ky w o f) (kc := 1) (by decide) ?_ ?_ ?_ ?_ ?_ ls hl
      · rw [hx1]
        refine WU.mono (wxI_movesWith hP hD e0 heo (by decide) (by decide) (x_X4_movesWith_1b hst hP hD hap hI hp hk2)) (fun r w z => ?_)
        obtain ⟨h1, hap1, hf1⟩ := z
        exact ⟨h1, hap1, hmd.fr hf1, heo.fr hf1⟩
      · intro w H1 hp hP1 hD1
        obtain ⟨hap1, hmd1, hg1⟩ := hp
        refine ⟨hmd1.at19, ?_⟩
        obtain ⟨fw, fd, fc, fg, fo, hmd2⟩ := hmd1
        rw [hx1]
        refine ⟨_, _, ?_, ?_, MU.mono (c_X5_movesWith_1 hP1 hD1 hmd2 (by rw [hk2, Bool.and_false])) (fun r w2 z => ?_)⟩
        · decide
        · decide
        · obtain ⟨-, h2, h3⟩ := z
          exact ⟨hap1.fr h3, h2.md, hg1.fr h3⟩
      · intro r w z; exact z.2.1.thr
      · intro r w z h; exact absurd h (by decide)
      · intro r w H1 locs1 ls1 z hP1 hD1 hS1 hl1
        obtain ⟨hap1, hmd1, hg1⟩ := z
        exact kk w H1 locs1 ls1 ⟨_, _, _, _, _, _, _, _, _, _, _, _, _, _, _, _, _, _, _, _, hap1, hmd1, hg1, hLR⟩ hP1 hD1 hS1 hl1
    · obtain ⟨d, hd, hx2⟩ := prt_ex hk2 (show 6 ≤ 8 by decide)
      refine lk_movesWith hC hP hD hS hc hs hi (P1 := fun w => AP ky w x n T C Hd b q J bg pi bu tm tl K ∧ MD ky w m th n T C Hd b q J bg pu bu9 cl mo K9 ∧ ∃ g : Nat → Int64, isOut ky w o g ∧ g 0 = ((nI (mov Hd n pt d)) : Int32).toInt64) (P2 := fun r w => r = nI (mov Hd n pt d) ∧ AP ky w x n T C Hd b q J bg pi bu tm tl K ∧ MD ky w m 0 n T C Hd b q J bg pu bu9 cl mo K9 ∧ ∃ g : Nat → Int64, isOut ky w o g ∧ g 0 = ((nI (mov Hd n pt d)) : Int32).toInt64) (kc := 0) (by decide) ?_ ?_ ?_ ?_ ?_ ls hl
      · rw [hx1, hx2]
        refine WU.mono (wk_movesWith hP hD e0 heo (by decide) (by decide) (fun r w z => z.2.2) (c_X4_movesWith_0 hP hD hap hI hp hd)) (fun r w z => ?_)
        obtain ⟨h1, r1, w1, ⟨rfl, hap1, hf1⟩, hf2, g, hg1, hg2⟩ := z
        exact ⟨h1, hap1.fr hf2, (hmd.fr hf1).fr hf2, g, hg1, hg2⟩
      · intro w H1 hp hP1 hD1
        obtain ⟨hap1, hmd1, g, hg1, hg2⟩ := hp
        refine ⟨hmd1.at19, ?_⟩
        obtain ⟨fw, fd, fc, fg, fo, hmd2⟩ := hmd1
        rw [hx1, hx2]
        refine ⟨_, _, ?_, ?_, MU.mono (c_X5_movesWith_0 hP1 hD1 hmd2 hI hp hd) (fun r w2 z => ?_)⟩
        · decide
        · decide
        · obtain ⟨h1, h2, h3⟩ := z
          exact ⟨h1, hap1.fr h3, h2.md, g, hg1.fr h3, hg2⟩
      · intro r w z; exact z.2.2.1.thr
      · intro r w z _
        obtain ⟨h1, -, -, g, hg1, hg2⟩ := z
        exact ⟨g, hg1, by rw [h1]; exact hg2⟩
      · intro r w H1 locs1 ls1 z hP1 hD1 hS1 hl1
        obtain ⟨-, hap1, hmd1, g, hg1, -⟩ := z
        exact kk w H1 locs1 ls1 ⟨_, _, _, _, _, _, _, _, _, _, _, _, _, _, _, _, _, _, _, _, hap1, hmd1, hg1, hLR⟩ hP1 hD1 hS1 hl1
set_option maxHeartbeats 4000000 in
set_option maxRecDepth 100000 in
theorem lc_boundTo {p : Program} {l : Launch} {e : Env} {R : Room} {s : State} {mi : MethodId} {av : Array Value} {below : List Frame} {meth : Method} {c : Code} {Q : State → Prop} {D : va_G} {ky : kT} {A : Nat → Prop} {sb L : Nat} {xs : Nat → Int32} (hst : l.stackTraces = false) (hC : LC p s mi av c R D ky A sb L xs) {ws : va_W} {H : Heap} {locs : List Loc} {cells slots : Nat} (hP : va_P D CL ws H) (hD : va_D A ws) (hS : va_S A s.heap H locs) (hc : cells + 1 ≤ R.cells) (hs : slots + 6 ≤ R.slots) {x m o i : Nat} (hi : i + 5 ≤ L) (hLI : LI ky ws x m o)
    (kk : ∀ (w : va_W) (H1 : Heap) (locs1 : List Loc) (ls1 : Array Slot), LI ky w x m o → va_P D CL w H1 → va_D A w → va_S A s.heap H1 locs1 → lv_has ls1 7 (hdl sb x m o (i + 5)) → W p l e R s mi av below meth c H1 locs1 (cells + 1) (slots + 6) Q (F0 mi 23 ls1 [])) (ls : Array Slot) (hl : lv_has ls 7 (hdl sb x m o i)) : W p l e R s mi av below meth c H locs cells slots Q (F0 mi 943 ls []) := by
  obtain ⟨n, T, C, Hd, b, q, J, bg, pi, bu, tm, tl, K, th, pu, bu9, cl, mo, K9, f, hap, hmd, heo, hLR⟩ := hLI
  obtain ⟨hI, hT, hJ, hK, hK9, hz8, hbt, hbf⟩ := id hLR
  obtain ⟨fs0, e0⟩ := hap.at0
  have hn8 := hI.1
  cases hk : prt n (xs (i + 1))
  · refine lk_boundTo hC hP hD hS hc hs hi (P1 := fun w => AP ky w x n T C Hd b q J bg pi bu tm tl K ∧ MD ky w m th n T C Hd b q J bg pu bu9 cl mo K9 ∧ isOut ky w o f) (P2 := fun r w => AP ky w x n T C Hd b q J bg pi bu tm tl K ∧ MD ky w m 1 n T C Hd b q J bg pu bu9 cl mo K9 ∧ isOut ky w o f) (kc := 1) (by decide) ?_ ?_ ?_ ?_ ?_ ls hl
    · skip
      refine WU.mono (wxI_boundTo hP hD e0 heo (by decide) (by decide) (x_X4_boundTo_1a hst hP hD hap hI hk)) (fun r w z => ?_)
      obtain ⟨h1, hap1, hf1⟩ := z
      exact ⟨h1, hap1, hmd.fr hf1, heo.fr hf1⟩
    · intro w H1 hp hP1 hD1
      obtain ⟨hap1, hmd1, hg1⟩ := hp
      refine ⟨hmd1.at19, ?_⟩
      obtain ⟨fw, fd, fc, fg, fo, hmd2⟩ := hmd1
      skip
      refine ⟨_, _, ?_, ?_, MU.mono (c_X5_boundTo_1 hP1 hD1 hmd2 (by rw [hk]; rfl)) (fun r w2 z => ?_)⟩
      · decide
      · decide
      · obtain ⟨-, h2, h3⟩ := z
        exact ⟨hap1.fr h3, h2.md, hg1.fr h3⟩
    · intro r w z; exact z.2.1.thr
    · intro r w z h; exact absurd h (by decide)
    · intro r w H1 locs1 ls1 z hP1 hD1 hS1 hl1
      obtain ⟨hap1, hmd1, hg1⟩ := z
      exact kk w H1 locs1 ls1 ⟨_, _, _, _, _, _, _, _, _, _, _, _, _, _, _, _, _, _, _, _, hap1, hmd1, hg1, hLR⟩ hP1 hD1 hS1 hl1
  · obtain ⟨pt, hp, hx1⟩ := prt_ex hk hn8
    cases hk2 : prt 6 (xs (i + 2))
    · refine lk_boundTo hC hP hD hS hc hs hi (P1 := fun w => AP ky w x n T C Hd b q J bg pi bu tm tl K ∧ MD ky w m th n T C Hd b q J bg pu bu9 cl mo K9 ∧ isOut ky w o f) (P2 := fun r w => AP ky w x n T C Hd b q J bg pi bu tm tl K ∧ MD ky w m 1 n T C Hd b q J bg pu bu9 cl mo K9 ∧ isOut ky w o f) (kc := 1) (by decide) ?_ ?_ ?_ ?_ ?_ ls hl
      · rw [hx1]
        refine WU.mono (wxI_boundTo hP hD e0 heo (by decide) (by decide) (x_X4_boundTo_1b hst hP hD hap hI hp hk2)) (fun r w z => ?_)
        obtain ⟨h1, hap1, hf1⟩ := z
        exact ⟨h1, hap1, hmd.fr hf1, heo.fr hf1⟩
      · intro w H1 hp hP1 hD1
        obtain ⟨hap1, hmd1, hg1⟩ := hp
        refine ⟨hmd1.at19, ?_⟩
        obtain ⟨fw, fd, fc, fg, fo, hmd2⟩ := hmd1
        rw [hx1]
        refine ⟨_, _, ?_, ?_, MU.mono (c_X5_boundTo_1 hP1 hD1 hmd2 (by rw [hk2, Bool.and_false])) (fun r w2 z => ?_)⟩
        · decide
        · decide
        · obtain ⟨-, h2, h3⟩ := z
          exact ⟨hap1.fr h3, h2.md, hg1.fr h3⟩
      · intro r w z; exact z.2.1.thr
      · intro r w z h; exact absurd h (by decide)
      · intro r w H1 locs1 ls1 z hP1 hD1 hS1 hl1
        obtain ⟨hap1, hmd1, hg1⟩ := z
        exact kk w H1 locs1 ls1 ⟨_, _, _, _, _, _, _, _, _, _, _, _, _, _, _, _, _, _, _, _, hap1, hmd1, hg1, hLR⟩ hP1 hD1 hS1 hl1
    · obtain ⟨d, hd, hx2⟩ := prt_ex hk2 (show 6 ≤ 8 by decide)
      refine lk_boundTo hC hP hD hS hc hs hi (P1 := fun w => AP ky w x n T C Hd b q J bg pi bu tm tl K ∧ MD ky w m th n T C Hd b q J bg pu bu9 cl mo K9 ∧ ∃ g : Nat → Int64, isOut ky w o g ∧ g 0 = ((nI (bnd Hd n pt d)) : Int32).toInt64) (P2 := fun r w => r = nI (bnd Hd n pt d) ∧ AP ky w x n T C Hd b q J bg pi bu tm tl K ∧ MD ky w m 0 n T C Hd b q J bg pu bu9 cl mo K9 ∧ ∃ g : Nat → Int64, isOut ky w o g ∧ g 0 = ((nI (bnd Hd n pt d)) : Int32).toInt64) (kc := 0) (by decide) ?_ ?_ ?_ ?_ ?_ ls hl
      · rw [hx1, hx2]
        refine WU.mono (wk_boundTo hP hD e0 heo (by decide) (by decide) (fun r w z => z.2.2) (c_X4_boundTo_0 hP hD hap hI hp hd)) (fun r w z => ?_)
        obtain ⟨h1, r1, w1, ⟨rfl, hap1, hf1⟩, hf2, g, hg1, hg2⟩ := z
        exact ⟨h1, hap1.fr hf2, (hmd.fr hf1).fr hf2, g, hg1, hg2⟩
      · intro w H1 hp hP1 hD1
        obtain ⟨hap1, hmd1, g, hg1, hg2⟩ := hp
        refine ⟨hmd1.at19, ?_⟩
        obtain ⟨fw, fd, fc, fg, fo, hmd2⟩ := hmd1
        rw [hx1, hx2]
        refine ⟨_, _, ?_, ?_, MU.mono (c_X5_boundTo_0 hP1 hD1 hmd2 hI hp hd) (fun r w2 z => ?_)⟩
        · decide
        · decide
        · obtain ⟨h1, h2, h3⟩ := z
          exact ⟨h1, hap1.fr h3, h2.md, g, hg1.fr h3, hg2⟩
      · intro r w z; exact z.2.2.1.thr
      · intro r w z _
        obtain ⟨h1, -, -, g, hg1, hg2⟩ := z
        exact ⟨g, hg1, by rw [h1]; exact hg2⟩
      · intro r w H1 locs1 ls1 z hP1 hD1 hS1 hl1
        obtain ⟨-, hap1, hmd1, g, hg1, -⟩ := z
        exact kk w H1 locs1 ls1 ⟨_, _, _, _, _, _, _, _, _, _, _, _, _, _, _, _, _, _, _, _, hap1, hmd1, hg1, hLR⟩ hP1 hD1 hS1 hl1
set_option maxHeartbeats 4000000 in
set_option maxRecDepth 100000 in
theorem lc_groups {p : Program} {l : Launch} {e : Env} {R : Room} {s : State} {mi : MethodId} {av : Array Value} {below : List Frame} {meth : Method} {c : Code} {Q : State → Prop} {D : va_G} {ky : kT} {A : Nat → Prop} {sb L : Nat} {xs : Nat → Int32} (hst : l.stackTraces = false) (hC : LC p s mi av c R D ky A sb L xs) {ws : va_W} {H : Heap} {locs : List Loc} {cells slots : Nat} (hP : va_P D CL ws H) (hD : va_D A ws) (hS : va_S A s.heap H locs) (hc : cells + 1 ≤ R.cells) (hs : slots + 6 ≤ R.slots) {x m o i : Nat} (hi : i + 5 ≤ L) (hLI : LI ky ws x m o)
    (kk : ∀ (w : va_W) (H1 : Heap) (locs1 : List Loc) (ls1 : Array Slot), LI ky w x m o → va_P D CL w H1 → va_D A w → va_S A s.heap H1 locs1 → lv_has ls1 7 (hdl sb x m o (i + 5)) → W p l e R s mi av below meth c H1 locs1 (cells + 1) (slots + 6) Q (F0 mi 23 ls1 [])) (ls : Array Slot) (hl : lv_has ls 7 (hdl sb x m o i)) : W p l e R s mi av below meth c H locs cells slots Q (F0 mi 1011 ls []) := by
  obtain ⟨n, T, C, Hd, b, q, J, bg, pi, bu, tm, tl, K, th, pu, bu9, cl, mo, K9, f, hap, hmd, heo, hLR⟩ := hLI
  obtain ⟨hI, hT, hJ, hK, hK9, hz8, hbt, hbf⟩ := id hLR
  obtain ⟨fs0, e0⟩ := hap.at0
  have hn8 := hI.1
  cases hk : prt 6 (xs (i + 1))
  · refine lk_groups hC hP hD hS hc hs hi (P1 := fun w => AP ky w x n T C Hd b q J bg pi bu tm tl K ∧ MD ky w m th n T C Hd b q J bg pu bu9 cl mo K9 ∧ isOut ky w o f) (P2 := fun r w => AP ky w x n T C Hd b q J bg pi bu tm tl K ∧ MD ky w m 1 n T C Hd b q J bg pu bu9 cl mo K9 ∧ isOut ky w o f) (kc := 1) (by decide) ?_ ?_ ?_ ?_ ?_ ls hl
    · skip
      refine WU.mono (wxI_groups hP hD e0 heo (by decide) (by decide) (x_X4_groups_1 hst hP hD hap hI hk)) (fun r w z => ?_)
      obtain ⟨h1, hap1, hf1⟩ := z
      exact ⟨h1, hap1, hmd.fr hf1, heo.fr hf1⟩
    · intro w H1 hp hP1 hD1
      obtain ⟨hap1, hmd1, hg1⟩ := hp
      refine ⟨hmd1.at19, ?_⟩
      obtain ⟨fw, fd, fc, fg, fo, hmd2⟩ := hmd1
      skip
      refine ⟨_, _, ?_, ?_, MU.mono (c_X5_groups_1 hP1 hD1 hmd2 hk) (fun r w2 z => ?_)⟩
      · decide
      · decide
      · obtain ⟨-, h2, h3⟩ := z
        exact ⟨hap1.fr h3, h2.md, hg1.fr h3⟩
    · intro r w z; exact z.2.1.thr
    · intro r w z h; exact absurd h (by decide)
    · intro r w H1 locs1 ls1 z hP1 hD1 hS1 hl1
      obtain ⟨hap1, hmd1, hg1⟩ := z
      exact kk w H1 locs1 ls1 ⟨_, _, _, _, _, _, _, _, _, _, _, _, _, _, _, _, _, _, _, _, hap1, hmd1, hg1, hLR⟩ hP1 hD1 hS1 hl1
  · obtain ⟨d, hd, hx1⟩ := prt_ex hk (show 6 ≤ 8 by decide)
    refine lk_groups hC hP hD hS hc hs hi (P1 := fun w => AP ky w x n T C Hd b q J bg pi bu tm tl K ∧ MD ky w m th n T C Hd b q J bg pu bu9 cl mo K9 ∧ ∃ g : Nat → Int64, isOut ky w o g ∧ g 0 = ((nI (grp Hd n d)) : Int32).toInt64) (P2 := fun r w => r = nI (grp Hd n d) ∧ AP ky w x n T C Hd b q J bg pi bu tm tl K ∧ MD ky w m 0 n T C Hd b q J bg pu bu9 cl mo K9 ∧ ∃ g : Nat → Int64, isOut ky w o g ∧ g 0 = ((nI (grp Hd n d)) : Int32).toInt64) (kc := 0) (by decide) ?_ ?_ ?_ ?_ ?_ ls hl
    · rw [hx1]
      refine WU.mono (wk_groups hP hD e0 heo (by decide) (by decide) (fun r w z => z.2.2) (c_X4_groups_0 hP hD hap hI hd)) (fun r w z => ?_)
      obtain ⟨h1, r1, w1, ⟨rfl, hap1, hf1⟩, hf2, g, hg1, hg2⟩ := z
      exact ⟨h1, hap1.fr hf2, (hmd.fr hf1).fr hf2, g, hg1, hg2⟩
    · intro w H1 hp hP1 hD1
      obtain ⟨hap1, hmd1, g, hg1, hg2⟩ := hp
      refine ⟨hmd1.at19, ?_⟩
      obtain ⟨fw, fd, fc, fg, fo, hmd2⟩ := hmd1
      rw [hx1]
      refine ⟨_, _, ?_, ?_, MU.mono (c_X5_groups_0 hP1 hD1 hmd2 hI hd) (fun r w2 z => ?_)⟩
      · decide
      · decide
      · obtain ⟨h1, h2, h3⟩ := z
        exact ⟨h1, hap1.fr h3, h2.md, g, hg1.fr h3, hg2⟩
    · intro r w z; exact z.2.2.1.thr
    · intro r w z _
      obtain ⟨h1, -, -, g, hg1, hg2⟩ := z
      exact ⟨g, hg1, by rw [h1]; exact hg2⟩
    · intro r w H1 locs1 ls1 z hP1 hD1 hS1 hl1
      obtain ⟨-, hap1, hmd1, g, hg1, -⟩ := z
      exact kk w H1 locs1 ls1 ⟨_, _, _, _, _, _, _, _, _, _, _, _, _, _, _, _, _, _, _, _, hap1, hmd1, hg1, hLR⟩ hP1 hD1 hS1 hl1
set_option maxHeartbeats 4000000 in
set_option maxRecDepth 100000 in
theorem lc_splits {p : Program} {l : Launch} {e : Env} {R : Room} {s : State} {mi : MethodId} {av : Array Value} {below : List Frame} {meth : Method} {c : Code} {Q : State → Prop} {D : va_G} {ky : kT} {A : Nat → Prop} {sb L : Nat} {xs : Nat → Int32} (hst : l.stackTraces = false) (hC : LC p s mi av c R D ky A sb L xs) {ws : va_W} {H : Heap} {locs : List Loc} {cells slots : Nat} (hP : va_P D CL ws H) (hD : va_D A ws) (hS : va_S A s.heap H locs) (hc : cells + 1 ≤ R.cells) (hs : slots + 6 ≤ R.slots) {x m o i : Nat} (hi : i + 5 ≤ L) (hLI : LI ky ws x m o)
    (kk : ∀ (w : va_W) (H1 : Heap) (locs1 : List Loc) (ls1 : Array Slot), LI ky w x m o → va_P D CL w H1 → va_D A w → va_S A s.heap H1 locs1 → lv_has ls1 7 (hdl sb x m o (i + 5)) → W p l e R s mi av below meth c H1 locs1 (cells + 1) (slots + 6) Q (F0 mi 23 ls1 [])) (ls : Array Slot) (hl : lv_has ls 7 (hdl sb x m o i)) : W p l e R s mi av below meth c H locs cells slots Q (F0 mi 1067 ls []) := by
  obtain ⟨n, T, C, Hd, b, q, J, bg, pi, bu, tm, tl, K, th, pu, bu9, cl, mo, K9, f, hap, hmd, heo, hLR⟩ := hLI
  obtain ⟨hI, hT, hJ, hK, hK9, hz8, hbt, hbf⟩ := id hLR
  obtain ⟨fs0, e0⟩ := hap.at0
  have hn8 := hI.1
  cases hk : stt n (xs (i + 1))
  · refine lk_splits hC hP hD hS hc hs hi (P1 := fun w => AP ky w x n T C Hd b q J bg pi bu tm tl K ∧ MD ky w m th n T C Hd b q J bg pu bu9 cl mo K9 ∧ isOut ky w o f) (P2 := fun r w => AP ky w x n T C Hd b q J bg pi bu tm tl K ∧ MD ky w m 1 n T C Hd b q J bg pu bu9 cl mo K9 ∧ isOut ky w o f) (kc := 1) (by decide) ?_ ?_ ?_ ?_ ?_ ls hl
    · skip
      refine WU.mono (wxA_splits hP hD e0 heo (by decide) (by decide) (x_X4_splits_1 hst hP hD hap hI hk)) (fun r w z => ?_)
      obtain ⟨h1, hap1, hf1⟩ := z
      exact ⟨h1, hap1, hmd.fr hf1, heo.fr hf1⟩
    · intro w H1 hp hP1 hD1
      obtain ⟨hap1, hmd1, hg1⟩ := hp
      refine ⟨hmd1.at19, ?_⟩
      obtain ⟨fw, fd, fc, fg, fo, hmd2⟩ := hmd1
      skip
      refine ⟨_, _, ?_, ?_, MU.mono (c_X5_splits_1 hP1 hD1 hmd2 hn8 hk) (fun r w2 z => ?_)⟩
      · decide
      · decide
      · obtain ⟨-, h2, h3⟩ := z
        exact ⟨hap1.fr h3, h2.md, hg1.fr h3⟩
    · intro r w z; exact z.2.1.thr
    · intro r w z h; exact absurd h (by decide)
    · intro r w H1 locs1 ls1 z hP1 hD1 hS1 hl1
      obtain ⟨hap1, hmd1, hg1⟩ := z
      exact kk w H1 locs1 ls1 ⟨_, _, _, _, _, _, _, _, _, _, _, _, _, _, _, _, _, _, _, _, hap1, hmd1, hg1, hLR⟩ hP1 hD1 hS1 hl1
  · obtain ⟨S, hS1, hS2, hx1⟩ := stt_ex hk hn8
    cases hcn : conn C S
    · skip
      refine lk_splits hC hP hD hS hc hs hi (P1 := fun w => AP ky w x n T C Hd b q J bg pi bu tm tl K ∧ MD ky w m th n T C Hd b q J bg pu bu9 cl mo K9 ∧ ∃ g : Nat → Int64, isOut ky w o g ∧ g 0 = ((nI (spc C Hd n S)) : Int32).toInt64) (P2 := fun r w => r = nI (spc C Hd n S) ∧ AP ky w x n T C Hd b q J bg pi bu tm tl K ∧ MD ky w m 0 n T C Hd b q J bg pu bu9 cl mo K9 ∧ ∃ g : Nat → Int64, isOut ky w o g ∧ g 0 = ((nI (spc C Hd n S)) : Int32).toInt64) (kc := 0) (by decide) ?_ ?_ ?_ ?_ ?_ ls hl
      · rw [hx1]
        refine WU.mono (wk_splits hP hD e0 heo (by decide) (by decide) (fun r w z => z.2.2) (c_X4_splits_0 hP hD hap hI hS1 hS2)) (fun r w z => ?_)
        obtain ⟨h1, r1, w1, ⟨rfl, hap1, hf1⟩, hf2, g, hg1, hg2⟩ := z
        exact ⟨h1, hap1.fr hf2, (hmd.fr hf1).fr hf2, g, hg1, hg2⟩
      · intro w H1 hp hP1 hD1
        obtain ⟨hap1, hmd1, g, hg1, hg2⟩ := hp
        refine ⟨hmd1.at19, ?_⟩
        obtain ⟨fw, fd, fc, fg, fo, hmd2⟩ := hmd1
        rw [hx1]
        refine ⟨_, _, ?_, ?_, MU.mono (c_X5_splits_0f hP1 hD1 hmd2 hI hS1 hS2 hcn) (fun r w2 z => ?_)⟩
        · decide
        · decide
        · obtain ⟨h1, h2, h3⟩ := z
          exact ⟨h1, hap1.fr h3, h2.md, g, hg1.fr h3, hg2⟩
      · intro r w z; exact z.2.2.1.thr
      · intro r w z _
        obtain ⟨h1, -, -, g, hg1, hg2⟩ := z
        exact ⟨g, hg1, by rw [h1]; exact hg2⟩
      · intro r w H1 locs1 ls1 z hP1 hD1 hS1 hl1
        obtain ⟨-, hap1, hmd1, g, hg1, -⟩ := z
        exact kk w H1 locs1 ls1 ⟨_, _, _, _, _, _, _, _, _, _, _, _, _, _, _, _, _, _, _, _, hap1, hmd1, hg1, hLR⟩ hP1 hD1 hS1 hl1
    · skip
      refine lk_splits hC hP hD hS hc hs hi (P1 := fun w => AP ky w x n T C Hd b q J bg pi bu tm tl K ∧ MD ky w m th n T C Hd b q J bg pu bu9 cl mo K9 ∧ ∃ g : Nat → Int64, isOut ky w o g ∧ g 0 = ((nI (spc C Hd n S)) : Int32).toInt64) (P2 := fun r w => r = nI (spc C Hd n S) ∧ AP ky w x n T C Hd b q J bg pi bu tm tl K ∧ MD ky w m 0 n T C Hd b q J bg pu bu9 cl mo K9 ∧ ∃ g : Nat → Int64, isOut ky w o g ∧ g 0 = ((nI (spc C Hd n S)) : Int32).toInt64) (kc := 0) (by decide) ?_ ?_ ?_ ?_ ?_ ls hl
      · rw [hx1]
        refine WU.mono (wk_splits hP hD e0 heo (by decide) (by decide) (fun r w z => z.2.2) (c_X4_splits_0 hP hD hap hI hS1 hS2)) (fun r w z => ?_)
        obtain ⟨h1, r1, w1, ⟨rfl, hap1, hf1⟩, hf2, g, hg1, hg2⟩ := z
        exact ⟨h1, hap1.fr hf2, (hmd.fr hf1).fr hf2, g, hg1, hg2⟩
      · intro w H1 hp hP1 hD1
        obtain ⟨hap1, hmd1, g, hg1, hg2⟩ := hp
        refine ⟨hmd1.at19, ?_⟩
        obtain ⟨fw, fd, fc, fg, fo, hmd2⟩ := hmd1
        rw [hx1]
        refine ⟨_, _, ?_, ?_, MU.mono (c_X5_splits_0t hP1 hD1 hmd2 hI hS1 hS2 hcn) (fun r w2 z => ?_)⟩
        · decide
        · decide
        · obtain ⟨h1, h2, h3⟩ := z
          exact ⟨h1, hap1.fr h3, h2.md, g, hg1.fr h3, hg2⟩
      · intro r w z; exact z.2.2.1.thr
      · intro r w z _
        obtain ⟨h1, -, -, g, hg1, hg2⟩ := z
        exact ⟨g, hg1, by rw [h1]; exact hg2⟩
      · intro r w H1 locs1 ls1 z hP1 hD1 hS1 hl1
        obtain ⟨-, hap1, hmd1, g, hg1, -⟩ := z
        exact kk w H1 locs1 ls1 ⟨_, _, _, _, _, _, _, _, _, _, _, _, _, _, _, _, _, _, _, _, hap1, hmd1, hg1, hLR⟩ hP1 hD1 hS1 hl1
set_option maxHeartbeats 4000000 in
set_option maxRecDepth 100000 in
theorem lc_ways {p : Program} {l : Launch} {e : Env} {R : Room} {s : State} {mi : MethodId} {av : Array Value} {below : List Frame} {meth : Method} {c : Code} {Q : State → Prop} {D : va_G} {ky : kT} {A : Nat → Prop} {sb L : Nat} {xs : Nat → Int32} (hst : l.stackTraces = false) (hC : LC p s mi av c R D ky A sb L xs) {ws : va_W} {H : Heap} {locs : List Loc} {cells slots : Nat} (hP : va_P D CL ws H) (hD : va_D A ws) (hS : va_S A s.heap H locs) (hc : cells + 1 ≤ R.cells) (hs : slots + 6 ≤ R.slots) {x m o i : Nat} (hi : i + 5 ≤ L) (hLI : LI ky ws x m o)
    (kk : ∀ (w : va_W) (H1 : Heap) (locs1 : List Loc) (ls1 : Array Slot), LI ky w x m o → va_P D CL w H1 → va_D A w → va_S A s.heap H1 locs1 → lv_has ls1 7 (hdl sb x m o (i + 5)) → W p l e R s mi av below meth c H1 locs1 (cells + 1) (slots + 6) Q (F0 mi 23 ls1 [])) (ls : Array Slot) (hl : lv_has ls 7 (hdl sb x m o i)) : W p l e R s mi av below meth c H locs cells slots Q (F0 mi 1123 ls []) := by
  obtain ⟨n, T, C, Hd, b, q, J, bg, pi, bu, tm, tl, K, th, pu, bu9, cl, mo, K9, f, hap, hmd, heo, hLR⟩ := hLI
  obtain ⟨hI, hT, hJ, hK, hK9, hz8, hbt, hbf⟩ := id hLR
  obtain ⟨fs0, e0⟩ := hap.at0
  have hn8 := hI.1
  by_cases hn1 : 0 < n
  · refine lk_ways hC hP hD hS hc hs hi (P1 := fun w => AP ky w x n T C Hd b q J bg pi bu tm tl K ∧ MD ky w m th n T C Hd b q J bg pu bu9 cl mo K9 ∧ ∃ g : Nat → Int64, isOut ky w o g ∧ g 0 = ((nI (wys C Hd n (2 ^ n - 1))) : Int32).toInt64) (P2 := fun r w => r = nI (wys C Hd n (2 ^ n - 1)) ∧ AP ky w x n T C Hd b q J bg pi bu tm tl K ∧ MD ky w m 0 n T C Hd b q J bg pu bu9 cl mo K9 ∧ ∃ g : Nat → Int64, isOut ky w o g ∧ g 0 = ((nI (wys C Hd n (2 ^ n - 1))) : Int32).toInt64) (kc := 0) (by decide) ?_ ?_ ?_ ?_ ?_ ls hl
    · skip
      refine WU.mono (wk_ways hP hD e0 heo (by decide) (by decide) (fun r w z => z.2.2) (c_X4_ways_0 hP hD hap hI hn1)) (fun r w z => ?_)
      obtain ⟨h1, r1, w1, ⟨rfl, hap1, hf1⟩, hf2, g, hg1, hg2⟩ := z
      exact ⟨h1, hap1.fr hf2, (hmd.fr hf1).fr hf2, g, hg1, hg2⟩
    · intro w H1 hp hP1 hD1
      obtain ⟨hap1, hmd1, g, hg1, hg2⟩ := hp
      refine ⟨hmd1.at19, ?_⟩
      obtain ⟨fw, fd, fc, fg, fo, hmd2⟩ := hmd1
      skip
      refine ⟨_, _, ?_, ?_, MU.mono (c_X5_ways_0 hP1 hD1 hmd2 hI hn1) (fun r w2 z => ?_)⟩
      · decide
      · decide
      · obtain ⟨h1, h2, h3⟩ := z
        exact ⟨h1, hap1.fr h3, h2, g, hg1.fr h3, hg2⟩
    · intro r w z; exact z.2.2.1.thr
    · intro r w z _
      obtain ⟨h1, -, -, g, hg1, hg2⟩ := z
      exact ⟨g, hg1, by rw [h1]; exact hg2⟩
    · intro r w H1 locs1 ls1 z hP1 hD1 hS1 hl1
      obtain ⟨-, hap1, hmd1, g, hg1, -⟩ := z
      exact kk w H1 locs1 ls1 ⟨_, _, _, _, _, _, _, _, _, _, _, _, _, _, _, _, _, _, _, _, hap1, hmd1, hg1, hLR⟩ hP1 hD1 hS1 hl1
  · have hn0 : n = 0 := by omega
    refine lk_ways hC hP hD hS hc hs hi (P1 := fun w => AP ky w x n T C Hd b q J bg pi bu tm tl K ∧ MD ky w m th n T C Hd b q J bg pu bu9 cl mo K9 ∧ isOut ky w o f) (P2 := fun r w => AP ky w x n T C Hd b q J bg pi bu tm tl K ∧ MD ky w m 1 n T C Hd b q J bg pu bu9 cl mo K9 ∧ isOut ky w o f) (kc := 1) (by decide) ?_ ?_ ?_ ?_ ?_ ls hl
    · skip
      refine WU.mono (wxS_ways hP hD e0 heo (by decide) (by decide) (x_X4_ways_1 hst hP hD hap hI hn0)) (fun r w z => ?_)
      obtain ⟨h1, hap1, hf1⟩ := z
      exact ⟨h1, hap1, hmd.fr hf1, heo.fr hf1⟩
    · intro w H1 hp hP1 hD1
      obtain ⟨hap1, hmd1, hg1⟩ := hp
      refine ⟨hmd1.at19, ?_⟩
      obtain ⟨fw, fd, fc, fg, fo, hmd2⟩ := hmd1
      skip
      refine ⟨_, _, ?_, ?_, MU.mono (c_X5_ways_1 hP1 hD1 hmd2 hn0) (fun r w2 z => ?_)⟩
      · decide
      · decide
      · obtain ⟨-, h2, h3⟩ := z
        exact ⟨hap1.fr h3, h2.md, hg1.fr h3⟩
    · intro r w z; exact z.2.1.thr
    · intro r w z h; exact absurd h (by decide)
    · intro r w H1 locs1 ls1 z hP1 hD1 hS1 hl1
      obtain ⟨hap1, hmd1, hg1⟩ := z
      exact kk w H1 locs1 ls1 ⟨_, _, _, _, _, _, _, _, _, _, _, _, _, _, _, _, _, _, _, _, hap1, hmd1, hg1, hLR⟩ hP1 hD1 hS1 hl1
set_option maxHeartbeats 4000000 in
set_option maxRecDepth 100000 in
theorem lc_leastDepth {p : Program} {l : Launch} {e : Env} {R : Room} {s : State} {mi : MethodId} {av : Array Value} {below : List Frame} {meth : Method} {c : Code} {Q : State → Prop} {D : va_G} {ky : kT} {A : Nat → Prop} {sb L : Nat} {xs : Nat → Int32} (hst : l.stackTraces = false) (hC : LC p s mi av c R D ky A sb L xs) {ws : va_W} {H : Heap} {locs : List Loc} {cells slots : Nat} (hP : va_P D CL ws H) (hD : va_D A ws) (hS : va_S A s.heap H locs) (hc : cells + 1 ≤ R.cells) (hs : slots + 6 ≤ R.slots) {x m o i : Nat} (hi : i + 5 ≤ L) (hLI : LI ky ws x m o)
    (kk : ∀ (w : va_W) (H1 : Heap) (locs1 : List Loc) (ls1 : Array Slot), LI ky w x m o → va_P D CL w H1 → va_D A w → va_S A s.heap H1 locs1 → lv_has ls1 7 (hdl sb x m o (i + 5)) → W p l e R s mi av below meth c H1 locs1 (cells + 1) (slots + 6) Q (F0 mi 23 ls1 [])) (ls : Array Slot) (hl : lv_has ls 7 (hdl sb x m o i)) : W p l e R s mi av below meth c H locs cells slots Q (F0 mi 1167 ls []) := by
  obtain ⟨n, T, C, Hd, b, q, J, bg, pi, bu, tm, tl, K, th, pu, bu9, cl, mo, K9, f, hap, hmd, heo, hLR⟩ := hLI
  obtain ⟨hI, hT, hJ, hK, hK9, hz8, hbt, hbf⟩ := id hLR
  obtain ⟨fs0, e0⟩ := hap.at0
  have hn8 := hI.1
  by_cases hn1 : 0 < n
  · refine lk_leastDepth hC hP hD hS hc hs hi (P1 := fun w => AP ky w x n T C Hd b q J bg pi bu tm tl K ∧ MD ky w m th n T C Hd b q J bg pu bu9 cl mo K9 ∧ ∃ g : Nat → Int64, isOut ky w o g ∧ g 0 = ((dI (dps C Hd n (2 ^ n - 1))) : Int32).toInt64) (P2 := fun r w => r = dI (dps C Hd n (2 ^ n - 1)) ∧ AP ky w x n T C Hd b q J bg pi bu tm tl K ∧ MD ky w m 0 n T C Hd b q J bg pu bu9 cl mo K9 ∧ ∃ g : Nat → Int64, isOut ky w o g ∧ g 0 = ((dI (dps C Hd n (2 ^ n - 1))) : Int32).toInt64) (kc := 0) (by decide) ?_ ?_ ?_ ?_ ?_ ls hl
    · skip
      refine WU.mono (wk_leastDepth hP hD e0 heo (by decide) (by decide) (fun r w z => z.2.2) (c_X4_leastDepth_0 hP hD hap hI hn1)) (fun r w z => ?_)
      obtain ⟨h1, r1, w1, ⟨rfl, hap1, hf1⟩, hf2, g, hg1, hg2⟩ := z
      exact ⟨h1, hap1.fr hf2, (hmd.fr hf1).fr hf2, g, hg1, hg2⟩
    · intro w H1 hp hP1 hD1
      obtain ⟨hap1, hmd1, g, hg1, hg2⟩ := hp
      refine ⟨hmd1.at19, ?_⟩
      obtain ⟨fw, fd, fc, fg, fo, hmd2⟩ := hmd1
      skip
      refine ⟨_, _, ?_, ?_, MU.mono (c_X5_leastDepth_0 hP1 hD1 hmd2 hI hn1) (fun r w2 z => ?_)⟩
      · decide
      · decide
      · obtain ⟨h1, h2, h3⟩ := z
        exact ⟨h1, hap1.fr h3, h2, g, hg1.fr h3, hg2⟩
    · intro r w z; exact z.2.2.1.thr
    · intro r w z _
      obtain ⟨h1, -, -, g, hg1, hg2⟩ := z
      exact ⟨g, hg1, by rw [h1]; exact hg2⟩
    · intro r w H1 locs1 ls1 z hP1 hD1 hS1 hl1
      obtain ⟨-, hap1, hmd1, g, hg1, -⟩ := z
      exact kk w H1 locs1 ls1 ⟨_, _, _, _, _, _, _, _, _, _, _, _, _, _, _, _, _, _, _, _, hap1, hmd1, hg1, hLR⟩ hP1 hD1 hS1 hl1
  · have hn0 : n = 0 := by omega
    refine lk_leastDepth hC hP hD hS hc hs hi (P1 := fun w => AP ky w x n T C Hd b q J bg pi bu tm tl K ∧ MD ky w m th n T C Hd b q J bg pu bu9 cl mo K9 ∧ isOut ky w o f) (P2 := fun r w => AP ky w x n T C Hd b q J bg pi bu tm tl K ∧ MD ky w m 1 n T C Hd b q J bg pu bu9 cl mo K9 ∧ isOut ky w o f) (kc := 1) (by decide) ?_ ?_ ?_ ?_ ?_ ls hl
    · skip
      refine WU.mono (wxS_leastDepth hP hD e0 heo (by decide) (by decide) (x_X4_leastDepth_1 hst hP hD hap hI hn0)) (fun r w z => ?_)
      obtain ⟨h1, hap1, hf1⟩ := z
      exact ⟨h1, hap1, hmd.fr hf1, heo.fr hf1⟩
    · intro w H1 hp hP1 hD1
      obtain ⟨hap1, hmd1, hg1⟩ := hp
      refine ⟨hmd1.at19, ?_⟩
      obtain ⟨fw, fd, fc, fg, fo, hmd2⟩ := hmd1
      skip
      refine ⟨_, _, ?_, ?_, MU.mono (c_X5_leastDepth_1 hP1 hD1 hmd2 hn0) (fun r w2 z => ?_)⟩
      · decide
      · decide
      · obtain ⟨-, h2, h3⟩ := z
        exact ⟨hap1.fr h3, h2.md, hg1.fr h3⟩
    · intro r w z; exact z.2.1.thr
    · intro r w z h; exact absurd h (by decide)
    · intro r w H1 locs1 ls1 z hP1 hD1 hS1 hl1
      obtain ⟨hap1, hmd1, hg1⟩ := z
      exact kk w H1 locs1 ls1 ⟨_, _, _, _, _, _, _, _, _, _, _, _, _, _, _, _, _, _, _, _, hap1, hmd1, hg1, hLR⟩ hP1 hD1 hS1 hl1
set_option maxHeartbeats 4000000 in
set_option maxRecDepth 100000 in
theorem lc_orders {p : Program} {l : Launch} {e : Env} {R : Room} {s : State} {mi : MethodId} {av : Array Value} {below : List Frame} {meth : Method} {c : Code} {Q : State → Prop} {D : va_G} {ky : kT} {A : Nat → Prop} {sb L : Nat} {xs : Nat → Int32} (hst : l.stackTraces = false) (hC : LC p s mi av c R D ky A sb L xs) {ws : va_W} {H : Heap} {locs : List Loc} {cells slots : Nat} (hP : va_P D CL ws H) (hD : va_D A ws) (hS : va_S A s.heap H locs) (hc : cells + 1 ≤ R.cells) (hs : slots + 6 ≤ R.slots) {x m o i : Nat} (hi : i + 5 ≤ L) (hLI : LI ky ws x m o)
    (kk : ∀ (w : va_W) (H1 : Heap) (locs1 : List Loc) (ls1 : Array Slot), LI ky w x m o → va_P D CL w H1 → va_D A w → va_S A s.heap H1 locs1 → lv_has ls1 7 (hdl sb x m o (i + 5)) → W p l e R s mi av below meth c H1 locs1 (cells + 1) (slots + 6) Q (F0 mi 23 ls1 [])) (ls : Array Slot) (hl : lv_has ls 7 (hdl sb x m o i)) : W p l e R s mi av below meth c H locs cells slots Q (F0 mi 1211 ls []) := by
  obtain ⟨n, T, C, Hd, b, q, J, bg, pi, bu, tm, tl, K, th, pu, bu9, cl, mo, K9, f, hap, hmd, heo, hLR⟩ := hLI
  obtain ⟨hI, hT, hJ, hK, hK9, hz8, hbt, hbf⟩ := id hLR
  obtain ⟨fs0, e0⟩ := hap.at0
  have hn8 := hI.1
  by_cases hn1 : 0 < n
  · refine lk_orders hC hP hD hS hc hs hi (P1 := fun w => AP ky w x n T C Hd b q J bg pi bu tm tl K ∧ MD ky w m th n T C Hd b q J bg pu bu9 cl mo K9 ∧ ∃ g : Nat → Int64, isOut ky w o g ∧ g 0 = ((nI (ord C Hd b q n 0)) : Int32).toInt64) (P2 := fun r w => r = nI (ord C Hd b q n 0) ∧ AP ky w x n T C Hd b q J bg pi bu tm tl K ∧ MD ky w m 0 n T C Hd b q J bg pu bu9 cl mo K9 ∧ ∃ g : Nat → Int64, isOut ky w o g ∧ g 0 = ((nI (ord C Hd b q n 0)) : Int32).toInt64) (kc := 0) (by decide) ?_ ?_ ?_ ?_ ?_ ls hl
    · skip
      refine WU.mono (wk_orders hP hD e0 heo (by decide) (by decide) (fun r w z => z.2.2) (c_X4_orders_0 hP hD hap hI hT hn1)) (fun r w z => ?_)
      obtain ⟨h1, r1, w1, ⟨rfl, hap1, hf1⟩, hf2, g, hg1, hg2⟩ := z
      exact ⟨h1, hap1.fr hf2, (hmd.fr hf1).fr hf2, g, hg1, hg2⟩
    · intro w H1 hp hP1 hD1
      obtain ⟨hap1, hmd1, g, hg1, hg2⟩ := hp
      refine ⟨hmd1.at19, ?_⟩
      obtain ⟨fw, fd, fc, fg, fo, hmd2⟩ := hmd1
      skip
      refine ⟨_, _, ?_, ?_, MU.mono (c_X5_orders_0 hP1 hD1 hmd2 hI hn1) (fun r w2 z => ?_)⟩
      · decide
      · decide
      · obtain ⟨h1, h2, h3⟩ := z
        exact ⟨h1, hap1.fr h3, h2, g, hg1.fr h3, hg2⟩
    · intro r w z; exact z.2.2.1.thr
    · intro r w z _
      obtain ⟨h1, -, -, g, hg1, hg2⟩ := z
      exact ⟨g, hg1, by rw [h1]; exact hg2⟩
    · intro r w H1 locs1 ls1 z hP1 hD1 hS1 hl1
      obtain ⟨-, hap1, hmd1, g, hg1, -⟩ := z
      exact kk w H1 locs1 ls1 ⟨_, _, _, _, _, _, _, _, _, _, _, _, _, _, _, _, _, _, _, _, hap1, hmd1, hg1, hLR⟩ hP1 hD1 hS1 hl1
  · have hn0 : n = 0 := by omega
    refine lk_orders hC hP hD hS hc hs hi (P1 := fun w => AP ky w x n T C Hd b q J bg pi bu tm tl K ∧ MD ky w m th n T C Hd b q J bg pu bu9 cl mo K9 ∧ isOut ky w o f) (P2 := fun r w => AP ky w x n T C Hd b q J bg pi bu tm tl K ∧ MD ky w m 1 n T C Hd b q J bg pu bu9 cl mo K9 ∧ isOut ky w o f) (kc := 1) (by decide) ?_ ?_ ?_ ?_ ?_ ls hl
    · skip
      refine WU.mono (wxS_orders hP hD e0 heo (by decide) (by decide) (x_X4_orders_1 hst hP hD hap hI hn0)) (fun r w z => ?_)
      obtain ⟨h1, hap1, hf1⟩ := z
      exact ⟨h1, hap1, hmd.fr hf1, heo.fr hf1⟩
    · intro w H1 hp hP1 hD1
      obtain ⟨hap1, hmd1, hg1⟩ := hp
      refine ⟨hmd1.at19, ?_⟩
      obtain ⟨fw, fd, fc, fg, fo, hmd2⟩ := hmd1
      skip
      refine ⟨_, _, ?_, ?_, MU.mono (c_X5_orders_1 hP1 hD1 hmd2 hn0) (fun r w2 z => ?_)⟩
      · decide
      · decide
      · obtain ⟨-, h2, h3⟩ := z
        exact ⟨hap1.fr h3, h2.md, hg1.fr h3⟩
    · intro r w z; exact z.2.1.thr
    · intro r w z h; exact absurd h (by decide)
    · intro r w H1 locs1 ls1 z hP1 hD1 hS1 hl1
      obtain ⟨hap1, hmd1, hg1⟩ := z
      exact kk w H1 locs1 ls1 ⟨_, _, _, _, _, _, _, _, _, _, _, _, _, _, _, _, _, _, _, _, hap1, hmd1, hg1, hLR⟩ hP1 hD1 hS1 hl1
set_option maxHeartbeats 4000000 in
set_option maxRecDepth 100000 in
theorem lc_fewestChanges {p : Program} {l : Launch} {e : Env} {R : Room} {s : State} {mi : MethodId} {av : Array Value} {below : List Frame} {meth : Method} {c : Code} {Q : State → Prop} {D : va_G} {ky : kT} {A : Nat → Prop} {sb L : Nat} {xs : Nat → Int32} (hst : l.stackTraces = false) (hC : LC p s mi av c R D ky A sb L xs) {ws : va_W} {H : Heap} {locs : List Loc} {cells slots : Nat} (hP : va_P D CL ws H) (hD : va_D A ws) (hS : va_S A s.heap H locs) (hc : cells + 1 ≤ R.cells) (hs : slots + 6 ≤ R.slots) {x m o i : Nat} (hi : i + 5 ≤ L) (hLI : LI ky ws x m o)
    (kk : ∀ (w : va_W) (H1 : Heap) (locs1 : List Loc) (ls1 : Array Slot), LI ky w x m o → va_P D CL w H1 → va_D A w → va_S A s.heap H1 locs1 → lv_has ls1 7 (hdl sb x m o (i + 5)) → W p l e R s mi av below meth c H1 locs1 (cells + 1) (slots + 6) Q (F0 mi 23 ls1 [])) (ls : Array Slot) (hl : lv_has ls 7 (hdl sb x m o i)) : W p l e R s mi av below meth c H locs cells slots Q (F0 mi 1255 ls []) := by
  obtain ⟨n, T, C, Hd, b, q, J, bg, pi, bu, tm, tl, K, th, pu, bu9, cl, mo, K9, f, hap, hmd, heo, hLR⟩ := hLI
  obtain ⟨hI, hT, hJ, hK, hK9, hz8, hbt, hbf⟩ := id hLR
  obtain ⟨fs0, e0⟩ := hap.at0
  have hn8 := hI.1
  by_cases hn1 : 0 < n
  · refine lk_fewestChanges hC hP hD hS hc hs hi (P1 := fun w => AP ky w x n T C Hd b q J bg pi bu tm tl K ∧ MD ky w m th n T C Hd b q J bg pu bu9 cl mo K9 ∧ ∃ g : Nat → Int64, isOut ky w o g ∧ g 0 = ((orN (few C Hd b q T n)) : Int32).toInt64) (P2 := fun r w => r = orN (few C Hd b q T n) ∧ AP ky w x n T C Hd b q J bg pi bu tm tl K ∧ MD ky w m 0 n T C Hd b q J bg pu bu9 cl mo K9 ∧ ∃ g : Nat → Int64, isOut ky w o g ∧ g 0 = ((orN (few C Hd b q T n)) : Int32).toInt64) (kc := 0) (by decide) ?_ ?_ ?_ ?_ ?_ ls hl
    · skip
      refine WU.mono (wk_fewestChanges hP hD e0 heo (by decide) (by decide) (fun r w z => z.2.2) (c_X4_fewestChanges_0 hP hD hap hI hT hn1)) (fun r w z => ?_)
      obtain ⟨h1, r1, w1, ⟨rfl, hap1, hf1⟩, hf2, g, hg1, hg2⟩ := z
      exact ⟨h1, hap1.fr hf2, (hmd.fr hf1).fr hf2, g, hg1, hg2⟩
    · intro w H1 hp hP1 hD1
      obtain ⟨hap1, hmd1, g, hg1, hg2⟩ := hp
      refine ⟨hmd1.at19, ?_⟩
      obtain ⟨fw, fd, fc, fg, fo, hmd2⟩ := hmd1
      skip
      refine ⟨_, _, ?_, ?_, MU.mono (c_X5_fewestChanges_0 hP1 hD1 hmd2 hI hT hn1) (fun r w2 z => ?_)⟩
      · decide
      · decide
      · obtain ⟨h1, h2, h3⟩ := z
        exact ⟨h1, hap1.fr h3, h2, g, hg1.fr h3, hg2⟩
    · intro r w z; exact z.2.2.1.thr
    · intro r w z _
      obtain ⟨h1, -, -, g, hg1, hg2⟩ := z
      exact ⟨g, hg1, by rw [h1]; exact hg2⟩
    · intro r w H1 locs1 ls1 z hP1 hD1 hS1 hl1
      obtain ⟨-, hap1, hmd1, g, hg1, -⟩ := z
      exact kk w H1 locs1 ls1 ⟨_, _, _, _, _, _, _, _, _, _, _, _, _, _, _, _, _, _, _, _, hap1, hmd1, hg1, hLR⟩ hP1 hD1 hS1 hl1
  · have hn0 : n = 0 := by omega
    refine lk_fewestChanges hC hP hD hS hc hs hi (P1 := fun w => AP ky w x n T C Hd b q J bg pi bu tm tl K ∧ MD ky w m th n T C Hd b q J bg pu bu9 cl mo K9 ∧ isOut ky w o f) (P2 := fun r w => AP ky w x n T C Hd b q J bg pi bu tm tl K ∧ MD ky w m 1 n T C Hd b q J bg pu bu9 cl mo K9 ∧ isOut ky w o f) (kc := 1) (by decide) ?_ ?_ ?_ ?_ ?_ ls hl
    · skip
      refine WU.mono (wxS_fewestChanges hP hD e0 heo (by decide) (by decide) (x_X4_fewestChanges_1 hst hP hD hap hI hn0)) (fun r w z => ?_)
      obtain ⟨h1, hap1, hf1⟩ := z
      exact ⟨h1, hap1, hmd.fr hf1, heo.fr hf1⟩
    · intro w H1 hp hP1 hD1
      obtain ⟨hap1, hmd1, hg1⟩ := hp
      refine ⟨hmd1.at19, ?_⟩
      obtain ⟨fw, fd, fc, fg, fo, hmd2⟩ := hmd1
      skip
      refine ⟨_, _, ?_, ?_, MU.mono (c_X5_fewestChanges_1 hP1 hD1 hmd2 hn0) (fun r w2 z => ?_)⟩
      · decide
      · decide
      · obtain ⟨-, h2, h3⟩ := z
        exact ⟨hap1.fr h3, h2.md, hg1.fr h3⟩
    · intro r w z; exact z.2.1.thr
    · intro r w z h; exact absurd h (by decide)
    · intro r w H1 locs1 ls1 z hP1 hD1 hS1 hl1
      obtain ⟨hap1, hmd1, hg1⟩ := z
      exact kk w H1 locs1 ls1 ⟨_, _, _, _, _, _, _, _, _, _, _, _, _, _, _, _, _, _, _, _, hap1, hmd1, hg1, hLR⟩ hP1 hD1 hS1 hl1
set_option maxHeartbeats 4000000 in
set_option maxRecDepth 100000 in
theorem lc_fewestByListing {p : Program} {l : Launch} {e : Env} {R : Room} {s : State} {mi : MethodId} {av : Array Value} {below : List Frame} {meth : Method} {c : Code} {Q : State → Prop} {D : va_G} {ky : kT} {A : Nat → Prop} {sb L : Nat} {xs : Nat → Int32} (hst : l.stackTraces = false) (hC : LC p s mi av c R D ky A sb L xs) {ws : va_W} {H : Heap} {locs : List Loc} {cells slots : Nat} (hP : va_P D CL ws H) (hD : va_D A ws) (hS : va_S A s.heap H locs) (hc : cells + 1 ≤ R.cells) (hs : slots + 6 ≤ R.slots) {x m o i : Nat} (hi : i + 5 ≤ L) (hLI : LI ky ws x m o)
    (kk : ∀ (w : va_W) (H1 : Heap) (locs1 : List Loc) (ls1 : Array Slot), LI ky w x m o → va_P D CL w H1 → va_D A w → va_S A s.heap H1 locs1 → lv_has ls1 7 (hdl sb x m o (i + 5)) → W p l e R s mi av below meth c H1 locs1 (cells + 1) (slots + 6) Q (F0 mi 23 ls1 [])) (ls : Array Slot) (hl : lv_has ls 7 (hdl sb x m o i)) : W p l e R s mi av below meth c H locs cells slots Q (F0 mi 1299 ls []) := by
  obtain ⟨n, T, C, Hd, b, q, J, bg, pi, bu, tm, tl, K, th, pu, bu9, cl, mo, K9, f, hap, hmd, heo, hLR⟩ := hLI
  obtain ⟨hI, hT, hJ, hK, hK9, hz8, hbt, hbf⟩ := id hLR
  obtain ⟨fs0, e0⟩ := hap.at0
  have hn8 := hI.1
  by_cases hn1 : 0 < n
  · by_cases hn7 : n ≤ 7
    · refine lk_fewestByListing hC hP hD hS hc hs hi (P1 := fun w => AP ky w x n T C Hd b q J bg pi bu tm tl K ∧ MD ky w m th n T C Hd b q J bg pu bu9 cl mo K9 ∧ ∃ g : Nat → Int64, isOut ky w o g ∧ g 0 = ((orN (few C Hd b q T n)) : Int32).toInt64) (P2 := fun r w => r = orN (few C Hd b q T n) ∧ AP ky w x n T C Hd b q J bg pi bu tm tl K ∧ MD ky w m 0 n T C Hd b q J bg pu bu9 cl mo K9 ∧ ∃ g : Nat → Int64, isOut ky w o g ∧ g 0 = ((orN (few C Hd b q T n)) : Int32).toInt64) (kc := 0) (by decide) ?_ ?_ ?_ ?_ ?_ ls hl
      · skip
        refine WU.mono (wk_fewestByListing hP hD e0 heo (by decide) (by decide) (fun r w z => z.2.2) (c_X4_fewestByListing_0 hP hD hap hI hT hn1 hn7)) (fun r w z => ?_)
        obtain ⟨h1, r1, w1, ⟨rfl, hap1, hf1⟩, hf2, g, hg1, hg2⟩ := z
        exact ⟨h1, hap1.fr hf2, (hmd.fr hf1).fr hf2, g, hg1, hg2⟩
      · intro w H1 hp hP1 hD1
        obtain ⟨hap1, hmd1, g, hg1, hg2⟩ := hp
        refine ⟨hmd1.at19, ?_⟩
        obtain ⟨fw, fd, fc, fg, fo, hmd2⟩ := hmd1
        skip
        refine ⟨_, _, ?_, ?_, MU.mono (c_X5_fewestByListing_0 hP1 hD1 hmd2 hI hT hn1 hn7) (fun r w2 z => ?_)⟩
        · decide
        · decide
        · obtain ⟨h1, h2, h3⟩ := z
          exact ⟨h1, hap1.fr h3, h2, g, hg1.fr h3, hg2⟩
      · intro r w z; exact z.2.2.1.thr
      · intro r w z _
        obtain ⟨h1, -, -, g, hg1, hg2⟩ := z
        exact ⟨g, hg1, by rw [h1]; exact hg2⟩
      · intro r w H1 locs1 ls1 z hP1 hD1 hS1 hl1
        obtain ⟨-, hap1, hmd1, g, hg1, -⟩ := z
        exact kk w H1 locs1 ls1 ⟨_, _, _, _, _, _, _, _, _, _, _, _, _, _, _, _, _, _, _, _, hap1, hmd1, hg1, hLR⟩ hP1 hD1 hS1 hl1
    · have h77 : 7 < n := by omega
      refine lk_fewestByListing hC hP hD hS hc hs hi (P1 := fun w => AP ky w x n T C Hd b q J bg pi bu tm tl K ∧ MD ky w m th n T C Hd b q J bg pu bu9 cl mo K9 ∧ isOut ky w o f) (P2 := fun r w => AP ky w x n T C Hd b q J bg pi bu tm tl K ∧ MD ky w m 1 n T C Hd b q J bg pu bu9 cl mo K9 ∧ isOut ky w o f) (kc := 1) (by decide) ?_ ?_ ?_ ?_ ?_ ls hl
      · skip
        refine WU.mono (wxS_fewestByListing hP hD e0 heo (by decide) (by decide) (x_X4_fewestByListing_1b hst hP hD hap hI h77)) (fun r w z => ?_)
        obtain ⟨h1, hap1, hf1⟩ := z
        exact ⟨h1, hap1, hmd.fr hf1, heo.fr hf1⟩
      · intro w H1 hp hP1 hD1
        obtain ⟨hap1, hmd1, hg1⟩ := hp
        refine ⟨hmd1.at19, ?_⟩
        obtain ⟨fw, fd, fc, fg, fo, hmd2⟩ := hmd1
        skip
        refine ⟨_, _, ?_, ?_, MU.mono (c_X5_fewestByListing_1b hP1 hD1 hmd2 hn8 h77) (fun r w2 z => ?_)⟩
        · decide
        · decide
        · obtain ⟨-, h2, h3⟩ := z
          exact ⟨hap1.fr h3, h2.md, hg1.fr h3⟩
      · intro r w z; exact z.2.1.thr
      · intro r w z h; exact absurd h (by decide)
      · intro r w H1 locs1 ls1 z hP1 hD1 hS1 hl1
        obtain ⟨hap1, hmd1, hg1⟩ := z
        exact kk w H1 locs1 ls1 ⟨_, _, _, _, _, _, _, _, _, _, _, _, _, _, _, _, _, _, _, _, hap1, hmd1, hg1, hLR⟩ hP1 hD1 hS1 hl1
  · have hn0 : n = 0 := by omega
    refine lk_fewestByListing hC hP hD hS hc hs hi (P1 := fun w => AP ky w x n T C Hd b q J bg pi bu tm tl K ∧ MD ky w m th n T C Hd b q J bg pu bu9 cl mo K9 ∧ isOut ky w o f) (P2 := fun r w => AP ky w x n T C Hd b q J bg pi bu tm tl K ∧ MD ky w m 1 n T C Hd b q J bg pu bu9 cl mo K9 ∧ isOut ky w o f) (kc := 1) (by decide) ?_ ?_ ?_ ?_ ?_ ls hl
    · skip
      refine WU.mono (wxS_fewestByListing hP hD e0 heo (by decide) (by decide) (x_X4_fewestByListing_1a hst hP hD hap hI hn0)) (fun r w z => ?_)
      obtain ⟨h1, hap1, hf1⟩ := z
      exact ⟨h1, hap1, hmd.fr hf1, heo.fr hf1⟩
    · intro w H1 hp hP1 hD1
      obtain ⟨hap1, hmd1, hg1⟩ := hp
      refine ⟨hmd1.at19, ?_⟩
      obtain ⟨fw, fd, fc, fg, fo, hmd2⟩ := hmd1
      skip
      refine ⟨_, _, ?_, ?_, MU.mono (c_X5_fewestByListing_1a hP1 hD1 hmd2 hn0) (fun r w2 z => ?_)⟩
      · decide
      · decide
      · obtain ⟨-, h2, h3⟩ := z
        exact ⟨hap1.fr h3, h2.md, hg1.fr h3⟩
    · intro r w z; exact z.2.1.thr
    · intro r w z h; exact absurd h (by decide)
    · intro r w H1 locs1 ls1 z hP1 hD1 hS1 hl1
      obtain ⟨hap1, hmd1, hg1⟩ := z
      exact kk w H1 locs1 ls1 ⟨_, _, _, _, _, _, _, _, _, _, _, _, _, _, _, _, _, _, _, _, hap1, hmd1, hg1, hLR⟩ hP1 hD1 hS1 hl1
set_option maxHeartbeats 4000000 in
set_option maxRecDepth 100000 in
theorem lc_orderAt {p : Program} {l : Launch} {e : Env} {R : Room} {s : State} {mi : MethodId} {av : Array Value} {below : List Frame} {meth : Method} {c : Code} {Q : State → Prop} {D : va_G} {ky : kT} {A : Nat → Prop} {sb L : Nat} {xs : Nat → Int32} (hst : l.stackTraces = false) (hC : LC p s mi av c R D ky A sb L xs) {ws : va_W} {H : Heap} {locs : List Loc} {cells slots : Nat} (hP : va_P D CL ws H) (hD : va_D A ws) (hS : va_S A s.heap H locs) (hc : cells + 1 ≤ R.cells) (hs : slots + 6 ≤ R.slots) {x m o i : Nat} (hi : i + 5 ≤ L) (hLI : LI ky ws x m o)
    (kk : ∀ (w : va_W) (H1 : Heap) (locs1 : List Loc) (ls1 : Array Slot), LI ky w x m o → va_P D CL w H1 → va_D A w → va_S A s.heap H1 locs1 → lv_has ls1 7 (hdl sb x m o (i + 5)) → W p l e R s mi av below meth c H1 locs1 (cells + 1) (slots + 6) Q (F0 mi 23 ls1 [])) (ls : Array Slot) (hl : lv_has ls 7 (hdl sb x m o i)) : W p l e R s mi av below meth c H locs cells slots Q (F0 mi 1343 ls []) := by
  obtain ⟨n, T, C, Hd, b, q, J, bg, pi, bu, tm, tl, K, th, pu, bu9, cl, mo, K9, f, hap, hmd, heo, hLR⟩ := hLI
  obtain ⟨hI, hT, hJ, hK, hK9, hz8, hbt, hbf⟩ := id hLR
  obtain ⟨fs0, e0⟩ := hap.at0
  have hn8 := hI.1
  cases hk : prt n (xs (i + 1))
  · refine lk_orderAt hC hP hD hS hc hs hi (P1 := fun w => AP ky w x n T C Hd b q J bg pi bu tm tl K ∧ MD ky w m th n T C Hd b q J bg pu bu9 cl mo K9 ∧ isOut ky w o f) (P2 := fun r w => AP ky w x n T C Hd b q J bg pi bu tm tl K ∧ MD ky w m 1 n T C Hd b q J bg pu bu9 cl mo K9 ∧ isOut ky w o f) (kc := 1) (by decide) ?_ ?_ ?_ ?_ ?_ ls hl
    · skip
      refine WU.mono (wxI_orderAt hP hD e0 heo (by decide) (by decide) (x_X4_orderAt_1a hst hP hD hap hI hT hk)) (fun r w z => ?_)
      obtain ⟨h1, hap1, hf1⟩ := z
      exact ⟨h1, hap1, hmd.fr hf1, heo.fr hf1⟩
    · intro w H1 hp hP1 hD1
      obtain ⟨hap1, hmd1, hg1⟩ := hp
      refine ⟨hmd1.at19, ?_⟩
      obtain ⟨fw, fd, fc, fg, fo, hmd2⟩ := hmd1
      skip
      refine ⟨_, _, ?_, ?_, MU.mono (c_X5_orderAt_1a hP1 hD1 hmd2 hk) (fun r w2 z => ?_)⟩
      · decide
      · decide
      · obtain ⟨-, h2, h3⟩ := z
        exact ⟨hap1.fr h3, h2.md, hg1.fr h3⟩
    · intro r w z; exact z.2.1.thr
    · intro r w z h; exact absurd h (by decide)
    · intro r w H1 locs1 ls1 z hP1 hD1 hS1 hl1
      obtain ⟨hap1, hmd1, hg1⟩ := z
      exact kk w H1 locs1 ls1 ⟨_, _, _, _, _, _, _, _, _, _, _, _, _, _, _, _, _, _, _, _, hap1, hmd1, hg1, hLR⟩ hP1 hD1 hS1 hl1
  · obtain ⟨pt, hp, hx1⟩ := prt_ex hk hn8
    by_cases hf : few C Hd b q T n < 1000
    · refine lk_orderAt hC hP hD hS hc hs hi (P1 := fun w => AP ky w x n T C Hd b q J bg pi bu tm tl K ∧ MD ky w m th n T C Hd b q J bg pu bu9 cl mo K9 ∧ ∃ g : Nat → Int64, isOut ky w o g ∧ g 0 = ((nI (bp C Hd b q T n pt)) : Int32).toInt64) (P2 := fun r w => r = nI (bp C Hd b q T n pt) ∧ AP ky w x n T C Hd b q J bg pi bu tm tl K ∧ MD ky w m 0 n T C Hd b q J bg pu bu9 cl mo K9 ∧ ∃ g : Nat → Int64, isOut ky w o g ∧ g 0 = ((nI (bp C Hd b q T n pt)) : Int32).toInt64) (kc := 0) (by decide) ?_ ?_ ?_ ?_ ?_ ls hl
      · rw [hx1]
        refine WU.mono (wk_orderAt hP hD e0 heo (by decide) (by decide) (fun r w z => z.2.2) (c_X4_orderAt_0 hP hD hap hI hT hp hf)) (fun r w z => ?_)
        obtain ⟨h1, r1, w1, ⟨rfl, hap1, hf1⟩, hf2, g, hg1, hg2⟩ := z
        exact ⟨h1, hap1.fr hf2, (hmd.fr hf1).fr hf2, g, hg1, hg2⟩
      · intro w H1 hp hP1 hD1
        obtain ⟨hap1, hmd1, g, hg1, hg2⟩ := hp
        refine ⟨hmd1.at19, ?_⟩
        obtain ⟨fw, fd, fc, fg, fo, hmd2⟩ := hmd1
        rw [hx1]
        refine ⟨_, _, ?_, ?_, MU.mono (c_X5_orderAt_0 hP1 hD1 hmd2 hI hT hp hf) (fun r w2 z => ?_)⟩
        · decide
        · decide
        · obtain ⟨h1, h2, h3⟩ := z
          exact ⟨h1, hap1.fr h3, h2, g, hg1.fr h3, hg2⟩
      · intro r w z; exact z.2.2.1.thr
      · intro r w z _
        obtain ⟨h1, -, -, g, hg1, hg2⟩ := z
        exact ⟨g, hg1, by rw [h1]; exact hg2⟩
      · intro r w H1 locs1 ls1 z hP1 hD1 hS1 hl1
        obtain ⟨-, hap1, hmd1, g, hg1, -⟩ := z
        exact kk w H1 locs1 ls1 ⟨_, _, _, _, _, _, _, _, _, _, _, _, _, _, _, _, _, _, _, _, hap1, hmd1, hg1, hLR⟩ hP1 hD1 hS1 hl1
    · have hf9 : few C Hd b q T n = 1000 := Nat.le_antisymm fwF_1000 (Nat.not_lt.mp hf)
      refine lk_orderAt hC hP hD hS hc hs hi (P1 := fun w => AP ky w x n T C Hd b q J bg pi bu tm tl K ∧ MD ky w m th n T C Hd b q J bg pu bu9 cl mo K9 ∧ isOut ky w o f) (P2 := fun r w => AP ky w x n T C Hd b q J bg pi bu tm tl K ∧ MD ky w m 1 n T C Hd b q J bg pu bu9 cl mo K9 ∧ isOut ky w o f) (kc := 1) (by decide) ?_ ?_ ?_ ?_ ?_ ls hl
      · rw [hx1]
        refine WU.mono (wxI_orderAt hP hD e0 heo (by decide) (by decide) (x_X4_orderAt_1b hst hP hD hap hI hT hp hf9)) (fun r w z => ?_)
        obtain ⟨h1, hap1, hf1⟩ := z
        exact ⟨h1, hap1, hmd.fr hf1, heo.fr hf1⟩
      · intro w H1 hp hP1 hD1
        obtain ⟨hap1, hmd1, hg1⟩ := hp
        refine ⟨hmd1.at19, ?_⟩
        obtain ⟨fw, fd, fc, fg, fo, hmd2⟩ := hmd1
        rw [hx1]
        refine ⟨_, _, ?_, ?_, MU.mono (c_X5_orderAt_1b hP1 hD1 hmd2 hI hT hp hf9) (fun r w2 z => ?_)⟩
        · decide
        · decide
        · obtain ⟨-, h2, h3⟩ := z
          exact ⟨hap1.fr h3, h2, hg1.fr h3⟩
      · intro r w z; exact z.2.1.thr
      · intro r w z h; exact absurd h (by decide)
      · intro r w H1 locs1 ls1 z hP1 hD1 hS1 hl1
        obtain ⟨hap1, hmd1, hg1⟩ := z
        exact kk w H1 locs1 ls1 ⟨_, _, _, _, _, _, _, _, _, _, _, _, _, _, _, _, _, _, _, _, hap1, hmd1, hg1, hLR⟩ hP1 hD1 hS1 hl1
set_option maxHeartbeats 4000000 in
set_option maxRecDepth 100000 in
theorem lc_setJams {p : Program} {l : Launch} {e : Env} {R : Room} {s : State} {mi : MethodId} {av : Array Value} {below : List Frame} {meth : Method} {c : Code} {Q : State → Prop} {D : va_G} {ky : kT} {A : Nat → Prop} {sb L : Nat} {xs : Nat → Int32} (hst : l.stackTraces = false) (hC : LC p s mi av c R D ky A sb L xs) {ws : va_W} {H : Heap} {locs : List Loc} {cells slots : Nat} (hP : va_P D CL ws H) (hD : va_D A ws) (hS : va_S A s.heap H locs) (hc : cells + 1 ≤ R.cells) (hs : slots + 6 ≤ R.slots) {x m o i : Nat} (hi : i + 5 ≤ L) (hLI : LI ky ws x m o)
    (kk : ∀ (w : va_W) (H1 : Heap) (locs1 : List Loc) (ls1 : Array Slot), LI ky w x m o → va_P D CL w H1 → va_D A w → va_S A s.heap H1 locs1 → lv_has ls1 7 (hdl sb x m o (i + 5)) → W p l e R s mi av below meth c H1 locs1 (cells + 1) (slots + 6) Q (F0 mi 23 ls1 [])) (ls : Array Slot) (hl : lv_has ls 7 (hdl sb x m o i)) : W p l e R s mi av below meth c H locs cells slots Q (F0 mi 1399 ls []) := by
  obtain ⟨n, T, C, Hd, b, q, J, bg, pi, bu, tm, tl, K, th, pu, bu9, cl, mo, K9, f, hap, hmd, heo, hLR⟩ := hLI
  obtain ⟨hI, hT, hJ, hK, hK9, hz8, hbt, hbf⟩ := id hLR
  obtain ⟨fs0, e0⟩ := hap.at0
  have hn8 := hI.1
  cases hk : prt n (xs (i + 1))
  · refine lk_setJams hC hP hD hS hc hs hi (P1 := fun w => AP ky w x n T C Hd b q J bg pi bu tm tl K ∧ MD ky w m th n T C Hd b q J bg pu bu9 cl mo K9 ∧ isOut ky w o f) (P2 := fun r w => AP ky w x n T C Hd b q J bg pi bu tm tl K ∧ MD ky w m 1 n T C Hd b q J bg pu bu9 cl mo K9 ∧ isOut ky w o f) (kc := 1) (by decide) ?_ ?_ ?_ ?_ ?_ ls hl
    · skip
      refine WU.mono (wxI_setJams hP hD e0 heo (by decide) (by decide) (x_X4_setJams_1 hst hP hD hap hI hk)) (fun r w z => ?_)
      obtain ⟨h1, hap1, hf1⟩ := z
      exact ⟨h1, hap1, hmd.fr hf1, heo.fr hf1⟩
    · intro w H1 hp hP1 hD1
      obtain ⟨hap1, hmd1, hg1⟩ := hp
      refine ⟨hmd1.at19, ?_⟩
      obtain ⟨fw, fd, fc, fg, fo, hmd2⟩ := hmd1
      skip
      refine ⟨_, _, ?_, ?_, MU.mono (c_X5_setJams_1 hP1 hD1 hmd2 hk) (fun r w2 z => ?_)⟩
      · decide
      · decide
      · obtain ⟨-, h2, h3⟩ := z
        exact ⟨hap1.fr h3, h2.md, hg1.fr h3⟩
    · intro r w z; exact z.2.1.thr
    · intro r w z h; exact absurd h (by decide)
    · intro r w H1 locs1 ls1 z hP1 hD1 hS1 hl1
      obtain ⟨hap1, hmd1, hg1⟩ := z
      exact kk w H1 locs1 ls1 ⟨_, _, _, _, _, _, _, _, _, _, _, _, _, _, _, _, _, _, _, _, hap1, hmd1, hg1, hLR⟩ hP1 hD1 hS1 hl1
  · obtain ⟨pt, hp, hx1⟩ := prt_ex hk hn8
    by_cases hj : ¬ xs (i + 2) < 0 ∧ xs (i + 2) ≤ nI 5
    · obtain ⟨j, hj5, hx2⟩ := jam_ex hj
      refine lk_setJams hC hP hD hS hc hs hi (P1 := fun w => AP ky w x n T C Hd b q (upX J pt j) bg pi bu tm tl K ∧ MD ky w m th n T C Hd b q J bg pu bu9 cl mo K9 ∧ ∃ g : Nat → Int64, isOut ky w o g ∧ g 0 = ((nI (J pt)) : Int32).toInt64) (P2 := fun r w => r = nI (J pt) ∧ AP ky w x n T C Hd b q (upX J pt j) bg pi bu tm tl K ∧ MD ky w m 0 n T C Hd b q (upX J pt j) bg pu bu9 cl mo K9 ∧ ∃ g : Nat → Int64, isOut ky w o g ∧ g 0 = ((nI (J pt)) : Int32).toInt64) (kc := 0) (by decide) ?_ ?_ ?_ ?_ ?_ ls hl
      · rw [hx1, hx2]
        refine WU.mono (wk_setJams hP hD e0 heo (by decide) (by decide) (fun r w z => z.2.2) (c_X4_setJams_0 hP hD hap hI hp hj5)) (fun r w z => ?_)
        obtain ⟨h1, r1, w1, ⟨rfl, hap1, hf1⟩, hf2, g, hg1, hg2⟩ := z
        exact ⟨h1, hap1.fr hf2, (hmd.fr hf1).fr hf2, g, hg1, hg2⟩
      · intro w H1 hp hP1 hD1
        obtain ⟨hap1, hmd1, g, hg1, hg2⟩ := hp
        refine ⟨hmd1.at19, ?_⟩
        obtain ⟨fw, fd, fc, fg, fo, hmd2⟩ := hmd1
        rw [hx1, hx2]
        refine ⟨_, _, ?_, ?_, MU.mono (c_X5_setJams_0 hP1 hD1 hmd2 hn8 hp hj5) (fun r w2 z => ?_)⟩
        · decide
        · decide
        · obtain ⟨h1, h2, h3⟩ := z
          exact ⟨h1, hap1.fr h3, h2.md, g, hg1.fr h3, hg2⟩
      · intro r w z; exact z.2.2.1.thr
      · intro r w z _
        obtain ⟨h1, -, -, g, hg1, hg2⟩ := z
        exact ⟨g, hg1, by rw [h1]; exact hg2⟩
      · intro r w H1 locs1 ls1 z hP1 hD1 hS1 hl1
        obtain ⟨-, hap1, hmd1, g, hg1, -⟩ := z
        exact kk w H1 locs1 ls1 ⟨_, _, _, _, _, _, _, _, _, _, _, _, _, _, _, _, _, _, _, _, hap1, hmd1, hg1, ⟨hI, hT, (fun z => by unfold upX; split; exact hj5; exact hJ z), hK, hK9, hz8, hbt, hbf⟩⟩ hP1 hD1 hS1 hl1
    · refine lk_setJams hC hP hD hS hc hs hi (P1 := fun w => AP ky w x n T C Hd b q J bg pi bu tm tl K ∧ MD ky w m th n T C Hd b q J bg pu bu9 cl mo K9 ∧ isOut ky w o f) (P2 := fun r w => AP ky w x n T C Hd b q J bg pi bu tm tl K ∧ MD ky w m 2 n T C Hd b q J bg pu bu9 cl mo K9 ∧ isOut ky w o f) (kc := 2) (by decide) ?_ ?_ ?_ ?_ ?_ ls hl
      · rw [hx1]
        refine WU.mono (wxA_setJams hP hD e0 heo (by decide) (by decide) (x_X4_setJams_2 hst hP hD hap hI hp hj)) (fun r w z => ?_)
        obtain ⟨h1, hap1, hf1⟩ := z
        exact ⟨h1, hap1, hmd.fr hf1, heo.fr hf1⟩
      · intro w H1 hp hP1 hD1
        obtain ⟨hap1, hmd1, hg1⟩ := hp
        refine ⟨hmd1.at19, ?_⟩
        obtain ⟨fw, fd, fc, fg, fo, hmd2⟩ := hmd1
        rw [hx1]
        refine ⟨_, _, ?_, ?_, MU.mono (c_X5_setJams_2 hP1 hD1 hmd2 (prt_in hp hn8) hj) (fun r w2 z => ?_)⟩
        · decide
        · decide
        · obtain ⟨-, h2, h3⟩ := z
          exact ⟨hap1.fr h3, h2.md, hg1.fr h3⟩
      · intro r w z; exact z.2.1.thr
      · intro r w z h; exact absurd h (by decide)
      · intro r w H1 locs1 ls1 z hP1 hD1 hS1 hl1
        obtain ⟨hap1, hmd1, hg1⟩ := z
        exact kk w H1 locs1 ls1 ⟨_, _, _, _, _, _, _, _, _, _, _, _, _, _, _, _, _, _, _, _, hap1, hmd1, hg1, hLR⟩ hP1 hD1 hS1 hl1
set_option maxHeartbeats 4000000 in
set_option maxRecDepth 100000 in
theorem lc_begin {p : Program} {l : Launch} {e : Env} {R : Room} {s : State} {mi : MethodId} {av : Array Value} {below : List Frame} {meth : Method} {c : Code} {Q : State → Prop} {D : va_G} {ky : kT} {A : Nat → Prop} {sb L : Nat} {xs : Nat → Int32} (hst : l.stackTraces = false) (hC : LC p s mi av c R D ky A sb L xs) {ws : va_W} {H : Heap} {locs : List Loc} {cells slots : Nat} (hP : va_P D CL ws H) (hD : va_D A ws) (hS : va_S A s.heap H locs) (hc : cells + 1 ≤ R.cells) (hs : slots + 6 ≤ R.slots) {x m o i : Nat} (hi : i + 5 ≤ L) (hLI : LI ky ws x m o)
    (kk : ∀ (w : va_W) (H1 : Heap) (locs1 : List Loc) (ls1 : Array Slot), LI ky w x m o → va_P D CL w H1 → va_D A w → va_S A s.heap H1 locs1 → lv_has ls1 7 (hdl sb x m o (i + 5)) → W p l e R s mi av below meth c H1 locs1 (cells + 1) (slots + 6) Q (F0 mi 23 ls1 [])) (ls : Array Slot) (hl : lv_has ls 7 (hdl sb x m o i)) : W p l e R s mi av below meth c H locs cells slots Q (F0 mi 1467 ls []) := by
  obtain ⟨n, T, C, Hd, b, q, J, bg, pi, bu, tm, tl, K, th, pu, bu9, cl, mo, K9, f, hap, hmd, heo, hLR⟩ := hLI
  obtain ⟨hI, hT, hJ, hK, hK9, hz8, hbt, hbf⟩ := id hLR
  obtain ⟨fs0, e0⟩ := hap.at0
  have hn8 := hI.1
  by_cases hn1 : 0 < n
  · by_cases hf : few C Hd b q T n < 1000
    · refine lk_begin hC hP hD hS hc hs hi (P1 := fun w => AP ky w x n T C Hd b q J true 0 0 ((nI 0)) ((-1)) ((zro K 8)) ∧ MD ky w m th n T C Hd b q J bg pu bu9 cl mo K9 ∧ ∃ g : Nat → Int64, isOut ky w o g ∧ g 0 = ((nI n) : Int32).toInt64) (P2 := fun r w => r = nI n ∧ AP ky w x n T C Hd b q J true 0 0 ((nI 0)) ((-1)) ((zro K 8)) ∧ MD ky w m 0 n T C Hd b q J true 0 0 ((nI 0)) ((-1)) ((zro K9 8)) ∧ ∃ g : Nat → Int64, isOut ky w o g ∧ g 0 = ((nI n) : Int32).toInt64) (kc := 0) (by decide) ?_ ?_ ?_ ?_ ?_ ls hl
      · skip
        refine WU.mono (wk_begin hP hD e0 heo (by decide) (by decide) (fun r w z => z.2.2) (c_X4_begin_0 hP hD hap hI hT hn1 hf)) (fun r w z => ?_)
        obtain ⟨h1, r1, w1, ⟨rfl, hap1, hf1⟩, hf2, g, hg1, hg2⟩ := z
        exact ⟨h1, hap1.fr hf2, (hmd.fr hf1).fr hf2, g, hg1, hg2⟩
      · intro w H1 hp hP1 hD1
        obtain ⟨hap1, hmd1, g, hg1, hg2⟩ := hp
        refine ⟨hmd1.at19, ?_⟩
        obtain ⟨fw, fd, fc, fg, fo, hmd2⟩ := hmd1
        skip
        refine ⟨_, _, ?_, ?_, MU.mono (c_X5_begin_0 hP1 hD1 hmd2 hI hT hn1 hf) (fun r w2 z => ?_)⟩
        · decide
        · decide
        · obtain ⟨h1, h2, h3⟩ := z
          exact ⟨h1, hap1.fr h3, h2, g, hg1.fr h3, hg2⟩
      · intro r w z; exact z.2.2.1.thr
      · intro r w z _
        obtain ⟨h1, -, -, g, hg1, hg2⟩ := z
        exact ⟨g, hg1, by rw [h1]; exact hg2⟩
      · intro r w H1 locs1 ls1 z hP1 hD1 hS1 hl1
        obtain ⟨-, hap1, hmd1, g, hg1, -⟩ := z
        exact kk w H1 locs1 ls1 ⟨_, _, _, _, _, _, _, _, _, _, _, _, _, _, _, _, _, _, _, _, hap1, hmd1, hg1, (hLR.begun hn1 hf)⟩ hP1 hD1 hS1 hl1
    · have hf9 : few C Hd b q T n = 1000 := Nat.le_antisymm fwF_1000 (Nat.not_lt.mp hf)
      refine lk_begin hC hP hD hS hc hs hi (P1 := fun w => AP ky w x n T C Hd b q J bg pi bu tm tl K ∧ MD ky w m th n T C Hd b q J bg pu bu9 cl mo K9 ∧ isOut ky w o f) (P2 := fun r w => AP ky w x n T C Hd b q J bg pi bu tm tl K ∧ MD ky w m 1 n T C Hd b q J bg pu bu9 cl mo K9 ∧ isOut ky w o f) (kc := 1) (by decide) ?_ ?_ ?_ ?_ ?_ ls hl
      · skip
        refine WU.mono (wxS_begin hP hD e0 heo (by decide) (by decide) (x_X4_begin_1b hst hP hD hap hI hT hn1 hf9)) (fun r w z => ?_)
        obtain ⟨h1, hap1, hf1⟩ := z
        exact ⟨h1, hap1, hmd.fr hf1, heo.fr hf1⟩
      · intro w H1 hp hP1 hD1
        obtain ⟨hap1, hmd1, hg1⟩ := hp
        refine ⟨hmd1.at19, ?_⟩
        obtain ⟨fw, fd, fc, fg, fo, hmd2⟩ := hmd1
        skip
        refine ⟨_, _, ?_, ?_, MU.mono (c_X5_begin_1b hP1 hD1 hmd2 hI hT hn1 hf9) (fun r w2 z => ?_)⟩
        · decide
        · decide
        · obtain ⟨-, h2, h3⟩ := z
          exact ⟨hap1.fr h3, h2, hg1.fr h3⟩
      · intro r w z; exact z.2.1.thr
      · intro r w z h; exact absurd h (by decide)
      · intro r w H1 locs1 ls1 z hP1 hD1 hS1 hl1
        obtain ⟨hap1, hmd1, hg1⟩ := z
        exact kk w H1 locs1 ls1 ⟨_, _, _, _, _, _, _, _, _, _, _, _, _, _, _, _, _, _, _, _, hap1, hmd1, hg1, hLR⟩ hP1 hD1 hS1 hl1
  · have hn0 : n = 0 := by omega
    refine lk_begin hC hP hD hS hc hs hi (P1 := fun w => AP ky w x n T C Hd b q J bg pi bu tm tl K ∧ MD ky w m th n T C Hd b q J bg pu bu9 cl mo K9 ∧ isOut ky w o f) (P2 := fun r w => AP ky w x n T C Hd b q J bg pi bu tm tl K ∧ MD ky w m 1 n T C Hd b q J bg pu bu9 cl mo K9 ∧ isOut ky w o f) (kc := 1) (by decide) ?_ ?_ ?_ ?_ ?_ ls hl
    · skip
      refine WU.mono (wxS_begin hP hD e0 heo (by decide) (by decide) (x_X4_begin_1a hst hP hD hap hI hT hn0)) (fun r w z => ?_)
      obtain ⟨h1, hap1, hf1⟩ := z
      exact ⟨h1, hap1, hmd.fr hf1, heo.fr hf1⟩
    · intro w H1 hp hP1 hD1
      obtain ⟨hap1, hmd1, hg1⟩ := hp
      refine ⟨hmd1.at19, ?_⟩
      obtain ⟨fw, fd, fc, fg, fo, hmd2⟩ := hmd1
      skip
      refine ⟨_, _, ?_, ?_, MU.mono (c_X5_begin_1a hP1 hD1 hmd2 hn0) (fun r w2 z => ?_)⟩
      · decide
      · decide
      · obtain ⟨-, h2, h3⟩ := z
        exact ⟨hap1.fr h3, h2.md, hg1.fr h3⟩
    · intro r w z; exact z.2.1.thr
    · intro r w z h; exact absurd h (by decide)
    · intro r w H1 locs1 ls1 z hP1 hD1 hS1 hl1
      obtain ⟨hap1, hmd1, hg1⟩ := z
      exact kk w H1 locs1 ls1 ⟨_, _, _, _, _, _, _, _, _, _, _, _, _, _, _, _, _, _, _, _, hap1, hmd1, hg1, hLR⟩ hP1 hD1 hS1 hl1
set_option maxHeartbeats 4000000 in
set_option maxRecDepth 100000 in
theorem lc_step {p : Program} {l : Launch} {e : Env} {R : Room} {s : State} {mi : MethodId} {av : Array Value} {below : List Frame} {meth : Method} {c : Code} {Q : State → Prop} {D : va_G} {ky : kT} {A : Nat → Prop} {sb L : Nat} {xs : Nat → Int32} (hst : l.stackTraces = false) (hC : LC p s mi av c R D ky A sb L xs) {ws : va_W} {H : Heap} {locs : List Loc} {cells slots : Nat} (hP : va_P D CL ws H) (hD : va_D A ws) (hS : va_S A s.heap H locs) (hc : cells + 1 ≤ R.cells) (hs : slots + 6 ≤ R.slots) {x m o i : Nat} (hi : i + 5 ≤ L) (hLI : LI ky ws x m o)
    (kk : ∀ (w : va_W) (H1 : Heap) (locs1 : List Loc) (ls1 : Array Slot), LI ky w x m o → va_P D CL w H1 → va_D A w → va_S A s.heap H1 locs1 → lv_has ls1 7 (hdl sb x m o (i + 5)) → W p l e R s mi av below meth c H1 locs1 (cells + 1) (slots + 6) Q (F0 mi 23 ls1 [])) (ls : Array Slot) (hl : lv_has ls 7 (hdl sb x m o i)) : W p l e R s mi av below meth c H locs cells slots Q (F0 mi 1511 ls []) := by
  obtain ⟨n, T, C, Hd, b, q, J, bg, pi, bu, tm, tl, K, th, pu, bu9, cl, mo, K9, f, hap, hmd, heo, hLR⟩ := hLI
  obtain ⟨hI, hT, hJ, hK, hK9, hz8, hbt, hbf⟩ := id hLR
  obtain ⟨fs0, e0⟩ := hap.at0
  have hn8 := hI.1
  cases hbg : bg
  · skip
    refine lk_step hC hP hD hS hc hs hi (P1 := fun w => AP ky w x n T C Hd b q J bg pi bu tm tl K ∧ MD ky w m th n T C Hd b q J bg pu bu9 cl mo K9 ∧ isOut ky w o f) (P2 := fun r w => AP ky w x n T C Hd b q J bg pi bu tm tl K ∧ MD ky w m 1 n T C Hd b q J bg pu bu9 cl mo K9 ∧ isOut ky w o f) (kc := 1) (by decide) ?_ ?_ ?_ ?_ ?_ ls hl
    · skip
      refine WU.mono (wxS_step hP hD e0 heo (by decide) (by decide) (x_X4_step_1a hst hP hD hap hI hT hbg)) (fun r w z => ?_)
      obtain ⟨h1, hap1, hf1⟩ := z
      exact ⟨h1, hap1, hmd.fr hf1, heo.fr hf1⟩
    · intro w H1 hp hP1 hD1
      obtain ⟨hap1, hmd1, hg1⟩ := hp
      refine ⟨hmd1.at19, ?_⟩
      obtain ⟨fw, fd, fc, fg, fo, hmd2⟩ := hmd1
      skip
      refine ⟨_, _, ?_, ?_, MU.mono (c_X5_step_1a hP1 hD1 hmd2 hbg) (fun r w2 z => ?_)⟩
      · decide
      · decide
      · obtain ⟨-, h2, h3⟩ := z
        exact ⟨hap1.fr h3, h2.md, hg1.fr h3⟩
    · intro r w z; exact z.2.1.thr
    · intro r w z h; exact absurd h (by decide)
    · intro r w H1 locs1 ls1 z hP1 hD1 hS1 hl1
      obtain ⟨hap1, hmd1, hg1⟩ := z
      exact kk w H1 locs1 ls1 ⟨_, _, _, _, _, _, _, _, _, _, _, _, _, _, _, _, _, _, _, _, hap1, hmd1, hg1, hLR⟩ hP1 hD1 hS1 hl1
  · skip
    obtain ⟨e1, e2, e3, e4, e5, hpn, hn1, hf⟩ := hbt hbg
    subst e1; subst e2; subst e3; subst e4; subst e5
    have hJ2 : ∀ i, J i < 2 ^ 31 := fun z => Nat.lt_of_le_of_lt (hJ z) (by decide)
    have hK2 : ∀ i, K9 i < 2 ^ 31 := fun z => Nat.lt_of_le_of_lt (hK z) (by decide)
    by_cases hpu : pu < n
    · cases hj : jm J K9 (bp C Hd b q T n pu)
      · skip
        refine lk_step hC hP hD hS hc hs hi (P1 := fun w => AP ky w x n T C Hd b q J bg (pu + 1) (bu9 ||| 2 ^ (bp C Hd b q T n pu)) ((tmP (tmM cl mo (T (bp C Hd b q T n pu)) + (if 2 ≤ K9 (bp C Hd b q T n pu) then nI 4 else nI 1)) Hd (bu9 ||| 2 ^ (bp C Hd b q T n pu)) (bp C Hd b q T n pu))) ((nI (T (bp C Hd b q T n pu)))) K9 ∧ MD ky w m th n T C Hd b q J bg pu bu9 cl mo K9 ∧ ∃ g : Nat → Int64, isOut ky w o g ∧ g 0 = ((nI (bp C Hd b q T n pu)) : Int32).toInt64) (P2 := fun r w => r = nI (bp C Hd b q T n pu) ∧ AP ky w x n T C Hd b q J bg (pu + 1) (bu9 ||| 2 ^ (bp C Hd b q T n pu)) ((tmP (tmM cl mo (T (bp C Hd b q T n pu)) + (if 2 ≤ K9 (bp C Hd b q T n pu) then nI 4 else nI 1)) Hd (bu9 ||| 2 ^ (bp C Hd b q T n pu)) (bp C Hd b q T n pu))) ((nI (T (bp C Hd b q T n pu)))) K9 ∧ MD ky w m 0 n T C Hd b q J bg (pu + 1) (bu9 ||| 2 ^ (bp C Hd b q T n pu)) ((tmP (tmM cl mo (T (bp C Hd b q T n pu)) + (if 2 ≤ K9 (bp C Hd b q T n pu) then nI 4 else nI 1)) Hd (bu9 ||| 2 ^ (bp C Hd b q T n pu)) (bp C Hd b q T n pu))) ((nI (T (bp C Hd b q T n pu)))) K9 ∧ ∃ g : Nat → Int64, isOut ky w o g ∧ g 0 = ((nI (bp C Hd b q T n pu)) : Int32).toInt64) (kc := 0) (by decide) ?_ ?_ ?_ ?_ ?_ ls hl
        · skip
          refine WU.mono (wk_step hP hD e0 heo (by decide) (by decide) (fun r w z => z.2.2) (c_X4_step_0n hP hD hap hI hT hbg hpu hf hJ2 hK2 hj)) (fun r w z => ?_)
          obtain ⟨h1, r1, w1, ⟨rfl, hap1, hf1⟩, hf2, g, hg1, hg2⟩ := z
          exact ⟨h1, hap1.fr hf2, (hmd.fr hf1).fr hf2, g, hg1, hg2⟩
        · intro w H1 hp hP1 hD1
          obtain ⟨hap1, hmd1, g, hg1, hg2⟩ := hp
          refine ⟨hmd1.at19, ?_⟩
          obtain ⟨fw, fd, fc, fg, fo, hmd2⟩ := hmd1
          skip
          refine ⟨_, _, ?_, ?_, MU.mono (c_X5_step_0n hP1 hD1 hmd2 hI hT hbg hpu hf hJ2 hK2 hj) (fun r w2 z => ?_)⟩
          · decide
          · decide
          · obtain ⟨h1, h2, h3⟩ := z
            exact ⟨h1, hap1.fr h3, h2, g, hg1.fr h3, hg2⟩
        · intro r w z; exact z.2.2.1.thr
        · intro r w z _
          obtain ⟨h1, -, -, g, hg1, hg2⟩ := z
          exact ⟨g, hg1, by rw [h1]; exact hg2⟩
        · intro r w H1 locs1 ls1 z hP1 hD1 hS1 hl1
          obtain ⟨-, hap1, hmd1, g, hg1, -⟩ := z
          exact kk w H1 locs1 ls1 ⟨_, _, _, _, _, _, _, _, _, _, _, _, _, _, _, _, _, _, _, _, hap1, hmd1, hg1, ⟨hI, hT, hJ, hK, hK9, hz8, (fun _ => ⟨rfl, rfl, rfl, rfl, rfl, hpu, hn1, hf⟩), (fun z => by rw [hbg] at z; cases z)⟩⟩ hP1 hD1 hS1 hl1
      · skip
        refine lk_step hC hP hD hS hc hs hi (P1 := fun w => AP ky w x n T C Hd b q ((upX J (bp C Hd b q T n pu) (J (bp C Hd b q T n pu) - 1))) bg pu bu9 ((tmM cl mo (T (bp C Hd b q T n pu)) + nI 3)) ((nI (T (bp C Hd b q T n pu)))) ((upX K9 (bp C Hd b q T n pu) (K9 (bp C Hd b q T n pu) + 1))) ∧ MD ky w m th n T C Hd b q J bg pu bu9 cl mo K9 ∧ ∃ g : Nat → Int64, isOut ky w o g ∧ g 0 = ((-1) : Int32).toInt64) (P2 := fun r w => r = -1 ∧ AP ky w x n T C Hd b q ((upX J (bp C Hd b q T n pu) (J (bp C Hd b q T n pu) - 1))) bg pu bu9 ((tmM cl mo (T (bp C Hd b q T n pu)) + nI 3)) ((nI (T (bp C Hd b q T n pu)))) ((upX K9 (bp C Hd b q T n pu) (K9 (bp C Hd b q T n pu) + 1))) ∧ MD ky w m 0 n T C Hd b q ((upX J (bp C Hd b q T n pu) (J (bp C Hd b q T n pu) - 1))) bg pu bu9 ((tmM cl mo (T (bp C Hd b q T n pu)) + nI 3)) ((nI (T (bp C Hd b q T n pu)))) ((upX K9 (bp C Hd b q T n pu) (K9 (bp C Hd b q T n pu) + 1))) ∧ ∃ g : Nat → Int64, isOut ky w o g ∧ g 0 = ((-1) : Int32).toInt64) (kc := 0) (by decide) ?_ ?_ ?_ ?_ ?_ ls hl
        · skip
          refine WU.mono (wk_step hP hD e0 heo (by decide) (by decide) (fun r w z => z.2.2) (c_X4_step_0j hP hD hap hI hT hbg hpu hf hJ2 hK2 hj)) (fun r w z => ?_)
          obtain ⟨h1, r1, w1, ⟨rfl, hap1, hf1⟩, hf2, g, hg1, hg2⟩ := z
          exact ⟨h1, hap1.fr hf2, (hmd.fr hf1).fr hf2, g, hg1, hg2⟩
        · intro w H1 hp hP1 hD1
          obtain ⟨hap1, hmd1, g, hg1, hg2⟩ := hp
          refine ⟨hmd1.at19, ?_⟩
          obtain ⟨fw, fd, fc, fg, fo, hmd2⟩ := hmd1
          skip
          refine ⟨_, _, ?_, ?_, MU.mono (c_X5_step_0j hP1 hD1 hmd2 hI hT hbg hpu hf hJ2 hK2 hj) (fun r w2 z => ?_)⟩
          · decide
          · decide
          · obtain ⟨h1, h2, h3⟩ := z
            exact ⟨h1, hap1.fr h3, h2, g, hg1.fr h3, hg2⟩
        · intro r w z; exact z.2.2.1.thr
        · intro r w z _
          obtain ⟨h1, -, -, g, hg1, hg2⟩ := z
          exact ⟨g, hg1, by rw [h1]; exact hg2⟩
        · intro r w H1 locs1 ls1 z hP1 hD1 hS1 hl1
          obtain ⟨-, hap1, hmd1, g, hg1, -⟩ := z
          exact kk w H1 locs1 ls1 ⟨_, _, _, _, _, _, _, _, _, _, _, _, _, _, _, _, _, _, _, _, hap1, hmd1, hg1, (LR.jam hLR hbg hj (Nat.lt_of_lt_of_le (bp_ok hn8 hT hf hpu) hn8))⟩ hP1 hD1 hS1 hl1
    · have hpu9 : pu = n := by omega
      refine lk_step hC hP hD hS hc hs hi (P1 := fun w => AP ky w x n T C Hd b q J bg pu bu9 cl mo K9 ∧ MD ky w m th n T C Hd b q J bg pu bu9 cl mo K9 ∧ isOut ky w o f) (P2 := fun r w => AP ky w x n T C Hd b q J bg pu bu9 cl mo K9 ∧ MD ky w m 1 n T C Hd b q J bg pu bu9 cl mo K9 ∧ isOut ky w o f) (kc := 1) (by decide) ?_ ?_ ?_ ?_ ?_ ls hl
      · skip
        refine WU.mono (wxS_step hP hD e0 heo (by decide) (by decide) (x_X4_step_1b hst hP hD hap hI hT hbg hpu9)) (fun r w z => ?_)
        obtain ⟨h1, hap1, hf1⟩ := z
        exact ⟨h1, hap1, hmd.fr hf1, heo.fr hf1⟩
      · intro w H1 hp hP1 hD1
        obtain ⟨hap1, hmd1, hg1⟩ := hp
        refine ⟨hmd1.at19, ?_⟩
        obtain ⟨fw, fd, fc, fg, fo, hmd2⟩ := hmd1
        skip
        refine ⟨_, _, ?_, ?_, MU.mono (c_X5_step_1b hP1 hD1 hmd2 hbg hn8 hpu9) (fun r w2 z => ?_)⟩
        · decide
        · decide
        · obtain ⟨-, h2, h3⟩ := z
          exact ⟨hap1.fr h3, h2.md, hg1.fr h3⟩
      · intro r w z; exact z.2.1.thr
      · intro r w z h; exact absurd h (by decide)
      · intro r w H1 locs1 ls1 z hP1 hD1 hS1 hl1
        obtain ⟨hap1, hmd1, hg1⟩ := z
        exact kk w H1 locs1 ls1 ⟨_, _, _, _, _, _, _, _, _, _, _, _, _, _, _, _, _, _, _, _, hap1, hmd1, hg1, hLR⟩ hP1 hD1 hS1 hl1
set_option maxHeartbeats 4000000 in
set_option maxRecDepth 100000 in
theorem lc_stepBack {p : Program} {l : Launch} {e : Env} {R : Room} {s : State} {mi : MethodId} {av : Array Value} {below : List Frame} {meth : Method} {c : Code} {Q : State → Prop} {D : va_G} {ky : kT} {A : Nat → Prop} {sb L : Nat} {xs : Nat → Int32} (hst : l.stackTraces = false) (hC : LC p s mi av c R D ky A sb L xs) {ws : va_W} {H : Heap} {locs : List Loc} {cells slots : Nat} (hP : va_P D CL ws H) (hD : va_D A ws) (hS : va_S A s.heap H locs) (hc : cells + 1 ≤ R.cells) (hs : slots + 6 ≤ R.slots) {x m o i : Nat} (hi : i + 5 ≤ L) (hLI : LI ky ws x m o)
    (kk : ∀ (w : va_W) (H1 : Heap) (locs1 : List Loc) (ls1 : Array Slot), LI ky w x m o → va_P D CL w H1 → va_D A w → va_S A s.heap H1 locs1 → lv_has ls1 7 (hdl sb x m o (i + 5)) → W p l e R s mi av below meth c H1 locs1 (cells + 1) (slots + 6) Q (F0 mi 23 ls1 [])) (ls : Array Slot) (hl : lv_has ls 7 (hdl sb x m o i)) : W p l e R s mi av below meth c H locs cells slots Q (F0 mi 1555 ls []) := by
  obtain ⟨n, T, C, Hd, b, q, J, bg, pi, bu, tm, tl, K, th, pu, bu9, cl, mo, K9, f, hap, hmd, heo, hLR⟩ := hLI
  obtain ⟨hI, hT, hJ, hK, hK9, hz8, hbt, hbf⟩ := id hLR
  obtain ⟨fs0, e0⟩ := hap.at0
  have hn8 := hI.1
  cases hbg : bg
  · skip
    have hp0 : pi = 0 := (hbf hbg).1
    refine lk_stepBack hC hP hD hS hc hs hi (P1 := fun w => AP ky w x n T C Hd b q J bg pi bu tm tl K ∧ MD ky w m th n T C Hd b q J bg pu bu9 cl mo K9 ∧ isOut ky w o f) (P2 := fun r w => AP ky w x n T C Hd b q J bg pi bu tm tl K ∧ MD ky w m 1 n T C Hd b q J bg pu bu9 cl mo K9 ∧ isOut ky w o f) (kc := 1) (by decide) ?_ ?_ ?_ ?_ ?_ ls hl
    · skip
      refine WU.mono (wxS_stepBack hP hD e0 heo (by decide) (by decide) (x_X4_stepBack_1 hst hP hD hap hI hT hp0)) (fun r w z => ?_)
      obtain ⟨h1, hap1, hf1⟩ := z
      exact ⟨h1, hap1, hmd.fr hf1, heo.fr hf1⟩
    · intro w H1 hp hP1 hD1
      obtain ⟨hap1, hmd1, hg1⟩ := hp
      refine ⟨hmd1.at19, ?_⟩
      obtain ⟨fw, fd, fc, fg, fo, hmd2⟩ := hmd1
      skip
      refine ⟨_, _, ?_, ?_, MU.mono (c_X5_stepBack_1a hP1 hD1 hmd2 hbg) (fun r w2 z => ?_)⟩
      · decide
      · decide
      · obtain ⟨-, h2, h3⟩ := z
        exact ⟨hap1.fr h3, h2.md, hg1.fr h3⟩
    · intro r w z; exact z.2.1.thr
    · intro r w z h; exact absurd h (by decide)
    · intro r w H1 locs1 ls1 z hP1 hD1 hS1 hl1
      obtain ⟨hap1, hmd1, hg1⟩ := z
      exact kk w H1 locs1 ls1 ⟨_, _, _, _, _, _, _, _, _, _, _, _, _, _, _, _, _, _, _, _, hap1, hmd1, hg1, hLR⟩ hP1 hD1 hS1 hl1
  · skip
    obtain ⟨e1, e2, e3, e4, e5, hpn, hn1, hf⟩ := hbt hbg
    subst e1; subst e2; subst e3; subst e4; subst e5
    by_cases hpu : 0 < pu
    · refine lk_stepBack hC hP hD hS hc hs hi (P1 := fun w => AP ky w x n T C Hd b q J bg (pu - 1) ((clr bu9 (2 ^ (bp C Hd b q T n (pu - 1))))) ((cl + nI 2)) mo K9 ∧ MD ky w m th n T C Hd b q J bg pu bu9 cl mo K9 ∧ ∃ g : Nat → Int64, isOut ky w o g ∧ g 0 = ((nI (bp C Hd b q T n (pu - 1))) : Int32).toInt64) (P2 := fun r w => r = nI (bp C Hd b q T n (pu - 1)) ∧ AP ky w x n T C Hd b q J bg (pu - 1) ((clr bu9 (2 ^ (bp C Hd b q T n (pu - 1))))) ((cl + nI 2)) mo K9 ∧ MD ky w m 0 n T C Hd b q J bg (pu - 1) ((clr bu9 (2 ^ (bp C Hd b q T n (pu - 1))))) ((cl + nI 2)) mo K9 ∧ ∃ g : Nat → Int64, isOut ky w o g ∧ g 0 = ((nI (bp C Hd b q T n (pu - 1))) : Int32).toInt64) (kc := 0) (by decide) ?_ ?_ ?_ ?_ ?_ ls hl
      · skip
        refine WU.mono (wk_stepBack hP hD e0 heo (by decide) (by decide) (fun r w z => z.2.2) (c_X4_stepBack_0 hP hD hap hI hT hpu hpn hf)) (fun r w z => ?_)
        obtain ⟨h1, r1, w1, ⟨rfl, hap1, hf1⟩, hf2, g, hg1, hg2⟩ := z
        exact ⟨h1, hap1.fr hf2, (hmd.fr hf1).fr hf2, g, hg1, hg2⟩
      · intro w H1 hp hP1 hD1
        obtain ⟨hap1, hmd1, g, hg1, hg2⟩ := hp
        refine ⟨hmd1.at19, ?_⟩
        obtain ⟨fw, fd, fc, fg, fo, hmd2⟩ := hmd1
        skip
        refine ⟨_, _, ?_, ?_, MU.mono (c_X5_stepBack_0 hP1 hD1 hmd2 hI hT hbg hpu hpn hf) (fun r w2 z => ?_)⟩
        · decide
        · decide
        · obtain ⟨h1, h2, h3⟩ := z
          exact ⟨h1, hap1.fr h3, h2, g, hg1.fr h3, hg2⟩
      · intro r w z; exact z.2.2.1.thr
      · intro r w z _
        obtain ⟨h1, -, -, g, hg1, hg2⟩ := z
        exact ⟨g, hg1, by rw [h1]; exact hg2⟩
      · intro r w H1 locs1 ls1 z hP1 hD1 hS1 hl1
        obtain ⟨-, hap1, hmd1, g, hg1, -⟩ := z
        exact kk w H1 locs1 ls1 ⟨_, _, _, _, _, _, _, _, _, _, _, _, _, _, _, _, _, _, _, _, hap1, hmd1, hg1, ⟨hI, hT, hJ, hK, hK9, hz8, (fun _ => ⟨rfl, rfl, rfl, rfl, rfl, by omega, hn1, hf⟩), (fun z => by rw [hbg] at z; cases z)⟩⟩ hP1 hD1 hS1 hl1
    · have hp0 : pu = 0 := by omega
      refine lk_stepBack hC hP hD hS hc hs hi (P1 := fun w => AP ky w x n T C Hd b q J bg pu bu9 cl mo K9 ∧ MD ky w m th n T C Hd b q J bg pu bu9 cl mo K9 ∧ isOut ky w o f) (P2 := fun r w => AP ky w x n T C Hd b q J bg pu bu9 cl mo K9 ∧ MD ky w m 1 n T C Hd b q J bg pu bu9 cl mo K9 ∧ isOut ky w o f) (kc := 1) (by decide) ?_ ?_ ?_ ?_ ?_ ls hl
      · skip
        refine WU.mono (wxS_stepBack hP hD e0 heo (by decide) (by decide) (x_X4_stepBack_1 hst hP hD hap hI hT hp0)) (fun r w z => ?_)
        obtain ⟨h1, hap1, hf1⟩ := z
        exact ⟨h1, hap1, hmd.fr hf1, heo.fr hf1⟩
      · intro w H1 hp hP1 hD1
        obtain ⟨hap1, hmd1, hg1⟩ := hp
        refine ⟨hmd1.at19, ?_⟩
        obtain ⟨fw, fd, fc, fg, fo, hmd2⟩ := hmd1
        skip
        refine ⟨_, _, ?_, ?_, MU.mono (c_X5_stepBack_1b hP1 hD1 hmd2 hbg hp0) (fun r w2 z => ?_)⟩
        · decide
        · decide
        · obtain ⟨-, h2, h3⟩ := z
          exact ⟨hap1.fr h3, h2.md, hg1.fr h3⟩
      · intro r w z; exact z.2.1.thr
      · intro r w z h; exact absurd h (by decide)
      · intro r w H1 locs1 ls1 z hP1 hD1 hS1 hl1
        obtain ⟨hap1, hmd1, hg1⟩ := z
        exact kk w H1 locs1 ls1 ⟨_, _, _, _, _, _, _, _, _, _, _, _, _, _, _, _, _, _, _, _, hap1, hmd1, hg1, hLR⟩ hP1 hD1 hS1 hl1
set_option maxHeartbeats 4000000 in
set_option maxRecDepth 100000 in
theorem lc_built {p : Program} {l : Launch} {e : Env} {R : Room} {s : State} {mi : MethodId} {av : Array Value} {below : List Frame} {meth : Method} {c : Code} {Q : State → Prop} {D : va_G} {ky : kT} {A : Nat → Prop} {sb L : Nat} {xs : Nat → Int32} (hst : l.stackTraces = false) (hC : LC p s mi av c R D ky A sb L xs) {ws : va_W} {H : Heap} {locs : List Loc} {cells slots : Nat} (hP : va_P D CL ws H) (hD : va_D A ws) (hS : va_S A s.heap H locs) (hc : cells + 1 ≤ R.cells) (hs : slots + 6 ≤ R.slots) {x m o i : Nat} (hi : i + 5 ≤ L) (hLI : LI ky ws x m o)
    (kk : ∀ (w : va_W) (H1 : Heap) (locs1 : List Loc) (ls1 : Array Slot), LI ky w x m o → va_P D CL w H1 → va_D A w → va_S A s.heap H1 locs1 → lv_has ls1 7 (hdl sb x m o (i + 5)) → W p l e R s mi av below meth c H1 locs1 (cells + 1) (slots + 6) Q (F0 mi 23 ls1 [])) (ls : Array Slot) (hl : lv_has ls 7 (hdl sb x m o i)) : W p l e R s mi av below meth c H locs cells slots Q (F0 mi 1599 ls []) := by
  obtain ⟨n, T, C, Hd, b, q, J, bg, pi, bu, tm, tl, K, th, pu, bu9, cl, mo, K9, f, hap, hmd, heo, hLR⟩ := hLI
  obtain ⟨hI, hT, hJ, hK, hK9, hz8, hbt, hbf⟩ := id hLR
  obtain ⟨fs0, e0⟩ := hap.at0
  have hn8 := hI.1
  have kk := fun w H1 locs1 ls1 z1 z2 z3 z4 z5 => W.widen (p := p) (l := l) (e := e) (s := s) (m := mi) (args := av) (below := below) (meth := meth) (c := c) (Q := Q) (cells := cells) (slots := slots) (k := cells + 1) (n := slots + 6) (by omega) (by omega) (kk w H1 locs1 ls1 z1 z2 z3 z4 z5)
  have hc0 : cells + 0 ≤ R.cells := by omega
  have hs0 : slots + 0 ≤ R.slots := by omega
  refine lk_built hC hP hD hS hc0 hs0 hi (P1 := fun w => AP ky w x n T C Hd b q J bg pi bu tm tl K ∧ MD ky w m th n T C Hd b q J bg pu bu9 cl mo K9 ∧ isOut ky w o f) (P2 := fun r w => r = nI bu ∧ AP ky w x n T C Hd b q J bg pi bu tm tl K ∧ MD ky w m 0 n T C Hd b q J bg pu bu9 cl mo K9 ∧ isOut ky w o f) e0 (by decide) (by decide) (MU.mono (c_X4_built_0 hP hD hap hI) (fun r w z => ⟨z.1, z.2.1, hmd.fr z.2.2, heo.fr z.2.2⟩)) ?_ ?_ ?_ ls hl
  · intro w H1 hp hP1 hD1
    obtain ⟨hap1, hmd1, hg1⟩ := hp
    refine ⟨hmd1.at19, ?_⟩
    obtain ⟨fw, fd, fc, fg, fo, hmd2⟩ := hmd1
    refine ⟨_, _, ?_, ?_, MU.mono (c_X5_built_0 hP1 hD1 hmd2) (fun r w2 z => ?_)⟩
    · decide
    · decide
    · obtain ⟨h1, h2, h3⟩ := z
      replace h1 : r = nI bu := by rw [h1]; by_cases hbg : bg = true; (rw [if_pos hbg, (hbt hbg).2.1]); (rw [if_neg hbg, (hbf (Bool.eq_false_iff.mpr hbg)).2.1])
      exact ⟨h1, hap1.fr h3, h2.md, hg1.fr h3⟩
  · intro r w z; exact z.1
  · intro r w H1 locs1 ls1 z hP1 hD1 hS1 hl1
    obtain ⟨-, hap1, hmd1, hg1⟩ := z
    exact kk w H1 locs1 ls1 ⟨_, _, _, _, _, _, _, _, _, _, _, _, _, _, _, _, _, _, _, _, hap1, hmd1, hg1, hLR⟩ hP1 hD1 hS1 hl1
set_option maxHeartbeats 4000000 in
set_option maxRecDepth 100000 in
theorem lc_clock {p : Program} {l : Launch} {e : Env} {R : Room} {s : State} {mi : MethodId} {av : Array Value} {below : List Frame} {meth : Method} {c : Code} {Q : State → Prop} {D : va_G} {ky : kT} {A : Nat → Prop} {sb L : Nat} {xs : Nat → Int32} (hst : l.stackTraces = false) (hC : LC p s mi av c R D ky A sb L xs) {ws : va_W} {H : Heap} {locs : List Loc} {cells slots : Nat} (hP : va_P D CL ws H) (hD : va_D A ws) (hS : va_S A s.heap H locs) (hc : cells + 1 ≤ R.cells) (hs : slots + 6 ≤ R.slots) {x m o i : Nat} (hi : i + 5 ≤ L) (hLI : LI ky ws x m o)
    (kk : ∀ (w : va_W) (H1 : Heap) (locs1 : List Loc) (ls1 : Array Slot), LI ky w x m o → va_P D CL w H1 → va_D A w → va_S A s.heap H1 locs1 → lv_has ls1 7 (hdl sb x m o (i + 5)) → W p l e R s mi av below meth c H1 locs1 (cells + 1) (slots + 6) Q (F0 mi 23 ls1 [])) (ls : Array Slot) (hl : lv_has ls 7 (hdl sb x m o i)) : W p l e R s mi av below meth c H locs cells slots Q (F0 mi 1612 ls []) := by
  obtain ⟨n, T, C, Hd, b, q, J, bg, pi, bu, tm, tl, K, th, pu, bu9, cl, mo, K9, f, hap, hmd, heo, hLR⟩ := hLI
  obtain ⟨hI, hT, hJ, hK, hK9, hz8, hbt, hbf⟩ := id hLR
  obtain ⟨fs0, e0⟩ := hap.at0
  have hn8 := hI.1
  have kk := fun w H1 locs1 ls1 z1 z2 z3 z4 z5 => W.widen (p := p) (l := l) (e := e) (s := s) (m := mi) (args := av) (below := below) (meth := meth) (c := c) (Q := Q) (cells := cells) (slots := slots) (k := cells + 1) (n := slots + 6) (by omega) (by omega) (kk w H1 locs1 ls1 z1 z2 z3 z4 z5)
  have hc0 : cells + 0 ≤ R.cells := by omega
  have hs0 : slots + 0 ≤ R.slots := by omega
  refine lk_clock hC hP hD hS hc0 hs0 hi (P1 := fun w => AP ky w x n T C Hd b q J bg pi bu tm tl K ∧ MD ky w m th n T C Hd b q J bg pu bu9 cl mo K9 ∧ isOut ky w o f) (P2 := fun r w => r = tm ∧ AP ky w x n T C Hd b q J bg pi bu tm tl K ∧ MD ky w m 0 n T C Hd b q J bg pu bu9 cl mo K9 ∧ isOut ky w o f) e0 (by decide) (by decide) (MU.mono (c_X4_clock_0 hP hD hap hI) (fun r w z => ⟨z.1, z.2.1, hmd.fr z.2.2, heo.fr z.2.2⟩)) ?_ ?_ ?_ ls hl
  · intro w H1 hp hP1 hD1
    obtain ⟨hap1, hmd1, hg1⟩ := hp
    refine ⟨hmd1.at19, ?_⟩
    obtain ⟨fw, fd, fc, fg, fo, hmd2⟩ := hmd1
    refine ⟨_, _, ?_, ?_, MU.mono (c_X5_clock_0 hP1 hD1 hmd2) (fun r w2 z => ?_)⟩
    · decide
    · decide
    · obtain ⟨h1, h2, h3⟩ := z
      replace h1 : r = tm := by rw [h1]; by_cases hbg : bg = true; (rw [if_pos hbg, (hbt hbg).2.2.1]); (rw [if_neg hbg, (hbf (Bool.eq_false_iff.mpr hbg)).2.2.1])
      exact ⟨h1, hap1.fr h3, h2.md, hg1.fr h3⟩
  · intro r w z; exact z.1
  · intro r w H1 locs1 ls1 z hP1 hD1 hS1 hl1
    obtain ⟨-, hap1, hmd1, hg1⟩ := z
    exact kk w H1 locs1 ls1 ⟨_, _, _, _, _, _, _, _, _, _, _, _, _, _, _, _, _, _, _, _, hap1, hmd1, hg1, hLR⟩ hP1 hD1 hS1 hl1
set_option maxHeartbeats 4000000 in
set_option maxRecDepth 100000 in
theorem lc_mounted {p : Program} {l : Launch} {e : Env} {R : Room} {s : State} {mi : MethodId} {av : Array Value} {below : List Frame} {meth : Method} {c : Code} {Q : State → Prop} {D : va_G} {ky : kT} {A : Nat → Prop} {sb L : Nat} {xs : Nat → Int32} (hst : l.stackTraces = false) (hC : LC p s mi av c R D ky A sb L xs) {ws : va_W} {H : Heap} {locs : List Loc} {cells slots : Nat} (hP : va_P D CL ws H) (hD : va_D A ws) (hS : va_S A s.heap H locs) (hc : cells + 1 ≤ R.cells) (hs : slots + 6 ≤ R.slots) {x m o i : Nat} (hi : i + 5 ≤ L) (hLI : LI ky ws x m o)
    (kk : ∀ (w : va_W) (H1 : Heap) (locs1 : List Loc) (ls1 : Array Slot), LI ky w x m o → va_P D CL w H1 → va_D A w → va_S A s.heap H1 locs1 → lv_has ls1 7 (hdl sb x m o (i + 5)) → W p l e R s mi av below meth c H1 locs1 (cells + 1) (slots + 6) Q (F0 mi 23 ls1 [])) (ls : Array Slot) (hl : lv_has ls 7 (hdl sb x m o i)) : W p l e R s mi av below meth c H locs cells slots Q (F0 mi 1625 ls []) := by
  obtain ⟨n, T, C, Hd, b, q, J, bg, pi, bu, tm, tl, K, th, pu, bu9, cl, mo, K9, f, hap, hmd, heo, hLR⟩ := hLI
  obtain ⟨hI, hT, hJ, hK, hK9, hz8, hbt, hbf⟩ := id hLR
  obtain ⟨fs0, e0⟩ := hap.at0
  have hn8 := hI.1
  have kk := fun w H1 locs1 ls1 z1 z2 z3 z4 z5 => W.widen (p := p) (l := l) (e := e) (s := s) (m := mi) (args := av) (below := below) (meth := meth) (c := c) (Q := Q) (cells := cells) (slots := slots) (k := cells + 1) (n := slots + 6) (by omega) (by omega) (kk w H1 locs1 ls1 z1 z2 z3 z4 z5)
  have hc0 : cells + 0 ≤ R.cells := by omega
  have hs0 : slots + 0 ≤ R.slots := by omega
  refine lk_mounted hC hP hD hS hc0 hs0 hi (P1 := fun w => AP ky w x n T C Hd b q J bg pi bu tm tl K ∧ MD ky w m th n T C Hd b q J bg pu bu9 cl mo K9 ∧ isOut ky w o f) (P2 := fun r w => r = tl ∧ AP ky w x n T C Hd b q J bg pi bu tm tl K ∧ MD ky w m 0 n T C Hd b q J bg pu bu9 cl mo K9 ∧ isOut ky w o f) e0 (by decide) (by decide) (MU.mono (c_X4_mounted_0 hP hD hap hI) (fun r w z => ⟨z.1, z.2.1, hmd.fr z.2.2, heo.fr z.2.2⟩)) ?_ ?_ ?_ ls hl
  · intro w H1 hp hP1 hD1
    obtain ⟨hap1, hmd1, hg1⟩ := hp
    refine ⟨hmd1.at19, ?_⟩
    obtain ⟨fw, fd, fc, fg, fo, hmd2⟩ := hmd1
    refine ⟨_, _, ?_, ?_, MU.mono (c_X5_mounted_0 hP1 hD1 hmd2) (fun r w2 z => ?_)⟩
    · decide
    · decide
    · obtain ⟨h1, h2, h3⟩ := z
      replace h1 : r = tl := by rw [h1]; by_cases hbg : bg = true; (rw [if_pos hbg, (hbt hbg).2.2.2.1]); (rw [if_neg hbg, (hbf (Bool.eq_false_iff.mpr hbg)).2.2.2.1])
      exact ⟨h1, hap1.fr h3, h2.md, hg1.fr h3⟩
  · intro r w z; exact z.1
  · intro r w H1 locs1 ls1 z hP1 hD1 hS1 hl1
    obtain ⟨-, hap1, hmd1, hg1⟩ := z
    exact kk w H1 locs1 ls1 ⟨_, _, _, _, _, _, _, _, _, _, _, _, _, _, _, _, _, _, _, _, hap1, hmd1, hg1, hLR⟩ hP1 hD1 hS1 hl1
set_option maxHeartbeats 4000000 in
set_option maxRecDepth 100000 in
theorem lc_isBypassed {p : Program} {l : Launch} {e : Env} {R : Room} {s : State} {mi : MethodId} {av : Array Value} {below : List Frame} {meth : Method} {c : Code} {Q : State → Prop} {D : va_G} {ky : kT} {A : Nat → Prop} {sb L : Nat} {xs : Nat → Int32} (hst : l.stackTraces = false) (hC : LC p s mi av c R D ky A sb L xs) {ws : va_W} {H : Heap} {locs : List Loc} {cells slots : Nat} (hP : va_P D CL ws H) (hD : va_D A ws) (hS : va_S A s.heap H locs) (hc : cells + 1 ≤ R.cells) (hs : slots + 6 ≤ R.slots) {x m o i : Nat} (hi : i + 5 ≤ L) (hLI : LI ky ws x m o)
    (kk : ∀ (w : va_W) (H1 : Heap) (locs1 : List Loc) (ls1 : Array Slot), LI ky w x m o → va_P D CL w H1 → va_D A w → va_S A s.heap H1 locs1 → lv_has ls1 7 (hdl sb x m o (i + 5)) → W p l e R s mi av below meth c H1 locs1 (cells + 1) (slots + 6) Q (F0 mi 23 ls1 [])) (ls : Array Slot) (hl : lv_has ls 7 (hdl sb x m o i)) : W p l e R s mi av below meth c H locs cells slots Q (F0 mi 1638 ls []) := by
  obtain ⟨n, T, C, Hd, b, q, J, bg, pi, bu, tm, tl, K, th, pu, bu9, cl, mo, K9, f, hap, hmd, heo, hLR⟩ := hLI
  obtain ⟨hI, hT, hJ, hK, hK9, hz8, hbt, hbf⟩ := id hLR
  obtain ⟨fs0, e0⟩ := hap.at0
  have hn8 := hI.1
  cases hk : prt n (xs (i + 1))
  · refine lk_isBypassed hC hP hD hS hc hs hi (P1 := fun w => AP ky w x n T C Hd b q J bg pi bu tm tl K ∧ MD ky w m th n T C Hd b q J bg pu bu9 cl mo K9 ∧ isOut ky w o f) (P2 := fun r w => AP ky w x n T C Hd b q J bg pi bu tm tl K ∧ MD ky w m 1 n T C Hd b q J bg pu bu9 cl mo K9 ∧ isOut ky w o f) (kc := 1) (by decide) ?_ ?_ ?_ ?_ ?_ ls hl
    · skip
      refine WU.mono (wxI_isBypassed hP hD e0 heo (by decide) (by decide) (x_X4_isBypassed_1 hst hP hD hap hI hk)) (fun r w z => ?_)
      obtain ⟨h1, hap1, hf1⟩ := z
      exact ⟨h1, hap1, hmd.fr hf1, heo.fr hf1⟩
    · intro w H1 hp hP1 hD1
      obtain ⟨hap1, hmd1, hg1⟩ := hp
      refine ⟨hmd1.at19, ?_⟩
      obtain ⟨fw, fd, fc, fg, fo, hmd2⟩ := hmd1
      skip
      refine ⟨_, _, ?_, ?_, MU.mono (c_X5_isBypassed_1 hP1 hD1 hmd2 hk) (fun r w2 z => ?_)⟩
      · decide
      · decide
      · obtain ⟨-, h2, h3⟩ := z
        exact ⟨hap1.fr h3, h2.md, hg1.fr h3⟩
    · intro r w z; exact z.2.1.thr
    · intro r w z h; exact absurd h (by decide)
    · intro r w H1 locs1 ls1 z hP1 hD1 hS1 hl1
      obtain ⟨hap1, hmd1, hg1⟩ := z
      exact kk w H1 locs1 ls1 ⟨_, _, _, _, _, _, _, _, _, _, _, _, _, _, _, _, _, _, _, _, hap1, hmd1, hg1, hLR⟩ hP1 hD1 hS1 hl1
  · obtain ⟨pt, hp, hx1⟩ := prt_ex hk hn8
    refine lk_isBypassed hC hP hD hS hc hs hi (P1 := fun w => AP ky w x n T C Hd b q J bg pi bu tm tl K ∧ MD ky w m th n T C Hd b q J bg pu bu9 cl mo K9 ∧ ∃ g : Nat → Int64, isOut ky w o g ∧ g 0 = (if decide (2 ≤ K pt) then 1 else 0)) (P2 := fun r w => r = bI (decide (2 ≤ K pt)) ∧ AP ky w x n T C Hd b q J bg pi bu tm tl K ∧ MD ky w m 0 n T C Hd b q J bg pu bu9 cl mo K9 ∧ ∃ g : Nat → Int64, isOut ky w o g ∧ g 0 = (if decide (2 ≤ K pt) then 1 else 0)) (kc := 0) (by decide) ?_ ?_ ?_ ?_ ?_ ls hl
    · rw [hx1]
      refine WU.mono (wk_isBypassed hP hD e0 heo (by decide) (by decide) (fun r w z => z.2.2) (c_X4_isBypassed_0 hP hD hap hI hp (fun z => Nat.lt_of_le_of_lt (hK z) (by decide)))) (fun r w z => ?_)
      obtain ⟨h1, r1, w1, ⟨rfl, hap1, hf1⟩, hf2, g, hg1, hg2⟩ := z
      exact ⟨h1, hap1.fr hf2, (hmd.fr hf1).fr hf2, g, hg1, hg2.trans (bI_l _)⟩
    · intro w H1 hp hP1 hD1
      obtain ⟨hap1, hmd1, g, hg1, hg2⟩ := hp
      refine ⟨hmd1.at19, ?_⟩
      obtain ⟨fw, fd, fc, fg, fo, hmd2⟩ := hmd1
      rw [hx1]
      refine ⟨_, _, ?_, ?_, MU.mono (c_X5_isBypassed_0 hP1 hD1 hmd2 hn8 hp (Nat.lt_of_le_of_lt (hK9 pt) (by decide))) (fun r w2 z => ?_)⟩
      · decide
      · decide
      · obtain ⟨h1, h2, h3⟩ := z
        replace h1 : r = bI (decide (2 ≤ K pt)) := by rw [h1]; cases hbg : bg; (rw [(hbf hbg).2.2.2.2, Bool.false_and]; first | done | rfl); (rw [(hbt hbg).2.2.2.2.1, Bool.true_and])
        exact ⟨h1, hap1.fr h3, h2.md, g, hg1.fr h3, hg2⟩
    · intro r w z; exact z.2.2.1.thr
    · intro r w z _
      obtain ⟨h1, -, -, g, hg1, hg2⟩ := z
      exact ⟨_, g, h1, hg1, hg2⟩
    · intro r w H1 locs1 ls1 z hP1 hD1 hS1 hl1
      obtain ⟨-, hap1, hmd1, g, hg1, -⟩ := z
      exact kk w H1 locs1 ls1 ⟨_, _, _, _, _, _, _, _, _, _, _, _, _, _, _, _, _, _, _, _, hap1, hmd1, hg1, hLR⟩ hP1 hD1 hS1 hl1
