/-! ===== the law's loop and its start ===== -/
theorem and31 (x : Int32) : ∃ k, k < 32 ∧ x &&& nI 31 = nI k := by
  have hx := apx_bv x
  generalize x.toBitVec.toNat = S at hx
  subst hx
  exact ⟨S &&& 31, Nat.lt_succ_of_le Nat.and_le_right, an_and _ _⟩
theorem sml_neg : ∀ L, L < 5 → nI L - nI 5 < 0 := by decide +kernel
theorem law_loop {p : Program} {l : Launch} {e : Env} {s : State} {m : MethodId} {below : List Frame} {meth : Method} {c : Code} {D : va_G} {ky : kT} {b L : Nat} {xs : Nat → Int32} (hst : l.stackTraces = false) (C0 : lw_At p s m meth c b L xs) (hC : LC p s m #[Value.ref b] c room_1 D ky (fun q : Nat => s.heap.size ≤ q) b L xs) {x mo o : Nat} :
    ∀ (n i : Nat) (ws : va_W) (H : Heap) (locs : List Loc) (cells slots : Nat) (ls : Array Slot), i ≤ L → L + 1 ≤ i + n → cells ≤ 31 + i → slots ≤ 5860 + 6 * i → LI ky ws x mo o → va_P D CL ws H → va_D (fun q : Nat => s.heap.size ≤ q) ws → va_S (fun q : Nat => s.heap.size ≤ q) s.heap H locs → lv_has ls 7 (hdl b x mo o i) → W p l e room_1 s m #[Value.ref b] below meth c H locs cells slots (lw_Z below #[Value.ref b] s) (F0 m 23 ls []) := by
  obtain ⟨hx, hb, hr, hml, hown, hts, hX, hbl, hlocks, hgv⟩ := C0
  obtain ⟨-, -, -, -, -, -, -, -, -, -, hbA, hL, -, -⟩ := id hC
  have hRc : room_1.cells = 601024 := rfl
  have hRs : room_1.slots = 7293034 := rfl
  intro n
  induction n with
  | zero => intro i ws H locs cells slots ls h1 h2; exact absurd h2 (by omega)
  | succ n ih =>
    intro i ws H locs cells slots ls hi hin hce hsl hLI hP hD hS hl
    have hl : lv_has ls 7 [(4, .int (nI i)), (0, .ref b), (1, .ref x), (2, .ref mo), (3, .ref o)] := hl
    refine lv_iload hx hb dL_law_23 (lv_at hl 0 rfl) ?_
    refine lv_aload_n hx hb dL_law_25 rfl (lv_at hl 1 rfl) ?_
    refine va_slen hx hb hX hbl hbA hS dL_law_26 ?_
    refine lv_iconst (v := nI 5) hx hb dL_law_27 (by decide +kernel) ?_
    refine lv_isub hx hb dL_law_28 ?_
    by_cases h5 : i + 5 ≤ L
    · refine sv_top (y := nI (L - 5)) (pk_sub (show 5 ≤ L by omega)) ?_
      refine sn_icmp_gt (tgt := 1707) hx hb dL_law_29 (by decide) (by omega) (by omega) (fun cz => absurd cz (by omega)) (fun _ => ?_)
      refine lv_aload_n hx hb dL_law_32 rfl (lv_at hl 1 rfl) ?_
      refine lv_iload hx hb dL_law_33 (lv_at hl 0 rfl) ?_
      refine va_sld hx hb hX hbl hbA hS (vp_in_nI (show i < L by omega) (by omega)) dL_law_35 ?_
      rw [nI_clamp (show i < 2 ^ 31 by omega)]
      refine lv_bipush (v := nI 31) hx hb dL_law_36 (by decide +kernel) ?_
      refine lv_iand hx hb dL_law_38 ?_
      obtain ⟨k, hk, hxk⟩ := and31 (xs i)
      refine sv_top (y := nI k) hxk ?_
      have hc : cells + 1 ≤ room_1.cells := by omega
      have hs : slots + 6 ≤ room_1.slots := by omega
      have ih5 := fun w H1 locs1 ls1 z1 z2 z3 z4 z5 => ih (i + 5) w H1 locs1 (cells + 1) (slots + 6) ls1 h5 (by omega) (by omega) (by omega) z1 z2 z3 z4 z5
      rcases (show k = 0 ∨ k = 1 ∨ k = 2 ∨ k = 3 ∨ k = 4 ∨ k = 5 ∨ k = 6 ∨ k = 7 ∨ k = 8 ∨ k = 9 ∨ k = 10 ∨ k = 11 ∨ k = 12 ∨ k = 13 ∨ k = 14 ∨ k = 15 ∨ k = 16 ∨ k = 17 ∨ k = 18 ∨ k = 19 ∨ k = 20 ∨ k = 21 ∨ k = 22 ∨ k = 23 ∨ k = 24 ∨ k = 25 ∨ k = 26 ∨ k = 27 ∨ k = 28 ∨ k = 29 ∨ k = 30 ∨ k = 31 by omega) with rfl | rfl | rfl | rfl | rfl | rfl | rfl | rfl | rfl | rfl | rfl | rfl | rfl | rfl | rfl | rfl | rfl | rfl | rfl | rfl | rfl | rfl | rfl | rfl | rfl | rfl | rfl | rfl | rfl | rfl | rfl | rfl
      · refine lv_tableIn (x := nI 0) (off := 129) (tgt := 168) hx hb dL_law_39 (by decide +kernel) (by decide +kernel) (by decide +kernel) (by decide) ?_
        exact lc_addPart hst hC hP hD hS hc hs h5 hLI ih5 ls hl
      · refine lv_tableIn (x := nI 1) (off := 185) (tgt := 224) hx hb dL_law_39 (by decide +kernel) (by decide +kernel) (by decide +kernel) (by decide) ?_
        exact lc_setTool hst hC hP hD hS hc hs h5 hLI ih5 ls hl
      · refine lv_tableIn (x := nI 2) (off := 253) (tgt := 292) hx hb dL_law_39 (by decide +kernel) (by decide +kernel) (by decide +kernel) (by decide) ?_
        exact lc_contact hst hC hP hD hS hc hs h5 hLI ih5 ls hl
      · refine lv_tableIn (x := nI 3) (off := 349) (tgt := 388) hx hb dL_law_39 (by decide +kernel) (by decide +kernel) (by decide +kernel) (by decide) ?_
        exact lc_hinder hst hC hP hD hS hc hs h5 hLI ih5 ls hl
      · refine lv_tableIn (x := nI 4) (off := 457) (tgt := 496) hx hb dL_law_39 (by decide +kernel) (by decide +kernel) (by decide +kernel) (by decide) ?_
        exact lc_setBase hst hC hP hD hS hc hs h5 hLI ih5 ls hl
      · refine lv_tableIn (x := nI 5) (off := 513) (tgt := 552) hx hb dL_law_39 (by decide +kernel) (by decide +kernel) (by decide +kernel) (by decide) ?_
        exact lc_askSteady hst hC hP hD hS hc hs h5 hLI ih5 ls hl
      · refine lv_tableIn (x := nI 6) (off := 554) (tgt := 593) hx hb dL_law_39 (by decide +kernel) (by decide +kernel) (by decide +kernel) (by decide) ?_
        exact lc_parts hst hC hP hD hS hc hs h5 hLI ih5 ls hl
      · refine lv_tableIn (x := nI 7) (off := 567) (tgt := 606) hx hb dL_law_39 (by decide +kernel) (by decide +kernel) (by decide +kernel) (by decide) ?_
        exact lc_isConnected hst hC hP hD hS hc hs h5 hLI ih5 ls hl
      · refine lv_tableIn (x := nI 8) (off := 630) (tgt := 669) hx hb dL_law_39 (by decide +kernel) (by decide +kernel) (by decide +kernel) (by decide) ?_
        exact lc_isSteady hst hC hP hD hS hc hs h5 hLI ih5 ls hl
      · refine lv_tableIn (x := nI 9) (off := 693) (tgt := 732) hx hb dL_law_39 (by decide +kernel) (by decide +kernel) (by decide +kernel) (by decide) ?_
        exact lc_free hst hC hP hD hS hc hs h5 hLI ih5 ls hl
      · refine lv_tableIn (x := nI 10) (off := 761) (tgt := 800) hx hb dL_law_39 (by decide +kernel) (by decide +kernel) (by decide +kernel) (by decide) ?_
        exact lc_canTake hst hC hP hD hS hc hs h5 hLI ih5 ls hl
      · refine lv_tableIn (x := nI 11) (off := 836) (tgt := 875) hx hb dL_law_39 (by decide +kernel) (by decide +kernel) (by decide +kernel) (by decide) ?_
        exact lc_movesWith hst hC hP hD hS hc hs h5 hLI ih5 ls hl
      · refine lv_tableIn (x := nI 12) (off := 904) (tgt := 943) hx hb dL_law_39 (by decide +kernel) (by decide +kernel) (by decide +kernel) (by decide) ?_
        exact lc_boundTo hst hC hP hD hS hc hs h5 hLI ih5 ls hl
      · refine lv_tableIn (x := nI 13) (off := 972) (tgt := 1011) hx hb dL_law_39 (by decide +kernel) (by decide +kernel) (by decide +kernel) (by decide) ?_
        exact lc_groups hst hC hP hD hS hc hs h5 hLI ih5 ls hl
      · refine lv_tableIn (x := nI 14) (off := 1028) (tgt := 1067) hx hb dL_law_39 (by decide +kernel) (by decide +kernel) (by decide +kernel) (by decide) ?_
        exact lc_splits hst hC hP hD hS hc hs h5 hLI ih5 ls hl
      · refine lv_tableIn (x := nI 15) (off := 1084) (tgt := 1123) hx hb dL_law_39 (by decide +kernel) (by decide +kernel) (by decide +kernel) (by decide) ?_
        exact lc_ways hst hC hP hD hS hc hs h5 hLI ih5 ls hl
      · refine lv_tableIn (x := nI 16) (off := 1128) (tgt := 1167) hx hb dL_law_39 (by decide +kernel) (by decide +kernel) (by decide +kernel) (by decide) ?_
        exact lc_leastDepth hst hC hP hD hS hc hs h5 hLI ih5 ls hl
      · refine lv_tableIn (x := nI 17) (off := 1172) (tgt := 1211) hx hb dL_law_39 (by decide +kernel) (by decide +kernel) (by decide +kernel) (by decide) ?_
        exact lc_orders hst hC hP hD hS hc hs h5 hLI ih5 ls hl
      · refine lv_tableIn (x := nI 18) (off := 1216) (tgt := 1255) hx hb dL_law_39 (by decide +kernel) (by decide +kernel) (by decide +kernel) (by decide) ?_
        exact lc_fewestChanges hst hC hP hD hS hc hs h5 hLI ih5 ls hl
      · refine lv_tableIn (x := nI 19) (off := 1260) (tgt := 1299) hx hb dL_law_39 (by decide +kernel) (by decide +kernel) (by decide +kernel) (by decide) ?_
        exact lc_fewestByListing hst hC hP hD hS hc hs h5 hLI ih5 ls hl
      · refine lv_tableIn (x := nI 20) (off := 1304) (tgt := 1343) hx hb dL_law_39 (by decide +kernel) (by decide +kernel) (by decide +kernel) (by decide) ?_
        exact lc_orderAt hst hC hP hD hS hc hs h5 hLI ih5 ls hl
      · refine lv_tableIn (x := nI 21) (off := 1360) (tgt := 1399) hx hb dL_law_39 (by decide +kernel) (by decide +kernel) (by decide +kernel) (by decide) ?_
        exact lc_setJams hst hC hP hD hS hc hs h5 hLI ih5 ls hl
      · refine lv_tableIn (x := nI 22) (off := 1428) (tgt := 1467) hx hb dL_law_39 (by decide +kernel) (by decide +kernel) (by decide +kernel) (by decide) ?_
        exact lc_begin hst hC hP hD hS hc hs h5 hLI ih5 ls hl
      · refine lv_tableIn (x := nI 23) (off := 1472) (tgt := 1511) hx hb dL_law_39 (by decide +kernel) (by decide +kernel) (by decide +kernel) (by decide) ?_
        exact lc_step hst hC hP hD hS hc hs h5 hLI ih5 ls hl
      · refine lv_tableIn (x := nI 24) (off := 1516) (tgt := 1555) hx hb dL_law_39 (by decide +kernel) (by decide +kernel) (by decide +kernel) (by decide) ?_
        exact lc_stepBack hst hC hP hD hS hc hs h5 hLI ih5 ls hl
      · refine lv_tableIn (x := nI 25) (off := 1560) (tgt := 1599) hx hb dL_law_39 (by decide +kernel) (by decide +kernel) (by decide +kernel) (by decide) ?_
        exact lc_built hst hC hP hD hS hc hs h5 hLI ih5 ls hl
      · refine lv_tableIn (x := nI 26) (off := 1573) (tgt := 1612) hx hb dL_law_39 (by decide +kernel) (by decide +kernel) (by decide +kernel) (by decide) ?_
        exact lc_clock hst hC hP hD hS hc hs h5 hLI ih5 ls hl
      · refine lv_tableIn (x := nI 27) (off := 1586) (tgt := 1625) hx hb dL_law_39 (by decide +kernel) (by decide +kernel) (by decide +kernel) (by decide) ?_
        exact lc_mounted hst hC hP hD hS hc hs h5 hLI ih5 ls hl
      · refine lv_tableIn (x := nI 28) (off := 1599) (tgt := 1638) hx hb dL_law_39 (by decide +kernel) (by decide +kernel) (by decide +kernel) (by decide) ?_
        exact lc_isBypassed hst hC hP hD hS hc hs h5 hLI ih5 ls hl
      · refine lv_tableOut (x := nI 29) (tgt := 1701) hx hb dL_law_39 (Or.inr (by decide +kernel)) (by decide) ?_
        refine lv_iinc (v := nI (i + 5)) (lv' := hdl b x mo o (i + 5)) hx hb dL_law_1701 hl (k := 0) rfl (nI_5 i) (by decide) rfl (fun ls hl => ?_)
        refine lv_goto (tgt := 23) hx hb dL_law_1704 (by decide) ?_
        exact ih (i + 5) ws H locs cells slots ls h5 (by omega) (by omega) (by omega) hLI hP hD hS hl
      · refine lv_tableOut (x := nI 30) (tgt := 1701) hx hb dL_law_39 (Or.inr (by decide +kernel)) (by decide) ?_
        refine lv_iinc (v := nI (i + 5)) (lv' := hdl b x mo o (i + 5)) hx hb dL_law_1701 hl (k := 0) rfl (nI_5 i) (by decide) rfl (fun ls hl => ?_)
        refine lv_goto (tgt := 23) hx hb dL_law_1704 (by decide) ?_
        exact ih (i + 5) ws H locs cells slots ls h5 (by omega) (by omega) (by omega) hLI hP hD hS hl
      · refine lv_tableOut (x := nI 31) (tgt := 1701) hx hb dL_law_39 (Or.inr (by decide +kernel)) (by decide) ?_
        refine lv_iinc (v := nI (i + 5)) (lv' := hdl b x mo o (i + 5)) hx hb dL_law_1701 hl (k := 0) rfl (nI_5 i) (by decide) rfl (fun ls hl => ?_)
        refine lv_goto (tgt := 23) hx hb dL_law_1704 (by decide) ?_
        exact ih (i + 5) ws H locs cells slots ls h5 (by omega) (by omega) (by omega) hLI hP hD hS hl
    · have hgo : W p l e room_1 s m #[Value.ref b] below meth c H locs cells slots (lw_Z below #[Value.ref b] s) (F0 m 1707 ls []) := by
        refine lv_iconst (v := 1) hx hb dL_law_1707 (by decide) ?_
        refine va_forget (fun q hq => hS.2.2 q hq) ?_
        refine W.widen (k := 601024) (n := 7293034) (by omega) (by omega) ?_
        exact lw_ret hx hb hr hlocks dL_law_1708
      by_cases h6 : 5 ≤ L
      · refine sv_top (y := nI (L - 5)) (pk_sub h6) ?_
        exact sn_icmp_gt (tgt := 1707) hx hb dL_law_29 (by decide) (by omega) (by omega) (fun _ => hgo) (fun cz => absurd cz (by omega))
      · refine lv_icmp_gt (tgt := 1707) hx hb dL_law_29 (by decide) (fun _ => hgo) (fun cz => absurd ?_ cz)
        exact Int32.lt_of_lt_of_le (sml_neg L (by omega)) (Int32.not_lt.mp (nI_pos (show i < 2 ^ 31 by omega)))
