/-! ===== the ints that the law draws ===== -/
def drw (xs : Nat → Int32) (L k : Nat) : Nat := if k < L then (xs k &&& 2147483647).toBitVec.toNat else 104729 * (k + 2) % 65521
theorem drw_and (x : Int32) : (x &&& 2147483647).toBitVec.toNat < 2 ^ 31 := by
  have h : (x &&& 2147483647).toBitVec = x.toBitVec &&& (2147483647 : Int32).toBitVec := rfl
  rw [h, BitVec.toNat_and]
  exact Nat.lt_of_le_of_lt Nat.and_le_right (by decide +kernel)
theorem drw_lt (xs : Nat → Int32) (L k : Nat) : drw xs L k < 2 ^ 31 := by
  unfold drw
  split
  · exact drw_and _
  · exact Nat.lt_trans (Nat.mod_lt _ (by decide)) (by decide)
theorem c_L_draw {l : Launch} {Hs : Heap} {b L k : Nat} {xs : Nat → Int32} (hk : k ≤ 1000) (hL : L ≤ 260) : PX l yL_draw wsL_draw 0 0 b L xs Hs [.ref b, .int (nI k)] (nI (drw xs L k)) := by
  refine PX.of (cc := cL_draw) (maxL := 2) (ty := .int) (by decide) rfl rfl (Nat.le_of_ble_eq_true rfl) ?_
  intro pg en Rm sg mi av below meth co Qo hRf hRl hx hb hml hown hts hX hret ls hl
  have hl : lv_has ls 2 [(0, .ref b), (1, .int (nI k))] := hl
  have hS : va_S (fun _ => False) Hs Hs [] := va_S.rf
  have hbl : b < Hs.size := by
    obtain ⟨scr, h1, -⟩ := hX
    exact (Array.getElem?_eq_some_iff.mp h1).1
  generalize ([] : List Loc) = locs at hS ⊢
  refine lv_iload_n hx hb dL_draw_0 rfl (lv_at hl 1 rfl) ?_
  refine lv_aload_n hx hb dL_draw_1 rfl (lv_at hl 0 rfl) ?_
  refine va_slen (A := fun _ => False) hx hb hX hbl (fun z => z) hS dL_draw_2 ?_
  refine sv_top (y := nI L) rfl ?_
  refine sn_icmp_ge (x := k) (y := L) (tgt := 15) hx hb dL_draw_3 (by decide) (by omega) (by omega) (fun c1 => ?_) (fun c1 => ?_)
  · refine lv_ldc (v := 104729) hx hb hown (hts (.constant RL 8 (104729)) (by decide +kernel)) dL_draw_15 ?_
    refine sv_top (y := nI 104729) (by decide +kernel) ?_
    refine lv_iload_n hx hb dL_draw_17 rfl (lv_at hl 1 rfl) ?_
    refine lv_iconst (v := nI 2) hx hb dL_draw_18 ci_2 ?_
    refine lv_iadd hx hb dL_draw_19 ?_
    refine sv_top (y := nI (k + 2)) (nI_add _ _) ?_
    refine lv_imul hx hb dL_draw_20 ?_
    refine sv_top (y := nI (104729 * (k + 2))) (mul_n _ _) ?_
    refine lv_ldc (v := 65521) hx hb hown (hts (.constant RL 9 (65521)) (by decide +kernel)) dL_draw_21 ?_
    refine sv_top (y := nI 65521) (by decide +kernel) ?_
    refine sn_irem hx hb (by omega) (by decide) (by decide) dL_draw_23 ?_
    exact hret 24 ls locs _ dL_draw_24 hS (by unfold drw; rw [if_neg (by omega)])
  · refine lv_aload_n hx hb dL_draw_6 rfl (lv_at hl 0 rfl) ?_
    refine lv_iload_n hx hb dL_draw_7 rfl (lv_at hl 1 rfl) ?_
    refine va_sld (A := fun _ => False) hx hb hX hbl (fun z => z) hS (vp_in_nI c1 (by omega)) dL_draw_8 ?_
    rw [nI_clamp (by omega)]
    refine lv_ldc (v := 2147483647) hx hb hown (hts (.constant RL 7 (2147483647)) (by decide +kernel)) dL_draw_9 ?_
    refine lv_iand hx hb dL_draw_11 ?_
    refine lv_goto (tgt := 24) hx hb dL_draw_12 (by decide) ?_
    exact hret 24 ls locs _ dL_draw_24 hS (by unfold drw; rw [if_pos c1, nI_bv])
