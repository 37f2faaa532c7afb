theorem lz_cntb (S : Nat) : cnt S < 2 ^ 31 := by
  have h := lz_itrle (f := fun k x => x + S / 2 ^ k % 2) (M := 1) (k := 8) (x := 0) (fun p y _ => by
    have := lz_m2 (S / 2 ^ p)
    show y + S / 2 ^ p % 2 ≤ y + 1
    omega)
  have e : cnt S = itr (fun k x => x + S / 2 ^ k % 2) 8 0 := rfl
  omega
theorem lz_spcb {C Hd : Nat → Nat} {n : Nat} (S : Nat) (h : S < 64) : spc C Hd n S < 2 ^ 31 := by
  unfold spc
  split
  · have h1 := lz_itrle (f := fun j x => if spl C Hd n S (j + 1) = true then x + 1 else x) (M := 1) (k := S - 1) (x := 0) (fun p y _ => by
      show (if spl C Hd n S (p + 1) = true then y + 1 else y) ≤ y + 1
      split <;> omega)
    omega
  · decide
set_option maxHeartbeats 4000000 in
set_option maxRecDepth 100000 in
theorem c_L_ones {l : Launch} {D : va_G} {ky : kT} {Hs : Heap} {S : Nat} (hS9 : S < 2 ^ 31) : PI l yL_ones wsL_ones 0 0 D ky Hs [.int (nI S)] (nI (cnt S)) := by
  refine PI.of (cc := cL_ones) (maxL := 3) (ty := .int) (by decide) rfl rfl (Nat.le_of_ble_eq_true rfl) ?_
  intro pg en Rm sg mi av below meth co Qo hRf hRl hx hb hml hown hts hK hret ls hl
  have hl : lv_has ls 3 [(0, .int (nI S))] := hl
  have hS : va_S (fun _ => False) Hs Hs [] := va_S.rf
  generalize ([] : List Loc) = locs at hS ⊢
  refine lv_iconst (v := nI 0) hx hb dL_ones_0 ci_0 ?_
  refine lv_istore_n (lv' := [(1, .int (nI 0)), (0, .int (nI S))]) hx hb dL_ones_1 rfl hl (by decide) rfl (fun ls hl => ?_)
  refine lv_iconst (v := nI 0) hx hb dL_ones_2 ci_0 ?_
  refine lv_istore_n (lv' := [(2, .int (nI 0)), (1, .int (nI 0)), (0, .int (nI S))]) hx hb dL_ones_3 rfl hl (by decide) rfl (fun ls hl => ?_)
  have L4 : ∀ (L4d : Nat) (k : Nat), 8 - k < L4d → k ≤ 8 → ∀ (ls : Array Slot) (locs : List Loc), lv_has ls 3 [(1, .int (nI (itr (fun k x => x + S / 2 ^ k % 2) k 0))), (2, .int (nI k)), (0, .int (nI S))] → va_S (fun _ => False) Hs Hs locs → W pg l en Rm sg mi av below meth co Hs locs 0 0 Qo (F0 mi 4 ls []) := by
    intro L4d
    induction L4d with
    | zero => intro k hfu; exact absurd hfu (Nat.not_lt_zero _)
    | succ L4d ih4 =>
      intro k hfu i4_0 ls locs hl hS
      refine lv_iload_n hx hb dL_ones_4 rfl (lv_at hl 1 rfl) ?_
      refine lv_bipush (v := nI 8) hx hb dL_ones_5 bi_8 ?_
      refine sn_icmp_ge (tgt := 24) hx hb dL_ones_7 (by decide) (by omega) (by decide) (fun c1 => ?_) (fun c1 => ?_)
      · refine lv_iload_n hx hb dL_ones_24 rfl (lv_at hl 0 rfl) ?_
        exact hret 25 ls locs _ dL_ones_25 hS (by rw [show k = 8 by omega]; rfl)
      · refine lv_iload_n hx hb dL_ones_10 rfl (lv_at hl 0 rfl) ?_
        refine lv_iload_n hx hb dL_ones_11 rfl (lv_at hl 2 rfl) ?_
        refine lv_iload_n hx hb dL_ones_12 rfl (lv_at hl 1 rfl) ?_
        refine lv_ishr hx hb dL_ones_13 ?_
        refine sv_top (y := nI (S / 2 ^ k)) (sh_r (by omega) hS9) ?_
        refine lv_iconst (v := nI 1) hx hb dL_ones_14 ci_1 ?_
        refine lv_iand hx hb dL_ones_15 ?_
        refine sv_top (y := nI (S / 2 ^ k % 2)) (an_1) ?_
        refine lv_iadd hx hb dL_ones_16 ?_
        refine sv_top (y := nI ((itr (fun k x => x + S / 2 ^ k % 2) k 0) + (S / 2 ^ k % 2))) (nI_add _ _) ?_
        refine lv_istore_n (lv' := [(1, .int (nI ((itr (fun k x => x + S / 2 ^ k % 2) k 0) + (S / 2 ^ k % 2)))), (2, .int (nI k)), (0, .int (nI S))]) hx hb dL_ones_17 rfl hl (by decide) rfl (fun ls hl => ?_)
        refine lv_iinc (v := nI (k + 1)) (lv' := [(2, .int (nI (k + 1))), (1, .int (nI ((itr (fun k x => x + S / 2 ^ k % 2) k 0) + (S / 2 ^ k % 2)))), (0, .int (nI S))]) hx hb dL_ones_18 hl (k := 1) rfl (nI_1 _) (by decide) rfl (fun ls hl => ?_)
        refine lv_goto (tgt := 4) hx hb dL_ones_21 (by decide) ?_
        exact ih4 (k + 1) (by omega) (by omega) ls locs (lv_sub hl [1, 0, 2] rfl) hS
  exact L4 ((8 - 0) + 1) 0 (Nat.lt_succ_self _) (by omega) ls locs (lv_sub hl [1, 0, 2] rfl) hS
