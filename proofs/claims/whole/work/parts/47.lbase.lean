/-! ===== the law's body: what every case shares ===== -/
theorem nI_5 (i : Nat) : nI i + Int32.ofInt 5 = nI (i + 5) := by
  rw [show Int32.ofInt 5 = nI 5 by decide +kernel]; exact nI_add i 5
theorem lg_cmp_s (x : Int64) : lg_cmp x x = 0 := by
  have h : ¬ x < x := Int64.lt_irrefl
  simp [lg_cmp, h]
/-- what stays as it is while the law runs -/
def LC (p : Program) (s : State) (m : MethodId) (av : Array Value) (c : Code) (R : Room) (D : va_G) (k : kT) (A : Nat → Prop) (b L : Nat) (xs : Nat → Int32) : Prop :=
  p.tables.exec = Jvm.exec ∧ c.code = cL_law ∧ c.maxLocals = 7 ∧ s.vm.findClass RL = some m.cls ∧ (∀ w ∈ wsL_law, w.before av s = true) ∧ ap_K D k s ∧ XE A s s.heap ∧ NC s ∧ va_X b L xs s s.heap ∧ b < s.heap.size ∧ ¬ A b ∧ L ≤ 2560 ∧ 24 ≤ R.frames ∧ 700 ≤ R.locals
def hdl (b x m o i : Nat) : List (Nat × Value) := [(4, .int (nI i)), (0, .ref b), (1, .ref x), (2, .ref m), (3, .ref o)]
/-- what the reference says it would have thrown -/
def THR (k : kT) (w : va_W) (h th : Nat) : Prop := ∃ (n : Nat) (T C Hd : Nat → Nat) (b : Nat) (q : Bool) (J : Nat → Nat) (bg : Bool) (pu bu : Nat) (cl mo : Int32) (K : Nat → Nat) (fw fd fc fg fo : Nat → Int32), isMod k w h th n T C Hd b q J bg pu bu cl mo K fw fd fc fg fo
section ROWSL
variable {p : Program} {l : Launch} {e : Env} {R : Room} {s : State} {m : MethodId} {av : Array Value} {below : List Frame} {meth : Method} {c : Code} {H : Heap} {locs : List Loc} {cells slots : Nat} {Q : State → Prop}
variable {cc : ByteArray} {pc : Nat} {ls : Array Slot} {rest st : List Value} {A : Nat → Prop}
/-- script[i + j] -/
theorem lw_arg (hx : p.tables.exec = Jvm.exec) (hb : c.code = cc) {b L i j nL : Nat} {xs : Nat → Int32} (hX : va_X b L xs s s.heap) (hbl : b < s.heap.size) (hbA : ¬ A b) (hS : va_S A s.heap H locs) (hi : i + 5 ≤ L) (hj : j < 5) (hL : L ≤ 2560) {lv : List (Nat × Value)} (hl : lv_has ls nL lv) {k0 k4 : Nat} (h0 : lv[k0]? = some (0, .ref b)) (h4 : lv[k4]? = some (4, .int (nI i)))
    (d0 : decode cc pc = .ok (.aload_n 0, 1)) (d1 : decode cc (pc + 1) = .ok (.iload 4, 2)) {fj : Int32} (hfj : fj = nI j) {q : Int} (hq : Int32.ofInt q = fj) (d3 : decode cc (pc + 3) = .ok (.iconst q, 1)) (d4 : decode cc (pc + 4) = .ok (.iadd, 1)) (d5 : decode cc (pc + 5) = .ok (.iaload, 1))
    (kk : W p l e R s m av below meth c H locs cells slots Q (F0 m (pc + 6) ls (.int (xs (i + j)) :: rest))) : W p l e R s m av below meth c H locs cells slots Q (F0 m pc ls rest) := by
  subst hfj
  refine lv_aload_n hx hb d0 rfl (lv_at hl k0 h0) ?_
  refine lv_iload hx hb d1 (lv_at hl k4 h4) ?_
  refine lv_iconst (v := nI j) hx hb d3 hq ?_
  refine lv_iadd hx hb d4 ?_
  refine sv_top (y := nI (i + j)) (nI_add _ _) ?_
  refine va_sld hx hb hX hbl hbA hS (vp_in_nI (by omega) (by omega)) d5 ?_
  rw [nI_clamp (by omega)]
  exact kk
/-- .. != 0 -/
theorem lw_ne (hx : p.tables.exec = Jvm.exec) (hb : c.code = cc) {x : Int32} (d0 : decode cc pc = .ok (.ifCond .eq 7, 3)) (d3 : decode cc (pc + 3) = .ok (.iconst 1, 1)) (d4 : decode cc (pc + 4) = .ok (.goto 4, 3)) (d7 : decode cc (pc + 7) = .ok (.iconst 0, 1))
    (kk : W p l e R s m av below meth c H locs cells slots Q (F0 m (pc + 8) ls (.int (bI (decide (¬ x = 0))) :: rest))) : W p l e R s m av below meth c H locs cells slots Q (F0 m pc ls (.int x :: rest)) := by
  refine lv_if_eq (tgt := pc + 7) hx hb d0 (by omega) (fun hz => ?_) (fun hz => ?_)
  · refine lv_iconst (v := nI 0) hx hb d7 ci_0 ?_
    rw [decide_eq_false (show ¬ ¬ x = 0 from fun q => q hz)] at kk
    exact kk
  · refine lv_iconst (v := nI 1) hx hb d3 ci_1 ?_
    refine lv_goto (tgt := pc + 8) hx hb d4 (by omega) ?_
    rw [decide_eq_true hz] at kk
    exact kk
/-- a flag as a long -/
theorem lw_nel (hx : p.tables.exec = Jvm.exec) (hb : c.code = cc) {v : Bool} (d0 : decode cc pc = .ok (.ifCond .eq 7, 3)) (d3 : decode cc (pc + 3) = .ok (.lconst 1, 1)) (d4 : decode cc (pc + 4) = .ok (.goto 4, 3)) (d7 : decode cc (pc + 7) = .ok (.lconst 0, 1))
    (kk : W p l e R s m av below meth c H locs cells slots Q (F0 m (pc + 8) ls (.long (if v then 1 else 0) :: rest))) : W p l e R s m av below meth c H locs cells slots Q (F0 m pc ls (.int (bI v) :: rest)) := by
  refine sb_if_eq (tgt := pc + 7) hx hb d0 (by omega) (fun hz => ?_) (fun hz => ?_)
  · refine lv_lconst (v := 0) hx hb d7 rfl ?_
    rw [hz] at kk
    exact kk
  · refine lv_lconst (v := 1) hx hb d3 rfl ?_
    refine lv_goto (tgt := pc + 8) hx hb d4 (by omega) ?_
    rw [hz] at kk
    exact kk
theorem sv_lald (hx : p.tables.exec = Jvm.exec) (hb : c.code = cc) {D : va_G} {k : kT} {ws : va_W} {a : Nat} (hK : ap_K D k s) (hP : va_P D CL ws H) {f : Nat → Int64} (ha : isOut k ws a f) (hdg : decode cc pc = .ok (.laload, 1))
    (kk : W p l e R s m av below meth c H locs cells slots Q (F0 m (pc + 1) ls (.long (f 0) :: rest))) : W p l e R s m av below meth c H locs cells slots Q (F0 m pc ls (.int (nI 0) :: .ref a :: rest)) := by
  refine va_lald hx hb hK hP 30 2 ha rfl (vp_in_nI (by decide) (by decide)) hdg ?_
  rw [nI_clamp (by decide)]
  exact kk
end ROWSL
