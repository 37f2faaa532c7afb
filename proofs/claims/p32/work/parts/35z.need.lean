theorem hd_X4_needSet : yX4_needSet.cls = RX4 ∧ yX4_needSet.cls ≠ "java/lang/invoke/MethodHandle" ∧ yX4_needSet.cls ≠ "java/lang/invoke/VarHandle" ∧ (parseMethodDescriptor yX4_needSet.desc).map (fun d => d.parameters.length) = some 1 := by decide +kernel
/-! ===== the planner as the world holds it ===== -/
def AP (k : kT) (ws : va_W) (h n : Nat) (T C Hd : Nat → Nat) (b : Nat) (q : Bool) (J : Nat → Nat) (bg : Bool) (pi bu : Nat) (tm tl : Int32) (K : Nat → Nat) : Prop :=
  ∃ hp ht a4 a5 a6 a7 ho b1 b2 b3 b4 b5 hc j1 j2 : Nat, ws[0]? = some (h, .inr (4, [.ref hp, .ref ht, .ref ho, .ref hc])) ∧ isProd k ws hp n T C Hd b q ∧ PTG k ws ht hp a4 a5 a6 a7 n C Hd ∧ OTG k ws ho hp b1 b2 b3 b4 b5 n T C Hd b q ∧ isCell k ws hc hp j1 j2 J K bg pi bu tm tl
theorem AP.fr {k : kT} {ws ws1 : va_W} {h n : Nat} {T C Hd : Nat → Nat} {b : Nat} {q : Bool} {J : Nat → Nat} {bg : Bool} {pi bu : Nat} {tm tl : Int32} {K : Nat → Nat} {x y : Nat} (P : AP k ws h n T C Hd b q J bg pi bu tm tl K) (f : fr ws ws1 x y) (hx : 18 < x := by decide) : AP k ws1 h n T C Hd b q J bg pi bu tm tl K := by
  obtain ⟨hp, ht, a4, a5, a6, a7, ho, b1, b2, b3, b4, b5, hc, j1, j2, g0, h1, h2, h3, h4⟩ := P
  exact ⟨hp, ht, a4, a5, a6, a7, ho, b1, b2, b3, b4, b5, hc, j1, j2, (f 0 (by omega)).trans g0, h1.fr f (Or.inl (by omega)), h2.fr f (Or.inl (by omega)), h3.fr f (Or.inl (by omega)), h4.fr f (Or.inl (by omega))⟩
def PV (l : Launch) (y : MethodName) (ws : List Cond) (fr lo : Nat) (D : va_G) (k : kT) (Hs : Heap) (args : List Value) : Prop :=
  Met l y ws ({ frames := fr, cells := 0, slots := 0, locals := lo }) (va_Pc args (fun U => U.heap = Hs ∧ ap_K D k U)) (va_Qv (fun (_ : Unit) => True) (fun _ t => t.heap = Hs) (fun _ => False)) 0 0 (fun _ => False)
theorem PV.of {l : Launch} {y : MethodName} {ws ws' : List Cond} {fr lo : Nat} {D : va_G} {k : kT} {Hs : Heap} {args : List Value} {cc : ByteArray} {maxL : Nat}
    (hy : plainName y.cls = true) (hw : ws = Cond.code y cc maxL none :: ws') (ha : (lg_sl args).length ≤ maxL)
    (body : ∀ (p : Program) (e : Env) (R : Room) (s : State) (m : MethodId) (av : Array Value) (below : List Frame) (meth : Method) (c : Code) (Q : State → Prop),
      fr ≤ R.frames → lo ≤ R.locals → p.tables.exec = Jvm.exec → c.code = cc → c.maxLocals = maxL → s.vm.findClass y.cls = some m.cls → (∀ w ∈ ws, w.before av s = true) → ap_K D k s →
      (∀ (pc : Nat) (ls : Array Slot) (locs : List Loc), decode cc pc = .ok (.return_, 1) → va_S (fun _ => False) Hs Hs locs → W p l e R s m av below meth c Hs locs 0 0 Q (F0 m pc ls [])) →
      ∀ (ls : Array Slot), lv_has ls maxL (lv_args 0 args) → W p l e R s m av below meth c Hs [] 0 0 Q (F0 m 0 ls [])) : PV l y ws fr lo D k Hs args := by
  refine Met.ofW (cc := cc) (maxL := maxL) (ret := none) hy hw ?_
  intro p e s m av below meth c s₁ B hml hv
  obtain ⟨rfl, hH, hK⟩ := hv
  have hts := atoms_spec (ws := ws) B.pre
  have hown : s.vm.findClass y.cls = some m.cls := findClass_of_methodNamed B.named
  have hlocks := B.notSynchronized
  have hr := B.returns
  subst hH
  have hl := lv_entry args (n := maxL) ha
  rw [lg_entry_eq]
  refine body p e _ s m _ below meth c _ (Nat.le_refl _) (Nat.le_refl _) B.exec B.bytes hml hown hts hK ?_ _ hl
  intro pc ls locs hd hS
  exact W.vret B.exec B.bytes hr (fun t ht hW => ⟨⟨(), rfl, trivial, ht⟩, hS.F ht⟩) hS.2.2 hd
theorem pvV {p : Program} {l : Launch} {e : Env} {R : Room} {s : State} {m : MethodId} {av : Array Value} {below : List Frame} {meth : Method} {c : Code} {H : Heap} {locs : List Loc} {cells slots : Nat} {Q : State → Prop} {cc : ByteArray} {pc : Nat} {ls : Array Slot} {rest st : List Value} {D : va_G} {k : kT} {A : Nat → Prop} {H0 : Heap}
    {nL : Nat} {As : List Value} {Ts wsy wsy' : List Cond} {own C : String} {idx n fr lo maxL : Nat} {y : MethodName} {bytes : ByteArray} {b : Nat}
    (hM : PV l y wsy fr lo D k H (.ref b :: As)) (S : CallFix p m c cc nL s av Ts own) (hK : ap_K D k s) (hg : GoodIn Ts (wsV own idx C y wsy)) (hw : wsy = Cond.code y bytes maxL none :: wsy')
    (hd : y.cls = C ∧ y.cls ≠ "java/lang/invoke/MethodHandle" ∧ y.cls ≠ "java/lang/invoke/VarHandle" ∧ (parseMethodDescriptor y.desc).map (fun d => d.parameters.length) = some n) (hR : fr + 1 ≤ R.frames ∧ 8 + (maxL + 11) + lo ≤ R.locals)
    (hrecv : ∃ cell : Cell, H[b]? = some cell ∧ cell.vm.isStatics = false ∧ s.vm.findClass C = some cell.cls)
    (hn : As.length = n) (hls : ls.size = nL) (hst : st = As.reverse ++ .ref b :: rest) (hrm : (rest.map fun v => v.category).sum ≤ 8) (hdg : decode cc pc = .ok (.invokevirtual idx, 3)) (hc : cells ≤ R.cells ∧ slots ≤ R.slots) (hS : va_S A H0 H locs)
    (kk : ∀ locs1, va_S A H0 H locs1 → W p l e R s m av below meth c H locs1 cells slots Q (F0 m (pc + 3) ls rest)) : W p l e R s m av below meth c H locs cells slots Q (F0 m pc ls st) := by
  subst hst
  refine va_callv (va_runV (As := As) (rest := rest) S hM (cwV n S.2.2.2.2 hg hw rfl rfl hd hR) ⟨fun a U g mk q => ⟨q.1, q.2.1, va_K.moved (u := U) (U := U.calling g mk a) (Vm.Alike.refl U.vm) q.2.2⟩, hrecv, fun U hU hW => ⟨rfl, hU, va_K.moved hW.alike hK⟩⟩ rfl hn hls rfl (lv_room hrm) hdg hc) hS (fun q _ h => h.elim) (fun q h => h.elim) (fun u t H1 locs1 ht hvm hw2 hB hz1 hk1 hS1 => ?_)
  have e1 : H1 = H := ht.symm.trans hB
  subst e1
  exact kk locs1 hS1
theorem clr_full {S n : Nat} (h : S < 2 ^ n) : clr S (2 ^ n - 1) = 0 := by
  apply Nat.eq_of_testBit_eq; intro i
  rw [clr_bit, Nat.zero_testBit, Nat.testBit_two_pow_sub_one]
  cases hb : S.testBit i
  · rfl
  · have : i < n := by
      rcases Nat.lt_or_ge i n with z | z
      · exact z
      · rw [Nat.testBit_lt_two_pow (Nat.lt_of_lt_of_le h (Nat.pow_le_pow_right (by decide) z))] at hb; cases hb
    rw [decide_eq_true this]; rfl
set_option maxHeartbeats 4000000 in
set_option maxRecDepth 100000 in
theorem c_X4_needPart {l : Launch} {D : va_G} {ky : kT} {Hs : Heap} {ws : va_W} (hP : va_P D CL ws Hs) {h hp ht ho hc n : Nat} {T C Hd : Nat → Nat} {b : Nat} {q : Bool} (g0 : ws[0]? = some (h, .inr (4, [.ref hp, .ref ht, .ref ho, .ref hc]))) (hpr : isProd ky ws hp n T C Hd b q) (hI : PI0 n C Hd b) {pt : Nat} (hp9 : pt < n) : PV l yX4_needPart wsX4_needPart 1 20 D ky Hs [.ref h, .int (nI pt)] := by
  refine PV.of (cc := cX4_needPart) (maxL := 2) (by decide) rfl (Nat.le_of_ble_eq_true rfl) ?_
  intro pg en Rm sg mi av below meth co Qo hRf hRl hx hb hml hown hts hK hret ls hl
  have hl : lv_has ls 2 [(0, .ref h), (1, .int (nI pt))] := hl
  have hS : va_S (fun _ => False) Hs Hs [] := va_S.rf
  generalize ([] : List Loc) = locs at hS ⊢
  obtain ⟨a1, a2, a3, f1, -⟩ := id hpr
  have hn8 := hI.1
  have hp2 := p2_le hn8
  have k12 := hts (.fieldLink RX4 12 "AssemblyPlanner" "product" "LAssemblyPlanner$Product;") (by decide +kernel)
  have hinX4 : ∀ w ∈ wsX40, w ∈ wsX4_needPart := by decide +kernel
  refine lv_iload_n hx hb dX4_needPart_0 rfl (lv_at hl 1 rfl) ?_
  refine lv_if_lt (tgt := 15) hx hb dX4_needPart_1 (by decide) (fun q => absurd q (nI_pos (by omega))) (fun _ => ?_)
  refine lv_iload_n hx hb dX4_needPart_4 rfl (lv_at hl 1 rfl) ?_
  refine lv_aload_n hx hb dX4_needPart_5 rfl (lv_at hl 0 rfl) ?_
  refine va_get (ci := 4) (C := RX4) (T := TX4) (N := 4) hx hb hts hinX4 hown hK hP 0 g0 rfl 0 (by decide) k12 (fun _ h9 => h9) rfl dX4_needPart_6 ?_
  refine pcV (c_X3_count hP hpr hI) ⟨hx, hb, hml, hown, hts⟩ hK gX4_needPart_X3_count rfl hd_X3_count ⟨by omega, by omega⟩ (va_recv hK hP (ci := 3) (q0 := 1) rfl f1) rfl hl.1 rfl (Nat.le_of_ble_eq_true rfl) dX4_needPart_9 ⟨Nat.zero_le _, Nat.zero_le _⟩ hS (fun locs hS => ?_)
  refine sn_icmp_lt (tgt := 25) hx hb dX4_needPart_12 (by decide) (by omega) (by omega) (fun c2 => ?_) (fun c2 => absurd c2 (by omega))
  exact hret 25 ls locs dX4_needPart_25 hS
set_option maxHeartbeats 4000000 in
set_option maxRecDepth 100000 in
theorem c_X4_needDirection {l : Launch} {D : va_G} {ky : kT} {Hs : Heap} {ws : va_W} (hP : va_P D CL ws Hs) {h hp ht ho hc n : Nat} {T C Hd : Nat → Nat} {b : Nat} {q : Bool} (g0 : ws[0]? = some (h, .inr (4, [.ref hp, .ref ht, .ref ho, .ref hc]))) (hpr : isProd ky ws hp n T C Hd b q) (hI : PI0 n C Hd b) {pt : Nat} (hp9 : pt < 6) : PV l yX4_needDirection wsX4_needDirection 0 0 D ky Hs [.ref h, .int (nI pt)] := by
  refine PV.of (cc := cX4_needDirection) (maxL := 2) (by decide) rfl (Nat.le_of_ble_eq_true rfl) ?_
  intro pg en Rm sg mi av below meth co Qo hRf hRl hx hb hml hown hts hK hret ls hl
  have hl : lv_has ls 2 [(0, .ref h), (1, .int (nI pt))] := hl
  have hS : va_S (fun _ => False) Hs Hs [] := va_S.rf
  generalize ([] : List Loc) = locs at hS ⊢
  obtain ⟨a1, a2, a3, f1, -⟩ := id hpr
  have hn8 := hI.1
  have hp2 := p2_le hn8
  refine lv_iload_n hx hb dX4_needDirection_0 rfl (lv_at hl 1 rfl) ?_
  refine lv_if_lt (tgt := 10) hx hb dX4_needDirection_1 (by decide) (fun q => absurd q (nI_pos (by omega))) (fun _ => ?_)
  refine lv_iload_n hx hb dX4_needDirection_4 rfl (lv_at hl 1 rfl) ?_
  refine lv_bipush (v := nI 6) hx hb dX4_needDirection_5 bi_6 ?_
  refine sn_icmp_lt (tgt := 20) hx hb dX4_needDirection_7 (by decide) (by omega) (by omega) (fun c2 => ?_) (fun c2 => absurd c2 (by omega))
  exact hret 20 ls locs dX4_needDirection_20 hS
set_option maxHeartbeats 4000000 in
set_option maxRecDepth 100000 in
theorem c_X4_needTool {l : Launch} {D : va_G} {ky : kT} {Hs : Heap} {ws : va_W} (hP : va_P D CL ws Hs) {h hp ht ho hc n : Nat} {T C Hd : Nat → Nat} {b : Nat} {q : Bool} (g0 : ws[0]? = some (h, .inr (4, [.ref hp, .ref ht, .ref ho, .ref hc]))) (hpr : isProd ky ws hp n T C Hd b q) (hI : PI0 n C Hd b) {pt : Nat} (hp9 : pt < 4) : PV l yX4_needTool wsX4_needTool 0 0 D ky Hs [.ref h, .int (nI pt)] := by
  refine PV.of (cc := cX4_needTool) (maxL := 2) (by decide) rfl (Nat.le_of_ble_eq_true rfl) ?_
  intro pg en Rm sg mi av below meth co Qo hRf hRl hx hb hml hown hts hK hret ls hl
  have hl : lv_has ls 2 [(0, .ref h), (1, .int (nI pt))] := hl
  have hS : va_S (fun _ => False) Hs Hs [] := va_S.rf
  generalize ([] : List Loc) = locs at hS ⊢
  obtain ⟨a1, a2, a3, f1, -⟩ := id hpr
  have hn8 := hI.1
  have hp2 := p2_le hn8
  refine lv_iload_n hx hb dX4_needTool_0 rfl (lv_at hl 1 rfl) ?_
  refine lv_if_lt (tgt := 9) hx hb dX4_needTool_1 (by decide) (fun q => absurd q (nI_pos (by omega))) (fun _ => ?_)
  refine lv_iload_n hx hb dX4_needTool_4 rfl (lv_at hl 1 rfl) ?_
  refine lv_iconst (v := nI 4) hx hb dX4_needTool_5 ci_4 ?_
  refine sn_icmp_lt (tgt := 19) hx hb dX4_needTool_6 (by decide) (by omega) (by omega) (fun c2 => ?_) (fun c2 => absurd c2 (by omega))
  exact hret 19 ls locs dX4_needTool_19 hS
set_option maxHeartbeats 4000000 in
set_option maxRecDepth 100000 in
theorem c_X4_needDifferent {l : Launch} {D : va_G} {ky : kT} {Hs : Heap} {ws : va_W} (hP : va_P D CL ws Hs) {h hp ht ho hc n : Nat} {T C Hd : Nat → Nat} {b : Nat} {q : Bool} (g0 : ws[0]? = some (h, .inr (4, [.ref hp, .ref ht, .ref ho, .ref hc]))) (hpr : isProd ky ws hp n T C Hd b q) (hI : PI0 n C Hd b) {pt ot : Nat} (h19 : pt < n) (h29 : ot < n) (hne : ¬ pt = ot) : PV l yX4_needDifferent wsX4_needDifferent 0 0 D ky Hs [.ref h, .int (nI pt), .int (nI ot)] := by
  refine PV.of (cc := cX4_needDifferent) (maxL := 3) (by decide) rfl (Nat.le_of_ble_eq_true rfl) ?_
  intro pg en Rm sg mi av below meth co Qo hRf hRl hx hb hml hown hts hK hret ls hl
  have hl : lv_has ls 3 [(0, .ref h), (1, .int (nI pt)), (2, .int (nI ot))] := hl
  have hS : va_S (fun _ => False) Hs Hs [] := va_S.rf
  generalize ([] : List Loc) = locs at hS ⊢
  obtain ⟨a1, a2, a3, f1, -⟩ := id hpr
  have hn8 := hI.1
  have hp2 := p2_le hn8
  refine lv_iload_n hx hb dX4_needDifferent_0 rfl (lv_at hl 1 rfl) ?_
  refine lv_iload_n hx hb dX4_needDifferent_1 rfl (lv_at hl 2 rfl) ?_
  refine sn_icmp_ne (tgt := 15) hx hb dX4_needDifferent_2 (by decide) (by omega) (by omega) (fun c1 => ?_) (fun c1 => absurd c1 hne)
  exact hret 15 ls locs dX4_needDifferent_15 hS
set_option maxHeartbeats 4000000 in
set_option maxRecDepth 100000 in
theorem c_X4_needSet {l : Launch} {D : va_G} {ky : kT} {Hs : Heap} {ws : va_W} (hP : va_P D CL ws Hs) {h hp ht ho hc n : Nat} {T C Hd : Nat → Nat} {b : Nat} {q : Bool} (g0 : ws[0]? = some (h, .inr (4, [.ref hp, .ref ht, .ref ho, .ref hc]))) (hpr : isProd ky ws hp n T C Hd b q) (hI : PI0 n C Hd b) {S : Nat} (hS1 : 0 < S) (hS2 : S < 2 ^ n) : PV l yX4_needSet wsX4_needSet 1 20 D ky Hs [.ref h, .int (nI S)] := by
  refine PV.of (cc := cX4_needSet) (maxL := 2) (by decide) rfl (Nat.le_of_ble_eq_true rfl) ?_
  intro pg en Rm sg mi av below meth co Qo hRf hRl hx hb hml hown hts hK hret ls hl
  have hl : lv_has ls 2 [(0, .ref h), (1, .int (nI S))] := hl
  have hS : va_S (fun _ => False) Hs Hs [] := va_S.rf
  generalize ([] : List Loc) = locs at hS ⊢
  obtain ⟨a1, a2, a3, f1, -⟩ := id hpr
  have hn8 := hI.1
  have hp2 := p2_le hn8
  have k12 := hts (.fieldLink RX4 12 "AssemblyPlanner" "product" "LAssemblyPlanner$Product;") (by decide +kernel)
  have hinX4 : ∀ w ∈ wsX40, w ∈ wsX4_needSet := by decide +kernel
  refine lv_iload_n hx hb dX4_needSet_0 rfl (lv_at hl 1 rfl) ?_
  refine sn_if_eq (tgt := 18) hx hb dX4_needSet_1 (by decide) (by omega) (fun c1 => absurd c1 (by omega)) (fun c1 => ?_)
  refine lv_iload_n hx hb dX4_needSet_4 rfl (lv_at hl 1 rfl) ?_
  refine lv_aload_n hx hb dX4_needSet_5 rfl (lv_at hl 0 rfl) ?_
  refine va_get (ci := 4) (C := RX4) (T := TX4) (N := 4) hx hb hts hinX4 hown hK hP 0 g0 rfl 0 (by decide) k12 (fun _ h9 => h9) rfl dX4_needSet_6 ?_
  refine pcV (c_X3_all hP hpr hI) ⟨hx, hb, hml, hown, hts⟩ hK gX4_needSet_X3_all rfl hd_X3_all ⟨by omega, by omega⟩ (va_recv hK hP (ci := 3) (q0 := 1) rfl f1) rfl hl.1 rfl (Nat.le_of_ble_eq_true rfl) dX4_needSet_9 ⟨Nat.zero_le _, Nat.zero_le _⟩ hS (fun locs hS => ?_)
  refine lv_iconst (v := -1) hx hb dX4_needSet_12 ci_m1 ?_
  refine lv_ixor hx hb dX4_needSet_13 ?_
  refine lv_iand hx hb dX4_needSet_14 ?_
  refine sv_top (y := nI (clr S (2 ^ n - 1))) (an_not _ _) ?_
  refine sn_if_eq (tgt := 28) hx hb dX4_needSet_15 (by decide) (by rw [clr_full hS2]; decide) (fun c2 => ?_) (fun c2 => absurd (clr_full hS2) c2)
  exact hret 28 ls locs dX4_needSet_28 hS
set_option maxHeartbeats 4000000 in
set_option maxRecDepth 100000 in
theorem c_X4_needSetWith {l : Launch} {D : va_G} {ky : kT} {Hs : Heap} {ws : va_W} (hP : va_P D CL ws Hs) {h hp ht ho hc n : Nat} {T C Hd : Nat → Nat} {b : Nat} {q : Bool} (g0 : ws[0]? = some (h, .inr (4, [.ref hp, .ref ht, .ref ho, .ref hc]))) (hpr : isProd ky ws hp n T C Hd b q) (hI : PI0 n C Hd b) {S : Nat} (hS1 : 0 < S) (hS2 : S < 2 ^ n) {pt : Nat} (hp9 : pt < n) (hb9 : S.testBit pt = true) : PV l yX4_needSetWith wsX4_needSetWith 2 41 D ky Hs [.ref h, .int (nI S), .int (nI pt)] := by
  refine PV.of (cc := cX4_needSetWith) (maxL := 3) (by decide) rfl (Nat.le_of_ble_eq_true rfl) ?_
  intro pg en Rm sg mi av below meth co Qo hRf hRl hx hb hml hown hts hK hret ls hl
  have hl : lv_has ls 3 [(0, .ref h), (1, .int (nI S)), (2, .int (nI pt))] := hl
  have hS : va_S (fun _ => False) Hs Hs [] := va_S.rf
  generalize ([] : List Loc) = locs at hS ⊢
  obtain ⟨a1, a2, a3, f1, -⟩ := id hpr
  have hn8 := hI.1
  have hp2 := p2_le hn8
  refine lv_aload_n hx hb dX4_needSetWith_0 rfl (lv_at hl 0 rfl) ?_
  refine lv_iload_n hx hb dX4_needSetWith_1 rfl (lv_at hl 1 rfl) ?_
  refine pvV (c_X4_needSet hP g0 hpr hI hS1 hS2) ⟨hx, hb, hml, hown, hts⟩ hK gX4_needSetWith_X4_needSet rfl hd_X4_needSet ⟨by omega, by omega⟩ (va_recv hK hP (ci := 4) (q0 := 0) rfl g0) rfl hl.1 rfl (Nat.le_of_ble_eq_true rfl) dX4_needSetWith_2 ⟨Nat.zero_le _, Nat.zero_le _⟩ hS (fun locs hS => ?_)
  refine lv_iload_n hx hb dX4_needSetWith_5 rfl (lv_at hl 1 rfl) ?_
  refine lv_iconst (v := nI 1) hx hb dX4_needSetWith_6 ci_1 ?_
  refine lv_iload_n hx hb dX4_needSetWith_7 rfl (lv_at hl 2 rfl) ?_
  refine lv_ishl hx hb dX4_needSetWith_8 ?_
  refine sv_top (y := nI (2 ^ pt)) (sh_l1 (by omega)) ?_
  refine lv_iand hx hb dX4_needSetWith_9 ?_
  refine sv_top (y := nI (S &&& (2 ^ pt))) (an_and _ _) ?_
  refine st_if_ne (tgt := 23) hx hb dX4_needSetWith_10 (by decide) (by omega) (fun c1 => ?_) (fun c1 => absurd c1 (by rw [hb9]; decide))
  exact hret 23 ls locs dX4_needSetWith_23 hS
set_option maxHeartbeats 4000000 in
set_option maxRecDepth 100000 in
theorem c_X4_needParts {l : Launch} {D : va_G} {ky : kT} {Hs : Heap} {ws : va_W} (hP : va_P D CL ws Hs) {h hp ht ho hc n : Nat} {T C Hd : Nat → Nat} {b : Nat} {q : Bool} (g0 : ws[0]? = some (h, .inr (4, [.ref hp, .ref ht, .ref ho, .ref hc]))) (hpr : isProd ky ws hp n T C Hd b q) (hI : PI0 n C Hd b) (hn1 : 0 < n) : PV l yX4_needParts wsX4_needParts 1 20 D ky Hs [.ref h] := by
  refine PV.of (cc := cX4_needParts) (maxL := 1) (by decide) rfl (Nat.le_of_ble_eq_true rfl) ?_
  intro pg en Rm sg mi av below meth co Qo hRf hRl hx hb hml hown hts hK hret ls hl
  have hl : lv_has ls 1 [(0, .ref h)] := hl
  have hS : va_S (fun _ => False) Hs Hs [] := va_S.rf
  generalize ([] : List Loc) = locs at hS ⊢
  obtain ⟨a1, a2, a3, f1, -⟩ := id hpr
  have hn8 := hI.1
  have hp2 := p2_le hn8
  have k12 := hts (.fieldLink RX4 12 "AssemblyPlanner" "product" "LAssemblyPlanner$Product;") (by decide +kernel)
  have hinX4 : ∀ w ∈ wsX40, w ∈ wsX4_needParts := by decide +kernel
  refine lv_aload_n hx hb dX4_needParts_0 rfl (lv_at hl 0 rfl) ?_
  refine va_get (ci := 4) (C := RX4) (T := TX4) (N := 4) hx hb hts hinX4 hown hK hP 0 g0 rfl 0 (by decide) k12 (fun _ h9 => h9) rfl dX4_needParts_1 ?_
  refine pcV (c_X3_count hP hpr hI) ⟨hx, hb, hml, hown, hts⟩ hK gX4_needParts_X3_count rfl hd_X3_count ⟨by omega, by omega⟩ (va_recv hK hP (ci := 3) (q0 := 1) rfl f1) rfl hl.1 rfl (Nat.le_of_ble_eq_true rfl) dX4_needParts_4 ⟨Nat.zero_le _, Nat.zero_le _⟩ hS (fun locs hS => ?_)
  refine sn_if_ne (tgt := 20) hx hb dX4_needParts_7 (by decide) (by omega) (fun c1 => ?_) (fun c1 => absurd c1 (by omega))
  exact hret 20 ls locs dX4_needParts_20 hS
