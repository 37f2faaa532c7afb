/-! ===== base: the classes, the world by places, contracts of methods that only read, rows over numbers ===== -/
abbrev CL : List vw_C := [(RX0, TX0, 8), (RX1, TX1, 8), (RX2, TX2, 6), (RX3, TX3, 6), (RX4, TX4, 4)]
abbrev kT : Type := Nat × Nat × Nat
abbrev ap_T (k : kT) : List (ClassId × FieldType) := [(k.1, .int), (k.2.1, .boolean)]
abbrev ap_K (D : va_G) (k : kT) (U : State) : Prop := va_K D CL (ap_T k) U
def bI (b : Bool) : Int32 := if b then 1 else 0
theorem bI_t {b : Bool} (h : b = true) : nI 1 = bI b := by rw [h]; rfl
theorem bI_f {b : Bool} (h : b = false) : nI 0 = bI b := by rw [h]; rfl
theorem bI_nar (b : Bool) : narrow .boolean (.int (bI b)) = .int (bI b) := by cases b <;> rfl
theorem bI_eq0 {b : Bool} : bI b = 0 ↔ b = false := by cases b <;> simp [bI]
theorem bI_fit (b : Bool) : fits .boolean (.int (bI b)) = true := by cases b <;> rfl
/-- outside the places a .. b two worlds are the same -/
def fr (ws ws1 : va_W) (a b : Nat) : Prop := ∀ i, (i < a ∨ b < i) → ws1[i]? = ws[i]?
theorem fr.rf {ws : va_W} {a b : Nat} : fr ws ws a b := fun _ _ => rfl
theorem fr.tr {w0 w1 w2 : va_W} {a b a1 b1 : Nat} (h : fr w0 w1 a b) (h1 : fr w1 w2 a1 b1) (ha : a ≤ a1 := by decide) (hb : b1 ≤ b := by decide) : fr w0 w2 a b := fun i hi => (h1 i (by omega)).trans (h i hi)
theorem fr.wd {w0 w1 : va_W} {a b a1 b1 : Nat} (h : fr w0 w1 a1 b1) (ha : a ≤ a1 := by decide) (hb : b1 ≤ b := by decide) : fr w0 w1 a b := fun i hi => h i (by omega)
theorem fr_set {ws : va_W} {q : Nat} {x : Nat × va_E} : fr ws (ws.set q x) q q := fun i hi => List.getElem?_set_ne (by omega)
theorem set_at {ws : va_W} {q : Nat} {x y : Nat × va_E} (h : ws[q]? = some x) : (ws.set q y)[q]? = some y := List.getElem?_set_self (List.getElem?_eq_some_iff.mp h).1
/-- a method that only reads, and answers v -/
def PI (l : Launch) (y : MethodName) (ws : List Cond) (fr lo : Nat) (D : va_G) (k : kT) (Hs : Heap) (args : List Value) (v : Int32) : Prop :=
  Met l y ws ({ frames := fr, cells := 0, slots := 0, locals := lo }) (va_Pc args (fun U => U.heap = Hs ∧ ap_K D k U)) (va_Qi (fun (r : Int32) (_ : Unit) => r = v) (fun _ t => t.heap = Hs) (fun _ => False)) 0 0 (fun _ => False)
theorem PI.of {l : Launch} {y : MethodName} {ws ws' : List Cond} {fr lo : Nat} {D : va_G} {k : kT} {Hs : Heap} {args : List Value} {v : Int32} {cc : ByteArray} {maxL : Nat} {ty : FieldType}
    (hy : plainName y.cls = true) (hw : ws = Cond.code y cc maxL (some ty) :: ws') (hn : narrow ty (.int v) = .int v) (ha : (lg_sl args).length ≤ maxL)
    (body : ∀ (p : Program) (e : Env) (R : Room) (s : State) (m : MethodId) (av : Array Value) (below : List Frame) (meth : Method) (c : Code) (Q : State → Prop),
      fr ≤ R.frames → lo ≤ R.locals → p.tables.exec = Jvm.exec → c.code = cc → c.maxLocals = maxL → s.vm.findClass y.cls = some m.cls → (∀ w ∈ ws, w.before av s = true) → ap_K D k s →
      (∀ (pc : Nat) (ls : Array Slot) (locs : List Loc) (x : Int32), decode cc pc = .ok (.ireturn, 1) → va_S (fun _ => False) Hs Hs locs → x = v → W p l e R s m av below meth c Hs locs 0 0 Q (F0 m pc ls [.int x])) →
      ∀ (ls : Array Slot), lv_has ls maxL (lv_args 0 args) → W p l e R s m av below meth c Hs [] 0 0 Q (F0 m 0 ls [])) : PI l y ws fr lo D k Hs args v := by
  refine Met.ofW (cc := cc) (maxL := maxL) (ret := some ty) hy hw ?_
  intro p e s m av below meth c s₁ B hml hv
  obtain ⟨rfl, hH, hK⟩ := hv
  have hts := atoms_spec (ws := ws) B.pre
  have hown : s.vm.findClass y.cls = some m.cls := findClass_of_methodNamed B.named
  have hlocks := B.notSynchronized
  have hr := B.returns
  subst hH
  have hl := lv_entry args (n := maxL) ha
  rw [lg_entry_eq]
  refine body p e _ s m _ below meth c _ (Nat.le_refl _) (Nat.le_refl _) B.exec B.bytes hml hown hts hK ?_ _ hl
  intro pc ls locs x hd hS hx
  subst hx
  exact W.zret B.exec B.bytes hr hn (fun t ht hW => ⟨⟨x, (), rfl, rfl, ht⟩, hS.F ht⟩) hS.2.2 hd
section ROWS
variable {p : Program} {l : Launch} {e : Env} {R : Room} {s : State} {m : MethodId} {av : Array Value} {below : List Frame} {meth : Method} {c : Code} {H : Heap} {locs : List Loc} {cells slots : Nat} {Q : State → Prop}
variable {cc : ByteArray} {pc : Nat} {ls : Array Slot} {rest st : List Value} {D : va_G} {k : kT} {A : Nat → Prop} {a : Nat} {ws : va_W} {H0 : Heap}
theorem pcV {nL : Nat} {As : List Value} {Ts wsy wsy' : List Cond} {own C : String} {idx n fr lo maxL : Nat} {y : MethodName} {bytes : ByteArray} {ty : FieldType} {b : Nat} {v : Int32}
    (hM : PI l y wsy fr lo D k H (.ref b :: As) v) (S : CallFix p m c cc nL s av Ts own) (hK : ap_K D k s) (hg : GoodIn Ts (wsV own idx C y wsy)) (hw : wsy = Cond.code y bytes maxL (some ty) :: wsy')
    (hd : y.cls = C ∧ y.cls ≠ "java/lang/invoke/MethodHandle" ∧ y.cls ≠ "java/lang/invoke/VarHandle" ∧ (parseMethodDescriptor y.desc).map (fun d => d.parameters.length) = some n) (hR : fr + 1 ≤ R.frames ∧ 8 + (maxL + 11) + lo ≤ R.locals)
    (hrecv : ∃ cell : Cell, H[b]? = some cell ∧ cell.vm.isStatics = false ∧ s.vm.findClass C = some cell.cls)
    (hn : As.length = n) (hls : ls.size = nL) (hst : st = As.reverse ++ .ref b :: rest) (hrm : (rest.map fun v => v.category).sum ≤ 8) (hdg : decode cc pc = .ok (.invokevirtual idx, 3)) (hc : cells ≤ R.cells ∧ slots ≤ R.slots) (hS : va_S A H0 H locs)
    (kk : ∀ locs1, va_S A H0 H locs1 → W p l e R s m av below meth c H locs1 cells slots Q (F0 m (pc + 3) ls (.int v :: rest))) : W p l e R s m av below meth c H locs cells slots Q (F0 m pc ls st) := by
  subst hst
  refine va_calli (va_runV (As := As) (rest := rest) S hM (cwV n S.2.2.2.2 hg hw rfl rfl hd hR) ⟨fun a U g mk q => ⟨q.1, q.2.1, va_K.moved (u := U) (U := U.calling g mk a) (Vm.Alike.refl U.vm) q.2.2⟩, hrecv, fun U hU hW => ⟨rfl, hU, va_K.moved hW.alike hK⟩⟩ rfl hn hls rfl (lv_room hrm) hdg hc) hS (fun q _ h => h.elim) (fun q h => h.elim) (fun r u t H1 locs1 ht hvm hw2 hB hz1 hk1 hS1 => ?_)
  have e1 : H1 = H := ht.symm.trans hB
  subst e1
  subst hw2
  exact kk locs1 hS1
theorem pcS {nL : Nat} {As : List Value} {Ts wsy wsy' : List Cond} {own : String} {idx n fr lo maxL : Nat} {y : MethodName} {bytes : ByteArray} {ty : FieldType} {v : Int32}
    (hM : PI l y wsy fr lo D k H As v) (S : CallFix p m c cc nL s av Ts own) (hK : ap_K D k s) (hg : GoodIn Ts (va_wsS own idx y wsy)) (hw : wsy = Cond.code y bytes maxL (some ty) :: wsy')
    (hd : y.cls ≠ "java/lang/invoke/MethodHandle" ∧ y.cls ≠ "java/lang/invoke/VarHandle" ∧ (parseMethodDescriptor y.desc).map (fun d => d.parameters.length) = some n) (hR : fr + 1 ≤ R.frames ∧ 8 + (maxL + 11) + lo ≤ R.locals)
    (hn : As.length = n) (hls : ls.size = nL) (hst : st = As.reverse ++ rest) (hrm : (rest.map fun v => v.category).sum ≤ 8) (hdg : decode cc pc = .ok (.invokestatic idx, 3)) (hc : cells ≤ R.cells ∧ slots ≤ R.slots) (hS : va_S A H0 H locs)
    (kk : ∀ locs1, va_S A H0 H locs1 → W p l e R s m av below meth c H locs1 cells slots Q (F0 m (pc + 3) ls (.int v :: rest))) : W p l e R s m av below meth c H locs cells slots Q (F0 m pc ls st) := by
  subst hst
  refine va_calli (va_runS (As := As) (rest := rest) S hM (va_cwS n S.2.2.2.2 hg hw rfl rfl hd hR) ⟨fun a U g mk q => ⟨q.1, q.2.1, va_K.moved (u := U) (U := U.calling g mk a) (Vm.Alike.refl U.vm) q.2.2⟩, fun U hU hW => ⟨rfl, hU, va_K.moved hW.alike hK⟩⟩ rfl hn hls rfl (lv_room hrm) hdg hc) hS (fun q _ h => h.elim) (fun q h => h.elim) (fun r u t H1 locs1 ht hvm hw2 hB hz1 hk1 hS1 => ?_)
  have e1 : H1 = H := ht.symm.trans hB
  subst e1
  subst hw2
  exact kk locs1 hS1
theorem sv_top {x y : Int32} (h : x = y) (kk : W p l e R s m av below meth c H locs cells slots Q (F0 m pc ls (.int y :: rest))) : W p l e R s m av below meth c H locs cells slots Q (F0 m pc ls (.int x :: rest)) := by subst h; exact kk
theorem sv_iald (hx : p.tables.exec = Jvm.exec) (hb : c.code = cc) (hK : ap_K D k s) (hP : va_P D CL ws H) (q0 : Nat) {n : Nat} {f : Nat → Int32} (ha : ws[q0]? = some (a, .inl (k.1, n, .inl f))) {j : Nat} (hj : j < n) (hn : n < 2 ^ 31) (hdg : decode cc pc = .ok (.iaload, 1))
    (kk : W p l e R s m av below meth c H locs cells slots Q (F0 m (pc + 1) ls (.int (f j) :: rest))) : W p l e R s m av below meth c H locs cells slots Q (F0 m pc ls (.int (nI j) :: .ref a :: rest)) := by
  refine va_iald hx hb hK hP q0 0 ha rfl (vp_in_nI hj hn) hdg ?_
  rw [nI_clamp (Nat.lt_trans hj hn)]
  exact kk
theorem sv_zald (hx : p.tables.exec = Jvm.exec) (hb : c.code = cc) (hK : ap_K D k s) (hP : va_P D CL ws H) (q0 : Nat) {n : Nat} {f : Nat → Int32} (ha : ws[q0]? = some (a, .inl (k.2.1, n, .inl f))) {j : Nat} (hj : j < n) (hn : n < 2 ^ 31) (hdg : decode cc pc = .ok (.baload, 1))
    (kk : W p l e R s m av below meth c H locs cells slots Q (F0 m (pc + 1) ls (.int (f j) :: rest))) : W p l e R s m av below meth c H locs cells slots Q (F0 m pc ls (.int (nI j) :: .ref a :: rest)) := by
  refine va_zald hx hb hK hP q0 1 ha rfl (vp_in_nI hj hn) hdg ?_
  rw [nI_clamp (Nat.lt_trans hj hn)]
  exact kk
theorem sv_iast (hx : p.tables.exec = Jvm.exec) (hb : c.code = cc) (hK : ap_K D k s) (hP : va_P D CL ws H) (hD : va_D A ws) (hS : va_S A H0 H locs) (q0 : Nat) {n : Nat} {f : Nat → Int32} (ha : ws[q0]? = some (a, .inl (k.1, n, .inl f))) {j : Nat} (hj : j < n) (hn : n < 2 ^ 31) {x : Int32} (hdg : decode cc pc = .ok (.iastore, 1))
    (kk : ∀ (ws1 : va_W) (H1 : Heap) (locs1 : List Loc), va_P D CL ws1 H1 → va_D A ws1 → va_S A H0 H1 locs1 → ws1[q0]? = some (a, .inl (k.1, n, .inl (upd f j x))) → fr ws ws1 q0 q0 → W p l e R s m av below meth c H1 locs1 cells slots Q (F0 m (pc + 1) ls rest)) : W p l e R s m av below meth c H locs cells slots Q (F0 m pc ls (.int x :: .int (nI j) :: .ref a :: rest)) := by
  refine va_iast hx hb hK hP hD hS q0 0 ha rfl (vp_in_nI hj hn) hdg (fun H1 locs1 hP1 hD1 hS1 => ?_)
  rw [nI_clamp (Nat.lt_trans hj hn)] at hP1 hD1
  exact kk _ H1 locs1 hP1 hD1 hS1 (set_at ha) fr_set
theorem sv_zast (hx : p.tables.exec = Jvm.exec) (hb : c.code = cc) (hK : ap_K D k s) (hP : va_P D CL ws H) (hD : va_D A ws) (hS : va_S A H0 H locs) (q0 : Nat) {n : Nat} {f : Nat → Int32} (ha : ws[q0]? = some (a, .inl (k.2.1, n, .inl f))) {j : Nat} (hj : j < n) (hn : n < 2 ^ 31) {x : Bool} (hdg : decode cc pc = .ok (.bastore, 1))
    (kk : ∀ (ws1 : va_W) (H1 : Heap) (locs1 : List Loc), va_P D CL ws1 H1 → va_D A ws1 → va_S A H0 H1 locs1 → ws1[q0]? = some (a, .inl (k.2.1, n, .inl (upd f j (bI x)))) → fr ws ws1 q0 q0 → W p l e R s m av below meth c H1 locs1 cells slots Q (F0 m (pc + 1) ls rest)) : W p l e R s m av below meth c H locs cells slots Q (F0 m pc ls (.int (bI x) :: .int (nI j) :: .ref a :: rest)) := by
  refine va_zast hx hb hK hP hD hS q0 1 ha rfl (vp_in_nI hj hn) hdg (fun H1 locs1 hP1 hD1 hS1 => ?_)
  have e1 : vp_nar .boolean (bI x) = bI x := by cases x <;> rfl
  rw [nI_clamp (Nat.lt_trans hj hn), e1] at hP1 hD1
  exact kk _ H1 locs1 hP1 hD1 hS1 (set_at ha) fr_set
theorem sv_put (hx : p.tables.exec = Jvm.exec) (hb : c.code = cc) {own ref C : String} {T : u_T} {N ci index : Nat} {Ts : List Cond} (hts : ∀ w ∈ Ts, w.before av s = true) (hin : ∀ w ∈ u_ws C T N, w ∈ Ts) (ty0 : Nat → FieldType) (hty : ∀ k, k < N → parseFieldDescriptor (T k).2.2.1 = some (ty0 k)) (hnm : ∀ a, a < N → ∀ b, b < N → a ≠ b → (T a).2.1 ≠ (T b).2.1) (hown : s.vm.findClass own = some m.cls) (hK : ap_K D k s) (hP : va_P D CL ws H) (hD : va_D A ws) (hS0 : va_S A H0 H locs) (q0 : Nat) {fs : List Value} (he : ws[q0]? = some (a, .inr (ci, fs))) (hc : CL[ci]? = some (C, T, N)) (i : Nat) (hk : i < N) (hlink : (Cond.fieldLink own index ref (T i).2.1 (T i).2.2.1).before av s = true) (hsame : ∀ x, s.fieldFound? (T i).1 (T i).2.1 (T i).2.2.1 = some x → s.fieldFound? ref (T i).2.1 (T i).2.2.1 = some x) (hfin : (T i).2.2.2 = false) {v : Value} (ty : FieldType) (hd : parseFieldDescriptor (T i).2.2.1 = some ty) (hn : narrow ty v = v) (hfit : fits ty v = true) (fs' : List Value) (hl : i < fs.length) (hfs : fs.set i v = fs')
    (hdg : decode cc pc = .ok (.putfield index, 3)) (kk : ∀ (ws1 : va_W) (H1 : Heap) (locs1 : List Loc), va_P D CL ws1 H1 → va_D A ws1 → va_S A H0 H1 locs1 → ws1[q0]? = some (a, .inr (ci, fs')) → fr ws ws1 q0 q0 → W p l e R s m av below meth c H1 locs1 cells slots Q (F0 m (pc + 3) ls rest)) : W p l e R s m av below meth c H locs cells slots Q (F0 m pc ls (v :: .ref a :: rest)) := by
  refine va_put (ty := ty) hx hb hts hin ty0 hty hnm hown hK hP hD hS0 q0 he hc i hk hlink hsame hfin hd hn hfit hl hdg (fun H1 locs1 hP1 hD1 hS1 => ?_)
  rw [hfs] at hP1 hD1
  exact kk _ H1 locs1 hP1 hD1 hS1 (set_at he) fr_set
theorem sn_icmp_lt (hx : p.tables.exec = Jvm.exec) (hb : c.code = cc) {x y : Nat} {off : Int} {tgt : Nat} (hdg : decode cc pc = .ok (.if_icmp .lt off, 3)) (ht : (pc : Int) + off = (tgt : Int)) (h1 : x < 2 ^ 31) (h2 : y < 2 ^ 31)
    (kt : x < y → W p l e R s m av below meth c H locs cells slots Q (F0 m tgt ls rest)) (kf : y ≤ x → W p l e R s m av below meth c H locs cells slots Q (F0 m (pc + 3) ls rest)) : W p l e R s m av below meth c H locs cells slots Q (F0 m pc ls (.int (nI y) :: .int (nI x) :: rest)) :=
  lv_icmp_lt hx hb hdg ht (fun h => kt ((nI_ltI h1 h2).mp h)) (fun h => kf (Nat.not_lt.mp (fun q => h ((nI_ltI h1 h2).mpr q))))
theorem sn_icmp_ge (hx : p.tables.exec = Jvm.exec) (hb : c.code = cc) {x y : Nat} {off : Int} {tgt : Nat} (hdg : decode cc pc = .ok (.if_icmp .ge off, 3)) (ht : (pc : Int) + off = (tgt : Int)) (h1 : x < 2 ^ 31) (h2 : y < 2 ^ 31)
    (kt : y ≤ x → W p l e R s m av below meth c H locs cells slots Q (F0 m tgt ls rest)) (kf : x < y → W p l e R s m av below meth c H locs cells slots Q (F0 m (pc + 3) ls rest)) : W p l e R s m av below meth c H locs cells slots Q (F0 m pc ls (.int (nI y) :: .int (nI x) :: rest)) :=
  lv_icmp_ge hx hb hdg ht (fun h => kt ((nI_leI h2 h1).mp h)) (fun h => kf (Nat.not_le.mp (fun q => h ((nI_leI h2 h1).mpr q))))
theorem sn_icmp_gt (hx : p.tables.exec = Jvm.exec) (hb : c.code = cc) {x y : Nat} {off : Int} {tgt : Nat} (hdg : decode cc pc = .ok (.if_icmp .gt off, 3)) (ht : (pc : Int) + off = (tgt : Int)) (h1 : x < 2 ^ 31) (h2 : y < 2 ^ 31)
    (kt : y < x → W p l e R s m av below meth c H locs cells slots Q (F0 m tgt ls rest)) (kf : x ≤ y → W p l e R s m av below meth c H locs cells slots Q (F0 m (pc + 3) ls rest)) : W p l e R s m av below meth c H locs cells slots Q (F0 m pc ls (.int (nI y) :: .int (nI x) :: rest)) :=
  lv_icmp_gt hx hb hdg ht (fun h => kt ((nI_ltI h2 h1).mp h)) (fun h => kf (Nat.not_lt.mp (fun q => h ((nI_ltI h2 h1).mpr q))))
theorem sn_icmp_le (hx : p.tables.exec = Jvm.exec) (hb : c.code = cc) {x y : Nat} {off : Int} {tgt : Nat} (hdg : decode cc pc = .ok (.if_icmp .le off, 3)) (ht : (pc : Int) + off = (tgt : Int)) (h1 : x < 2 ^ 31) (h2 : y < 2 ^ 31)
    (kt : x ≤ y → W p l e R s m av below meth c H locs cells slots Q (F0 m tgt ls rest)) (kf : y < x → W p l e R s m av below meth c H locs cells slots Q (F0 m (pc + 3) ls rest)) : W p l e R s m av below meth c H locs cells slots Q (F0 m pc ls (.int (nI y) :: .int (nI x) :: rest)) :=
  lv_icmp_le hx hb hdg ht (fun h => kt ((nI_leI h1 h2).mp h)) (fun h => kf (Nat.not_le.mp (fun q => h ((nI_leI h1 h2).mpr q))))
theorem sn_icmp_eq (hx : p.tables.exec = Jvm.exec) (hb : c.code = cc) {x y : Nat} {off : Int} {tgt : Nat} (hdg : decode cc pc = .ok (.if_icmp .eq off, 3)) (ht : (pc : Int) + off = (tgt : Int)) (h1 : x < 2 ^ 31) (h2 : y < 2 ^ 31)
    (kt : x = y → W p l e R s m av below meth c H locs cells slots Q (F0 m tgt ls rest)) (kf : ¬ x = y → W p l e R s m av below meth c H locs cells slots Q (F0 m (pc + 3) ls rest)) : W p l e R s m av below meth c H locs cells slots Q (F0 m pc ls (.int (nI y) :: .int (nI x) :: rest)) :=
  lv_icmp_eq hx hb hdg ht (fun h => kt ((nI_eq h1 h2).mp h)) (fun h => kf (fun q => h ((nI_eq h1 h2).mpr q)))
theorem sn_icmp_ne (hx : p.tables.exec = Jvm.exec) (hb : c.code = cc) {x y : Nat} {off : Int} {tgt : Nat} (hdg : decode cc pc = .ok (.if_icmp .ne off, 3)) (ht : (pc : Int) + off = (tgt : Int)) (h1 : x < 2 ^ 31) (h2 : y < 2 ^ 31)
    (kt : ¬ x = y → W p l e R s m av below meth c H locs cells slots Q (F0 m tgt ls rest)) (kf : x = y → W p l e R s m av below meth c H locs cells slots Q (F0 m (pc + 3) ls rest)) : W p l e R s m av below meth c H locs cells slots Q (F0 m pc ls (.int (nI y) :: .int (nI x) :: rest)) :=
  lv_icmp_ne hx hb hdg ht (fun h => kt (fun q => h ((nI_eq h1 h2).mpr q))) (fun h => kf ((nI_eq h1 h2).mp h))
theorem nI_0I {x : Nat} (h : x < 2 ^ 31) : nI x = 0 ↔ x = 0 := by rw [← nI_0, nI_eq h (by decide)]
theorem sn_if_eq (hx : p.tables.exec = Jvm.exec) (hb : c.code = cc) {x : Nat} {off : Int} {tgt : Nat} (hdg : decode cc pc = .ok (.ifCond .eq off, 3)) (ht : (pc : Int) + off = (tgt : Int)) (h1 : x < 2 ^ 31)
    (kt : x = 0 → W p l e R s m av below meth c H locs cells slots Q (F0 m tgt ls rest)) (kf : ¬ x = 0 → W p l e R s m av below meth c H locs cells slots Q (F0 m (pc + 3) ls rest)) : W p l e R s m av below meth c H locs cells slots Q (F0 m pc ls (.int (nI x) :: rest)) :=
  lv_if_eq hx hb hdg ht (fun h => kt ((nI_0I h1).mp h)) (fun h => kf (fun q => h ((nI_0I h1).mpr q)))
theorem sn_if_ne (hx : p.tables.exec = Jvm.exec) (hb : c.code = cc) {x : Nat} {off : Int} {tgt : Nat} (hdg : decode cc pc = .ok (.ifCond .ne off, 3)) (ht : (pc : Int) + off = (tgt : Int)) (h1 : x < 2 ^ 31)
    (kt : ¬ x = 0 → W p l e R s m av below meth c H locs cells slots Q (F0 m tgt ls rest)) (kf : x = 0 → W p l e R s m av below meth c H locs cells slots Q (F0 m (pc + 3) ls rest)) : W p l e R s m av below meth c H locs cells slots Q (F0 m pc ls (.int (nI x) :: rest)) :=
  lv_if_ne hx hb hdg ht (fun h => kt (fun q => h ((nI_0I h1).mpr q))) (fun h => kf ((nI_0I h1).mp h))
theorem sn_if_le (hx : p.tables.exec = Jvm.exec) (hb : c.code = cc) {x : Nat} {off : Int} {tgt : Nat} (hdg : decode cc pc = .ok (.ifCond .le off, 3)) (ht : (pc : Int) + off = (tgt : Int)) (h1 : x < 2 ^ 31)
    (kt : x = 0 → W p l e R s m av below meth c H locs cells slots Q (F0 m tgt ls rest)) (kf : ¬ x = 0 → W p l e R s m av below meth c H locs cells slots Q (F0 m (pc + 3) ls rest)) : W p l e R s m av below meth c H locs cells slots Q (F0 m pc ls (.int (nI x) :: rest)) :=
  lv_if_le hx hb hdg ht (fun h => kt (Nat.le_zero.mp ((nI_leI h1 (by decide)).mp (by rw [nI_0]; exact h)))) (fun h => kf (fun q => h (by rw [q, nI_0]; decide)))
theorem sn_if_gt (hx : p.tables.exec = Jvm.exec) (hb : c.code = cc) {x : Nat} {off : Int} {tgt : Nat} (hdg : decode cc pc = .ok (.ifCond .gt off, 3)) (ht : (pc : Int) + off = (tgt : Int)) (h1 : x < 2 ^ 31)
    (kt : ¬ x = 0 → W p l e R s m av below meth c H locs cells slots Q (F0 m tgt ls rest)) (kf : x = 0 → W p l e R s m av below meth c H locs cells slots Q (F0 m (pc + 3) ls rest)) : W p l e R s m av below meth c H locs cells slots Q (F0 m pc ls (.int (nI x) :: rest)) :=
  lv_if_gt hx hb hdg ht (fun h => kt (fun q => by rw [q, nI_0] at h; exact absurd h (by decide))) (fun h => kf (Nat.le_zero.mp (Nat.not_lt.mp (fun q => h (by rw [← nI_0]; exact (nI_ltI (by decide) h1).mpr q)))))
theorem sb_if_eq (hx : p.tables.exec = Jvm.exec) (hb : c.code = cc) {x : Bool} {off : Int} {tgt : Nat} (hdg : decode cc pc = .ok (.ifCond .eq off, 3)) (ht : (pc : Int) + off = (tgt : Int))
    (kt : x = false → W p l e R s m av below meth c H locs cells slots Q (F0 m tgt ls rest)) (kf : x = true → W p l e R s m av below meth c H locs cells slots Q (F0 m (pc + 3) ls rest)) : W p l e R s m av below meth c H locs cells slots Q (F0 m pc ls (.int (bI x) :: rest)) :=
  lv_if_eq hx hb hdg ht (fun h => kt (bI_eq0.mp h)) (fun h => kf (by cases x; exact absurd rfl h; rfl))
theorem sb_if_ne (hx : p.tables.exec = Jvm.exec) (hb : c.code = cc) {x : Bool} {off : Int} {tgt : Nat} (hdg : decode cc pc = .ok (.ifCond .ne off, 3)) (ht : (pc : Int) + off = (tgt : Int))
    (kt : x = true → W p l e R s m av below meth c H locs cells slots Q (F0 m tgt ls rest)) (kf : x = false → W p l e R s m av below meth c H locs cells slots Q (F0 m (pc + 3) ls rest)) : W p l e R s m av below meth c H locs cells slots Q (F0 m pc ls (.int (bI x) :: rest)) :=
  lv_if_ne hx hb hdg ht (fun h => kt (by cases x; exact absurd rfl h; rfl)) (fun h => kf (bI_eq0.mp h))
end ROWS
theorem sh_l1 {k : Nat} (h : k < 32) : nI 1 <<< (nI k &&& 31) = nI (2 ^ k) := by
  have : ∀ k, k < 32 → nI 1 <<< (nI k &&& 31) = nI (2 ^ k) := by decide +kernel
  exact this k h
theorem sm_31 : ∀ k, k < 32 → ((nI k &&& 31).toBitVec.smod 32).toNat = k := by decide +kernel
theorem sh_l {a k : Nat} (h : k < 32) (ha : a * 2 ^ k < 2 ^ 32) : nI a <<< (nI k &&& 31) = nI (a * 2 ^ k) := pk_shlN _ k (sm_31 k h) ha
theorem sh_r {a k : Nat} (h : k < 32) (ha : a < 2 ^ 31) : nI a >>> (nI k &&& 31) = nI (a / 2 ^ k) := pk_shrN ha _ k (sm_31 k h)
theorem ap_bv {x y : Int32} (h : x.toBitVec = y.toBitVec) : x = y := Int32.toBitVec.inj h
theorem an_and (a b : Nat) : nI a &&& nI b = nI (a &&& b) := ap_bv (by
  show (BitVec.ofNat 32 a) &&& (BitVec.ofNat 32 b) = BitVec.ofNat 32 (a &&& b)
  apply BitVec.eq_of_getLsbD_eq; intro i hi
  simp [hi])
theorem an_or (a b : Nat) : nI a ||| nI b = nI (a ||| b) := ap_bv (by
  show (BitVec.ofNat 32 a) ||| (BitVec.ofNat 32 b) = BitVec.ofNat 32 (a ||| b)
  apply BitVec.eq_of_getLsbD_eq; intro i hi
  simp [hi])
theorem an_xor (a b : Nat) : nI a ^^^ nI b = nI (a ^^^ b) := ap_bv (by
  show (BitVec.ofNat 32 a) ^^^ (BitVec.ofNat 32 b) = BitVec.ofNat 32 (a ^^^ b)
  apply BitVec.eq_of_getLsbD_eq; intro i hi
  simp [hi])
/-- a without the bits of b -/
def clr (a b : Nat) : Nat := a ^^^ (a &&& b)
theorem an_not (a b : Nat) : nI a &&& (nI b ^^^ (-1)) = nI (clr a b) := ap_bv (by
  show (BitVec.ofNat 32 a) &&& ((BitVec.ofNat 32 b) ^^^ (-1 : Int32).toBitVec) = BitVec.ofNat 32 (clr a b)
  rw [show (-1 : Int32).toBitVec = BitVec.allOnes 32 by decide]
  apply BitVec.eq_of_getLsbD_eq; intro i hi
  simp only [clr, BitVec.getLsbD_and, BitVec.getLsbD_xor, BitVec.getLsbD_allOnes, BitVec.getLsbD_ofNat, hi, Nat.testBit_xor, Nat.testBit_and, decide_true, Bool.true_and]
  cases a.testBit i <;> cases b.testBit i <;> rfl)
theorem mul_n (a b : Nat) : nI a * nI b = nI (a * b) := pk_mul a b
theorem mul_c (a b : Nat) : nI a * nI b = nI (b * a) := by rw [pk_mul, Nat.mul_comm]
theorem pw_lt {k : Nat} (h : k < 31) : 2 ^ k < 2 ^ 31 := Nat.pow_lt_pow_right (by decide) h
theorem and_b1 {a b n : Nat} (h : a < n) : a &&& b < n := Nat.lt_of_le_of_lt Nat.and_le_left h
theorem and_b2 {a b n : Nat} (h : b < n) : a &&& b < n := Nat.lt_of_le_of_lt Nat.and_le_right h
theorem bt_and (x k : Nat) : x &&& 2 ^ k = 0 ↔ x.testBit k = false := by
  constructor
  · intro h
    have h1 : (x &&& 2 ^ k).testBit k = false := by rw [h]; exact Nat.zero_testBit k
    rw [Nat.testBit_and, Nat.testBit_two_pow_self, Bool.and_true] at h1
    exact h1
  · intro h
    apply Nat.eq_of_testBit_eq; intro i
    rw [Nat.testBit_and, Nat.testBit_two_pow, Nat.zero_testBit]
    by_cases q : k = i
    · subst q; rw [h]; rfl
    · simp [q]
theorem bt_div (x k : Nat) : x / 2 ^ k % 2 = (x.testBit k).toNat := (Nat.toNat_testBit x k).symm
theorem an_1 {a : Nat} : nI a &&& nI 1 = nI (a % 2) := by
  rw [an_and, Nat.and_one_is_mod]
section ROWS2
variable {p : Program} {l : Launch} {e : Env} {R : Room} {s : State} {m : MethodId} {av : Array Value} {below : List Frame} {meth : Method} {c : Code} {H : Heap} {locs : List Loc} {cells slots : Nat} {Q : State → Prop}
variable {cc : ByteArray} {pc : Nat} {ls : Array Slot} {rest : List Value}
theorem st_if_eq (hx : p.tables.exec = Jvm.exec) (hb : c.code = cc) {x k : Nat} {off : Int} {tgt : Nat} (hdg : decode cc pc = .ok (.ifCond .eq off, 3)) (ht : (pc : Int) + off = (tgt : Int)) (hk : k < 31)
    (kt : x.testBit k = false → W p l e R s m av below meth c H locs cells slots Q (F0 m tgt ls rest)) (kf : x.testBit k = true → W p l e R s m av below meth c H locs cells slots Q (F0 m (pc + 3) ls rest)) : W p l e R s m av below meth c H locs cells slots Q (F0 m pc ls (.int (nI (x &&& 2 ^ k)) :: rest)) :=
  sn_if_eq hx hb hdg ht (and_b2 (pw_lt hk)) (fun h => kt ((bt_and x k).mp h)) (fun h => kf (by cases q : x.testBit k; exact absurd ((bt_and x k).mpr q) h; rfl))
theorem st_if_ne (hx : p.tables.exec = Jvm.exec) (hb : c.code = cc) {x k : Nat} {off : Int} {tgt : Nat} (hdg : decode cc pc = .ok (.ifCond .ne off, 3)) (ht : (pc : Int) + off = (tgt : Int)) (hk : k < 31)
    (kt : x.testBit k = true → W p l e R s m av below meth c H locs cells slots Q (F0 m tgt ls rest)) (kf : x.testBit k = false → W p l e R s m av below meth c H locs cells slots Q (F0 m (pc + 3) ls rest)) : W p l e R s m av below meth c H locs cells slots Q (F0 m pc ls (.int (nI (x &&& 2 ^ k)) :: rest)) :=
  sn_if_ne hx hb hdg ht (and_b2 (pw_lt hk)) (fun h => kt (by cases q : x.testBit k; exact absurd ((bt_and x k).mpr q) h; rfl)) (fun h => kf ((bt_and x k).mp h))
/-- (x >> k & 1) == 1 -/
theorem st_icmp_ne (hx : p.tables.exec = Jvm.exec) (hb : c.code = cc) {x k : Nat} {off : Int} {tgt : Nat} (hdg : decode cc pc = .ok (.if_icmp .ne off, 3)) (ht : (pc : Int) + off = (tgt : Int))
    (kt : x.testBit k = false → W p l e R s m av below meth c H locs cells slots Q (F0 m tgt ls rest)) (kf : x.testBit k = true → W p l e R s m av below meth c H locs cells slots Q (F0 m (pc + 3) ls rest)) : W p l e R s m av below meth c H locs cells slots Q (F0 m pc ls (.int (nI 1) :: .int (nI (x / 2 ^ k % 2)) :: rest)) := by
  rw [bt_div]
  cases h : x.testBit k
  · exact sn_icmp_ne hx hb hdg ht (by decide) (by decide) (fun _ => kt h) (fun q => absurd q (by decide))
  · exact sn_icmp_ne hx hb hdg ht (by decide) (by decide) (fun q => absurd q (by decide)) (fun _ => kf h)
/-- (x >> k & 1) == 0 -/
theorem st_ifm_ne (hx : p.tables.exec = Jvm.exec) (hb : c.code = cc) {x k : Nat} {off : Int} {tgt : Nat} (hdg : decode cc pc = .ok (.ifCond .ne off, 3)) (ht : (pc : Int) + off = (tgt : Int))
    (kt : x.testBit k = true → W p l e R s m av below meth c H locs cells slots Q (F0 m tgt ls rest)) (kf : x.testBit k = false → W p l e R s m av below meth c H locs cells slots Q (F0 m (pc + 3) ls rest)) : W p l e R s m av below meth c H locs cells slots Q (F0 m pc ls (.int (nI (x / 2 ^ k % 2)) :: rest)) := by
  rw [bt_div]
  cases h : x.testBit k
  · exact sn_if_ne hx hb hdg ht (by decide) (fun q => absurd rfl q) (fun _ => kf h)
  · exact sn_if_ne hx hb hdg ht (by decide) (fun _ => kt h) (fun q => absurd q (by decide))
end ROWS2
