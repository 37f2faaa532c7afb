/-! ===== the law's own static methods: a call under a table of handlers ===== -/
def NC (U : State) : Prop := va_Nc EXS EXA U ∧ va_Nc EXA EXI U
theorem NC.warm {s U : State} (hW : s.WarmedH U.vm) (h : NC s) : NC U := ⟨va_Nc.moved hW.alike h.1, va_Nc.moved hW.alike h.2⟩
def isOut (k : kT) (ws : va_W) (o : Nat) (f : Nat → Int64) : Prop := ws[30]? = some (o, .inl (k.2.2, 1, .inr (.inl f)))
def WU (l : Launch) (y : MethodName) (ws : List Cond) (fr lo : Nat) (D : va_G) (k : kT) (A : Nat → Prop) (Hs : Heap) (args : List Value) (post : Int32 → va_W → Prop) : Prop :=
  vx_Met l y ws ({ frames := fr, cells := 1, slots := 6, locals := lo }) (va_Pc args (fun U => U.heap = Hs ∧ ap_K D k U ∧ XE A U Hs ∧ NC U)) (va_Qi (fun (r : Int32) (w : va_W) => post r w) (fun w t => va_P D CL w t.heap ∧ va_D A w) A) (fun _ _ _ => False) 1 6 A
theorem WU.of {l : Launch} {y : MethodName} {ws ws' : List Cond} {fr lo : Nat} {D : va_G} {k : kT} {A : Nat → Prop} {Hs : Heap} {args : List Value} {post : Int32 → va_W → Prop} {cc : ByteArray} {maxL : Nat} {hh : List (Nat × Nat × Nat × Nat)}
    (hy : plainName y.cls = true) (hw : ws = Cond.codeWith y cc maxL (some .int) hh :: ws') (ha : (lg_sl args).length ≤ maxL)
    (body : ∀ (p : Program) (e : Env) (R : Room) (s : State) (m : MethodId) (av : Array Value) (below : List Frame) (meth : Method) (c : Code) (Q : State → Prop),
      fr ≤ R.frames → lo ≤ R.locals → 1 ≤ R.cells → 6 ≤ R.slots → p.tables.exec = Jvm.exec → c.code = cc → c.maxLocals = maxL → s.vm.findClass y.cls = some m.cls → (∀ w ∈ ws, w.before av s = true) → ap_K D k s → XE A s Hs → NC s → c.exceptionTable.toList = tableOf hh →
      (∀ (pc : Nat) (ls : Array Slot) (w : va_W) (H : Heap) (locs : List Loc) (cells slots : Nat) (x : Int32), cells ≤ 1 → slots ≤ 6 → decode cc pc = .ok (.ireturn, 1) → va_P D CL w H → va_D A w → va_S A Hs H locs → post x w → W p l e R s m av below meth c H locs cells slots Q (F0 m pc ls [.int x])) →
      ∀ (ls : Array Slot), lv_has ls maxL (lv_args 0 args) → W p l e R s m av below meth c Hs [] 0 0 Q (F0 m 0 ls [])) : WU l y ws fr lo D k A Hs args post := by
  refine vx_ofWH (cc := cc) (maxL := maxL) (ret := some .int) (hh := hh) hy hw ?_
  intro p e s m av below meth c s₁ B hml hv
  obtain ⟨rfl, hH, hK, hXE, hNC⟩ := hv
  have hts := atoms_spec (ws := ws) B.pre
  have htab := vx_table (x := y) B (hts _ (by rw [hw]; exact List.mem_cons_self))
  have hown : s.vm.findClass y.cls = some m.cls := findClass_of_methodNamed B.named
  have hlocks := B.notSynchronized
  have hr := B.returns
  subst hH
  have hl := lv_entry args (n := maxL) ha
  rw [lg_entry_eq]
  refine body p e _ s m _ below meth c _ (Nat.le_refl _) (Nat.le_refl _) (Nat.le_refl _) (Nat.le_refl _) B.exec B.bytes hml hown hts hK hXE hNC htab ?_ _ hl
  intro pc ls w H locs cells slots x hc hs hd hP hD hS hx
  refine vx_ret (W.widen (k := 1) (n := 6) hc hs ?_)
  exact W.zret B.exec B.bytes hr rfl (fun t ht hW => ⟨⟨x, w, rfl, hx, by rw [ht]; exact hP, hD⟩, hS.F ht⟩) hS.2.2 hd
section ROWSW
variable {p : Program} {l : Launch} {e : Env} {R : Room} {s : State} {m : MethodId} {av : Array Value} {below : List Frame} {meth : Method} {c : Code} {H : Heap} {locs : List Loc} {cells slots : Nat} {Q : State → Prop}
variable {cc : ByteArray} {pc : Nat} {ls : Array Slot} {rest st : List Value} {D : va_G} {k : kT} {A : Nat → Prop} {H0 : Heap} {ws : va_W} {a : Nat}
theorem wcS {nL : Nat} {As : List Value} {Ts wsy wsy' : List Cond} {own : String} {idx n fr lo maxL : Nat} {y : MethodName} {bytes : ByteArray} {hh : List (Nat × Nat × Nat × Nat)} {post : Int32 → va_W → Prop}
    (hM : WU l y wsy fr lo D k A H As post) (S : CallFix p m c cc nL s av Ts own) (hK : ap_K D k s) (hXE : XE A s H0) (hNC : NC s) (hg : GoodIn Ts (va_wsS own idx y wsy)) (hw : wsy = Cond.codeWith y bytes maxL (some .int) hh :: wsy')
    (hd : y.cls ≠ "java/lang/invoke/MethodHandle" ∧ y.cls ≠ "java/lang/invoke/VarHandle" ∧ (parseMethodDescriptor y.desc).map (fun d => d.parameters.length) = some n) (hR : fr + 1 ≤ R.frames ∧ 8 + (maxL + 11) + lo ≤ R.locals)
    (hn : As.length = n) (hls : ls.size = nL) (hst : st = As.reverse ++ rest) (hrm : (rest.map fun v => v.category).sum ≤ 8) (hdg : decode cc pc = .ok (.invokestatic idx, 3)) (hc : cells + 1 ≤ R.cells ∧ slots + 6 ≤ R.slots) (hS : va_S A H0 H locs)
    (kk : ∀ (r : Int32) (w1 : va_W) (H1 : Heap) (locs1 : List Loc), post r w1 → va_P D CL w1 H1 → va_D A w1 → va_S A H0 H1 locs1 → W p l e R s m av below meth c H1 locs1 (cells + 1) (slots + 6) Q (F0 m (pc + 3) ls (.int r :: rest))) : W p l e R s m av below meth c H locs cells slots Q (F0 m pc ls st) := by
  subst hst
  have hXH : XE A s H := hXE.kept (fun a h1 h2 => hS.2.1 a h1 h2)
  have hr := vx_runSX (p := p) (l := l) (e := e) (below := below) (meth := meth) (As := As) (rest := rest) (g := F0 m pc ls (As.reverse ++ rest)) (H := H) (locs := locs) (cells := cells) (slots := slots) S hM (vx_cwSW n S.2.2.2.2 hg hw rfl rfl hd hR) ⟨fun a U g mk q => ⟨q.1, q.2.1, va_K.moved (u := U) (U := U.calling g mk a) (Vm.Alike.refl U.vm) q.2.2.1, XE.warm (s := U) (U := U.calling g mk a) (State.WarmedH.refl U) q.2.2.2.1, NC.warm (s := U) (U := U.calling g mk a) (State.WarmedH.refl U) q.2.2.2.2⟩, fun U hU hW => ⟨rfl, hU, va_K.moved hW.alike hK, XE.warm hW hXH, NC.warm hW hNC⟩⟩ rfl hn hls rfl (lv_room hrm) hdg hc
  intro T hT X
  rcases hr T hT X with ⟨v, st₀, t, T', L, h0, X', hL, e1, e2, ⟨⟨r, u, hv, hp, hB⟩, hF⟩, st⟩ | ⟨q, st₀, t, T', L, E', ce, h0, X', hL, e1, e2, hq, -⟩
  · cases hv
    obtain ⟨k1, k2, k3⟩ := vx_keep h0 e1 hS (fun q _ h => h) (fun q h => h) hL hF
    obtain ⟨t2, a1, b1⟩ := kk r u T'.heap (locs ++ L) hp (by rw [e1]; exact hB.1) hB.2 k3 T' rfl X'
    exact ⟨t2, st t2 a1, b1⟩
  · exact hq.elim
theorem sv_last (hx : p.tables.exec = Jvm.exec) (hb : c.code = cc) (hK : ap_K D k s) (hP : va_P D CL ws H) (hD : va_D A ws) (hS : va_S A H0 H locs) {f : Nat → Int64} (ha : isOut k ws a f) {x : Int64} (hdg : decode cc pc = .ok (.lastore, 1))
    (kk : ∀ (ws1 : va_W) (H1 : Heap) (locs1 : List Loc) (g : Nat → Int64), va_P D CL ws1 H1 → va_D A ws1 → va_S A H0 H1 locs1 → isOut k ws1 a g → g 0 = x → fr ws ws1 30 30 → W p l e R s m av below meth c H1 locs1 cells slots Q (F0 m (pc + 1) ls rest)) : W p l e R s m av below meth c H locs cells slots Q (F0 m pc ls (.long x :: .int (nI 0) :: .ref a :: rest)) := by
  refine va_last hx hb hK hP hD hS 30 2 ha rfl (vp_in_nI (by decide) (by decide)) hdg (fun H1 locs1 hP1 hD1 hS1 => ?_)
  rw [nI_clamp (by decide)] at hP1 hD1
  exact kk _ H1 locs1 _ hP1 hD1 hS1 (set_at ha) (by unfold vp_updL; simp) fr_set
end ROWSW
