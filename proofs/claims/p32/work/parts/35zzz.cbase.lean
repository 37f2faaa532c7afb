/-! ===== constructors: the world grows at its end ===== -/
theorem psh_fr {ws : va_W} {x : Nat × va_E} {L : Nat} (h : ws.length = L) : fr ws (ws ++ [x]) L L := by
  intro i hi
  rcases hi with hi | hi
  · exact List.getElem?_append_left (by omega)
  · rw [List.getElem?_eq_none (by simp; omega), List.getElem?_eq_none (by omega)]
theorem psh_at {ws : va_W} {x : Nat × va_E} {L : Nat} (h : ws.length = L) : (ws ++ [x])[L]? = some x := by
  subst h; simp
theorem fr_len {ws w1 : va_W} {q L : Nat} {x : Nat × va_E} (f : fr ws w1 q q) (h : ws.length = L) (hq : q < L) (hx : w1[q]? = some x) : w1.length = L := by
  have h1 : w1.length ≤ L := by
    have : w1[L]? = none := (f L (Or.inr hq)).trans (List.getElem?_eq_none (by omega))
    exact List.getElem?_eq_none_iff.mp this
  rcases Nat.lt_or_ge w1.length L with z | z
  · exfalso
    by_cases e : w1.length = q
    · have := (List.getElem?_eq_some_iff.mp hx).1; omega
    · have e1 : w1[w1.length]? = ws[w1.length]? := f _ (by omega)
      rw [List.getElem?_eq_none (Nat.le_refl _), List.getElem?_eq_getElem (by omega)] at e1
      cases e1
  · omega
abbrev NW : Cond := .methodLinkNest RX4 11 yX3_init RX4
def MVN (l : Launch) (y : MethodName) (ws : List Cond) (fr lo mc ms : Nat) (D : va_G) (k : kT) (A : Nat → Prop) (Hs : Heap) (args : List Value) (post : va_W → Prop) : Prop :=
  Met l y ws ({ frames := fr, cells := mc, slots := ms, locals := lo }) (va_Pc args (fun U => U.heap = Hs ∧ ap_K D k U ∧ va_Nw NW U)) (va_Qv (fun (w : va_W) => post w) (fun w t => va_P D CL w t.heap ∧ va_D A w) A) mc ms A
theorem MVN.of {l : Launch} {y : MethodName} {ws ws' : List Cond} {fr lo mc ms : Nat} {D : va_G} {k : kT} {A : Nat → Prop} {Hs : Heap} {args : List Value} {post : va_W → Prop} {cc : ByteArray} {maxL : Nat}
    (hy : plainName y.cls = true) (hw : ws = Cond.code y cc maxL none :: ws') (ha : (lg_sl args).length ≤ maxL)
    (body : ∀ (p : Program) (e : Env) (R : Room) (s : State) (m : MethodId) (av : Array Value) (below : List Frame) (meth : Method) (c : Code) (Q : State → Prop),
      fr ≤ R.frames → lo ≤ R.locals → mc ≤ R.cells → ms ≤ R.slots → p.tables.exec = Jvm.exec → c.code = cc → c.maxLocals = maxL → s.vm.findClass y.cls = some m.cls → meth.name = y.name → (∀ w ∈ ws, w.before av s = true) → ap_K D k s → va_Nw NW s →
      (∀ (pc : Nat) (ls : Array Slot) (w : va_W) (H : Heap) (locs : List Loc), decode cc pc = .ok (.return_, 1) → va_P D CL w H → va_D A w → va_S A Hs H locs → post w → W p l e R s m av below meth c H locs mc ms Q (F0 m pc ls [])) →
      ∀ (ls : Array Slot), lv_has ls maxL (lv_args 0 args) → W p l e R s m av below meth c Hs [] 0 0 Q (F0 m 0 ls [])) : MVN l y ws fr lo mc ms D k A Hs args post := by
  refine Met.ofW (cc := cc) (maxL := maxL) (ret := none) hy hw ?_
  intro p e s m av below meth c s₁ B hml hv
  obtain ⟨rfl, hH, hK, hNW⟩ := hv
  have hts := atoms_spec (ws := ws) B.pre
  have hown : s.vm.findClass y.cls = some m.cls := findClass_of_methodNamed B.named
  have hlocks := B.notSynchronized
  have hr := B.returns
  subst hH
  have hl := lv_entry args (n := maxL) ha
  rw [lg_entry_eq]
  refine body p e _ s m _ below meth c _ (Nat.le_refl _) (Nat.le_refl _) (Nat.le_refl _) (Nat.le_refl _) B.exec B.bytes hml hown (name_of_methodNamed B.named B.method).1 hts hK hNW ?_ _ hl
  intro pc ls w H locs hd hP hD hS hx
  exact W.vret B.exec B.bytes hr (fun t ht hW => ⟨⟨w, rfl, hx, by rw [ht]; exact hP, hD⟩, hS.F ht⟩) hS.2.2 hd
section ROWSC
variable {p : Program} {l : Launch} {e : Env} {R : Room} {s : State} {m : MethodId} {av : Array Value} {below : List Frame} {meth : Method} {c : Code} {H : Heap} {locs : List Loc} {cells slots : Nat} {Q : State → Prop}
variable {cc : ByteArray} {pc : Nat} {ls : Array Slot} {rest st : List Value} {D : va_G} {k : kT} {A : Nat → Prop} {H0 : Heap} {ws : va_W} {a L : Nat}
theorem cv_new (hx : p.tables.exec = Jvm.exec) (hb : c.code = cc) {own C : String} {T : u_T} {N ci index : Nat} {Ts : List Cond} (hts : ∀ w ∈ Ts, w.before av s = true) (hin : ∀ w ∈ u_ws C T N, w ∈ Ts) (ty : Nat → FieldType) (hty : ∀ k, k < N → parseFieldDescriptor (T k).2.2.1 = some (ty k)) (hown : s.vm.findClass own = some m.cls) (hcl : Cond.classLink own index C ∈ Ts) (hinst : Cond.instantiable C N ∈ Ts) (hini : Cond.initialized C ∈ Ts)
    (hK : ap_K D k s) (hP : va_P D CL ws H) (hD : va_D A ws) (hS : va_S A H0 H locs) (hA : ∀ q, H0.size ≤ q → A q) (hlen : ws.length = L) (hc : CL[ci]? = some (C, T, N)) (fs : List Value) (hfs : ∀ j, j < N → defaultValue (ty j) = vp_V fs j) (hcells : cells + 1 ≤ R.cells) (hslots : slots + N ≤ R.slots) (hdg : decode cc pc = .ok (.new index, 3))
    (kk : ∀ (ws1 : va_W) (q : Nat) (H1 : Heap), ws1.length = L + 1 → va_P D CL ws1 H1 → va_D A ws1 → va_S A H0 H1 locs → ws1[L]? = some (q, .inr (ci, fs)) → fr ws ws1 L L →
      W p l e R s m av below meth c H1 locs (cells + 1) (slots + N) Q (F0 m (pc + 3) ls (.ref q :: rest))) : W p l e R s m av below meth c H locs cells slots Q (F0 m pc ls rest) :=
  va_new hx hb hts hin ty hty hown (hts _ hcl) (hts _ hinst) (hts _ hini) hK hP hD hS hA hc hfs hcells hslots hdg (fun q H1 hP1 hD1 hS1 => kk _ q H1 (by rw [List.length_append, hlen]; rfl) hP1 hD1 hS1 (psh_at hlen) (psh_fr hlen))
theorem cv_newI (hx : p.tables.exec = Jvm.exec) (hb : c.code = cc) {Ts : List Cond} (hts : ∀ w ∈ Ts, w.before av s = true) (harr : Cond.arrayClass .int ∈ Ts) (hK : ap_K D k s) (hP : va_P D CL ws H) (hD : va_D A ws) (hS : va_S A H0 H locs) (hA : ∀ q, H0.size ≤ q → A q) (hlen : ws.length = L) {N : Nat} (hN : N < 2 ^ 27) (hcells : cells + 1 ≤ R.cells) (hslots : slots + N ≤ R.slots) (hdg : decode cc pc = .ok (.newarray .int, 2))
    (kk : ∀ (ws1 : va_W) (q : Nat) (H1 : Heap), ws1.length = L + 1 → va_P D CL ws1 H1 → va_D A ws1 → va_S A H0 H1 locs → ws1[L]? = some (q, .inl (k.1, N, .inl (fun _ => nI 0))) → fr ws ws1 L L →
      W p l e R s m av below meth c H1 locs (cells + 1) (slots + N) Q (F0 m (pc + 2) ls (.ref q :: rest))) : W p l e R s m av below meth c H locs cells slots Q (F0 m pc ls (.int (nI N) :: rest)) := by
  refine va_newa (atype := .int) (ty := .int) (N' := N) (a0 := (N, .inl (fun _ => nI 0))) hx hb (hts _ harr) rfl hK hP hD hS hA (fun _ => rfl) (nI_pos (by omega)) (nI_clamp (by omega)) (by show N * 4 ≤ 536870912; omega) hcells hslots hdg (fun q cA H1 hK1 hP1 hD1 hS1 => ?_)
  have e1 : cA = k.1 := Option.some.inj ((va_nm_int (hK1.2 2 _ rfl).2).symm.trans (va_nm_int (hK.2 0 _ rfl).2))
  subst e1
  exact kk _ q H1 (by rw [List.length_append, hlen]; rfl) hP1 hD1 hS1 (psh_at hlen) (psh_fr hlen)
theorem cv_newZ (hx : p.tables.exec = Jvm.exec) (hb : c.code = cc) {Ts : List Cond} (hts : ∀ w ∈ Ts, w.before av s = true) (harr : Cond.arrayClass .boolean ∈ Ts) (hK : ap_K D k s) (hP : va_P D CL ws H) (hD : va_D A ws) (hS : va_S A H0 H locs) (hA : ∀ q, H0.size ≤ q → A q) (hlen : ws.length = L) {N : Nat} (hN : N < 2 ^ 27) (hcells : cells + 1 ≤ R.cells) (hslots : slots + N ≤ R.slots) (hdg : decode cc pc = .ok (.newarray .boolean, 2))
    (kk : ∀ (ws1 : va_W) (q : Nat) (H1 : Heap), ws1.length = L + 1 → va_P D CL ws1 H1 → va_D A ws1 → va_S A H0 H1 locs → ws1[L]? = some (q, .inl (k.2.1, N, .inl (fun _ => bI false))) → fr ws ws1 L L →
      W p l e R s m av below meth c H1 locs (cells + 1) (slots + N) Q (F0 m (pc + 2) ls (.ref q :: rest))) : W p l e R s m av below meth c H locs cells slots Q (F0 m pc ls (.int (nI N) :: rest)) := by
  refine va_newa (atype := .boolean) (ty := .boolean) (N' := N) (a0 := (N, .inl (fun _ => bI false))) hx hb (hts _ harr) rfl hK hP hD hS hA (fun _ => rfl) (nI_pos (by omega)) (nI_clamp (by omega)) (by show N * 1 ≤ 536870912; omega) hcells hslots hdg (fun q cA H1 hK1 hP1 hD1 hS1 => ?_)
  have e1 : cA = k.2.1 := Option.some.inj ((va_nm_boolean (hK1.2 2 _ rfl).2).symm.trans (va_nm_boolean (hK.2 1 _ rfl).2))
  subst e1
  exact kk _ q H1 (by rw [List.length_append, hlen]; rfl) hP1 hD1 hS1 (psh_at hlen) (psh_fr hlen)
theorem cv_putF (hx : p.tables.exec = Jvm.exec) (hb : c.code = cc) {own ref C : String} {T : u_T} {N ci index : Nat} {Ts : List Cond} (hts : ∀ w ∈ Ts, w.before av s = true) (hin : ∀ w ∈ u_ws C T N, w ∈ Ts) (ty0 : Nat → FieldType) (hty : ∀ k, k < N → parseFieldDescriptor (T k).2.2.1 = some (ty0 k)) (hnm : ∀ a, a < N → ∀ b, b < N → a ≠ b → (T a).2.1 ≠ (T b).2.1) (hown : s.vm.findClass own = some m.cls) (hK : ap_K D k s) (hP : va_P D CL ws H) (hD : va_D A ws) (hS0 : va_S A H0 H locs) (hlen : ws.length = L) (q0 : Nat) {fs : List Value} (he : ws[q0]? = some (a, .inr (ci, fs))) (hc : CL[ci]? = some (C, T, N)) (i : Nat) (hk : i < N) (hlink : Cond.fieldLink own index ref (T i).2.1 (T i).2.2.1 ∈ Ts) (hsame : ∀ x, s.fieldFound? (T i).1 (T i).2.1 (T i).2.2.1 = some x → s.fieldFound? ref (T i).2.1 (T i).2.2.1 = some x) (hfin : (T i).2.2.2 = true) (hmn : meth.name = "<init>") (hdecl : (T i).1 = own) (ty : FieldType) {v : Value} (hd : parseFieldDescriptor (T i).2.2.1 = some ty) (hn : narrow ty v = v) (hfit : fits ty v = true) (fs' : List Value) (hl : i < fs.length) (hfs : fs.set i v = fs')
    (hdg : decode cc pc = .ok (.putfield index, 3)) (kk : ∀ (ws1 : va_W) (H1 : Heap) (locs1 : List Loc), ws1.length = L → va_P D CL ws1 H1 → va_D A ws1 → va_S A H0 H1 locs1 → ws1[q0]? = some (a, .inr (ci, fs')) → fr ws ws1 q0 q0 → W p l e R s m av below meth c H1 locs1 cells slots Q (F0 m (pc + 3) ls rest)) : W p l e R s m av below meth c H locs cells slots Q (F0 m pc ls (v :: .ref a :: rest)) := by
  refine va_putF (ty := ty) hx hb hts hin ty0 hty hnm hown hK hP hD hS0 q0 he hc i hk (hts _ hlink) hsame hfin hmn hdecl hd hn hfit hl hdg (fun H1 locs1 hP1 hD1 hS1 => ?_)
  rw [hfs] at hP1 hD1
  exact kk _ H1 locs1 (by rw [List.length_set]; exact hlen) hP1 hD1 hS1 (set_at he) fr_set
theorem mvI {nL : Nat} {As : List Value} {Ts wsy wsy' : List Cond} {own : String} {idx n fr lo mc ms maxL : Nat} {y : MethodName} {bytes : ByteArray} {b : Nat} {post : va_W → Prop}
    (hM : MV l y wsy fr lo mc ms D k A H (.ref b :: As) post) (S : CallFix p m c cc nL s av Ts own) (hK : ap_K D k s) (hg : GoodIn Ts wsy) (hw : wsy = Cond.code y bytes maxL none :: wsy') (hini : Cond.initialized y.cls ∈ Ts) (hlk : Cond.methodLink own idx y ∈ Ts) (hinm : Cond.instanceMethod y ∈ Ts) (hy1 : y.name = "<init>")
    (hd : y.cls ≠ "java/lang/invoke/MethodHandle" ∧ y.cls ≠ "java/lang/invoke/VarHandle" ∧ (parseMethodDescriptor y.desc).map (fun d => d.parameters.length) = some n) (hR : fr + 1 ≤ R.frames ∧ 8 + (maxL + 11) + lo ≤ R.locals)
    (hn : As.length = n) (hls : ls.size = nL) (hst : st = As.reverse ++ .ref b :: rest) (hrm : (rest.map fun v => v.category).sum ≤ 8) (hdg : decode cc pc = .ok (.invokespecial idx, 3)) (hc : cells + mc ≤ R.cells ∧ slots + ms ≤ R.slots) (hS : va_S A H0 H locs)
    (kk : ∀ (w1 : va_W) (H1 : Heap) (locs1 : List Loc), post w1 → va_P D CL w1 H1 → va_D A w1 → va_S A H0 H1 locs1 → W p l e R s m av below meth c H1 locs1 (cells + mc) (slots + ms) Q (F0 m (pc + 3) ls rest)) : W p l e R s m av below meth c H locs cells slots Q (F0 m pc ls st) := by
  subst hst
  have hts := S.2.2.2.2
  refine va_callv (va_runI (As := As) (rest := rest) S hM (cwI n hts hg hw rfl rfl (hts _ hini) (hts _ hlk) (hts _ hinm) hy1 hd hR) ⟨fun a U g mk q => ⟨q.1, q.2.1, va_K.moved (u := U) (U := U.calling g mk a) (Vm.Alike.refl U.vm) q.2.2⟩, fun U hU hW => ⟨rfl, hU, va_K.moved hW.alike hK⟩⟩ rfl hn hls rfl (lv_room hrm) hdg hc) hS (fun q _ h => h) (fun q h => h) (fun u t H1 locs1 ht hvm hw2 hB hz1 hk1 hS1 => ?_)
  rw [ht] at hB
  exact kk u H1 locs1 hw2 hB.1 hB.2 hS1
theorem mvIN {nL : Nat} {As : List Value} {Ts wsy wsy' : List Cond} {own : String} {idx n fr lo mc ms maxL : Nat} {y : MethodName} {bytes : ByteArray} {b : Nat} {post : va_W → Prop}
    (hM : MV l y wsy fr lo mc ms D k A H (.ref b :: As) post) (S : CallFix p m c cc nL s av Ts own) (hK : ap_K D k s) (hg : GoodIn Ts wsy) (hw : wsy = Cond.code y bytes maxL none :: wsy') (hini : Cond.initialized y.cls ∈ Ts) {host : String} (hlk : va_Nw (.methodLinkNest own idx y host) s) (hinm : Cond.instanceMethod y ∈ Ts) (hy1 : y.name = "<init>")
    (hd : y.cls ≠ "java/lang/invoke/MethodHandle" ∧ y.cls ≠ "java/lang/invoke/VarHandle" ∧ (parseMethodDescriptor y.desc).map (fun d => d.parameters.length) = some n) (hR : fr + 1 ≤ R.frames ∧ 8 + (maxL + 11) + lo ≤ R.locals)
    (hn : As.length = n) (hls : ls.size = nL) (hst : st = As.reverse ++ .ref b :: rest) (hrm : (rest.map fun v => v.category).sum ≤ 8) (hdg : decode cc pc = .ok (.invokespecial idx, 3)) (hc : cells + mc ≤ R.cells ∧ slots + ms ≤ R.slots) (hS : va_S A H0 H locs)
    (kk : ∀ (w1 : va_W) (H1 : Heap) (locs1 : List Loc), post w1 → va_P D CL w1 H1 → va_D A w1 → va_S A H0 H1 locs1 → W p l e R s m av below meth c H1 locs1 (cells + mc) (slots + ms) Q (F0 m (pc + 3) ls rest)) : W p l e R s m av below meth c H locs cells slots Q (F0 m pc ls st) := by
  subst hst
  have hts := S.2.2.2.2
  refine va_callv (va_runIN (As := As) (rest := rest) S hM ⟨va_cnB n hts hg hw rfl rfl hlk (hts _ hini) hd hR, hy1, hts _ hinm⟩ ⟨fun a U g mk q => ⟨q.1, q.2.1, va_K.moved (u := U) (U := U.calling g mk a) (Vm.Alike.refl U.vm) q.2.2⟩, fun U hU hW => ⟨rfl, hU, va_K.moved hW.alike hK⟩⟩ rfl hn hls rfl (lv_room hrm) hdg hc) hS (fun q _ h => h) (fun q h => h) (fun u t H1 locs1 ht hvm hw2 hB hz1 hk1 hS1 => ?_)
  rw [ht] at hB
  exact kk u H1 locs1 hw2 hB.1 hB.2 hS1
theorem mvI2 {nL : Nat} {As : List Value} {Ts wsy wsy' : List Cond} {own : String} {idx n fr lo mc ms maxL : Nat} {y : MethodName} {bytes : ByteArray} {b : Nat} {post : va_W → Prop}
    (hNW : va_Nw NW s) (hM : MVN l y wsy fr lo mc ms D k A H (.ref b :: As) post) (S : CallFix p m c cc nL s av Ts own) (hK : ap_K D k s) (hg : GoodIn Ts wsy) (hw : wsy = Cond.code y bytes maxL none :: wsy') (hini : Cond.initialized y.cls ∈ Ts) (hlk : Cond.methodLink own idx y ∈ Ts) (hinm : Cond.instanceMethod y ∈ Ts) (hy1 : y.name = "<init>")
    (hd : y.cls ≠ "java/lang/invoke/MethodHandle" ∧ y.cls ≠ "java/lang/invoke/VarHandle" ∧ (parseMethodDescriptor y.desc).map (fun d => d.parameters.length) = some n) (hR : fr + 1 ≤ R.frames ∧ 8 + (maxL + 11) + lo ≤ R.locals)
    (hn : As.length = n) (hls : ls.size = nL) (hst : st = As.reverse ++ .ref b :: rest) (hrm : (rest.map fun v => v.category).sum ≤ 8) (hdg : decode cc pc = .ok (.invokespecial idx, 3)) (hc : cells + mc ≤ R.cells ∧ slots + ms ≤ R.slots) (hS : va_S A H0 H locs)
    (kk : ∀ (w1 : va_W) (H1 : Heap) (locs1 : List Loc), post w1 → va_P D CL w1 H1 → va_D A w1 → va_S A H0 H1 locs1 → W p l e R s m av below meth c H1 locs1 (cells + mc) (slots + ms) Q (F0 m (pc + 3) ls rest)) : W p l e R s m av below meth c H locs cells slots Q (F0 m pc ls st) := by
  subst hst
  have hts := S.2.2.2.2
  refine va_callv (va_runI (As := As) (rest := rest) S hM (cwI n hts hg hw rfl rfl (hts _ hini) (hts _ hlk) (hts _ hinm) hy1 hd hR) ⟨fun a U g mk q => ⟨q.1, q.2.1, va_K.moved (u := U) (U := U.calling g mk a) (Vm.Alike.refl U.vm) q.2.2.1, va_Nw.warmM (s := U) (U := U.calling g mk a) (State.WarmedH.refl U) q.2.2.2⟩, fun U hU hW => ⟨rfl, hU, va_K.moved hW.alike hK, va_Nw.warmM hW hNW⟩⟩ rfl hn hls rfl (lv_room hrm) hdg hc) hS (fun q _ h => h) (fun q h => h) (fun u t H1 locs1 ht hvm hw2 hB hz1 hk1 hS1 => ?_)
  rw [ht] at hB
  exact kk u H1 locs1 hw2 hB.1 hB.2 hS1
end ROWSC
