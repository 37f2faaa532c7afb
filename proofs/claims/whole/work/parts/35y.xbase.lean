/-! ===== methods that throw: what a throw needs, contracts, rows ===== -/
def STR : List (Nat × String) := [(49, "there are 8 parts"), (140, "more than 7 parts"), (150, "no such place, or no order is possible"), (155, "jams are 0 to 5"), (161, "no order is possible"), (169, "not begun, or all parts are in"), (177, "not begun, or no part is in"), (201, "no such part"), (203, "no such direction"), (205, "tools are 0 to 3"), (207, "both parts are the same"), (209, "no parts, or parts that there are not"), (211, "the set has not this part"), (213, "there are no parts")]
abbrev NM : List String := ["java/lang/RuntimeException", "java/lang/Exception"]
abbrev EXA : String := "java/lang/IllegalArgumentException"
abbrev EXS : String := "java/lang/IllegalStateException"
abbrev EXI : String := "java/lang/IndexOutOfBoundsException"
def XDC (U : State) : Prop := va_Nw (.declares (Bundle.initS "java/lang/RuntimeException")) U ∧ va_Nw (.declares (Bundle.initS "java/lang/Exception")) U ∧ va_Nw (.declares (Bundle.initS Bundle.tN)) U
theorem XDC.warm {s U : State} (hW : s.WarmedH U.vm) (h : XDC s) : XDC U := ⟨va_Nw.warmD hW h.1, va_Nw.warmD hW h.2.1, va_Nw.warmD hW h.2.2⟩
def XE (A : Nat → Prop) (U : State) (H : Heap) : Prop := (va_Nw (.castable EXA EXA) U ∧ va_Nw (.castable EXS EXS) U ∧ va_Nw (.castable EXI EXI) U) ∧ XDC U ∧ vx_Zq Bundle.tN "UNASSIGNED_STACK" Bundle.steD A U H ∧ vx_Zq Bundle.tN "SUPPRESSED_SENTINEL" Bundle.listD A U H ∧ ∀ x ∈ STR, ∃ sa, vk_R RX4 x.1 x.2 sa U
theorem XE.warm {A : Nat → Prop} {s U : State} {H : Heap} (hW : s.WarmedH U.vm) (h : XE A s H) : XE A U H := ⟨⟨va_Nw.warmC hW h.1.1, va_Nw.warmC hW h.1.2.1, va_Nw.warmC hW h.1.2.2⟩, XDC.warm hW h.2.1, vx_Zq.moved hW.alike h.2.2.1, vx_Zq.moved hW.alike h.2.2.2.1, fun x hx => by obtain ⟨sa, z⟩ := h.2.2.2.2 x hx; exact ⟨sa, vk_R.warm hW z⟩⟩
theorem XE.kept {A : Nat → Prop} {U : State} {H H1 : Heap} (h : XE A U H) (hq : ∀ a : Nat, a < H.size → ¬ A a → H1[a]? = H[a]?) : XE A U H1 := ⟨h.1, h.2.1, h.2.2.1.kept hq, h.2.2.2.1.kept hq, h.2.2.2.2⟩
theorem xnb_A : ∀ w ∈ (vx_atS RX4 157 EXA NM).filter (fun w => !goodWord w), w ∈ [Cond.castable EXA EXA, Cond.declares (Bundle.initS "java/lang/RuntimeException"), Cond.declares (Bundle.initS "java/lang/Exception"), Cond.declares (Bundle.initS Bundle.tN)] := by decide +kernel
theorem xgd_A : ∀ w ∈ Cond.classLink RX4 153 EXA :: Cond.initialized EXA :: vx_atS RX4 157 EXA NM, vx_ot w = true := by decide +kernel
theorem xft_A : Bundle.fit EXA = true ∧ ∀ n ∈ NM, Bundle.fit n = true := by decide +kernel
theorem xnb_S : ∀ w ∈ (vx_atS RX4 51 EXS NM).filter (fun w => !goodWord w), w ∈ [Cond.castable EXS EXS, Cond.declares (Bundle.initS "java/lang/RuntimeException"), Cond.declares (Bundle.initS "java/lang/Exception"), Cond.declares (Bundle.initS Bundle.tN)] := by decide +kernel
theorem xgd_S : ∀ w ∈ Cond.classLink RX4 47 EXS :: Cond.initialized EXS :: vx_atS RX4 51 EXS NM, vx_ot w = true := by decide +kernel
theorem xft_S : Bundle.fit EXS = true ∧ ∀ n ∈ NM, Bundle.fit n = true := by decide +kernel
theorem xnb_I : ∀ w ∈ (vx_atS RX4 152 EXI NM).filter (fun w => !goodWord w), w ∈ [Cond.castable EXI EXI, Cond.declares (Bundle.initS "java/lang/RuntimeException"), Cond.declares (Bundle.initS "java/lang/Exception"), Cond.declares (Bundle.initS Bundle.tN)] := by decide +kernel
theorem xgd_I : ∀ w ∈ Cond.classLink RX4 148 EXI :: Cond.initialized EXI :: vx_atS RX4 152 EXI NM, vx_ot w = true := by decide +kernel
theorem xft_I : Bundle.fit EXI = true ∧ ∀ n ∈ NM, Bundle.fit n = true := by decide +kernel
def XU (l : Launch) (y : MethodName) (ws : List Cond) (fr lo : Nat) (D : va_G) (k : kT) (A : Nat → Prop) (Hs : Heap) (args : List Value) (E : String) (post : va_W → Prop) : Prop :=
  vx_Met l y ws ({ frames := fr, cells := 1, slots := 6, locals := lo }) (va_Pc args (fun U => U.heap = Hs ∧ ap_K D k U ∧ XE A U Hs)) (fun _ _ _ _ => False) (vx_X (fun w : va_W => post w) (fun E' w t => E' = E ∧ va_P D CL w t.heap ∧ va_D A w) A) 1 6 A
theorem XU.of {l : Launch} (hst : l.stackTraces = false) {y : MethodName} {ws ws' : List Cond} {fr lo : Nat} {D : va_G} {k : kT} {A : Nat → Prop} {Hs : Heap} {args : List Value} {E : String} {post : va_W → Prop} {cc : ByteArray} {maxL : Nat} {ret : Option FieldType}
    (hy : plainName y.cls = true) (hcls : y.cls = RX4) (hw : ws = Cond.code y cc maxL ret :: ws') (ha : (lg_sl args).length ≤ maxL)
    (body : ∀ (p : Program) (e : Env) (R : Room) (s : State) (m : MethodId) (av : Array Value) (below : List Frame) (meth : Method) (c : Code) (Q : State → Prop),
      fr ≤ R.frames → lo ≤ R.locals → 1 ≤ R.cells → 6 ≤ R.slots → p.tables.exec = Jvm.exec → c.code = cc → c.maxLocals = maxL → s.vm.findClass y.cls = some m.cls → (∀ w ∈ ws, w.before av s = true) → ap_K D k s → XE A s Hs →
      (∀ (pc : Nat) (ls : Array Slot) (rest : List Value) (w : va_W) (H : Heap) (locs : List Loc) (q : Nat) (ce : Cell), va_P D CL w H → va_D A w → va_S A Hs H locs → post w → H[q]? = some ce → ce.vm = .none → s.vm.findClass E = some ce.cls → vx_W p l e R s m av below meth c H locs 1 6 Q (F0 m pc ls rest) q) →
      (∀ (ik is ic : Nat) (text : String) (pc : Nat) (ls : Array Slot) (w : va_W) (H : Heap) (locs : List Loc), Bundle.fit E = true ∧ (∀ n ∈ NM, Bundle.fit n = true) → Cond.classLink RX4 ik E ∈ ws → Cond.initialized E ∈ ws → (∀ w ∈ (vx_atS RX4 ic E NM).filter goodWord, w ∈ ws) → (∀ w ∈ (vx_atS RX4 ic E NM).filter (fun w => !goodWord w), w ∈ [Cond.castable E E, Cond.declares (Bundle.initS "java/lang/RuntimeException"), Cond.declares (Bundle.initS "java/lang/Exception"), Cond.declares (Bundle.initS Bundle.tN)]) → va_Nw (.castable E E) s → (∀ w ∈ Cond.classLink RX4 ik E :: Cond.initialized E :: vx_atS RX4 ic E NM, vx_ot w = true) → (is, text) ∈ STR →
        decode cc pc = .ok (.new ik, 3) → decode cc (pc + 3) = .ok (.dup, 1) → decode cc (pc + 4) = .ok (.ldc is, 2) → decode cc (pc + 6) = .ok (.invokespecial ic, 3) → decode cc (pc + 9) = .ok (.athrow, 1) → 5 < R.frames → 82 ≤ R.locals → ls.size = maxL →
        va_P D CL w H → va_D A w → va_S A Hs H locs → post w → W p l e R s m av below meth c H locs 0 0 Q (F0 m pc ls [])) →
      ∀ (ls : Array Slot), lv_has ls maxL (lv_args 0 args) → W p l e R s m av below meth c Hs [] 0 0 Q (F0 m 0 ls [])) : XU l y ws fr lo D k A Hs args E post := by
  refine vx_ofW (cc := cc) (maxL := maxL) (ret := ret) hy hw ?_
  intro p e s m av below meth c s₁ B hml htab hv
  obtain ⟨rfl, hH, hK, hXE⟩ := hv
  have hts := atoms_spec (ws := ws) B.pre
  have hown : s.vm.findClass y.cls = some m.cls := findClass_of_methodNamed B.named
  have hlocks := B.notSynchronized
  subst hH
  have hl := lv_entry args (n := maxL) ha
  rw [lg_entry_eq]
  refine body p e _ s m _ below meth c _ (Nat.le_refl _) (Nat.le_refl _) (Nat.le_refl _) (Nat.le_refl _) B.exec B.bytes hml hown hts hK hXE ?_ ?_ _ hl
  · intro pc ls rest w H locs q ce hP hD hS hp hq hv hcl
    exact vx_out (fun x hx => (htab x hx).elim) hlocks hq hv hcl (fun t ht hW => ⟨w, hp, ⟨rfl, by rw [ht]; exact hP, hD⟩, hS.F ht⟩) hS.2.2 (Nat.le_refl _) (Nat.le_refl _)
  · intro ik is ic text pc ls w H locs hft hck hini hgw hnb hcst hgd hmem d0 d3 d4 d6 d9 hf hlo hls hP hD hS hp
    obtain ⟨sa, hsa⟩ := hXE.2.2.2.2 _ hmem
    refine vx_throwS (own := RX4) (cls := E) (text := text) (names := NM) (ik := ik) (is := is) (ic := ic) (A := A) (sa := sa) B.exec B.bytes hst (by rw [← hcls]; exact hown) hft.1 hft.2 (hts _ hck) (hts _ hini) hsa (vx_hat (fun w h => hts _ (hgw w h)) hnb (vx_c (va_Nw.use rfl hcst) (vx_c (va_Nw.use rfl hXE.2.1.1) (vx_c (va_Nw.use rfl hXE.2.1.2.1) (vx_c (va_Nw.use rfl hXE.2.1.2.2) vx_n))))) hgd hXE.2.2.1 hXE.2.2.2.1 hS (hls.trans hml.symm) d0 d3 d4 d6 d9 (fun x hx => (htab x hx).elim) hf hlo (Nat.le_refl _) (Nat.le_refl _) hlocks (fun t hW hz hq => ?_) hS.2.2 (Nat.le_refl _) (Nat.le_refl _)
    exact ⟨w, hp, ⟨rfl, hP.kept (fun k q hk => hq _ (vx_lt hP hk)), hD⟩, Nat.le_trans hS.1 hz, fun q h1 h2 => (hq q (Nat.lt_of_lt_of_le h1 hS.1)).trans (hS.2.1 q h1 h2)⟩
section ROWSX
variable {p : Program} {l : Launch} {e : Env} {R : Room} {s : State} {m : MethodId} {av : Array Value} {below : List Frame} {meth : Method} {c : Code} {H : Heap} {locs : List Loc} {cells slots : Nat} {Q : State → Prop}
variable {cc : ByteArray} {pc : Nat} {ls : Array Slot} {rest st : List Value} {D : va_G} {k : kT} {A : Nat → Prop} {H0 : Heap}
theorem xcV {nL : Nat} {As : List Value} {Ts wsy wsy' : List Cond} {own C : String} {idx n fr lo maxL : Nat} {y : MethodName} {bytes : ByteArray} {ret : Option FieldType} {b : Nat} {E : String} {post : va_W → Prop}
    (hM : XU l y wsy fr lo D k A H (.ref b :: As) E post) (S : CallFix p m c cc nL s av Ts own) (hK : ap_K D k s) (hXE : XE A s H0) (hg : GoodIn Ts (wsV own idx C y wsy)) (hw : wsy = Cond.code y bytes maxL ret :: wsy')
    (hd : y.cls = C ∧ y.cls ≠ "java/lang/invoke/MethodHandle" ∧ y.cls ≠ "java/lang/invoke/VarHandle" ∧ (parseMethodDescriptor y.desc).map (fun d => d.parameters.length) = some n) (hR : fr + 1 ≤ R.frames ∧ 8 + (maxL + 11) + lo ≤ R.locals)
    (hrecv : ∃ cell : Cell, H[b]? = some cell ∧ cell.vm.isStatics = false ∧ s.vm.findClass C = some cell.cls)
    (hn : As.length = n) (hls : ls.size = nL) (hst : st = As.reverse ++ .ref b :: rest) (hrm : (rest.map fun v => v.category).sum ≤ 8) (hdg : decode cc pc = .ok (.invokevirtual idx, 3)) (hc : cells + 1 ≤ R.cells ∧ slots + 6 ≤ R.slots) (hS : va_S A H0 H locs)
    (kk : ∀ (w1 : va_W) (H1 : Heap) (locs1 : List Loc) (q9 : Nat) (ce : Cell), post w1 → va_P D CL w1 H1 → va_D A w1 → va_S A H0 H1 locs1 → H1[q9]? = some ce → ce.vm = .none → s.vm.findClass E = some ce.cls → vx_W p l e R s m av below meth c H1 locs1 (cells + 1) (slots + 6) Q (F0 m pc ls rest) q9) : W p l e R s m av below meth c H locs cells slots Q (F0 m pc ls st) := by
  subst hst
  have hXH : XE A s H := hXE.kept (fun a h1 h2 => hS.2.1 a h1 h2)
  have hr := vx_runV (p := p) (l := l) (e := e) (below := below) (meth := meth) (As := As) (rest := rest) (g := F0 m pc ls (As.reverse ++ .ref b :: rest)) (H := H) (locs := locs) (cells := cells) (slots := slots) S hM (cwV n S.2.2.2.2 hg hw rfl rfl hd hR) ⟨fun a U g mk q => ⟨q.1, q.2.1, va_K.moved (u := U) (U := U.calling g mk a) (Vm.Alike.refl U.vm) q.2.2.1, XE.warm (s := U) (U := U.calling g mk a) (State.WarmedH.refl U) q.2.2.2⟩, hrecv, fun U hU hW => ⟨rfl, hU, va_K.moved hW.alike hK, XE.warm hW hXH⟩⟩ rfl hn hls rfl (lv_room hrm) hdg hc
  intro T hT X
  rcases hr T hT X with ⟨v, st₀, t, T', L, h0, X', hL, e1, e2, hq, -⟩ | ⟨q, st₀, t, T', L, E', ce, h0, X', hL, e1, e2, ⟨u, hp, ⟨hE, hP, hD⟩, hF⟩, hce, hcv, hcl, st⟩
  · exact hq.elim
  · subst hE
    obtain ⟨k1, k2, k3⟩ := vx_keep h0 e1 hS (fun q _ h => h) (fun q h => h) hL hF
    obtain ⟨t2, a1, b1⟩ := kk u T'.heap (locs ++ L) q ce hp (by rw [e1]; exact hP) hD k3 (by rw [e1]; exact hce) hcv hcl T' rfl X'
    exact ⟨t2, st.trans a1, b1⟩
end ROWSX
