/-! ===== methods that throw: what a throw needs, contracts, rows ===== -/
def STR : List (Nat × String) := [(49, "there are 8 parts"), (140, "more than 7 parts"), (150, "no such place, or no order is possible"), (155, "jams are 0 to 5"), (161, "no order is possible"), (169, "not begun, or all parts are in"), (177, "not begun, or no part is in"), (201, "no such part"), (203, "no such direction"), (205, "tools are 0 to 3"), (207, "both parts are the same"), (209, "no parts, or parts that there are not"), (211, "the set has not this part"), (213, "there are no parts")]
abbrev NM : List String := ["java/lang/RuntimeException", "java/lang/Exception"]
abbrev EXA : String := "java/lang/IllegalArgumentException"
abbrev EXS : String := "java/lang/IllegalStateException"
abbrev EXI : String := "java/lang/IndexOutOfBoundsException"
def XDC (U : State) : Prop := va_Nw (.declares (Bundle.initS "java/lang/RuntimeException")) U ∧ va_Nw (.declares (Bundle.initS "java/lang/Exception")) U ∧ va_Nw (.declares (Bundle.initS Bundle.tN)) U
def XE (A : Nat → Prop) (U : State) (H : Heap) : Prop := (va_Nw (.castable EXA EXA) U ∧ va_Nw (.castable EXS EXS) U ∧ va_Nw (.castable EXI EXI) U) ∧ XDC U ∧ vx_Zq Bundle.tN "UNASSIGNED_STACK" Bundle.steD A U H ∧ vx_Zq Bundle.tN "SUPPRESSED_SENTINEL" Bundle.listD A U H ∧ ∀ x ∈ STR, ∃ sa, vk_R RX4 x.1 x.2 sa U
theorem XE.kept {A : Nat → Prop} {U : State} {H H1 : Heap} (h : XE A U H) (hq : ∀ a : Nat, a < H.size → ¬ A a → H1[a]? = H[a]?) : XE A U H1 := ⟨h.1, h.2.1, h.2.2.1.kept hq, h.2.2.2.1.kept hq, h.2.2.2.2⟩
def XU (l : Launch) (y : MethodName) (ws : List Cond) (fr lo : Nat) (D : va_G) (k : kT) (A : Nat → Prop) (Hs : Heap) (args : List Value) (E : String) (post : va_W → Prop) : Prop :=
  vx_Met l y ws ({ frames := fr, cells := 1, slots := 6, locals := lo }) (va_Pc args (fun U => U.heap = Hs ∧ ap_K D k U ∧ XE A U Hs)) (fun _ _ _ _ => False) (vx_X (fun w : va_W => post w) (fun E' w t => E' = E ∧ va_P D CL w t.heap ∧ va_D A w) A) 1 6 A
theorem XU.of {l : Launch} (hst : l.stackTraces = false) {y : MethodName} {ws ws' : List Cond} {fr lo : Nat} {D : va_G} {k : kT} {A : Nat → Prop} {Hs : Heap} {args : List Value} {E : String} {post : va_W → Prop} {cc : ByteArray} {maxL : Nat} {ret : Option FieldType}
    (hy : plainName y.cls = true) (hcls : y.cls = RX4) (hw : ws = Cond.code y cc maxL ret :: ws') (ha : (lg_sl args).length ≤ maxL)
    (body : ∀ (p : Program) (e : Env) (R : Room) (s : State) (m : MethodId) (av : Array Value) (below : List Frame) (meth : Method) (c : Code) (Q : State → Prop),
      fr ≤ R.frames → lo ≤ R.locals → 1 ≤ R.cells → 6 ≤ R.slots → p.tables.exec = Jvm.exec → c.code = cc → c.maxLocals = maxL → s.vm.findClass y.cls = some m.cls → (∀ w ∈ ws, w.before av s = true) → ap_K D k s → XE A s Hs →
      (∀ (pc : Nat) (ls : Array Slot) (rest : List Value) (w : va_W) (H : Heap) (locs : List Loc) (q : Nat) (ce : Cell), va_P D CL w H → va_D A w → va_S A Hs H locs → post w → H[q]? = some ce → ce.vm = .none → s.vm.findClass E = some ce.cls → vx_W p l e R s m av below meth c H locs 1 6 Q (F0 m pc ls rest) q) →
      (∀ (ik is ic : Nat) (text : String) (pc : Nat) (ls : Array Slot) (w : va_W) (H : Heap) (locs : List Loc), Bundle.fit E = true ∧ (∀ n ∈ NM, Bundle.fit n = true) → Cond.classLink RX4 ik E ∈ ws → Cond.initialized E ∈ ws → (∀ w ∈ (vx_atS RX4 ic E NM).filter goodWord, w ∈ ws) → (∀ w ∈ (vx_atS RX4 ic E NM).filter (fun w => !goodWord w), w ∈ [Cond.castable E E, Cond.declares (Bundle.initS "java/lang/RuntimeException"), Cond.declares (Bundle.initS "java/lang/Exception"), Cond.declares (Bundle.initS Bundle.tN)]) → va_Nw (.castable E E) s → (∀ w ∈ Cond.classLink RX4 ik E :: Cond.initialized E :: vx_atS RX4 ic E NM, vx_ot w = true) → (is, text) ∈ STR →
        decode cc pc = .ok (.new ik, 3) → decode cc (pc + 3) = .ok (.dup, 1) → decode cc (pc + 4) = .ok (.ldc is, 2) → decode cc (pc + 6) = .ok (.invokespecial ic, 3) → decode cc (pc + 9) = .ok (.athrow, 1) → 5 < R.frames → 82 ≤ R.locals → ls.size = maxL →
        va_P D CL w H → va_D A w → va_S A Hs H locs → post w → W p l e R s m av below meth c H locs 0 0 Q (F0 m pc ls [])) →
      ∀ (ls : Array Slot), lv_has ls maxL (lv_args 0 args) → W p l e R s m av below meth c Hs [] 0 0 Q (F0 m 0 ls [])) : XU l y ws fr lo D k A Hs args E post := by
  refine vx_ofW (cc := cc) (maxL := maxL) (ret := ret) hy hw ?_
  intro p e s m av below meth c s₁ B hml htab hv
  obtain ⟨rfl, hH, hK, hXE⟩ := hv
  have hts := atoms_spec (ws := ws) B.pre
  have hown : s.vm.findClass y.cls = some m.cls := findClass_of_methodNamed B.named
  have hlocks := B.notSynchronized
  subst hH
  have hl := lv_entry args (n := maxL) ha
  rw [lg_entry_eq]
  refine body p e _ s m _ below meth c _ (Nat.le_refl _) (Nat.le_refl _) (Nat.le_refl _) (Nat.le_refl _) B.exec B.bytes hml hown hts hK hXE ?_ ?_ _ hl
  · intro pc ls rest w H locs q ce hP hD hS hp hq hv hcl
    exact vx_out (fun x hx => (htab x hx).elim) hlocks hq hv hcl (fun t ht hW => ⟨w, hp, ⟨rfl, by rw [ht]; exact hP, hD⟩, hS.F ht⟩) hS.2.2 (Nat.le_refl _) (Nat.le_refl _)
  · intro ik is ic text pc ls w H locs hft hck hini hgw hnb hcst hgd hmem d0 d3 d4 d6 d9 hf hlo hls hP hD hS hp
    obtain ⟨sa, hsa⟩ := hXE.2.2.2.2 _ hmem
    refine vx_throwS (own := RX4) (cls := E) (text := text) (names := NM) (ik := ik) (is := is) (ic := ic) (A := A) (sa := sa) B.exec B.bytes hst (by rw [← hcls]; exact hown) hft.1 hft.2 (hts _ hck) (hts _ hini) hsa (vx_hat (fun w h => hts _ (hgw w h)) hnb (vx_c (va_Nw.use rfl hcst) (vx_c (va_Nw.use rfl hXE.2.1.1) (vx_c (va_Nw.use rfl hXE.2.1.2.1) (vx_c (va_Nw.use rfl hXE.2.1.2.2) vx_n))))) hgd hXE.2.2.1 hXE.2.2.2.1 hS (hls.trans hml.symm) d0 d3 d4 d6 d9 (fun x hx => (htab x hx).elim) hf hlo (Nat.le_refl _) (Nat.le_refl _) hlocks (fun t hW hz hq => ?_) hS.2.2 (Nat.le_refl _) (Nat.le_refl _)
    exact ⟨w, hp, ⟨rfl, hP.kept (fun k q hk => hq _ (vx_lt hP hk)), hD⟩, Nat.le_trans hS.1 hz, fun q h1 h2 => (hq q (Nat.lt_of_lt_of_le h1 hS.1)).trans (hS.2.1 q h1 h2)⟩
section ROWSX
variable {p : Program} {l : Launch} {e : Env} {R : Room} {s : State} {m : MethodId} {av : Array Value} {below : List Frame} {meth : Method} {c : Code} {H : Heap} {locs : List Loc} {cells slots : Nat} {Q : State → Prop}
variable {cc : ByteArray} {pc : Nat} {ls : Array Slot} {rest st : List Value} {D : va_G} {k : kT} {A : Nat → Prop} {H0 : Heap}
end ROWSX
