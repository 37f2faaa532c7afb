/-! ===== the law's methods: rows over numbers, calls, the picture that they share ===== -/
theorem nz_N {d : Nat} (h0 : 0 < d) (hd : d < 2 ^ 31) : ¬ nI d = 0 := fun q => by
  have := (nI_0I hd).mp q
  omega
/-- what a product of the law keeps -/
def LR (n : Nat) (T C Hd : Nat → Nat) (b : Nat) (J K : Nat → Nat) : Prop := PI0 n C Hd b ∧ n ≤ 6 ∧ (∀ p, T p < 4) ∧ (∀ i, J i ≤ 5) ∧ ∀ i, K i ≤ 2
theorem AP.at0 {k : kT} {ws : va_W} {h n : Nat} {T C Hd : Nat → Nat} {b : Nat} {q : Bool} {J : Nat → Nat} {bg : Bool} {pi bu : Nat} {tm tl : Int32} {K : Nat → Nat} (P : AP k ws h n T C Hd b q J bg pi bu tm tl K) : ∃ fs : List Value, ws[0]? = some (h, .inr (4, fs)) := by
  obtain ⟨hp, ht, a4, a5, a6, a7, ho, b1, b2, b3, b4, b5, hc, j1, j2, g0, -⟩ := P
  exact ⟨_, g0⟩
theorem PI0_add {n : Nat} {C Hd : Nat → Nat} {b : Nat} (h : PI0 n C Hd b) (hn : n < 8) : PI0 (n + 1) C Hd b := by
  obtain ⟨-, h2, h3, h4, h5⟩ := h
  have h6 : 2 ^ n ≤ 2 ^ (n + 1) := Nat.pow_le_pow_right (by decide) (by omega)
  exact ⟨hn, h2, fun i => Nat.lt_of_lt_of_le (h3 i) h6, fun i => Nat.lt_of_lt_of_le (h4 i) h6, h5⟩
theorem PI0_base {n : Nat} {C Hd : Nat → Nat} {b p : Nat} (h : PI0 n C Hd b) (hp : p < 8) : PI0 n C Hd p := ⟨h.1, hp, h.2.2.1, h.2.2.2.1, h.2.2.2.2⟩
theorem p2_64 {n : Nat} (h : n ≤ 6) : 2 ^ n ≤ 64 := Nat.pow_le_pow_right (by decide) h
def PX (l : Launch) (y : MethodName) (ws : List Cond) (fr lo b L : Nat) (xs : Nat → Int32) (Hs : Heap) (args : List Value) (v : Int32) : Prop :=
  Met l y ws ({ frames := fr, cells := 0, slots := 0, locals := lo }) (va_Pc args (fun U => U.heap = Hs ∧ va_X b L xs U Hs)) (va_Qi (fun (r : Int32) (_ : Unit) => r = v) (fun _ t => t.heap = Hs) (fun _ => False)) 0 0 (fun _ => False)
theorem PX.of {l : Launch} {y : MethodName} {ws ws' : List Cond} {fr lo b L : Nat} {xs : Nat → Int32} {Hs : Heap} {args : List Value} {v : Int32} {cc : ByteArray} {maxL : Nat} {ty : FieldType}
    (hy : plainName y.cls = true) (hw : ws = Cond.code y cc maxL (some ty) :: ws') (hn : narrow ty (.int v) = .int v) (ha : (lg_sl args).length ≤ maxL)
    (body : ∀ (p : Program) (e : Env) (R : Room) (s : State) (m : MethodId) (av : Array Value) (below : List Frame) (meth : Method) (c : Code) (Q : State → Prop),
      fr ≤ R.frames → lo ≤ R.locals → p.tables.exec = Jvm.exec → c.code = cc → c.maxLocals = maxL → s.vm.findClass y.cls = some m.cls → (∀ w ∈ ws, w.before av s = true) → va_X b L xs s Hs →
      (∀ (pc : Nat) (ls : Array Slot) (locs : List Loc) (x : Int32), decode cc pc = .ok (.ireturn, 1) → va_S (fun _ => False) Hs Hs locs → x = v → W p l e R s m av below meth c Hs locs 0 0 Q (F0 m pc ls [.int x])) →
      ∀ (ls : Array Slot), lv_has ls maxL (lv_args 0 args) → W p l e R s m av below meth c Hs [] 0 0 Q (F0 m 0 ls [])) : PX l y ws fr lo b L xs Hs args v := by
  refine Met.ofW (cc := cc) (maxL := maxL) (ret := some ty) hy hw ?_
  intro p e s m av below meth c s₁ B hml hv
  obtain ⟨rfl, hH, hX⟩ := hv
  have hts := atoms_spec (ws := ws) B.pre
  have hown : s.vm.findClass y.cls = some m.cls := findClass_of_methodNamed B.named
  have hlocks := B.notSynchronized
  have hr := B.returns
  subst hH
  have hl := lv_entry args (n := maxL) ha
  rw [lg_entry_eq]
  refine body p e _ s m _ below meth c _ (Nat.le_refl _) (Nat.le_refl _) B.exec B.bytes hml hown hts hX ?_ _ hl
  intro pc ls locs x hd hS hx
  subst hx
  exact W.zret B.exec B.bytes hr hn (fun t ht hW => ⟨⟨x, (), rfl, rfl, ht⟩, hS.F ht⟩) hS.2.2 hd
section ROWSL
variable {p : Program} {l : Launch} {e : Env} {R : Room} {s : State} {m : MethodId} {av : Array Value} {below : List Frame} {meth : Method} {c : Code} {H : Heap} {locs : List Loc} {cells slots : Nat} {Q : State → Prop}
variable {cc : ByteArray} {pc : Nat} {ls : Array Slot} {rest st : List Value} {D : va_G} {k : kT} {A : Nat → Prop} {H0 : Heap}
theorem sn_irem (hx : p.tables.exec = Jvm.exec) (hb : c.code = cc) {a d : Nat} (ha : a < 2 ^ 31) (h0 : 0 < d) (hd : d < 2 ^ 31) (hdg : decode cc pc = .ok (.irem, 1))
    (kk : W p l e R s m av below meth c H locs cells slots Q (F0 m (pc + 1) ls (.int (nI (a % d)) :: rest))) : W p l e R s m av below meth c H locs cells slots Q (F0 m pc ls (.int (nI d) :: .int (nI a) :: rest)) := by
  refine lv_irem hx hb hdg (nz_N h0 hd) ?_
  rw [pk_rem ha h0 hd]; exact kk
theorem sn_idiv (hx : p.tables.exec = Jvm.exec) (hb : c.code = cc) {a d : Nat} (ha : a < 2 ^ 31) (h0 : 0 < d) (hd : d < 2 ^ 31) (hdg : decode cc pc = .ok (.idiv, 1))
    (kk : W p l e R s m av below meth c H locs cells slots Q (F0 m (pc + 1) ls (.int (nI (a / d)) :: rest))) : W p l e R s m av below meth c H locs cells slots Q (F0 m pc ls (.int (nI d) :: .int (nI a) :: rest)) := by
  refine lv_idiv hx hb hdg (nz_N h0 hd) ?_
  rw [pk_div ha h0 hd]; exact kk
theorem mcS {nL : Nat} {As : List Value} {Ts wsy wsy' : List Cond} {own : String} {idx n fr lo mc ms maxL : Nat} {y : MethodName} {bytes : ByteArray} {ty : FieldType} {post : Int32 → va_W → Prop}
    (hM : MU l y wsy fr lo mc ms D k A H As post) (S : CallFix p m c cc nL s av Ts own) (hK : ap_K D k s) (hg : GoodIn Ts (va_wsS own idx y wsy)) (hw : wsy = Cond.code y bytes maxL (some ty) :: wsy')
    (hd : y.cls ≠ "java/lang/invoke/MethodHandle" ∧ y.cls ≠ "java/lang/invoke/VarHandle" ∧ (parseMethodDescriptor y.desc).map (fun d => d.parameters.length) = some n) (hR : fr + 1 ≤ R.frames ∧ 8 + (maxL + 11) + lo ≤ R.locals)
    (hn : As.length = n) (hls : ls.size = nL) (hst : st = As.reverse ++ rest) (hrm : (rest.map fun v => v.category).sum ≤ 8) (hdg : decode cc pc = .ok (.invokestatic idx, 3)) (hc : cells + mc ≤ R.cells ∧ slots + ms ≤ R.slots) (hS : va_S A H0 H locs)
    (kk : ∀ (r : Int32) (w1 : va_W) (H1 : Heap) (locs1 : List Loc), post r w1 → va_P D CL w1 H1 → va_D A w1 → va_S A H0 H1 locs1 → W p l e R s m av below meth c H1 locs1 (cells + mc) (slots + ms) Q (F0 m (pc + 3) ls (.int r :: rest))) : W p l e R s m av below meth c H locs cells slots Q (F0 m pc ls st) := by
  subst hst
  refine va_calli (va_runS (As := As) (rest := rest) S hM (va_cwS n S.2.2.2.2 hg hw rfl rfl hd hR) ⟨fun a U g mk q => ⟨q.1, q.2.1, va_K.moved (u := U) (U := U.calling g mk a) (Vm.Alike.refl U.vm) q.2.2⟩, fun U hU hW => ⟨rfl, hU, va_K.moved hW.alike hK⟩⟩ rfl hn hls rfl (lv_room hrm) hdg hc) hS (fun q _ h => h) (fun q h => h) (fun r u t H1 locs1 ht hvm hw2 hB hz1 hk1 hS1 => ?_)
  rw [ht] at hB
  exact kk r u H1 locs1 hw2 hB.1 hB.2 hS1
theorem xcS {nL : Nat} {As : List Value} {Ts wsy wsy' : List Cond} {own : String} {idx n fr lo maxL b L : Nat} {xs : Nat → Int32} {y : MethodName} {bytes : ByteArray} {ty : FieldType} {v : Int32}
    (hM : PX l y wsy fr lo b L xs H As v) (S : CallFix p m c cc nL s av Ts own) (hX : va_X b L xs s H) (hg : GoodIn Ts (va_wsS own idx y wsy)) (hw : wsy = Cond.code y bytes maxL (some ty) :: wsy')
    (hd : y.cls ≠ "java/lang/invoke/MethodHandle" ∧ y.cls ≠ "java/lang/invoke/VarHandle" ∧ (parseMethodDescriptor y.desc).map (fun d => d.parameters.length) = some n) (hR : fr + 1 ≤ R.frames ∧ 8 + (maxL + 11) + lo ≤ R.locals)
    (hn : As.length = n) (hls : ls.size = nL) (hst : st = As.reverse ++ rest) (hrm : (rest.map fun v => v.category).sum ≤ 8) (hdg : decode cc pc = .ok (.invokestatic idx, 3)) (hc : cells ≤ R.cells ∧ slots ≤ R.slots) (hS : va_S A H0 H locs)
    (kk : ∀ locs1, va_S A H0 H locs1 → W p l e R s m av below meth c H locs1 cells slots Q (F0 m (pc + 3) ls (.int v :: rest))) : W p l e R s m av below meth c H locs cells slots Q (F0 m pc ls st) := by
  subst hst
  refine va_calli (va_runS (As := As) (rest := rest) S hM (va_cwS n S.2.2.2.2 hg hw rfl rfl hd hR) ⟨fun a U g mk q => ⟨q.1, q.2.1, va_X.moved (u := U) (U := U.calling g mk a) (Vm.Alike.refl U.vm) q.2.2⟩, fun U hU hW => ⟨rfl, hU, va_X.moved hW.alike hX⟩⟩ rfl hn hls rfl (lv_room hrm) hdg hc) hS (fun q _ h => h.elim) (fun q h => h.elim) (fun r u t H1 locs1 ht hvm hw2 hB hz1 hk1 hS1 => ?_)
  have e1 : H1 = H := ht.symm.trans hB
  subst e1
  subst hw2
  exact kk locs1 hS1
end ROWSL
