/-! ===== contracts of methods that write: the world behind them is a list again, told by its places ===== -/
def upX {α : Type} (f : Nat → α) (k : Nat) (v : α) : Nat → α := fun j => if j = k then v else f j
theorem upX_s {α : Type} {f : Nat → α} {k : Nat} {v : α} : upX f k v k = v := if_pos rfl
theorem upX_n {α : Type} {f : Nat → α} {k j : Nat} {v : α} (h : j ≠ k) : upX f k v j = f j := if_neg h
theorem upd_X (f : Nat → Int32) (k : Nat) (v : Int32) : upd f k v = upX f k v := by
  funext j; unfold upd upX; by_cases h : j = k <;> simp [h]
theorem upd_N (f : Nat → Nat) (k v : Nat) : upd (fun i => nI (f i)) k (nI v) = fun i => nI (upX f k v i) := by
  rw [upd_X]; funext j; unfold upX; split <;> rfl
theorem upd_B (f : Nat → Bool) (k : Nat) (v : Bool) : upd (fun i => bI (f i)) k (bI v) = fun i => bI (upX f k v i) := by
  rw [upd_X]; funext j; unfold upX; split <;> rfl
def MU (l : Launch) (y : MethodName) (ws : List Cond) (fr lo mc ms : Nat) (D : va_G) (k : kT) (A : Nat → Prop) (Hs : Heap) (args : List Value) (post : Int32 → va_W → Prop) : Prop :=
  Met l y ws ({ frames := fr, cells := mc, slots := ms, locals := lo }) (va_Pc args (fun U => U.heap = Hs ∧ ap_K D k U)) (va_Qi (fun (r : Int32) (w : va_W) => post r w) (fun w t => va_P D CL w t.heap ∧ va_D A w) A) mc ms A
def MV (l : Launch) (y : MethodName) (ws : List Cond) (fr lo mc ms : Nat) (D : va_G) (k : kT) (A : Nat → Prop) (Hs : Heap) (args : List Value) (post : va_W → Prop) : Prop :=
  Met l y ws ({ frames := fr, cells := mc, slots := ms, locals := lo }) (va_Pc args (fun U => U.heap = Hs ∧ ap_K D k U)) (va_Qv (fun (w : va_W) => post w) (fun w t => va_P D CL w t.heap ∧ va_D A w) A) mc ms A
theorem MU.of {l : Launch} {y : MethodName} {ws ws' : List Cond} {fr lo mc ms : Nat} {D : va_G} {k : kT} {A : Nat → Prop} {Hs : Heap} {args : List Value} {post : Int32 → va_W → Prop} {cc : ByteArray} {maxL : Nat} {ty : FieldType}
    (hy : plainName y.cls = true) (hw : ws = Cond.code y cc maxL (some ty) :: ws') (ha : (lg_sl args).length ≤ maxL)
    (body : ∀ (p : Program) (e : Env) (R : Room) (s : State) (m : MethodId) (av : Array Value) (below : List Frame) (meth : Method) (c : Code) (Q : State → Prop),
      fr ≤ R.frames → lo ≤ R.locals → mc ≤ R.cells → ms ≤ R.slots → p.tables.exec = Jvm.exec → c.code = cc → c.maxLocals = maxL → s.vm.findClass y.cls = some m.cls → (∀ w ∈ ws, w.before av s = true) → ap_K D k s →
      (∀ (pc : Nat) (ls : Array Slot) (w : va_W) (H : Heap) (locs : List Loc) (x : Int32), decode cc pc = .ok (.ireturn, 1) → va_P D CL w H → va_D A w → va_S A Hs H locs → narrow ty (.int x) = .int x → post x w → W p l e R s m av below meth c H locs mc ms Q (F0 m pc ls [.int x])) →
      ∀ (ls : Array Slot), lv_has ls maxL (lv_args 0 args) → W p l e R s m av below meth c Hs [] 0 0 Q (F0 m 0 ls [])) : MU l y ws fr lo mc ms D k A Hs args post := by
  refine Met.ofW (cc := cc) (maxL := maxL) (ret := some ty) hy hw ?_
  intro p e s m av below meth c s₁ B hml hv
  obtain ⟨rfl, hH, hK⟩ := hv
  have hts := atoms_spec (ws := ws) B.pre
  have hown : s.vm.findClass y.cls = some m.cls := findClass_of_methodNamed B.named
  have hlocks := B.notSynchronized
  have hr := B.returns
  subst hH
  have hl := lv_entry args (n := maxL) ha
  rw [lg_entry_eq]
  refine body p e _ s m _ below meth c _ (Nat.le_refl _) (Nat.le_refl _) (Nat.le_refl _) (Nat.le_refl _) B.exec B.bytes hml hown hts hK ?_ _ hl
  intro pc ls w H locs x hd hP hD hS hn hx
  exact W.zret B.exec B.bytes hr hn (fun t ht hW => ⟨⟨x, w, rfl, hx, by rw [ht]; exact hP, hD⟩, hS.F ht⟩) hS.2.2 hd
theorem MV.of {l : Launch} {y : MethodName} {ws ws' : List Cond} {fr lo mc ms : Nat} {D : va_G} {k : kT} {A : Nat → Prop} {Hs : Heap} {args : List Value} {post : va_W → Prop} {cc : ByteArray} {maxL : Nat}
    (hy : plainName y.cls = true) (hw : ws = Cond.code y cc maxL none :: ws') (ha : (lg_sl args).length ≤ maxL)
    (body : ∀ (p : Program) (e : Env) (R : Room) (s : State) (m : MethodId) (av : Array Value) (below : List Frame) (meth : Method) (c : Code) (Q : State → Prop),
      fr ≤ R.frames → lo ≤ R.locals → mc ≤ R.cells → ms ≤ R.slots → p.tables.exec = Jvm.exec → c.code = cc → c.maxLocals = maxL → s.vm.findClass y.cls = some m.cls → meth.name = y.name → (∀ w ∈ ws, w.before av s = true) → ap_K D k s →
      (∀ (pc : Nat) (ls : Array Slot) (w : va_W) (H : Heap) (locs : List Loc), decode cc pc = .ok (.return_, 1) → va_P D CL w H → va_D A w → va_S A Hs H locs → post w → W p l e R s m av below meth c H locs mc ms Q (F0 m pc ls [])) →
      ∀ (ls : Array Slot), lv_has ls maxL (lv_args 0 args) → W p l e R s m av below meth c Hs [] 0 0 Q (F0 m 0 ls [])) : MV l y ws fr lo mc ms D k A Hs args post := by
  refine Met.ofW (cc := cc) (maxL := maxL) (ret := none) hy hw ?_
  intro p e s m av below meth c s₁ B hml hv
  obtain ⟨rfl, hH, hK⟩ := hv
  have hts := atoms_spec (ws := ws) B.pre
  have hown : s.vm.findClass y.cls = some m.cls := findClass_of_methodNamed B.named
  have hlocks := B.notSynchronized
  have hr := B.returns
  subst hH
  have hl := lv_entry args (n := maxL) ha
  rw [lg_entry_eq]
  refine body p e _ s m _ below meth c _ (Nat.le_refl _) (Nat.le_refl _) (Nat.le_refl _) (Nat.le_refl _) B.exec B.bytes hml hown (name_of_methodNamed B.named B.method).1 hts hK ?_ _ hl
  intro pc ls w H locs hd hP hD hS hx
  exact W.vret B.exec B.bytes hr (fun t ht hW => ⟨⟨w, rfl, hx, by rw [ht]; exact hP, hD⟩, hS.F ht⟩) hS.2.2 hd
section ROWS3
variable {p : Program} {l : Launch} {e : Env} {R : Room} {s : State} {m : MethodId} {av : Array Value} {below : List Frame} {meth : Method} {c : Code} {H : Heap} {locs : List Loc} {cells slots : Nat} {Q : State → Prop}
variable {cc : ByteArray} {pc : Nat} {ls : Array Slot} {rest st : List Value} {D : va_G} {k : kT} {A : Nat → Prop} {H0 : Heap}
theorem mcV {nL : Nat} {As : List Value} {Ts wsy wsy' : List Cond} {own C : String} {idx n fr lo mc ms maxL : Nat} {y : MethodName} {bytes : ByteArray} {ty : FieldType} {b : Nat} {post : Int32 → va_W → Prop}
    (hM : MU l y wsy fr lo mc ms D k A H (.ref b :: As) post) (S : CallFix p m c cc nL s av Ts own) (hK : ap_K D k s) (hg : GoodIn Ts (wsV own idx C y wsy)) (hw : wsy = Cond.code y bytes maxL (some ty) :: wsy')
    (hd : y.cls = C ∧ y.cls ≠ "java/lang/invoke/MethodHandle" ∧ y.cls ≠ "java/lang/invoke/VarHandle" ∧ (parseMethodDescriptor y.desc).map (fun d => d.parameters.length) = some n) (hR : fr + 1 ≤ R.frames ∧ 8 + (maxL + 11) + lo ≤ R.locals)
    (hrecv : ∃ cell : Cell, H[b]? = some cell ∧ cell.vm.isStatics = false ∧ s.vm.findClass C = some cell.cls)
    (hn : As.length = n) (hls : ls.size = nL) (hst : st = As.reverse ++ .ref b :: rest) (hrm : (rest.map fun v => v.category).sum ≤ 8) (hdg : decode cc pc = .ok (.invokevirtual idx, 3)) (hc : cells + mc ≤ R.cells ∧ slots + ms ≤ R.slots) (hS : va_S A H0 H locs)
    (kk : ∀ (r : Int32) (w1 : va_W) (H1 : Heap) (locs1 : List Loc), post r w1 → va_P D CL w1 H1 → va_D A w1 → va_S A H0 H1 locs1 → W p l e R s m av below meth c H1 locs1 (cells + mc) (slots + ms) Q (F0 m (pc + 3) ls (.int r :: rest))) : W p l e R s m av below meth c H locs cells slots Q (F0 m pc ls st) := by
  subst hst
  refine va_calli (va_runV (As := As) (rest := rest) S hM (cwV n S.2.2.2.2 hg hw rfl rfl hd hR) ⟨fun a U g mk q => ⟨q.1, q.2.1, va_K.moved (u := U) (U := U.calling g mk a) (Vm.Alike.refl U.vm) q.2.2⟩, hrecv, fun U hU hW => ⟨rfl, hU, va_K.moved hW.alike hK⟩⟩ rfl hn hls rfl (lv_room hrm) hdg hc) hS (fun q _ h => h) (fun q h => h) (fun r u t H1 locs1 ht hvm hw2 hB hz1 hk1 hS1 => ?_)
  rw [ht] at hB
  exact kk r u H1 locs1 hw2 hB.1 hB.2 hS1
theorem mvV {nL : Nat} {As : List Value} {Ts wsy wsy' : List Cond} {own C : String} {idx n fr lo mc ms maxL : Nat} {y : MethodName} {bytes : ByteArray} {b : Nat} {post : va_W → Prop}
    (hM : MV l y wsy fr lo mc ms D k A H (.ref b :: As) post) (S : CallFix p m c cc nL s av Ts own) (hK : ap_K D k s) (hg : GoodIn Ts (wsV own idx C y wsy)) (hw : wsy = Cond.code y bytes maxL none :: wsy')
    (hd : y.cls = C ∧ y.cls ≠ "java/lang/invoke/MethodHandle" ∧ y.cls ≠ "java/lang/invoke/VarHandle" ∧ (parseMethodDescriptor y.desc).map (fun d => d.parameters.length) = some n) (hR : fr + 1 ≤ R.frames ∧ 8 + (maxL + 11) + lo ≤ R.locals)
    (hrecv : ∃ cell : Cell, H[b]? = some cell ∧ cell.vm.isStatics = false ∧ s.vm.findClass C = some cell.cls)
    (hn : As.length = n) (hls : ls.size = nL) (hst : st = As.reverse ++ .ref b :: rest) (hrm : (rest.map fun v => v.category).sum ≤ 8) (hdg : decode cc pc = .ok (.invokevirtual idx, 3)) (hc : cells + mc ≤ R.cells ∧ slots + ms ≤ R.slots) (hS : va_S A H0 H locs)
    (kk : ∀ (w1 : va_W) (H1 : Heap) (locs1 : List Loc), post w1 → va_P D CL w1 H1 → va_D A w1 → va_S A H0 H1 locs1 → W p l e R s m av below meth c H1 locs1 (cells + mc) (slots + ms) Q (F0 m (pc + 3) ls rest)) : W p l e R s m av below meth c H locs cells slots Q (F0 m pc ls st) := by
  subst hst
  refine va_callv (va_runV (As := As) (rest := rest) S hM (cwV n S.2.2.2.2 hg hw rfl rfl hd hR) ⟨fun a U g mk q => ⟨q.1, q.2.1, va_K.moved (u := U) (U := U.calling g mk a) (Vm.Alike.refl U.vm) q.2.2⟩, hrecv, fun U hU hW => ⟨rfl, hU, va_K.moved hW.alike hK⟩⟩ rfl hn hls rfl (lv_room hrm) hdg hc) hS (fun q _ h => h) (fun q h => h) (fun u t H1 locs1 ht hvm hw2 hB hz1 hk1 hS1 => ?_)
  rw [ht] at hB
  exact kk u H1 locs1 hw2 hB.1 hB.2 hS1
end ROWS3
/-- Integer.bitCount of a set -/
def bcI (x : Int32) : Int32 :=
  let a := x - ((x.toUInt32 >>> ((nI 1).toUInt32 &&& Int32.toUInt32 31)).toInt32 &&& 1431655765)
  let b := (a &&& 858993459) + ((a.toUInt32 >>> ((nI 2).toUInt32 &&& Int32.toUInt32 31)).toInt32 &&& 858993459)
  let d := (b + (b.toUInt32 >>> ((nI 4).toUInt32 &&& Int32.toUInt32 31)).toInt32) &&& 252645135
  let f := d + (d.toUInt32 >>> ((nI 8).toUInt32 &&& Int32.toUInt32 31)).toInt32
  let g := f + (f.toUInt32 >>> ((nI 16).toUInt32 &&& Int32.toUInt32 31)).toInt32
  g &&& nI 63
theorem bc_cnt : ∀ S, S < 256 → bcI (nI S) = nI (cnt S) := by decide +kernel
theorem chg_bit (S k j : Nat) (is : Bool) : (chg S k is).testBit j = if j = k then is else S.testBit j := by
  unfold chg
  cases is
  · rw [if_neg (by decide), clr_bit, Nat.testBit_two_pow]
    by_cases h : j = k
    · subst h; simp
    · rw [if_neg h, decide_eq_false (fun q => h q.symm)]; simp
  · rw [if_pos rfl, Nat.testBit_or, Nat.testBit_two_pow]
    by_cases h : j = k
    · subst h; simp
    · rw [if_neg h, decide_eq_false (fun q => h q.symm)]; simp
theorem chg_lt {S k n : Nat} {is : Bool} (h : S < 2 ^ n) (hk : k < n) : chg S k is < 2 ^ n := by
  unfold chg; split
  · exact or_lt h (Nat.pow_lt_pow_right (by decide) hk)
  · exact clr_lt h
def ctc (C : Nat → Nat) (p o : Nat) (are : Bool) : Nat → Nat := upX (upX C p (chg (C p) o are)) o (chg ((upX C p (chg (C p) o are)) o) p are)
def htc (Hd : Nat → Nat) (p d o : Nat) (is : Bool) : Nat → Nat := upX (upX Hd (8 * d + p) (chg (Hd (8 * d + p)) o is)) (8 * (d ^^^ 1) + o) (chg ((upX Hd (8 * d + p) (chg (Hd (8 * d + p)) o is)) (8 * (d ^^^ 1) + o)) p is)
theorem upX_lt {f : Nat → Nat} {k v n : Nat} (h : ∀ i, f i < n) (hv : v < n) : ∀ i, upX f k v i < n := by
  intro i; unfold upX; split
  · exact hv
  · exact h i
theorem ctc_lt {C : Nat → Nat} {p o n : Nat} {are : Bool} (h : ∀ i, C i < 2 ^ n) (hp : p < n) (ho : o < n) : ∀ i, ctc C p o are i < 2 ^ n := by
  have h1 := upX_lt (k := p) h (chg_lt (is := are) (h p) ho)
  exact upX_lt h1 (chg_lt (h1 o) hp)
theorem htc_lt {Hd : Nat → Nat} {p d o n : Nat} {is : Bool} (h : ∀ i, Hd i < 2 ^ n) (hp : p < n) (ho : o < n) : ∀ i, htc Hd p d o is i < 2 ^ n := by
  have h1 := upX_lt (k := 8 * d + p) h (chg_lt (is := is) (h (8 * d + p)) ho)
  exact upX_lt h1 (chg_lt (h1 (8 * (d ^^^ 1) + o)) hp)
theorem PI0_ctc {n : Nat} {C Hd : Nat → Nat} {b p o : Nat} {are : Bool} (hI : PI0 n C Hd b) (hp : p < n) (ho : o < n) : PI0 n (ctc C p o are) Hd b :=
  ⟨hI.1, hI.2.1, ctc_lt hI.2.2.1 hp ho, hI.2.2.2⟩
theorem x1_ne : ∀ d, d < 6 → d ^^^ 1 ≠ d ∧ d ^^^ 1 < 6 ∧ d ^^^ 1 ^^^ 1 = d := by decide
theorem htc_bit {Hd : Nat → Nat} {p d o : Nat} {is : Bool} (hp : p < 8) (ho : o < 8) (hd : d < 6) {e i : Nat} (hi : i < 8) (j : Nat) :
    (htc Hd p d o is (8 * e + i)).testBit j = if (e = d ∧ i = p ∧ j = o) ∨ (e = d ^^^ 1 ∧ i = o ∧ j = p) then is else (Hd (8 * e + i)).testBit j := by
  have x := x1_ne d hd
  unfold htc
  by_cases h2 : 8 * e + i = 8 * (d ^^^ 1) + o
  · have e1 : e = d ^^^ 1 := by omega
    have e2 : i = o := by omega
    rw [h2, upX_s, upX_n (by omega), chg_bit]
    by_cases hj : j = p
    · rw [if_pos hj, if_pos (Or.inr ⟨e1, e2, hj⟩)]
    · rw [if_neg hj, if_neg]
      rintro (⟨q, -, -⟩ | ⟨-, -, q⟩)
      · exact x.1 (e1.symm.trans q)
      · exact hj q
  · rw [upX_n h2]
    by_cases h1 : 8 * e + i = 8 * d + p
    · have e1 : e = d := by omega
      have e2 : i = p := by omega
      rw [h1, upX_s, chg_bit]
      by_cases hj : j = o
      · rw [if_pos hj, if_pos (Or.inl ⟨e1, e2, hj⟩)]
      · rw [if_neg hj, if_neg]
        rintro (⟨-, -, q⟩ | ⟨q, -, -⟩)
        · exact hj q
        · exact x.1 (q.symm.trans e1)
    · rw [upX_n h1, if_neg]
      rintro (⟨q1, q2, -⟩ | ⟨q1, q2, -⟩)
      · exact h1 (by rw [q1, q2])
      · exact h2 (by rw [q1, q2])
theorem PI0_htc {n : Nat} {C Hd : Nat → Nat} {b p d o : Nat} {is : Bool} (hI : PI0 n C Hd b) (hp : p < n) (ho : o < n) (hd : d < 6) : PI0 n C (htc Hd p d o is) b := by
  have h8 := hI.1
  refine ⟨hI.1, hI.2.1, hI.2.2.1, htc_lt hI.2.2.2.1 hp ho, fun e i j he hi hj => ?_⟩
  have x := x1_ne d hd
  have y := x1_ne e he
  rw [htc_bit (by omega) (by omega) hd hi, htc_bit (by omega) (by omega) hd hj, hI.2.2.2.2 e i j he hi hj]
  have t : ((e = d ∧ i = p ∧ j = o) ∨ (e = d ^^^ 1 ∧ i = o ∧ j = p)) ↔ ((e ^^^ 1 = d ∧ j = p ∧ i = o) ∨ (e ^^^ 1 = d ^^^ 1 ∧ j = o ∧ i = p)) := by
    constructor
    · rintro (⟨q1, q2, q3⟩ | ⟨q1, q2, q3⟩)
      · exact Or.inr ⟨by rw [q1], q3, q2⟩
      · exact Or.inl ⟨by rw [q1]; exact x.2.2, q3, q2⟩
    · rintro (⟨q1, q2, q3⟩ | ⟨q1, q2, q3⟩)
      · exact Or.inr ⟨by rw [← q1]; exact y.2.2.symm, q3, q2⟩
      · exact Or.inl ⟨by rw [← y.2.2, q1]; exact x.2.2, q3, q2⟩
  by_cases c : (e = d ∧ i = p ∧ j = o) ∨ (e = d ^^^ 1 ∧ i = o ∧ j = p)
  · rw [if_pos c, if_pos (t.mp c)]
  · rw [if_neg c, if_neg (fun q => c (t.mpr q))]

