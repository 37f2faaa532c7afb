/-! ===== values of sets by lesser sets: ways, depths, splits ===== -/
def fixU (F : (Nat → Nat) → Nat → Nat) (S : Nat) : Nat := itr (fun s g => upX g s (F g s)) (S + 1) (fun _ => 0) S
theorem fixU_tab (F : (Nat → Nat) → Nat → Nat) : ∀ (k s : Nat), s < k → itr (fun s g => upX g s (F g s)) k (fun _ => 0) s = fixU F s
  | 0, _, h => absurd h (Nat.not_lt_zero _)
  | k + 1, s, h => by
    by_cases e : s = k
    · subst e; rfl
    · show upX _ k _ s = _
      rw [upX_n e]
      exact fixU_tab F k s (by omega)
theorem fixU_eq {F : (Nat → Nat) → Nat → Nat} {S : Nat} (loc : ∀ g g' : Nat → Nat, (∀ s, s < S → g s = g' s) → F g S = F g' S) : fixU F S = F (fixU F) S := by
  show upX _ S _ S = _
  rw [upX_s]
  exact loc _ _ (fun s h => fixU_tab F S s h)
theorem itr_cong {α : Type} {f g : Nat → α → α} : ∀ {k : Nat} {x : α}, (∀ i y, i < k → f i y = g i y) → itr f k x = itr g k x
  | 0, _, _ => rfl
  | k + 1, x, h => by
    show f k (itr f k x) = g k (itr g k x)
    rw [itr_cong (k := k) (fun i y hi => h i y (by omega)), h k _ (by omega)]
theorem itr_id {α : Type} {f : Nat → α → α} : ∀ {k : Nat} {x : α}, (∀ i, i < k → f i x = x) → itr f k x = x
  | 0, _, _ => rfl
  | k + 1, x, h => by
    show f k (itr f k x) = x
    rw [itr_id (k := k) (fun i hi => h i (by omega)), h k (by omega)]
theorem spl_lt {C Hd : Nat → Nat} {n S one : Nat} (h : spl C Hd n S one = true) (hS : S < 256) : one ≠ 0 ∧ clr S one < S ∧ clr S one ≠ 0 ∧ clr one S = 0 := by
  unfold spl at h
  rw [Bool.and_eq_true, Bool.and_eq_true, Bool.and_eq_true, decide_eq_true_iff, decide_eq_true_iff, decide_eq_true_iff] at h
  obtain ⟨⟨h1, h2, h3⟩, -⟩ := h
  obtain ⟨i, hi, hj⟩ := and_ne0.mp h3
  have hl : S.testBit i = true := by
    have e := (low_lt S hS).2.2.1
    have : (low S &&& S).testBit i = true := by rw [e]; exact hj
    rw [Nat.testBit_and, Bool.and_eq_true] at this
    exact this.2
  have hsub : sbs (clr S one) S := fun k q => by rw [clr_bit, Bool.and_eq_true] at q; exact q.1
  refine ⟨fun e => (by rw [e, Nat.zero_testBit] at hi; cases hi), Nat.lt_of_le_of_ne (sbs_le hsub) (fun e => ?_), h2, h1⟩
  have : (clr S one).testBit i = true := by rw [e]; exact hl
  rw [clr_bit, hl, hi] at this
  cases this
def spc (C Hd : Nat → Nat) (n S : Nat) : Nat := if conn C S = true then itr (fun j x => if spl C Hd n S (j + 1) = true then x + 1 else x) (S - 1) 0 else 0
def wyS (C Hd : Nat → Nat) (n : Nat) (g : Nat → Nat) (S j x : Nat) : Nat := if spl C Hd n S (j + 1) = true then x + g (j + 1) * g (clr S (j + 1)) else x
def wy0 (S : Nat) : Nat := if S &&& (S - 1) = 0 then 1 else 0
def wyF (C Hd : Nat → Nat) (n : Nat) (g : Nat → Nat) (S : Nat) : Nat := if conn C S = true then itr (wyS C Hd n g S) (S - 1) (wy0 S) else wy0 S
def wys (C Hd : Nat → Nat) (n : Nat) : Nat → Nat := fixU (wyF C Hd n)
def mx (a b : Nat) : Nat := if b < a then a else b
theorem mx_1 (a b : Nat) : a ≤ mx a b := by unfold mx; split <;> omega
theorem mx_2 (a b : Nat) : b ≤ mx a b := by unfold mx; split <;> omega
theorem mx_or (a b : Nat) : mx a b = a ∨ mx a b = b := by unfold mx; split <;> simp
def dpS (C Hd : Nat → Nat) (n : Nat) (g : Nat → Nat) (S j x : Nat) : Nat := if spl C Hd n S (j + 1) = true then (if mx (g (j + 1)) (g (clr S (j + 1))) + 1 < x then mx (g (j + 1)) (g (clr S (j + 1))) + 1 else x) else x
theorem dpS_yes {C Hd : Nat → Nat} {n : Nat} {g : Nat → Nat} {S j x : Nat} (h : spl C Hd n S (j + 1) = true) : dpS C Hd n g S j x = if mx (g (j + 1)) (g (clr S (j + 1))) + 1 < x then mx (g (j + 1)) (g (clr S (j + 1))) + 1 else x := if_pos h
theorem dpS_no {C Hd : Nat → Nat} {n : Nat} {g : Nat → Nat} {S j x : Nat} (h : spl C Hd n S (j + 1) = false) : dpS C Hd n g S j x = x := if_neg (by rw [h]; decide)
theorem wyS_yes {C Hd : Nat → Nat} {n : Nat} {g : Nat → Nat} {S j x : Nat} (h : spl C Hd n S (j + 1) = true) : wyS C Hd n g S j x = x + g (j + 1) * g (clr S (j + 1)) := if_pos h
theorem wyS_no {C Hd : Nat → Nat} {n : Nat} {g : Nat → Nat} {S j x : Nat} (h : spl C Hd n S (j + 1) = false) : wyS C Hd n g S j x = x := if_neg (by rw [h]; decide)
def dp0 (S : Nat) : Nat := if S &&& (S - 1) = 0 then 0 else 1000
def dpF (C Hd : Nat → Nat) (n : Nat) (g : Nat → Nat) (S : Nat) : Nat := if conn C S = true then itr (dpS C Hd n g S) (S - 1) (dp0 S) else dp0 S
def dps (C Hd : Nat → Nat) (n : Nat) : Nat → Nat := fixU (dpF C Hd n)
theorem wys_eq {C Hd : Nat → Nat} {n S : Nat} (hS : S < 256) : wys C Hd n S = wyF C Hd n (wys C Hd n) S := by
  refine fixU_eq (fun g g' hg => ?_)
  unfold wyF
  split
  · refine itr_cong (fun j x hj => ?_)
    cases q : spl C Hd n S (j + 1)
    · rw [wyS_no q, wyS_no q]
    · have h := spl_lt q hS
      rw [wyS_yes q, wyS_yes q, hg (j + 1) (by omega), hg _ h.2.1]
  · rfl
theorem dps_eq {C Hd : Nat → Nat} {n S : Nat} (hS : S < 256) : dps C Hd n S = dpF C Hd n (dps C Hd n) S := by
  refine fixU_eq (fun g g' hg => ?_)
  unfold dpF
  split
  · refine itr_cong (fun j x hj => ?_)
    cases q : spl C Hd n S (j + 1)
    · rw [dpS_no q, dpS_no q]
    · have h := spl_lt q hS
      rw [dpS_yes q, dpS_yes q, hg (j + 1) (by omega), hg _ h.2.1]
  · rfl
/-- a depth is FAR, or small -/
theorem dpS_ok {C Hd : Nat → Nat} {n S : Nat} {g : Nat → Nat} (hS : S < 256) (hg : ∀ s, s < S → g s = 1000 ∨ g s ≤ s) : ∀ k, k ≤ S - 1 → itr (dpS C Hd n g S) k (dp0 S) = 1000 ∨ itr (dpS C Hd n g S) k (dp0 S) ≤ S
  | 0, _ => by
    show dp0 S = 1000 ∨ dp0 S ≤ S
    unfold dp0; split
    · exact Or.inr (Nat.zero_le _)
    · exact Or.inl rfl
  | k + 1, hk => by
    have ih := dpS_ok (C := C) (Hd := Hd) (n := n) hS hg k (by omega)
    show dpS C Hd n g S k _ = 1000 ∨ dpS C Hd n g S k _ ≤ S
    cases q : spl C Hd n S (k + 1)
    · rw [dpS_no q]; exact ih
    · have h := spl_lt q hS
      have h1 := hg (k + 1) (by omega)
      have h2 := hg _ h.2.1
      rw [dpS_yes q]
      generalize itr (dpS C Hd n g S) k (dp0 S) = X at ih ⊢
      have m1 := mx_1 (g (k + 1)) (g (clr S (k + 1)))
      have m2 := mx_2 (g (k + 1)) (g (clr S (k + 1)))
      have m3 := mx_or (g (k + 1)) (g (clr S (k + 1)))
      have h3 := h.2.1
      split
      next w => right; omega
      next => exact ih
theorem dps_ok {C Hd : Nat → Nat} {n : Nat} : ∀ (S : Nat), S < 256 → dps C Hd n S = 1000 ∨ dps C Hd n S ≤ S := by
  intro S
  induction S using Nat.strongRecOn with
  | _ S ih =>
    intro hS
    rw [dps_eq hS]
    unfold dpF
    split
    · exact dpS_ok hS (fun s hs => ih s hs (by omega)) (S - 1) (Nat.le_refl _)
    · unfold dp0; split
      · exact Or.inr (Nat.zero_le _)
      · exact Or.inl rfl
/-- both searches of splits meet the same -/
def ffC (S o : Nat) : Bool :=
  ((clr o (S &&& (S - 1)) == 0) == (clr (S - o) S == 0 && (clr S (S - o) != 0 && ((S - o) &&& lowN S) != 0))) && (!(clr o (S &&& (S - 1)) == 0) || ((S ^^^ o == S - o) && (clr S (S - o) == o)))
theorem ff_all : (List.range 256).all (fun S => (List.range (S &&& (S - 1))).all (fun o => ffC S (o + 1))) = true := by decide +kernel
theorem ff_1 {S o : Nat} (hS : S < 256) (h1 : 1 ≤ o) (ho : o ≤ S &&& (S - 1)) : ffC S o = true := by
  have h := List.all_eq_true.mp ff_all S (List.mem_range.mpr hS)
  have h2 := List.all_eq_true.mp h (o - 1) (List.mem_range.mpr (by omega))
  have e : o - 1 + 1 = o := by omega
  rw [e] at h2; exact h2
theorem ff_low : (List.range 256).all (fun S => (List.range (S - (S &&& (S - 1)))).all (fun one => (one &&& lowN S == 0) && decide (S &&& (S - 1) ≤ S))) = true := by decide +kernel
theorem spl_low {C Hd : Nat → Nat} {n S one : Nat} (hS : S < 256) (h : one < S - (S &&& (S - 1))) : spl C Hd n S one = false := by
  have h1 := List.all_eq_true.mp (List.all_eq_true.mp ff_low S (List.mem_range.mpr hS)) one (List.mem_range.mpr h)
  rw [Bool.and_eq_true, beq_iff_eq] at h1
  unfold spl
  rw [low_N S hS, h1.1]
  simp
theorem spl_cls {C Hd : Nat → Nat} {n S o : Nat} (hS : S < 256) (h1 : 1 ≤ o) (ho : o ≤ S &&& (S - 1)) :
    (clr o (S &&& (S - 1)) = 0 → S ^^^ o = S - o ∧ clr S (S - o) = o ∧ spl C Hd n S (S - o) = (conn C (S ^^^ o) && (conn C o && sep Hd n (S ^^^ o) o))) ∧ (¬ clr o (S &&& (S - 1)) = 0 → spl C Hd n S (S - o) = false) := by
  have h := ff_1 hS h1 ho
  unfold ffC at h
  rw [Bool.and_eq_true, beq_iff_eq] at h
  constructor
  · intro q
    rw [q] at h
    simp only [beq_self_eq_true, Bool.not_true, Bool.false_or, Bool.and_eq_true, beq_iff_eq] at h
    obtain ⟨a, b, c⟩ := h
    refine ⟨b, c, ?_⟩
    have a := a.symm
    simp only [Bool.and_eq_true, beq_iff_eq, bne_iff_ne] at a
    unfold spl
    rw [low_N S hS, decide_eq_true a.1, decide_eq_true a.2.1, decide_eq_true a.2.2, c, b]
    rfl
  · intro q
    have e : (clr o (S &&& (S - 1)) == 0) = false := by simpa using q
    rw [e] at h
    have a := h.1.symm
    unfold spl
    rw [low_N S hS]
    cases z1 : (clr (S - o) S == 0)
    · rw [decide_eq_false (by simpa using z1)]; simp
    · cases z2 : (clr S (S - o) != 0)
      · rw [decide_eq_false (p := clr S (S - o) ≠ 0) (by simpa using z2)]; simp
      · cases z3 : (((S - o) &&& lowN S) != 0)
        · rw [decide_eq_false (p := (S - o) &&& lowN S ≠ 0) (by simpa using z3)]; simp
        · rw [z1, z2, z3] at a; cases a
theorem one_conn {C : Nat → Nat} {S : Nat} (hS : S < 256) (h0 : S ≠ 0) (h : S &&& (S - 1) = 0) : conn C S = true := by
  have hl : low S = S := by
    have t : ∀ S, S < 256 → S ≠ 0 → S &&& (S - 1) = 0 → lowN S = S := by decide +kernel
    rw [low_N S hS]; exact t S hS h0 h
  unfold conn
  rw [decide_eq_true h0, Bool.true_and, decide_eq_true_iff, hl]
  refine sbs_eq (rch_min sbs_rf (fun k _ _ => sbs_and2) 7) (rch_ge _ _ 7)
def dI (d : Nat) : Int32 := if d = 1000 then -1 else nI d
theorem nI_pd {o : Nat} (h : 0 < o) : nI o + Int32.ofInt (-1) = nI (o - 1) := by
  obtain ⟨k, rfl⟩ : ∃ k, o = k + 1 := ⟨o - 1, by omega⟩
  rw [show Int32.ofInt (-1) = (-1 : Int32) by decide +kernel]
  exact pk_m1 k
/-- the rows of sets 1 .. below m are laid -/
def ptOK (C Hd : Nat → Nat) (n m : Nat) (Cn : Nat → Bool) (fs fw fd : Nat → Int32) : Prop := ∀ s, 1 ≤ s → s < m → Cn s = conn C s ∧ fs s = nI (spc C Hd n s) ∧ fw s = nI (wys C Hd n s) ∧ fd s = dI (dps C Hd n s)
def isPtg (k : kT) (ws : va_W) (h hp a4 a5 a6 a7 : Nat) (Cn : Nat → Bool) (fs fw fd : Nat → Int32) (kn : Bool) : Prop :=
  ws[5]? = some (h, .inr (2, [.ref hp, .ref a4, .ref a5, .ref a6, .ref a7, .int (bI kn)])) ∧ ws[6]? = some (a4, .inl (k.2.1, 256, .inl (fun i => bI (Cn i)))) ∧ ws[7]? = some (a5, .inl (k.1, 256, .inl fs)) ∧ ws[8]? = some (a6, .inl (k.1, 256, .inl fw)) ∧ ws[9]? = some (a7, .inl (k.1, 256, .inl fd))
theorem isPtg.fr {k : kT} {ws ws1 : va_W} {h hp a4 a5 a6 a7 : Nat} {Cn : Nat → Bool} {fs fw fd : Nat → Int32} {kn : Bool} {x y : Nat} (P : isPtg k ws h hp a4 a5 a6 a7 Cn fs fw fd kn) (f : fr ws ws1 x y) (hx : 9 < x ∨ y < 5 := by decide) : isPtg k ws1 h hp a4 a5 a6 a7 Cn fs fw fd kn :=
  ⟨(f 5 (by omega)).trans P.1, (f 6 (by omega)).trans P.2.1, (f 7 (by omega)).trans P.2.2.1, (f 8 (by omega)).trans P.2.2.2.1, (f 9 (by omega)).trans P.2.2.2.2⟩
def adF (fd : Nat → Int32) (S one oth : Nat) : Nat → Int32 := if fd one = -1 then fd else if fd oth = -1 then fd else upX fd S (if fd S = -1 then nI 1 + (if fd one < fd oth then fd oth else fd one) else (if nI 1 + (if fd one < fd oth then fd oth else fd one) < fd S then nI 1 + (if fd one < fd oth then fd oth else fd one) else fd S))
/-- where the search of a set's splits stands: those with the lowest part among the first j numbers -/
def ffI (C Hd : Nat → Nat) (n S j : Nat) (fs fw fd : Nat → Int32) : Prop := fs S = nI (itr (fun j x => if spl C Hd n S (j + 1) = true then x + 1 else x) j 0) ∧ fw S = nI (itr (wyS C Hd n (wys C Hd n) S) j (wy0 S)) ∧ fd S = dI (itr (dpS C Hd n (dps C Hd n) S) j (dp0 S))
theorem dI_ne {d : Nat} (h : d = 1000 ∨ d < 1000) : (dI d = -1 ↔ d = 1000) := by
  unfold dI
  constructor
  · intro q
    rcases h with h | h
    · exact h
    · rw [if_neg (by omega)] at q
      exact absurd q.symm (m1_ne (by omega))
  · intro q; rw [if_pos q]
theorem ffI_no {C Hd : Nat → Nat} {n S j : Nat} {fs fw fd : Nat → Int32} (h : ffI C Hd n S j fs fw fd) (hn : spl C Hd n S (j + 1) = false) : ffI C Hd n S (j + 1) fs fw fd := by
  obtain ⟨h1, h2, h3⟩ := h
  refine ⟨?_, ?_, ?_⟩
  · rw [h1]; show _ = nI (if spl C Hd n S (j + 1) = true then _ else _); rw [hn]; rfl
  · rw [h2]; show _ = nI (wyS C Hd n _ S j _); rw [wyS_no hn]
  · rw [h3]; show _ = dI (dpS C Hd n _ S j _); rw [dpS_no hn]
theorem ffI_yes {C Hd : Nat → Nat} {n S j oth : Nat} {Cn : Nat → Bool} {fs fw fd : Nat → Int32} (h : ffI C Hd n S j fs fw fd) (hp : ptOK C Hd n S Cn fs fw fd) (hS : S < 256) (hy : spl C Hd n S (j + 1) = true) (hj : j + 1 < S) (ho : clr S (j + 1) = oth) :
    ffI C Hd n S (j + 1) (upX fs S (fs S + nI 1)) (upX fw S (fw S + fw (j + 1) * fw oth)) (adF fd S (j + 1) oth) := by
  obtain ⟨h1, h2, h3⟩ := h
  subst ho
  have hl := spl_lt hy hS
  obtain ⟨-, -, w1, d1⟩ := hp (j + 1) (by omega) hj
  obtain ⟨-, -, w2, d2⟩ := hp (clr S (j + 1)) (by omega) hl.2.1
  refine ⟨?_, ?_, ?_⟩
  · rw [upX_s, h1, nI_add]; show _ = nI (if spl C Hd n S (j + 1) = true then _ else _); rw [hy]; rfl
  · rw [upX_s, h2, w1, w2, pk_mul, nI_add]; show _ = nI (wyS C Hd n _ S j _); rw [wyS_yes hy]
  · have o1 := dps_ok (C := C) (Hd := Hd) (n := n) (j + 1) (by omega)
    have o2 := dps_ok (C := C) (Hd := Hd) (n := n) (clr S (j + 1)) (by omega)
    have o3 := dpS_ok (C := C) (Hd := Hd) (n := n) hS (fun s hs => dps_ok (C := C) (Hd := Hd) (n := n) s (by omega)) j (by omega)
    show _ = dI (dpS C Hd n _ S j _)
    rw [dpS_yes hy]
    unfold adF
    rw [d1, d2, h3]
    generalize dps C Hd n (j + 1) = a at o1 ⊢
    generalize dps C Hd n (clr S (j + 1)) = b at o2 ⊢
    have hl2 := hl.2.1
    have hx : ∀ x, (x = 1000 ∨ x ≤ S) → (x = 1000 ∨ x < 1000) := fun x h => by omega
    have ha := dI_ne (d := a) (by omega)
    have hb := dI_ne (d := b) (by omega)
    by_cases a1 : a = 1000
    · rw [if_pos (ha.mpr a1), h3, if_neg (by have := mx_1 a b; omega)]
    · rw [if_neg (fun q => a1 (ha.mp q))]
      by_cases b1 : b = 1000
      · rw [if_pos (hb.mpr b1), h3, if_neg (by have := mx_2 a b; omega)]
      · rw [if_neg (fun q => b1 (hb.mp q)), upX_s]
        have ea : dI a = nI a := if_neg a1
        have eb : dI b = nI b := if_neg b1
        have em : (if nI a < nI b then nI b else nI a) = nI (mx a b) := by
          unfold mx
          by_cases q : a < b
          · rw [if_pos ((nI_ltI (by omega) (by omega)).mpr q), if_neg (by omega)]
          · rw [if_neg (fun z => q ((nI_ltI (by omega) (by omega)).mp z))]
            split
            · rfl
            · rw [show a = b by omega]
        rw [ea, eb, em, nI_add]
        generalize hX : itr (dpS C Hd n (dps C Hd n) S) j (dp0 S) = X at o3 ⊢
        have hm : mx a b ≤ 255 := by have := mx_or a b; omega
        have hXd := dI_ne (d := X) (by omega)
        by_cases x1 : X = 1000
        · rw [if_pos (hXd.mpr x1), if_pos (by omega)]
          unfold dI
          rw [if_neg (by omega), Nat.add_comm]
        · rw [if_neg (fun q => x1 (hXd.mp q))]
          have ex : dI X = nI X := if_neg x1
          rw [ex]
          by_cases q : mx a b + 1 < X
          · rw [if_pos q, if_pos ((nI_ltI (by omega) (by omega)).mpr (by omega))]
            unfold dI
            rw [if_neg (by omega), Nat.add_comm]
          · rw [if_neg q, if_neg (fun z => q (by have := (nI_ltI (by omega) (by omega)).mp z; omega)), ex]
theorem ffI_0 {C Hd : Nat → Nat} {n S : Nat} {fs fw fd : Nat → Int32} (hS : S < 256) (hm : S &&& (S - 1) ≤ S) (h1 : fs S = nI 0) (h2 : fw S = nI (wy0 S)) (h3 : fd S = dI (dp0 S)) : ffI C Hd n S (S - (S &&& (S - 1)) - 1) fs fw fd := by
  have hz : ∀ i, i < S - (S &&& (S - 1)) - 1 → spl C Hd n S (i + 1) = false := fun i hi => spl_low hS (by omega)
  refine ⟨?_, ?_, ?_⟩
  · rw [h1, itr_id (fun i hi => by rw [hz i hi]; rfl)]
  · rw [h2, itr_id (fun i hi => wyS_no (hz i hi))]
  · rw [h3, itr_id (fun i hi => dpS_no (hz i hi))]
theorem ffI_end {C Hd : Nat → Nat} {n S : Nat} {fs fw fd : Nat → Int32} (hS : S < 256) (hc : conn C S = true) (h : ffI C Hd n S (S - 1) fs fw fd) : fs S = nI (spc C Hd n S) ∧ fw S = nI (wys C Hd n S) ∧ fd S = dI (dps C Hd n S) := by
  refine ⟨?_, ?_, ?_⟩
  · rw [h.1]; unfold spc; rw [if_pos hc]
  · rw [wys_eq hS]; unfold wyF; rw [if_pos hc]; exact h.2.1
  · rw [dps_eq hS]; unfold dpF; rw [if_pos hc]; exact h.2.2
theorem ff_not {C Hd : Nat → Nat} {n S : Nat} (hS : S < 256) (h0 : S ≠ 0) (hc : conn C S = false) : spc C Hd n S = 0 ∧ wys C Hd n S = 0 ∧ dps C Hd n S = 1000 := by
  have hne : ¬ S &&& (S - 1) = 0 := fun q => by rw [one_conn hS h0 q] at hc; cases hc
  refine ⟨?_, ?_, ?_⟩
  · unfold spc; rw [hc]; rfl
  · rw [wys_eq hS]; unfold wyF; rw [hc]; unfold wy0; rw [if_neg hne]; rfl
  · rw [dps_eq hS]; unfold dpF; rw [hc]; unfold dp0; rw [if_neg hne]; rfl
theorem ptOK_up {C Hd : Nat → Nat} {n S : Nat} {Cn : Nat → Bool} {fs fw fd : Nat → Int32} (h : ptOK C Hd n S Cn fs fw fd) (hc : Cn S = conn C S) (h1 : fs S = nI (spc C Hd n S) ∧ fw S = nI (wys C Hd n S) ∧ fd S = dI (dps C Hd n S)) : ptOK C Hd n (S + 1) Cn fs fw fd := by
  intro s hs hl
  by_cases e : s = S
  · subst e; exact ⟨hc, h1⟩
  · exact h s hs (by omega)
theorem ptOK_set {C Hd : Nat → Nat} {n S : Nat} {Cn : Nat → Bool} {fs fw fd fs' fw' fd' : Nat → Int32} (h : ptOK C Hd n S Cn fs fw fd) (h1 : ∀ s, s ≠ S → fs' s = fs s ∧ fw' s = fw s ∧ fd' s = fd s) : ptOK C Hd n S Cn fs' fw' fd' := by
  intro s hs hl
  obtain ⟨a, b, c⟩ := h1 s (by omega)
  rw [a, b, c]; exact h s hs hl
theorem ptOK_C {C Hd : Nat → Nat} {n S : Nat} {Cn : Nat → Bool} {fs fw fd : Nat → Int32} {v : Bool} (h : ptOK C Hd n S Cn fs fw fd) : ptOK C Hd n S (upX Cn S v) fs fw fd := by
  intro s hs hl
  rw [upX_n (by omega)]; exact h s hs hl
theorem adF_n {fd : Nat → Int32} {S one oth s : Nat} (h : s ≠ S) : adF fd S one oth s = fd s := by
  unfold adF
  split
  · rfl
  · split
    · rfl
    · exact upX_n h
theorem ffJ {C Hd : Nat → Nat} {n S o : Nat} {Cn : Nat → Bool} {fs fw fd : Nat → Int32} (hp : ptOK C Hd n S Cn fs fw fd) (hS : S < 256) (h1 : 1 ≤ o) (ho : o ≤ S &&& (S - 1)) (hm : S &&& (S - 1) < S) :
    (clr o (S &&& (S - 1)) = 0 → S ^^^ o = S - o ∧ spl C Hd n S (S - o) = (Cn (S ^^^ o) && (Cn o && sep Hd n (S ^^^ o) o))) ∧ (¬ clr o (S &&& (S - 1)) = 0 → spl C Hd n S (S - o) = false) := by
  have h := spl_cls (C := C) (Hd := Hd) (n := n) hS h1 ho
  refine ⟨fun q => ?_, h.2⟩
  obtain ⟨a, b, c⟩ := h.1 q
  refine ⟨a, ?_⟩
  rw [c, (hp (S ^^^ o) (by omega) (by omega)).1, (hp o h1 (by omega)).1]
theorem ffJ_no {C Hd : Nat → Nat} {n S o : Nat} {Cn : Nat → Bool} {fs fw fd : Nat → Int32} (h : ffI C Hd n S (S - o - 1) fs fw fd) (hp : ptOK C Hd n S Cn fs fw fd) (hS : S < 256) (h1 : ¬ o = 0) (ho : o ≤ S &&& (S - 1)) (hm : S &&& (S - 1) < S)
    (hn : ¬ clr o (S &&& (S - 1)) = 0 ∨ (Cn (S ^^^ o) && (Cn o && sep Hd n (S ^^^ o) o)) = false) : ffI C Hd n S (S - (o - 1) - 1) fs fw fd := by
  have e : S - (o - 1) - 1 = S - o - 1 + 1 := by omega
  rw [e]
  have e2 : S - o - 1 + 1 = S - o := by omega
  refine ffI_no h ?_
  rw [e2]
  have k := ffJ hp hS (by omega) ho hm
  by_cases q : clr o (S &&& (S - 1)) = 0
  · rw [(k.1 q).2]
    exact hn.elim (fun z => absurd q z) id
  · exact k.2 q
theorem ffJ_yes {C Hd : Nat → Nat} {n S o : Nat} {Cn : Nat → Bool} {fs fw fd : Nat → Int32} (h : ffI C Hd n S (S - o - 1) fs fw fd) (hp : ptOK C Hd n S Cn fs fw fd) (hS : S < 256) (h1 : ¬ o = 0) (ho : o ≤ S &&& (S - 1)) (hm : S &&& (S - 1) < S)
    (q : clr o (S &&& (S - 1)) = 0) (hn : (Cn (S ^^^ o) && (Cn o && sep Hd n (S ^^^ o) o)) = true) : ffI C Hd n S (S - (o - 1) - 1) (upX fs S (fs S + nI 1)) (upX fw S (fw S + fw (S ^^^ o) * fw o)) (adF fd S (S ^^^ o) o) := by
  have e : S - (o - 1) - 1 = S - o - 1 + 1 := by omega
  rw [e]
  have e2 : S - o - 1 + 1 = S - o := by omega
  have k := (ffJ hp hS (by omega) ho hm).1 q
  have k2 := (spl_cls (C := C) (Hd := Hd) (n := n) hS (by omega : 1 ≤ o) ho).1 q
  have r := ffI_yes (oth := o) h hp hS (by rw [e2, k.2]; exact hn) (by omega) (by rw [e2]; exact k2.2.1)
  rw [e2, ← k.1] at r ⊢
  exact r
theorem ptOK_ad {C Hd : Nat → Nat} {n S one oth : Nat} {Cn : Nat → Bool} {fs fw fd : Nat → Int32} {x y : Int32} (h : ptOK C Hd n S Cn fs fw fd) : ptOK C Hd n S Cn (upX fs S x) (upX fw S y) (adF fd S one oth) :=
  ptOK_set h (fun s hs => ⟨upX_n hs, upX_n hs, adF_n hs⟩)
theorem ptOK_u3 {C Hd : Nat → Nat} {n S : Nat} {Cn : Nat → Bool} {fs fw fd : Nat → Int32} {x y z : Int32} (h : ptOK C Hd n S Cn fs fw fd) : ptOK C Hd n S Cn (upX fs S x) (upX fw S y) (upX fd S z) :=
  ptOK_set h (fun s hs => ⟨upX_n hs, upX_n hs, upX_n hs⟩)
theorem ff_no {C Hd : Nat → Nat} {n S : Nat} {Cn : Nat → Bool} {fs fw fd : Nat → Int32} (h : ptOK C Hd n S Cn fs fw fd) (hS : S < 256) (h0 : 0 < S) (hc : Cn S = conn C S) (hn : Cn S = false) : ptOK C Hd n (S + 1) Cn (upX fs S (nI 0)) (upX fw S (nI 0)) (upX fd S (-1)) := by
  rw [hc] at hn
  obtain ⟨a, b, c⟩ := ff_not (Hd := Hd) (n := n) hS (by omega) hn
  exact ptOK_up (ptOK_u3 h) hc ⟨by rw [upX_s, a], by rw [upX_s, b], by rw [upX_s, c]; rfl⟩
theorem and_pred_lt {S : Nat} (h : 0 < S) : S &&& (S - 1) < S := Nat.lt_of_le_of_lt Nat.and_le_right (by omega)
theorem ff_s {C Hd : Nat → Nat} {n S mv : Nat} {fs fw fd : Nat → Int32} (hS : S < 256) (h0 : 0 < S) (hm : mv = S &&& (S - 1)) (hne : ¬ mv = 0) : ffI C Hd n S (S - mv - 1) (upX fs S (nI 0)) (upX fw S (nI 0)) (upX fd S (-1)) := by
  subst hm
  refine ffI_0 hS (Nat.le_of_lt (and_pred_lt h0)) upX_s ?_ ?_
  · rw [upX_s]; unfold wy0; rw [if_neg hne]
  · rw [upX_s]; unfold dp0; rw [if_neg hne]; rfl
theorem ff_s1 {C Hd : Nat → Nat} {n S mv : Nat} {fs fw fd : Nat → Int32} (hS : S < 256) (h0 : 0 < S) (hm : mv = S &&& (S - 1)) (hz : mv = 0) : ffI C Hd n S (S - mv - 1) (upX fs S (nI 0)) (upX (upX fw S (nI 0)) S (nI 1)) (upX (upX fd S (-1)) S (nI 0)) := by
  subst hm
  refine ffI_0 hS (Nat.le_of_lt (and_pred_lt h0)) upX_s ?_ ?_
  · rw [upX_s]; unfold wy0; rw [if_pos hz]
  · rw [upX_s]; unfold dp0; rw [if_pos hz]; rfl
def PTG (k : kT) (ws : va_W) (h hp a4 a5 a6 a7 n : Nat) (C Hd : Nat → Nat) : Prop := ∃ (Cn : Nat → Bool) (fs fw fd : Nat → Int32) (kn : Bool), isPtg k ws h hp a4 a5 a6 a7 Cn fs fw fd kn ∧ (kn = true → ptOK C Hd n (2 ^ n) Cn fs fw fd)
theorem PTG.fr {k : kT} {ws ws1 : va_W} {h hp a4 a5 a6 a7 n : Nat} {C Hd : Nat → Nat} {x y : Nat} (P : PTG k ws h hp a4 a5 a6 a7 n C Hd) (f : fr ws ws1 x y) (hx : 9 < x ∨ y < 5 := by decide) : PTG k ws1 h hp a4 a5 a6 a7 n C Hd := by
  obtain ⟨Cn, fs, fw, fd, kn, h1, h2⟩ := P
  exact ⟨Cn, fs, fw, fd, kn, h1.fr f hx, h2⟩

