/-! ===== orders and tool changes, as functions of numbers ===== -/
def fixD (F : (Nat → Nat) → Nat → Nat) (M S : Nat) : Nat := fixU (fun g t => F (fun s => g (M - s)) (M - t)) (M - S)
theorem fixD_eq {F : (Nat → Nat) → Nat → Nat} {M S : Nat} (hS : S ≤ M) (loc : ∀ g g' : Nat → Nat, (∀ s, S < s → s ≤ M → g s = g' s) → F g S = F g' S) : fixD F M S = F (fixD F M) S := by
  have e : M - (M - S) = S := by omega
  unfold fixD
  rw [fixU_eq]
  · rw [e]
  · intro g g' hg
    rw [e]
    exact loc _ _ (fun s h1 h2 => hg (M - s) (by omega))
theorem cad_gt {C Hd : Nat → Nat} {b : Nat} {q : Bool} {n S p : Nat} (h : cad C Hd b q S p = true) (hS : S < 2 ^ n) (hp : p < n) : S.testBit p = false ∧ S < S ||| 2 ^ p ∧ S ||| 2 ^ p < 2 ^ n := by
  unfold cad at h
  rw [Bool.and_eq_true, decide_eq_true_iff] at h
  have h1 : S.testBit p = false := by
    cases z : S.testBit p
    · rfl
    · exact absurd (sbs_eq (sbs_or sbs_rf (sbs_pw z)) sbs_or1) h.1
  exact ⟨h1, Nat.lt_of_le_of_ne (sbs_le sbs_or1) (fun e => h.1 e.symm), or_lt hS (Nat.pow_lt_pow_right (by decide) hp)⟩
theorem cad_no {C Hd : Nat → Nat} {b : Nat} {q : Bool} {S p : Nat} (h : S.testBit p = true) : cad C Hd b q S p = false := by
  have e : S ||| 2 ^ p = S := sbs_eq (sbs_or sbs_rf (sbs_pw h)) sbs_or1
  unfold cad
  rw [decide_eq_false (p := S ||| 2 ^ p ≠ S) (fun z => z e)]
  rfl
def nxm (C Hd : Nat → Nat) (b : Nat) (q : Bool) (n S : Nat) : Nat := mkb (fun p => cad C Hd b q S p) n 0
theorem nxm_bit {C Hd : Nat → Nat} {b : Nat} {q : Bool} {n S p : Nat} (hp : p < n) : (nxm C Hd b q n S).testBit p = cad C Hd b q S p := by
  have h := mkb_bit (f := fun p => cad C Hd b q S p) (x := 0) (n := n) (i := p)
  unfold nxm
  cases z : cad C Hd b q S p
  · cases y : (mkb (fun p => cad C Hd b q S p) n 0).testBit p
    · rfl
    · rcases h.mp y with a | a
      · rw [Nat.zero_testBit] at a; cases a
      · rw [z] at a; exact a.2.symm
  · exact h.mpr (Or.inr ⟨hp, z⟩)
def chI (x : Int32) (t : Nat) : Nat := if x = -1 then 0 else if x = nI t then 0 else 1
theorem chI_le (x : Int32) (t : Nat) : chI x t ≤ 1 := by unfold chI; split; omega; split <;> omega
def orS (C Hd : Nat → Nat) (b : Nat) (q : Bool) (g : Nat → Nat) (S p x : Nat) : Nat := if cad C Hd b q S p = true then x + g (S ||| 2 ^ p) else x
def orF (C Hd : Nat → Nat) (b : Nat) (q : Bool) (n : Nat) (g : Nat → Nat) (S : Nat) : Nat := itr (orS C Hd b q g S) n (if S = 2 ^ n - 1 then 1 else 0)
def ord (C Hd : Nat → Nat) (b : Nat) (q : Bool) (n : Nat) : Nat → Nat := fixD (orF C Hd b q n) (2 ^ n - 1)
theorem orS_yes {C Hd : Nat → Nat} {b : Nat} {q : Bool} {g : Nat → Nat} {S p x : Nat} (h : cad C Hd b q S p = true) : orS C Hd b q g S p x = x + g (S ||| 2 ^ p) := if_pos h
theorem orS_no {C Hd : Nat → Nat} {b : Nat} {q : Bool} {g : Nat → Nat} {S p x : Nat} (h : cad C Hd b q S p = false) : orS C Hd b q g S p x = x := if_neg (by rw [h]; decide)
theorem ord_eq {C Hd : Nat → Nat} {b : Nat} {q : Bool} {n S : Nat} (hS : S < 2 ^ n) : ord C Hd b q n S = orF C Hd b q n (ord C Hd b q n) S := by
  refine fixD_eq (by omega) (fun g g' hg => itr_cong (fun p x hp => ?_))
  cases z : cad C Hd b q S p
  · rw [orS_no z, orS_no z]
  · have h := cad_gt z hS hp
    rw [orS_yes z, orS_yes z, hg _ h.2.1 (by omega)]
def fwS (C Hd : Nat → Nat) (b : Nat) (q : Bool) (T : Nat → Nat) (g : Nat → Nat) (x : Int32) (S p y : Nat) : Nat := if cad C Hd b q S p = true then (if chI x (T p) + g (4 * (S ||| 2 ^ p) + T p) < y then chI x (T p) + g (4 * (S ||| 2 ^ p) + T p) else y) else y
def fwF (C Hd : Nat → Nat) (b : Nat) (q : Bool) (T : Nat → Nat) (n : Nat) (g : Nat → Nat) (x : Int32) (S : Nat) : Nat := itr (fwS C Hd b q T g x S) n (if S = 2 ^ n - 1 then 0 else 1000)
theorem fwS_yes {C Hd : Nat → Nat} {b : Nat} {q : Bool} {T g : Nat → Nat} {x : Int32} {S p y : Nat} (h : cad C Hd b q S p = true) : fwS C Hd b q T g x S p y = if chI x (T p) + g (4 * (S ||| 2 ^ p) + T p) < y then chI x (T p) + g (4 * (S ||| 2 ^ p) + T p) else y := if_pos h
theorem fwS_no {C Hd : Nat → Nat} {b : Nat} {q : Bool} {T g : Nat → Nat} {x : Int32} {S p y : Nat} (h : cad C Hd b q S p = false) : fwS C Hd b q T g x S p y = y := if_neg (by rw [h]; decide)
def cgv (C Hd : Nat → Nat) (b : Nat) (q : Bool) (T : Nat → Nat) (n : Nat) : Nat → Nat := fixD (fun g i => fwF C Hd b q T n g (nI (i % 4)) (i / 4)) (4 * (2 ^ n - 1) + 3)
theorem cgv_eq {C Hd : Nat → Nat} {b : Nat} {q : Bool} {T : Nat → Nat} {n S t : Nat} (hT : ∀ p, T p < 4) (hS : S < 2 ^ n) (ht : t < 4) : cgv C Hd b q T n (4 * S + t) = fwF C Hd b q T n (cgv C Hd b q T n) (nI t) S := by
  have e1 : (4 * S + t) % 4 = t := by omega
  have e2 : (4 * S + t) / 4 = S := by omega
  have h := fixD_eq (F := fun g i => fwF C Hd b q T n g (nI (i % 4)) (i / 4)) (M := 4 * (2 ^ n - 1) + 3) (S := 4 * S + t) (by omega) (fun g g' hg => by
    show fwF C Hd b q T n g (nI ((4 * S + t) % 4)) ((4 * S + t) / 4) = fwF C Hd b q T n g' (nI ((4 * S + t) % 4)) ((4 * S + t) / 4)
    rw [e1, e2]
    refine itr_cong (fun p x hp => ?_)
    cases z : cad C Hd b q S p
    · rw [fwS_no z, fwS_no z]
    · have h := cad_gt z hS hp
      have hp4 := hT p
      rw [fwS_yes z, fwS_yes z, hg _ (by omega) (by omega)])
  have h2 : cgv C Hd b q T n (4 * S + t) = fwF C Hd b q T n (cgv C Hd b q T n) (nI ((4 * S + t) % 4)) ((4 * S + t) / 4) := h
  rw [e1, e2] at h2
  exact h2
theorem fwF_le {C Hd : Nat → Nat} {b : Nat} {q : Bool} {T : Nat → Nat} {g : Nat → Nat} {x : Int32} {S : Nat} : ∀ (k y : Nat), itr (fwS C Hd b q T g x S) k y ≤ y
  | 0, _ => Nat.le_refl _
  | k + 1, y => by
    have ih := fwF_le (C := C) (Hd := Hd) (b := b) (q := q) (T := T) (g := g) (x := x) (S := S) k y
    show fwS C Hd b q T g x S k _ ≤ y
    cases z : cad C Hd b q S k
    · rw [fwS_no z]; exact ih
    · rw [fwS_yes z]; split <;> omega
theorem fwF_1000 {C Hd : Nat → Nat} {b : Nat} {q : Bool} {T : Nat → Nat} {n : Nat} {g : Nat → Nat} {x : Int32} {S : Nat} : fwF C Hd b q T n g x S ≤ 1000 := by
  refine Nat.le_trans (fwF_le n _) ?_
  split <;> omega
theorem fwF_at {C Hd : Nat → Nat} {b : Nat} {q : Bool} {T : Nat → Nat} {g : Nat → Nat} {x : Int32} {S y : Nat} : ∀ (k : Nat), itr (fwS C Hd b q T g x S) k y = y ∨ ∃ p, p < k ∧ cad C Hd b q S p = true ∧ chI x (T p) + g (4 * (S ||| 2 ^ p) + T p) = itr (fwS C Hd b q T g x S) k y
  | 0 => Or.inl rfl
  | k + 1 => by
    have ih := fwF_at (C := C) (Hd := Hd) (b := b) (q := q) (T := T) (g := g) (x := x) (S := S) (y := y) k
    have up : (itr (fwS C Hd b q T g x S) k y = y ∨ ∃ p, p < k ∧ cad C Hd b q S p = true ∧ chI x (T p) + g (4 * (S ||| 2 ^ p) + T p) = itr (fwS C Hd b q T g x S) k y) → (itr (fwS C Hd b q T g x S) k y = y ∨ ∃ p, p < k + 1 ∧ cad C Hd b q S p = true ∧ chI x (T p) + g (4 * (S ||| 2 ^ p) + T p) = itr (fwS C Hd b q T g x S) k y) := fun h => h.elim Or.inl (fun ⟨p, a, b⟩ => Or.inr ⟨p, by omega, b⟩)
    show fwS C Hd b q T g x S k _ = y ∨ ∃ p, p < k + 1 ∧ cad C Hd b q S p = true ∧ chI x (T p) + g (4 * (S ||| 2 ^ p) + T p) = fwS C Hd b q T g x S k _
    cases z : cad C Hd b q S k
    · rw [fwS_no z]; exact up ih
    · rw [fwS_yes z]
      split
      · exact Or.inr ⟨k, by omega, z, rfl⟩
      · exact up ih
def few (C Hd : Nat → Nat) (b : Nat) (q : Bool) (T : Nat → Nat) (n : Nat) : Nat := fwF C Hd b q T n (cgv C Hd b q T n) (-1) 0
/-- the first number below n that has f; n if there is none -/
def lfi (f : Nat → Bool) : Nat → Nat
  | 0 => 0
  | k + 1 => if lfi f k < k then lfi f k else if f k = true then k else k + 1
theorem lfi_le (f : Nat → Bool) : ∀ n, lfi f n ≤ n
  | 0 => Nat.le_refl _
  | k + 1 => by
    have := lfi_le f k
    unfold lfi; split
    · omega
    · split <;> omega
theorem lfi_yes {f : Nat → Bool} : ∀ {n : Nat}, lfi f n < n → f (lfi f n) = true
  | 0, h => absurd h (Nat.not_lt_zero _)
  | k + 1, h => by
    by_cases a : lfi f k < k
    · have e : lfi f (k + 1) = lfi f k := if_pos a
      rw [e]; exact lfi_yes a
    · by_cases c : f k = true
      · have e : lfi f (k + 1) = k := (if_neg a).trans (if_pos c)
        rw [e]; exact c
      · have e : lfi f (k + 1) = k + 1 := (if_neg a).trans (if_neg c)
        omega
theorem lfi_no {f : Nat → Bool} : ∀ {n j : Nat}, j < lfi f n → f j = false
  | 0, _, h => absurd h (Nat.not_lt_zero _)
  | k + 1, j, h => by
    have le := lfi_le f k
    by_cases a : lfi f k < k
    · have e : lfi f (k + 1) = lfi f k := if_pos a
      rw [e] at h; exact lfi_no h
    · have e0 : lfi f k = k := by omega
      by_cases c : f k = true
      · have e : lfi f (k + 1) = k := (if_neg a).trans (if_pos c)
        rw [e] at h
        exact lfi_no (n := k) (by omega)
      · have e : lfi f (k + 1) = k + 1 := (if_neg a).trans (if_neg c)
        rw [e] at h
        by_cases z : j = k
        · subst z; exact Bool.eq_false_iff.mpr c
        · exact lfi_no (n := k) (by omega)
theorem lfi_eq {f : Nat → Bool} {n p : Nat} (hp : p < n) (h : f p = true) (hn : ∀ j, j < p → f j = false) : lfi f n = p := by
  rcases Nat.lt_trichotomy (lfi f n) p with a | a | a
  · have := lfi_yes (f := f) (n := n) (by omega)
    rw [hn _ a] at this; cases this
  · exact a
  · have := lfi_no a
    rw [h] at this; cases this
theorem lfi_none {f : Nat → Bool} {n : Nat} (hn : ∀ j, j < n → f j = false) : lfi f n = n := by
  have le := lfi_le f n
  rcases Nat.lt_or_ge (lfi f n) n with a | a
  · have := lfi_yes a
    rw [hn _ a] at this; cases this
  · omega
def lnP (C Hd : Nat → Nat) (b : Nat) (q : Bool) (T : Nat → Nat) (n S : Nat) (x : Int32) (l p : Nat) : Bool := cad C Hd b q S p && decide (chI x (T p) + cgv C Hd b q T n (4 * (S ||| 2 ^ p) + T p) = l)
def lnx (C Hd : Nat → Nat) (b : Nat) (q : Bool) (T : Nat → Nat) (n S : Nat) (x : Int32) (l : Nat) : Nat := lfi (lnP C Hd b q T n S x l) n
/-- the best order step by step: what is in, the tool, what changes are left -/
def bq (C Hd : Nat → Nat) (b : Nat) (q : Bool) (T : Nat → Nat) (n : Nat) : Nat → Nat × Int32 × Nat
  | 0 => (0, -1, few C Hd b q T n)
  | k + 1 => ((bq C Hd b q T n k).1 ||| 2 ^ (lnx C Hd b q T n (bq C Hd b q T n k).1 (bq C Hd b q T n k).2.1 (bq C Hd b q T n k).2.2), nI (T (lnx C Hd b q T n (bq C Hd b q T n k).1 (bq C Hd b q T n k).2.1 (bq C Hd b q T n k).2.2)),
      (bq C Hd b q T n k).2.2 - chI (bq C Hd b q T n k).2.1 (T (lnx C Hd b q T n (bq C Hd b q T n k).1 (bq C Hd b q T n k).2.1 (bq C Hd b q T n k).2.2)))
def bp (C Hd : Nat → Nat) (b : Nat) (q : Bool) (T : Nat → Nat) (n k : Nat) : Nat := lnx C Hd b q T n (bq C Hd b q T n k).1 (bq C Hd b q T n k).2.1 (bq C Hd b q T n k).2.2
theorem lnx_yes {C Hd : Nat → Nat} {b : Nat} {q : Bool} {T : Nat → Nat} {n S : Nat} {x : Int32} {l : Nat} (h : lnx C Hd b q T n S x l < n) : cad C Hd b q S (lnx C Hd b q T n S x l) = true ∧ chI x (T (lnx C Hd b q T n S x l)) + cgv C Hd b q T n (4 * (S ||| 2 ^ (lnx C Hd b q T n S x l)) + T (lnx C Hd b q T n S x l)) = l := by
  have := lfi_yes h
  unfold lnP at this
  rw [Bool.and_eq_true, decide_eq_true_iff] at this
  exact this
theorem ct8_all : ∀ n, n ≤ 8 → ct8 (2 ^ n - 1) = n := by decide
theorem ct8_n {n S : Nat} (hn : n ≤ 8) (hS : S < 2 ^ n) (hne : S ≠ 2 ^ n - 1) : ct8 S < n := by
  have hp := p2_le hn
  have h1 : 0 < 2 ^ n := Nat.two_pow_pos n
  have hs : sbs S (2 ^ n - 1) := fun i hi => by
    rw [Nat.testBit_two_pow_sub_one]; exact decide_eq_true (bit_lt hS hi)
  have := ct8_lt hs (by omega) hne
  rw [ct8_all n hn] at this
  exact this
theorem ct8_or : ∀ S, S < 256 → ∀ p, p < 8 → S.testBit p = false → ct8 (S ||| 2 ^ p) = ct8 S + 1 := by decide +kernel
theorem ct8_0 : ct8 0 = 0 := by decide
/-- while an order is possible, each step finds its part -/
theorem bq_ok {C Hd : Nat → Nat} {b : Nat} {q : Bool} {T : Nat → Nat} {n : Nat} (hn : n ≤ 8) (hT : ∀ p, T p < 4) (hf : few C Hd b q T n < 1000) : ∀ k, k ≤ n →
    (bq C Hd b q T n k).1 < 2 ^ n ∧ ct8 (bq C Hd b q T n k).1 = k ∧ (bq C Hd b q T n k).2.2 = fwF C Hd b q T n (cgv C Hd b q T n) (bq C Hd b q T n k).2.1 (bq C Hd b q T n k).1 ∧ (bq C Hd b q T n k).2.2 < 1000 ∧ (k < n → bp C Hd b q T n k < n)
  | 0, h0 => by
    have hp : 0 < 2 ^ n := Nat.two_pow_pos n
    refine ⟨hp, ct8_0, rfl, hf, fun hk => ?_⟩
    have hne : (0 : Nat) ≠ 2 ^ n - 1 := by
      intro e
      have := ct8_all n hn
      rw [← e, ct8_0] at this; omega
    rcases fwF_at (C := C) (Hd := Hd) (b := b) (q := q) (T := T) (g := cgv C Hd b q T n) (x := -1) (S := 0) (y := if (0 : Nat) = 2 ^ n - 1 then 0 else 1000) n with a | ⟨p, a1, a2, a3⟩
    · exfalso
      have : few C Hd b q T n = 1000 := by
        show fwF C Hd b q T n (cgv C Hd b q T n) (-1) 0 = 1000
        unfold fwF; rw [a, if_neg hne]
      omega
    · show lfi _ n < n
      have h1 : lnP C Hd b q T n 0 (-1) (few C Hd b q T n) p = true := by
        unfold lnP; rw [a2, Bool.true_and, decide_eq_true_iff]; exact a3
      rcases Nat.lt_or_ge (lfi (lnP C Hd b q T n 0 (-1) (few C Hd b q T n)) n) n with z | z
      · exact z
      · have := lfi_no (f := lnP C Hd b q T n 0 (-1) (few C Hd b q T n)) (n := n) (j := p) (by omega)
        rw [h1] at this; cases this
  | k + 1, hk => by
    obtain ⟨i1, i2, i3, i4, i5⟩ := bq_ok hn hT hf k (by omega)
    have hb : lnx C Hd b q T n (bq C Hd b q T n k).1 (bq C Hd b q T n k).2.1 (bq C Hd b q T n k).2.2 < n := i5 (by omega)
    obtain ⟨l1, l2⟩ := lnx_yes hb
    show ((bq C Hd b q T n k).1 ||| 2 ^ (lnx C Hd b q T n (bq C Hd b q T n k).1 (bq C Hd b q T n k).2.1 (bq C Hd b q T n k).2.2)) < 2 ^ n ∧ _ ∧
      (bq C Hd b q T n k).2.2 - chI (bq C Hd b q T n k).2.1 (T (lnx C Hd b q T n (bq C Hd b q T n k).1 (bq C Hd b q T n k).2.1 (bq C Hd b q T n k).2.2)) = fwF C Hd b q T n (cgv C Hd b q T n) (nI (T (lnx C Hd b q T n (bq C Hd b q T n k).1 (bq C Hd b q T n k).2.1 (bq C Hd b q T n k).2.2))) ((bq C Hd b q T n k).1 ||| 2 ^ (lnx C Hd b q T n (bq C Hd b q T n k).1 (bq C Hd b q T n k).2.1 (bq C Hd b q T n k).2.2)) ∧ _ ∧ (k + 1 < n → lfi (lnP C Hd b q T n ((bq C Hd b q T n k).1 ||| 2 ^ (lnx C Hd b q T n (bq C Hd b q T n k).1 (bq C Hd b q T n k).2.1 (bq C Hd b q T n k).2.2)) (nI (T (lnx C Hd b q T n (bq C Hd b q T n k).1 (bq C Hd b q T n k).2.1 (bq C Hd b q T n k).2.2))) ((bq C Hd b q T n k).2.2 - chI (bq C Hd b q T n k).2.1 (T (lnx C Hd b q T n (bq C Hd b q T n k).1 (bq C Hd b q T n k).2.1 (bq C Hd b q T n k).2.2)))) n < n)
    have e0 : (bq C Hd b q T n (k + 1)).1 = (bq C Hd b q T n k).1 ||| 2 ^ (lnx C Hd b q T n (bq C Hd b q T n k).1 (bq C Hd b q T n k).2.1 (bq C Hd b q T n k).2.2) := rfl
    have e00 : (bq C Hd b q T n (k + 1)).2.2 = (bq C Hd b q T n k).2.2 - chI (bq C Hd b q T n k).2.1 (T (lnx C Hd b q T n (bq C Hd b q T n k).1 (bq C Hd b q T n k).2.1 (bq C Hd b q T n k).2.2)) := rfl
    rw [e0, e00]
    generalize lnx C Hd b q T n (bq C Hd b q T n k).1 (bq C Hd b q T n k).2.1 (bq C Hd b q T n k).2.2 = p at hb l1 l2 ⊢
    generalize (bq C Hd b q T n k).1 = S at i1 i2 i3 l1 l2 ⊢
    generalize (bq C Hd b q T n k).2.1 = x at i3 l2 ⊢
    generalize (bq C Hd b q T n k).2.2 = l at i3 i4 l2 ⊢
    have g := cad_gt l1 i1 hb
    have e1 : l - chI x (T p) = cgv C Hd b q T n (4 * (S ||| 2 ^ p) + T p) := by omega
    have e2 := cgv_eq (C := C) (Hd := Hd) (b := b) (q := q) hT g.2.2 (hT p)
    have e3 : l - chI x (T p) < 1000 := by omega
    have hp2 := p2_le hn
    refine ⟨g.2.2, by rw [ct8_or S (by omega) p (by omega) g.1, i2], e1.trans e2, e3, fun hkn => ?_⟩
    have hne : (S ||| 2 ^ p) ≠ 2 ^ n - 1 := by
      intro e
      have h1 := ct8_or S (by omega) p (by omega) g.1
      rw [e, ct8_all n hn] at h1
      omega
    rw [e1, e2]
    rw [e1, e2] at e3
    rcases fwF_at (C := C) (Hd := Hd) (b := b) (q := q) (T := T) (g := cgv C Hd b q T n) (x := nI (T p)) (S := S ||| 2 ^ p) (y := if (S ||| 2 ^ p) = 2 ^ n - 1 then 0 else 1000) n with a | ⟨p', a1, a2, a3⟩
    · exfalso
      have : fwF C Hd b q T n (cgv C Hd b q T n) (nI (T p)) (S ||| 2 ^ p) = 1000 := by
        unfold fwF; rw [a, if_neg hne]
      omega
    · have h1 : lnP C Hd b q T n (S ||| 2 ^ p) (nI (T p)) (fwF C Hd b q T n (cgv C Hd b q T n) (nI (T p)) (S ||| 2 ^ p)) p' = true := by
        unfold lnP; rw [a2, Bool.true_and, decide_eq_true_iff]; exact a3
      rcases Nat.lt_or_ge (lfi (lnP C Hd b q T n (S ||| 2 ^ p) (nI (T p)) (fwF C Hd b q T n (cgv C Hd b q T n) (nI (T p)) (S ||| 2 ^ p))) n) n with z | z
      · exact z
      · have := lfi_no (f := lnP C Hd b q T n (S ||| 2 ^ p) (nI (T p)) (fwF C Hd b q T n (cgv C Hd b q T n) (nI (T p)) (S ||| 2 ^ p))) (n := n) (j := p') (by omega)
        rw [h1] at this; cases this
theorem bp_ok {C Hd : Nat → Nat} {b : Nat} {q : Bool} {T : Nat → Nat} {n : Nat} (hn : n ≤ 8) (hT : ∀ p, T p < 4) (hf : few C Hd b q T n < 1000) {k : Nat} (hk : k < n) : bp C Hd b q T n k < n := (bq_ok hn hT hf k (by omega)).2.2.2.2 hk
/-- all orders gone through -/
def lsS (C Hd : Nat → Nat) (b : Nat) (q : Bool) (T : Nat → Nat) (f : Nat → Int32 → Nat) (S : Nat) (x : Int32) (p y : Nat) : Nat := if cad C Hd b q S p = true then (if chI x (T p) + f (S ||| 2 ^ p) (nI (T p)) < y then chI x (T p) + f (S ||| 2 ^ p) (nI (T p)) else y) else y
def lst (C Hd : Nat → Nat) (b : Nat) (q : Bool) (T : Nat → Nat) (n : Nat) : Nat → Nat → Int32 → Nat
  | 0, _, _ => 0
  | d + 1, S, x => itr (lsS C Hd b q T (lst C Hd b q T n d) S x) n 1000
theorem lsS_yes {C Hd : Nat → Nat} {b : Nat} {q : Bool} {T : Nat → Nat} {f : Nat → Int32 → Nat} {S : Nat} {x : Int32} {p y : Nat} (h : cad C Hd b q S p = true) : lsS C Hd b q T f S x p y = if chI x (T p) + f (S ||| 2 ^ p) (nI (T p)) < y then chI x (T p) + f (S ||| 2 ^ p) (nI (T p)) else y := if_pos h
theorem lsS_no {C Hd : Nat → Nat} {b : Nat} {q : Bool} {T : Nat → Nat} {f : Nat → Int32 → Nat} {S : Nat} {x : Int32} {p y : Nat} (h : cad C Hd b q S p = false) : lsS C Hd b q T f S x p y = y := if_neg (by rw [h]; decide)
theorem lst_le {C Hd : Nat → Nat} {b : Nat} {q : Bool} {T : Nat → Nat} {f : Nat → Int32 → Nat} {S : Nat} {x : Int32} : ∀ (k y : Nat), itr (lsS C Hd b q T f S x) k y ≤ y
  | 0, _ => Nat.le_refl _
  | k + 1, y => by
    have ih := lst_le (C := C) (Hd := Hd) (b := b) (q := q) (T := T) (f := f) (x := x) (S := S) k y
    show lsS C Hd b q T f S x k _ ≤ y
    cases z : cad C Hd b q S k
    · rw [lsS_no z]; exact ih
    · rw [lsS_yes z]; split <;> omega
theorem lst_1000 {C Hd : Nat → Nat} {b : Nat} {q : Bool} {T : Nat → Nat} {n : Nat} : ∀ (d S : Nat) (x : Int32), lst C Hd b q T n d S x ≤ 1000
  | 0, _, _ => Nat.zero_le _
  | _ + 1, _, _ => lst_le n 1000
theorem lst_fwF {C Hd : Nat → Nat} {b : Nat} {q : Bool} {T : Nat → Nat} {n : Nat} (hn : n ≤ 8) (hT : ∀ p, T p < 4) : ∀ (d S : Nat) (x : Int32), S < 2 ^ n → ct8 S + d = n → lst C Hd b q T n d S x = fwF C Hd b q T n (cgv C Hd b q T n) x S
  | 0, S, x, hS, hd => by
    have e : S = 2 ^ n - 1 := by
      by_cases z : S = 2 ^ n - 1
      · exact z
      · have := ct8_n hn hS z; omega
    show 0 = fwF C Hd b q T n _ x S
    unfold fwF
    rw [if_pos e, itr_id]
    intro p hp
    refine fwS_no (cad_no ?_)
    rw [e, Nat.testBit_two_pow_sub_one]; exact decide_eq_true hp
  | d + 1, S, x, hS, hd => by
    have e : ¬ S = 2 ^ n - 1 := by
      intro z
      have := ct8_all n hn
      rw [← z] at this; omega
    show itr (lsS C Hd b q T (lst C Hd b q T n d) S x) n 1000 = fwF C Hd b q T n _ x S
    unfold fwF
    rw [if_neg e]
    refine itr_cong (fun p y hp => ?_)
    cases z : cad C Hd b q S p
    · rw [lsS_no z, fwS_no z]
    · have g := cad_gt z hS hp
      have hp2 := p2_le hn
      rw [lsS_yes z, fwS_yes z, cgv_eq hT g.2.2 (hT p), lst_fwF hn hT d (S ||| 2 ^ p) (nI (T p)) g.2.2 (by rw [ct8_or S (by omega) p (by omega) g.1]; omega)]
/-! ===== the ordering as the world holds it ===== -/
def isOrd (k : kT) (ws : va_W) (h hp b1 b2 b3 b4 b5 : Nat) (Sn : Nat → Bool) (fx fo fg fb : Nat → Int32) (fe : Int32) (kn : Bool) : Prop :=
  ws[10]? = some (h, .inr (1, [.ref hp, .ref b1, .ref b2, .ref b3, .ref b4, .ref b5, .int fe, .int (bI kn)])) ∧ ws[11]? = some (b1, .inl (k.2.1, 256, .inl (fun i => bI (Sn i)))) ∧ ws[12]? = some (b2, .inl (k.1, 256, .inl fx)) ∧ ws[13]? = some (b3, .inl (k.1, 256, .inl fo)) ∧ ws[14]? = some (b4, .inl (k.1, 1024, .inl fg)) ∧ ws[15]? = some (b5, .inl (k.1, 8, .inl fb))
theorem isOrd.fr {k : kT} {ws ws1 : va_W} {h hp b1 b2 b3 b4 b5 : Nat} {Sn : Nat → Bool} {fx fo fg fb : Nat → Int32} {fe : Int32} {kn : Bool} {x y : Nat} (P : isOrd k ws h hp b1 b2 b3 b4 b5 Sn fx fo fg fb fe kn) (f : fr ws ws1 x y) (hx : 15 < x ∨ y < 10 := by decide) : isOrd k ws1 h hp b1 b2 b3 b4 b5 Sn fx fo fg fb fe kn :=
  ⟨(f 10 (by omega)).trans P.1, (f 11 (by omega)).trans P.2.1, (f 12 (by omega)).trans P.2.2.1, (f 13 (by omega)).trans P.2.2.2.1, (f 14 (by omega)).trans P.2.2.2.2.1, (f 15 (by omega)).trans P.2.2.2.2.2⟩
def orOK (C Hd : Nat → Nat) (b : Nat) (q : Bool) (T : Nat → Nat) (n m : Nat) (Sn : Nat → Bool) (fx fo fg : Nat → Int32) : Prop := ∀ s, m ≤ s → s < 2 ^ n → Sn s = sou C Hd b q s ∧ fx s = nI (nxm C Hd b q n s) ∧ fo s = nI (ord C Hd b q n s) ∧ ∀ t, t < 4 → fg (4 * s + t) = nI (cgv C Hd b q T n (4 * s + t))
def beOK (C Hd : Nat → Nat) (b : Nat) (q : Bool) (T : Nat → Nat) (n : Nat) (fb : Nat → Int32) : Prop := ∀ j, j < n → (∀ i, i ≤ j → bp C Hd b q T n i < n) → fb j = nI (bp C Hd b q T n j)
def kdOK (C Hd : Nat → Nat) (b : Nat) (q : Bool) (T : Nat → Nat) (n : Nat) (Sn : Nat → Bool) (fx fo fg fb : Nat → Int32) (fe : Int32) : Prop := orOK C Hd b q T n 0 Sn fx fo fg ∧ fe = nI (few C Hd b q T n) ∧ beOK C Hd b q T n fb
def OTG (k : kT) (ws : va_W) (h hp b1 b2 b3 b4 b5 n : Nat) (T C Hd : Nat → Nat) (b : Nat) (q : Bool) : Prop := ∃ (Sn : Nat → Bool) (fx fo fg fb : Nat → Int32) (fe : Int32) (kn : Bool), isOrd k ws h hp b1 b2 b3 b4 b5 Sn fx fo fg fb fe kn ∧ (kn = true → kdOK C Hd b q T n Sn fx fo fg fb fe)
theorem OTG.fr {k : kT} {ws ws1 : va_W} {h hp b1 b2 b3 b4 b5 n : Nat} {T C Hd : Nat → Nat} {b : Nat} {q : Bool} {x y : Nat} (P : OTG k ws h hp b1 b2 b3 b4 b5 n T C Hd b q) (f : fr ws ws1 x y) (hx : 15 < x ∨ y < 10 := by decide) : OTG k ws1 h hp b1 b2 b3 b4 b5 n T C Hd b q := by
  obtain ⟨Sn, fx, fo, fg, fb, fe, kn, h1, h2⟩ := P
  exact ⟨Sn, fx, fo, fg, fb, fe, kn, h1.fr f hx, h2⟩
def smI (m : Nat) : Int32 := if m = 0 then -1 else nI (m - 1)
theorem smI_s (m : Nat) : smI (m + 1) = nI m := if_neg (by omega)
theorem smI_p (s : Nat) : nI s + Int32.ofInt (-1) = smI s := by
  unfold smI
  split
  next h => subst h; decide +kernel
  next h => exact nI_pd (by omega)
theorem smI_0 {m : Nat} (h : smI m < 0) (hm : m < 2 ^ 31) : m = 0 := by
  by_cases e : m = 0
  · exact e
  · unfold smI at h
    rw [if_neg e] at h
    exact absurd h (nI_pos (by omega))
theorem smI_n {m : Nat} (h : ¬ smI m < 0) : ¬ m = 0 := fun e => h (by subst e; decide +kernel)
theorem mn_N {a b : Nat} (ha : a < 2 ^ 31) (hb : b < 2 ^ 31) : (if nI a < nI b then nI a else nI b) = nI (if a < b then a else b) := by
  by_cases h : a < b
  · rw [if_pos h, if_pos ((nI_ltI ha hb).mpr h)]
  · rw [if_neg h, if_neg (fun z => h ((nI_ltI ha hb).mp z))]
theorem ap_ix {x : Int32} {n : Nat} (h1 : ¬ x < 0) (h2 : x < nI n) (hn : n ≤ 8) : ∃ j : Nat, j < n ∧ x = nI j := by
  obtain ⟨j, hj, rfl⟩ := nI_of h1
  exact ⟨j, (nI_ltI hj (by omega)).mp h2, rfl⟩
def orN (f : Nat) : Int32 := if f = 1000 then -1 else nI f
def baV (C Hd : Nat → Nat) (b : Nat) (q : Bool) (T : Nat → Nat) (n : Nat) (x : Int32) : Int32 := if x < 0 then -1 else if x < nI n then (if few C Hd b q T n = 1000 then -1 else nI (bp C Hd b q T n x.toNatClampNeg)) else -1
theorem baV_in {C Hd : Nat → Nat} {b : Nat} {q : Bool} {T : Nat → Nat} {n j : Nat} (h : j < n) (hn : n ≤ 8) : baV C Hd b q T n (nI j) = if few C Hd b q T n = 1000 then -1 else nI (bp C Hd b q T n j) := by
  unfold baV
  rw [if_neg (nI_pos (by omega)), if_pos ((nI_ltI (by omega) (by omega)).mpr h), nI_clamp (by omega)]
theorem lv_re {ls : Array Slot} {nL : Nat} {l l2 : List (Nat × Value)} (h : lv_has ls nL l) (e : l = l2) : lv_has ls nL l2 := e ▸ h

