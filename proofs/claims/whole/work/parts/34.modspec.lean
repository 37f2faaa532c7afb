/-! ===== the reference's rows: ways and depths again, counts from below, changes by last parts ===== -/
def mtOK (C Hd : Nat → Nat) (n m : Nat) (gw gd : Nat → Int32) : Prop := ∀ s, 1 ≤ s → s < m → gw s = nI (wys C Hd n s) ∧ gd s = nI (dps C Hd n s)
theorem dps_b {C Hd : Nat → Nat} {n S : Nat} (h : S < 256) : dps C Hd n S < 2 ^ 31 := by
  have := dps_ok (C := C) (Hd := Hd) (n := n) S h; omega
theorem mtOK_set {C Hd : Nat → Nat} {n t : Nat} {gw gd hw hd : Nat → Int32} (h : mtOK C Hd n t gw gd) (h1 : ∀ s, s ≠ t → hw s = gw s ∧ hd s = gd s) : mtOK C Hd n t hw hd := by
  intro s hs hl
  obtain ⟨a, b⟩ := h1 s (by omega)
  rw [a, b]; exact h s hs hl
theorem mt_end {C Hd : Nat → Nat} {n t j : Nat} {hw hd : Nat → Int32} (hS : t < 256) (h : mtOK C Hd n t hw hd) (h1 : hw t = nI (itr (wyS C Hd n (wys C Hd n) t) j (wy0 t))) (h2 : hd t = nI (itr (dpS C Hd n (dps C Hd n) t) j (dp0 t))) (hj : j = t - 1 ∨ conn C t = false) (hc : conn C t = false → j = 0) : mtOK C Hd n (t + 1) hw hd := by
  intro s hs hl
  by_cases e : s = t
  · subst e
    rw [wys_eq hS, dps_eq hS, h1, h2]
    unfold wyF dpF
    cases c : conn C s
    · rw [hc c]; exact ⟨rfl, rfl⟩
    · rcases hj with z | z
      · rw [z]; exact ⟨rfl, rfl⟩
      · rw [c] at z; cases z
  · exact h s hs (by omega)
theorem dp_b {C Hd : Nat → Nat} {n t j : Nat} (hS : t < 256) (hj : j ≤ t - 1) : itr (dpS C Hd n (dps C Hd n) t) j (dp0 t) < 2 ^ 31 := by
  have := dpS_ok (C := C) (Hd := Hd) (n := n) hS (fun s hs => dps_ok (C := C) (Hd := Hd) (n := n) s (by omega)) j hj; omega
def ocS (C Hd : Nat → Nat) (b : Nat) (q : Bool) (g : Nat → Nat) (S k x : Nat) : Nat := if (decide (clr S (2 ^ k) ≠ S) && cad C Hd b q (clr S (2 ^ k)) k) = true then x + g (clr S (2 ^ k)) else x
def ocF (C Hd : Nat → Nat) (b : Nat) (q : Bool) (n : Nat) (g : Nat → Nat) (S : Nat) : Nat := itr (ocS C Hd b q g S) n (if S = 0 then 1 else 0)
def oc (C Hd : Nat → Nat) (b : Nat) (q : Bool) (n : Nat) : Nat → Nat := fixU (ocF C Hd b q n)
theorem clr_lt2 {S k : Nat} (h : clr S (2 ^ k) ≠ S) : clr S (2 ^ k) < S := Nat.lt_of_le_of_ne clr_le h
theorem ocS_yes {C Hd : Nat → Nat} {b : Nat} {q : Bool} {g : Nat → Nat} {S k x : Nat} (h1 : ¬ clr S (2 ^ k) = S) (h2 : cad C Hd b q (clr S (2 ^ k)) k = true) : ocS C Hd b q g S k x = x + g (clr S (2 ^ k)) := if_pos (by rw [decide_eq_true h1, h2]; rfl)
theorem ocS_no1 {C Hd : Nat → Nat} {b : Nat} {q : Bool} {g : Nat → Nat} {S k x : Nat} (h1 : clr S (2 ^ k) = S) : ocS C Hd b q g S k x = x := if_neg (by rw [decide_eq_false (p := clr S (2 ^ k) ≠ S) (fun z => z h1)]; simp)
theorem ocS_no2 {C Hd : Nat → Nat} {b : Nat} {q : Bool} {g : Nat → Nat} {S k x : Nat} (h2 : cad C Hd b q (clr S (2 ^ k)) k = false) : ocS C Hd b q g S k x = x := if_neg (by rw [h2]; simp)
theorem oc_eq {C Hd : Nat → Nat} {b : Nat} {q : Bool} {n S : Nat} : oc C Hd b q n S = ocF C Hd b q n (oc C Hd b q n) S := by
  refine fixU_eq (fun g g' hg => itr_cong (fun k x hk => ?_))
  by_cases h1 : clr S (2 ^ k) = S
  · rw [ocS_no1 h1, ocS_no1 h1]
  · cases h2 : cad C Hd b q (clr S (2 ^ k)) k
    · rw [ocS_no2 h2, ocS_no2 h2]
    · rw [ocS_yes h1 h2, ocS_yes h1 h2, hg _ (clr_lt2 h1)]
/-- sums -/
def sm (f : Nat → Nat) (n : Nat) : Nat := itr (fun p x => x + f p) n 0
theorem sm_s (f : Nat → Nat) (n : Nat) : sm f (n + 1) = sm f n + f n := rfl
theorem sm_cong {f g : Nat → Nat} : ∀ {n : Nat}, (∀ p, p < n → f p = g p) → sm f n = sm g n
  | 0, _ => rfl
  | n + 1, h => by rw [sm_s, sm_s, sm_cong (n := n) (fun p hp => h p (by omega)), h n (by omega)]
theorem sm_add (f g : Nat → Nat) : ∀ n, sm (fun p => f p + g p) n = sm f n + sm g n
  | 0 => rfl
  | n + 1 => by rw [sm_s, sm_s, sm_s, sm_add f g n]; omega
theorem sm_0 : ∀ n, sm (fun _ => 0) n = 0
  | 0 => rfl
  | n + 1 => by rw [sm_s, sm_0 n]
theorem sm_swap (f : Nat → Nat → Nat) (m : Nat) : ∀ n, sm (fun p => sm (f p) m) n = sm (fun r => sm (fun p => f p r) n) m
  | 0 => (sm_0 m).symm
  | n + 1 => by
    rw [sm_s, sm_swap f m n, ← sm_add]
    exact sm_cong (fun r _ => rfl)
theorem sm_if (c : Bool) (f : Nat → Nat) : ∀ n, sm (fun p => if c = true then f p else 0) n = if c = true then sm f n else 0 := by
  intro n
  cases c
  · exact sm_0 n
  · rfl
theorem itr_sm {f : Nat → Nat → Nat} {g : Nat → Nat} : ∀ {n x : Nat}, (∀ p y, p < n → f p y = y + g p) → itr f n x = x + sm g n
  | 0, _, _ => rfl
  | n + 1, x, h => by
    show f n (itr f n x) = _
    rw [h n _ (by omega), itr_sm (n := n) (fun p y hp => h p y (by omega)), sm_s]; omega
/-- the orders from S to E of k parts, by the first of them -/
def pf (C Hd : Nat → Nat) (b : Nat) (q : Bool) (n E : Nat) : Nat → Nat → Nat
  | 0, S => if S = E then 1 else 0
  | k + 1, S => sm (fun p => if cad C Hd b q S p = true then pf C Hd b q n E k (S ||| 2 ^ p) else 0) n
/-- .. by the last -/
def lsB (C Hd : Nat → Nat) (b : Nat) (q : Bool) (E p : Nat) : Bool := decide (clr E (2 ^ p) ≠ E) && cad C Hd b q (clr E (2 ^ p)) p
def pl (C Hd : Nat → Nat) (b : Nat) (q : Bool) (n S : Nat) : Nat → Nat → Nat
  | 0, E => if S = E then 1 else 0
  | k + 1, E => sm (fun p => if lsB C Hd b q E p = true then pl C Hd b q n S k (clr E (2 ^ p)) else 0) n
theorem clr_or {S p : Nat} (h : S.testBit p = false) : clr (S ||| 2 ^ p) (2 ^ p) = S := Nat.eq_of_testBit_eq fun i => by
  rw [clr_bit, Nat.testBit_or, Nat.testBit_two_pow]
  by_cases e : p = i
  · subst e; rw [h]; simp
  · rw [decide_eq_false e]; simp
theorem or_clr {E p : Nat} (h : E.testBit p = true) : clr E (2 ^ p) ||| 2 ^ p = E := Nat.eq_of_testBit_eq fun i => by
  rw [Nat.testBit_or, clr_bit, Nat.testBit_two_pow]
  by_cases e : p = i
  · subst e; rw [h]; simp
  · rw [decide_eq_false e]; simp
theorem clr_ne {E p : Nat} : clr E (2 ^ p) ≠ E ↔ E.testBit p = true := by
  constructor
  · intro h
    cases z : E.testBit p
    · exfalso; apply h
      apply Nat.eq_of_testBit_eq; intro i
      rw [clr_bit, Nat.testBit_two_pow]
      by_cases e : p = i
      · subst e; rw [z]; rfl
      · rw [decide_eq_false e]; simp
    · rfl
  · intro h e
    have : (clr E (2 ^ p)).testBit p = true := by rw [e]; exact h
    rw [clr_bit, h, Nat.testBit_two_pow_self] at this; cases this
theorem cad_bit {C Hd : Nat → Nat} {b : Nat} {q : Bool} {S p : Nat} (h : cad C Hd b q S p = true) : S.testBit p = false := by
  cases z : S.testBit p
  · rfl
  · rw [cad_no z] at h; cases h
theorem first_last {C Hd : Nat → Nat} {b : Nat} {q : Bool} {n : Nat} : ∀ (k S E : Nat), pf C Hd b q n E k S = pl C Hd b q n S k E
  | 0, _, _ => rfl
  | 1, S, E => by
    show sm _ n = sm _ n
    refine sm_cong (fun p _ => ?_)
    show (if cad C Hd b q S p = true then (if S ||| 2 ^ p = E then 1 else 0) else 0) = (if lsB C Hd b q E p = true then (if S = clr E (2 ^ p) then 1 else 0) else 0)
    unfold lsB
    by_cases h : cad C Hd b q S p = true ∧ S ||| 2 ^ p = E
    · obtain ⟨h1, rfl⟩ := h
      have hb := cad_bit h1
      rw [clr_or hb, if_pos h1, if_pos rfl, if_pos, if_pos rfl]
      rw [h1, decide_eq_true (p := S ≠ S ||| 2 ^ p) (fun z => by
        have : (S ||| 2 ^ p).testBit p = true := by rw [Nat.testBit_or, Nat.testBit_two_pow_self, Bool.or_true]
        rw [← z, hb] at this; cases this)]; rfl
    · have l : (if cad C Hd b q S p = true then (if S ||| 2 ^ p = E then 1 else 0) else 0) = 0 := by
        by_cases h1 : cad C Hd b q S p = true
        · rw [if_pos h1, if_neg (fun z => h ⟨h1, z⟩)]
        · rw [if_neg h1]
      rw [l]
      by_cases h2 : (decide (clr E (2 ^ p) ≠ E) && cad C Hd b q (clr E (2 ^ p)) p) = true
      · rw [if_pos h2]
        rw [if_neg]
        intro z
        rw [Bool.and_eq_true, decide_eq_true_iff] at h2
        exact h ⟨by rw [z]; exact h2.2, by rw [z]; exact or_clr (clr_ne.mp h2.1)⟩
      · rw [if_neg h2]
  | k + 2, S, E => by
    show sm (fun p => if cad C Hd b q S p = true then pf C Hd b q n E (k + 1) (S ||| 2 ^ p) else 0) n = sm (fun r => if lsB C Hd b q E r = true then pl C Hd b q n S (k + 1) (clr E (2 ^ r)) else 0) n
    have e1 : sm (fun p => if cad C Hd b q S p = true then pf C Hd b q n E (k + 1) (S ||| 2 ^ p) else 0) n = sm (fun p => sm (fun r => if cad C Hd b q S p = true then (if lsB C Hd b q E r = true then pl C Hd b q n (S ||| 2 ^ p) k (clr E (2 ^ r)) else 0) else 0) n) n := by
      refine sm_cong (fun p _ => ?_)
      rw [first_last (k + 1) (S ||| 2 ^ p) E, sm_if]
      rfl
    rw [e1, sm_swap]
    refine sm_cong (fun r _ => ?_)
    cases h : lsB C Hd b q E r
    · rw [if_neg (by decide)]
      rw [show (fun p => if cad C Hd b q S p = true then (if false = true then pl C Hd b q n (S ||| 2 ^ p) k (clr E (2 ^ r)) else 0) else 0) = fun _ => 0 from by funext p; split <;> rfl]
      exact sm_0 n
    · rw [if_pos rfl, ← first_last (k + 1) S (clr E (2 ^ r))]
      show _ = sm (fun p => if cad C Hd b q S p = true then pf C Hd b q n (clr E (2 ^ r)) k (S ||| 2 ^ p) else 0) n
      refine sm_cong (fun p _ => ?_)
      rw [first_last k (S ||| 2 ^ p) (clr E (2 ^ r)), if_pos rfl]
theorem ord_pf {C Hd : Nat → Nat} {b : Nat} {q : Bool} {n : Nat} (hn : n ≤ 8) : ∀ (k S : Nat), S < 2 ^ n → ct8 S + k = n → ord C Hd b q n S = pf C Hd b q n (2 ^ n - 1) k S
  | 0, S, hS, hk => by
    have e : S = 2 ^ n - 1 := by
      by_cases z : S = 2 ^ n - 1
      · exact z
      · have := ct8_n hn hS z; omega
    rw [ord_eq hS]
    show itr (orS C Hd b q (ord C Hd b q n) S) n _ = if S = 2 ^ n - 1 then 1 else 0
    rw [itr_id (fun p hp => orS_no (cad_no (by rw [e, Nat.testBit_two_pow_sub_one]; exact decide_eq_true hp)))]
  | k + 1, S, hS, hk => by
    have e : ¬ S = 2 ^ n - 1 := by
      intro z
      have := ct8_all n hn
      rw [← z] at this; omega
    rw [ord_eq hS]
    show itr (orS C Hd b q (ord C Hd b q n) S) n (if S = 2 ^ n - 1 then 1 else 0) = sm (fun p => if cad C Hd b q S p = true then pf C Hd b q n (2 ^ n - 1) k (S ||| 2 ^ p) else 0) n
    rw [if_neg e, itr_sm (g := fun p => if cad C Hd b q S p = true then pf C Hd b q n (2 ^ n - 1) k (S ||| 2 ^ p) else 0)]
    · omega
    · intro p y hp
      have hp2 := p2_le hn
      cases z : cad C Hd b q S p
      · rw [orS_no z]; rfl
      · have g := cad_gt z hS hp
        rw [orS_yes z, if_pos rfl, ord_pf hn k (S ||| 2 ^ p) g.2.2 (by rw [ct8_or S (by omega) p (by omega) g.1]; omega)]
theorem ct8_clr : ∀ E, E < 256 → ∀ p, p < 8 → E.testBit p = true → ct8 E = ct8 (clr E (2 ^ p)) + 1 := by
  intro E hE p hp h
  have hb : (clr E (2 ^ p)).testBit p = false := by rw [clr_bit, h, Nat.testBit_two_pow_self]; rfl
  have := ct8_or (clr E (2 ^ p)) (Nat.lt_of_le_of_lt clr_le hE) p hp hb
  rw [or_clr h] at this
  exact this
theorem ct8_z {E : Nat} (hE : E < 256) (h : ct8 E = 0) : E = 0 := by
  by_cases e : E = 0
  · exact e
  · have := ct8_lt (sbs_0 (a := E)) hE (fun z => e z.symm)
    omega
theorem oc_pl {C Hd : Nat → Nat} {b : Nat} {q : Bool} {n : Nat} (hn : n ≤ 8) : ∀ (k E : Nat), E < 2 ^ n → ct8 E = k → oc C Hd b q n E = pl C Hd b q n 0 k E
  | 0, E, hE, hk => by
    have hp2 := p2_le hn
    have e := ct8_z (by omega) hk
    subst e
    rw [oc_eq]
    show itr (ocS C Hd b q (oc C Hd b q n) 0) n _ = 1
    rw [itr_id (fun k _ => ocS_no1 (Nat.le_zero.mp clr_le))]; rfl
  | k + 1, E, hE, hk => by
    have hp2 := p2_le hn
    have e : ¬ E = 0 := by
      intro z; rw [z, ct8_0] at hk; omega
    rw [oc_eq]
    show itr (ocS C Hd b q (oc C Hd b q n) E) n (if E = 0 then 1 else 0) = sm (fun p => if lsB C Hd b q E p = true then pl C Hd b q n 0 k (clr E (2 ^ p)) else 0) n
    rw [if_neg e, itr_sm (g := fun p => if lsB C Hd b q E p = true then pl C Hd b q n 0 k (clr E (2 ^ p)) else 0)]
    · omega
    · intro p y hp
      by_cases z : lsB C Hd b q E p = true
      · rw [if_pos z]
        have z2 := z
        unfold lsB at z2
        rw [Bool.and_eq_true, decide_eq_true_iff] at z2
        have h1 := ct8_clr E (by omega) p (by omega) (clr_ne.mp z2.1)
        rw [ocS_yes z2.1 z2.2, oc_pl hn k (clr E (2 ^ p)) (clr_lt hE) (by omega)]
      · rw [if_neg z]
        exact if_neg z
theorem oc_ord {C Hd : Nat → Nat} {b : Nat} {q : Bool} {n : Nat} (hn : n ≤ 8) : oc C Hd b q n (2 ^ n - 1) = ord C Hd b q n 0 := by
  have hp : 0 < 2 ^ n := Nat.two_pow_pos n
  rw [oc_pl hn n (2 ^ n - 1) (by omega) (ct8_all n hn), ord_pf hn n 0 hp (by rw [ct8_0]; omega), first_last]
/-- the fewest changes behind a set with a last part, as the reference lays them -/
def mcv (C Hd : Nat → Nat) (b : Nat) (q : Bool) (T : Nat → Nat) (n s k : Nat) : Nat := if (s.testBit k && cad C Hd b q (clr s (2 ^ k)) k) = true then cgv C Hd b q T n (4 * s + T k) else 1000
theorem mcv_in {C Hd : Nat → Nat} {b : Nat} {q : Bool} {T : Nat → Nat} {n S k : Nat} (h : S.testBit k = false) : mcv C Hd b q T n (S ||| 2 ^ k) k = if cad C Hd b q S k = true then cgv C Hd b q T n (4 * (S ||| 2 ^ k) + T k) else 1000 := by
  unfold mcv
  rw [clr_or h, Nat.testBit_or, Nat.testBit_two_pow_self, Bool.or_true, Bool.true_and]
theorem mcv_b {C Hd : Nat → Nat} {b : Nat} {q : Bool} {T : Nat → Nat} {n S k : Nat} (hT : ∀ p, T p < 4) (hS : S < 2 ^ n) : mcv C Hd b q T n S k ≤ 1000 := by
  unfold mcv
  split
  · rw [cgv_eq hT hS (hT k)]; exact fwF_1000
  · exact Nat.le_refl _
theorem chI_T {x t : Nat} (hx : x < 4) (ht : t < 4) : chI (nI x) t = if t = x then 0 else 1 := by
  unfold chI
  rw [if_neg (fun z => m1_ne (by omega) z.symm)]
  by_cases e : x = t
  · rw [if_pos (by rw [e]), if_pos e.symm]
  · rw [if_neg (fun z => e ((nI_eq (by omega) (by omega)).mp z)), if_neg (fun z => e z.symm)]
theorem mc_step {C Hd : Nat → Nat} {b : Nat} {q : Bool} {T : Nat → Nat} {n S k nx y : Nat} (hT : ∀ p, T p < 4) (hy : y ≤ 1000) :
    fwS C Hd b q T (cgv C Hd b q T n) (nI (T k)) S nx y = if S.testBit nx = true then y else if mcv C Hd b q T n (S ||| 2 ^ nx) nx + (if T nx = T k then 0 else 1) < y then mcv C Hd b q T n (S ||| 2 ^ nx) nx + (if T nx = T k then 0 else 1) else y := by
  cases h : S.testBit nx
  · rw [if_neg (by decide), mcv_in h]
    cases z : cad C Hd b q S nx
    · rw [fwS_no z, if_neg (show ¬ (false = true) by decide), if_neg (by omega)]
    · rw [fwS_yes z, if_pos rfl, chI_T (hT k) (hT nx), Nat.add_comm]
  · rw [fwS_no (cad_no h), if_pos rfl]
def fmS (C Hd : Nat → Nat) (b : Nat) (q : Bool) (T : Nat → Nat) (n k y : Nat) : Nat := if mcv C Hd b q T n (2 ^ k) k < y then mcv C Hd b q T n (2 ^ k) k else y
theorem few_mc {C Hd : Nat → Nat} {b : Nat} {q : Bool} {T : Nat → Nat} {n : Nat} (hn1 : 0 < n) (hn : n ≤ 8) : ∀ k, k ≤ n → itr (fmS C Hd b q T n) k 1000 = itr (fwS C Hd b q T (cgv C Hd b q T n) (-1) 0) k 1000 := by
  intro k hk
  induction k with
  | zero => rfl
  | succ k ih =>
    show fmS C Hd b q T n k _ = fwS C Hd b q T (cgv C Hd b q T n) (-1) 0 k _
    rw [ih (by omega)]
    have hle := fwF_le (C := C) (Hd := Hd) (b := b) (q := q) (T := T) (g := cgv C Hd b q T n) (x := -1) (S := 0) k 1000
    generalize itr (fwS C Hd b q T (cgv C Hd b q T n) (-1) 0) k 1000 = y at hle ⊢
    have e := mcv_in (C := C) (Hd := Hd) (b := b) (q := q) (T := T) (n := n) (S := 0) (k := k) (Nat.zero_testBit k)
    rw [Nat.zero_or] at e
    unfold fmS
    rw [e]
    cases z : cad C Hd b q 0 k
    · rw [fwS_no z, if_neg (show ¬ (false = true) by decide), if_neg (by omega)]
    · rw [fwS_yes z, if_pos rfl, Nat.zero_or]
      have : chI (-1) (T k) = 0 := if_pos rfl
      rw [this, Nat.zero_add]
theorem few_eq {C Hd : Nat → Nat} {b : Nat} {q : Bool} {T : Nat → Nat} {n : Nat} (hn1 : 0 < n) (hn : n ≤ 8) : itr (fmS C Hd b q T n) n 1000 = few C Hd b q T n := by
  rw [few_mc hn1 hn n (Nat.le_refl n)]
  unfold few fwF
  have h1 : 2 ≤ 2 ^ n := by
    have := Nat.pow_le_pow_right (show 0 < 2 by decide) (show 1 ≤ n from hn1)
    omega
  rw [if_neg (by omega)]
theorem or_8 : ∀ k, k < 8 → (8 * 2 ^ k) ||| k = 8 * 2 ^ k + k := by decide
theorem m8_or {k : Nat} (h : k < 8) : nI (8 * 2 ^ k) ||| nI k = nI (8 * 2 ^ k + k) := by rw [an_or, or_8 k h]
/-- the reference's question at a place of the order is the class's -/
theorem lnP_mc {C Hd : Nat → Nat} {b : Nat} {q : Bool} {T : Nat → Nat} {n S k l ch : Nat} {x : Int32} (hl : l < 1000) (hch : chI x (T k) = ch) : lnP C Hd b q T n S x l k = (!S.testBit k && decide (mcv C Hd b q T n (S ||| 2 ^ k) k + ch = l)) := by
  unfold lnP
  cases h : S.testBit k
  · rw [mcv_in h, hch]
    cases z : cad C Hd b q S k
    · rw [if_neg (by decide), decide_eq_false (p := 1000 + ch = l) (by omega)]; rfl
    · rw [if_pos rfl, Nat.add_comm ch]; rfl
  · rw [cad_no h]; rfl
