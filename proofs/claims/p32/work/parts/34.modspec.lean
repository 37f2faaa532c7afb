/-! ===== the reference's rows: ways and depths again, counts from below, changes by last parts ===== -/
/-- sums -/
def sm (f : Nat → Nat) (n : Nat) : Nat := itr (fun p x => x + f p) n 0
theorem sm_s (f : Nat → Nat) (n : Nat) : sm f (n + 1) = sm f n + f n := rfl
theorem sm_cong {f g : Nat → Nat} : ∀ {n : Nat}, (∀ p, p < n → f p = g p) → sm f n = sm g n
  | 0, _ => rfl
  | n + 1, h => by rw [sm_s, sm_s, sm_cong (n := n) (fun p hp => h p (by omega)), h n (by omega)]
theorem sm_add (f g : Nat → Nat) : ∀ n, sm (fun p => f p + g p) n = sm f n + sm g n
  | 0 => rfl
  | n + 1 => by rw [sm_s, sm_s, sm_s, sm_add f g n]; omega
theorem sm_0 : ∀ n, sm (fun _ => 0) n = 0
  | 0 => rfl
  | n + 1 => by rw [sm_s, sm_0 n]
theorem itr_sm {f : Nat → Nat → Nat} {g : Nat → Nat} : ∀ {n x : Nat}, (∀ p y, p < n → f p y = y + g p) → itr f n x = x + sm g n
  | 0, _, _ => rfl
  | n + 1, x, h => by
    show f n (itr f n x) = _
    rw [h n _ (by omega), itr_sm (n := n) (fun p y hp => h p y (by omega)), sm_s]; omega
/-- .. by the last -/
def lsB (C Hd : Nat → Nat) (b : Nat) (q : Bool) (E p : Nat) : Bool := decide (clr E (2 ^ p) ≠ E) && cad C Hd b q (clr E (2 ^ p)) p
def pl (C Hd : Nat → Nat) (b : Nat) (q : Bool) (n S : Nat) : Nat → Nat → Nat
  | 0, E => if S = E then 1 else 0
  | k + 1, E => sm (fun p => if lsB C Hd b q E p = true then pl C Hd b q n S k (clr E (2 ^ p)) else 0) n
theorem clr_or {S p : Nat} (h : S.testBit p = false) : clr (S ||| 2 ^ p) (2 ^ p) = S := Nat.eq_of_testBit_eq fun i => by
  rw [clr_bit, Nat.testBit_or, Nat.testBit_two_pow]
  by_cases e : p = i
  · subst e; rw [h]; simp
  · rw [decide_eq_false e]; simp
theorem or_clr {E p : Nat} (h : E.testBit p = true) : clr E (2 ^ p) ||| 2 ^ p = E := Nat.eq_of_testBit_eq fun i => by
  rw [Nat.testBit_or, clr_bit, Nat.testBit_two_pow]
  by_cases e : p = i
  · subst e; rw [h]; simp
  · rw [decide_eq_false e]; simp
theorem clr_ne {E p : Nat} : clr E (2 ^ p) ≠ E ↔ E.testBit p = true := by
  constructor
  · intro h
    cases z : E.testBit p
    · exfalso; apply h
      apply Nat.eq_of_testBit_eq; intro i
      rw [clr_bit, Nat.testBit_two_pow]
      by_cases e : p = i
      · subst e; rw [z]; rfl
      · rw [decide_eq_false e]; simp
    · rfl
  · intro h e
    have : (clr E (2 ^ p)).testBit p = true := by rw [e]; exact h
    rw [clr_bit, h, Nat.testBit_two_pow_self] at this; cases this
theorem cad_bit {C Hd : Nat → Nat} {b : Nat} {q : Bool} {S p : Nat} (h : cad C Hd b q S p = true) : S.testBit p = false := by
  cases z : S.testBit p
  · rfl
  · rw [cad_no z] at h; cases h
