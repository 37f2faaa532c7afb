/-! ===== the closure of a set: two ways to find it give the same ===== -/
def sbs (a b : Nat) : Prop := ∀ i, a.testBit i = true → b.testBit i = true
def cld (L : Nat → Nat) (R : Nat) : Prop := ∀ k, k < 8 → R.testBit k = true → sbs (L k) R
theorem sbs_rf {a : Nat} : sbs a a := fun _ h => h
theorem sbs_tr {a b c : Nat} (h : sbs a b) (h2 : sbs b c) : sbs a c := fun i q => h2 i (h i q)
theorem sbs_0 {a : Nat} : sbs 0 a := fun i h => by rw [Nat.zero_testBit] at h; cases h
theorem sbs_or {a b c : Nat} (h : sbs a c) (h2 : sbs b c) : sbs (a ||| b) c := fun i q => by
  rw [Nat.testBit_or, Bool.or_eq_true] at q
  exact q.elim (h i) (h2 i)
theorem sbs_or1 {a b : Nat} : sbs a (a ||| b) := fun i q => by rw [Nat.testBit_or, q]; rfl
theorem sbs_or2 {a b : Nat} : sbs b (a ||| b) := fun i q => by rw [Nat.testBit_or, q, Bool.or_true]
theorem sbs_eq {a b : Nat} (h : sbs a b) (h2 : sbs b a) : a = b := Nat.eq_of_testBit_eq fun i => by
  cases ha : a.testBit i <;> cases hb : b.testBit i
  · rfl
  · rw [h2 i hb] at ha; cases ha
  · rw [h i ha] at hb; cases hb
  · rfl
theorem sbs_and {a b : Nat} (h : sbs a b) : a &&& b = a := Nat.eq_of_testBit_eq fun i => by
  rw [Nat.testBit_and]
  cases ha : a.testBit i
  · rfl
  · rw [h i ha]; rfl
theorem sbs_le {a b : Nat} (h : sbs a b) : a ≤ b := by rw [← sbs_and h]; exact Nat.and_le_right
theorem sbs_and1 {a b : Nat} : sbs (a &&& b) a := fun i q => by rw [Nat.testBit_and, Bool.and_eq_true] at q; exact q.1
theorem sbs_and2 {a b : Nat} : sbs (a &&& b) b := fun i q => by rw [Nat.testBit_and, Bool.and_eq_true] at q; exact q.2
theorem bit_lt {x n i : Nat} (h : x < 2 ^ n) (q : x.testBit i = true) : i < n := by
  rcases Nat.lt_or_ge i n with a | a
  · exact a
  · rw [Nat.testBit_lt_two_pow (Nat.lt_of_lt_of_le h (Nat.pow_le_pow_right (by decide) a))] at q; cases q
theorem pw_bit {k i : Nat} (h : (2 ^ k).testBit i = true) : k = i := by
  rw [Nat.testBit_two_pow] at h; exact of_decide_eq_true h
theorem sbs_pw {k x : Nat} (h : x.testBit k = true) : sbs (2 ^ k) x := fun i q => by rw [← pw_bit q]; exact h
/-- a sweep only adds -/
theorem rsw_ge (L : Nat → Nat) (k x : Nat) : sbs x (rsw L k x) := by
  unfold rsw; split
  · exact sbs_or1
  · exact sbs_rf
theorem swp_mono (L : Nat → Nat) (x : Nat) : ∀ {j k : Nat}, j ≤ k → sbs (itr (rsw L) j x) (itr (rsw L) k x)
  | j, 0, h => by have e : j = 0 := by omega
                  subst e; exact sbs_rf
  | j, k + 1, h => by
    rcases Nat.lt_or_ge j (k + 1) with q | q
    · exact sbs_tr (swp_mono L x (by omega)) (rsw_ge L k _)
    · have e : j = k + 1 := by omega
      subst e; exact sbs_rf
theorem rch_ge (L : Nat → Nat) (f : Nat) : ∀ t, sbs f (rch L f t)
  | 0 => sbs_rf
  | t + 1 => sbs_tr (rch_ge L f t) (swp_mono L (rch L f t) (j := 0) (Nat.zero_le 8))
theorem swp_min {L : Nat → Nat} {x Y : Nat} (h : sbs x Y) (hY : cld L Y) : ∀ {k : Nat}, k ≤ 8 → sbs (itr (rsw L) k x) Y
  | 0, _ => h
  | k + 1, hk => by
    have ih := swp_min h hY (k := k) (by omega)
    show sbs (rsw L k _) Y
    unfold rsw; split
    next q => exact sbs_or ih (hY k (by omega) (ih k q))
    next => exact ih
theorem rch_min {L : Nat → Nat} {f Y : Nat} (h : sbs f Y) (hY : cld L Y) : ∀ t, sbs (rch L f t) Y
  | 0 => h
  | t + 1 => swp_min (rch_min h hY t) hY (Nat.le_refl 8)
theorem fix_cld {L : Nat → Nat} {x : Nat} (h : itr (rsw L) 8 x = x) : cld L x := by
  intro k hk hx
  have e1 : itr (rsw L) k x = x := sbs_eq (Eq.subst (motive := fun z => sbs (itr (rsw L) k x) z) h (swp_mono L x (show k ≤ 8 by omega))) (swp_mono L x (j := 0) (Nat.zero_le k))
  have h2 : sbs (itr (rsw L) (k + 1) x) x := by
    have := swp_mono L x (show k + 1 ≤ 8 by omega)
    rw [h] at this; exact this
  have e3 : itr (rsw L) (k + 1) x = x ||| L k := by
    show rsw L k (itr (rsw L) k x) = _
    rw [e1]; unfold rsw; rw [if_pos hx]
  rw [e3] at h2
  exact sbs_tr sbs_or2 h2
theorem cld_fix {L : Nat → Nat} {x : Nat} (h : cld L x) : itr (rsw L) 8 x = x := sbs_eq (swp_min sbs_rf h (Nat.le_refl 8)) (swp_mono L x (j := 0) (Nat.zero_le 8))
def ct8 (S : Nat) : Nat := (S.testBit 0).toNat + (S.testBit 1).toNat + (S.testBit 2).toNat + (S.testBit 3).toNat + (S.testBit 4).toNat + (S.testBit 5).toNat + (S.testBit 6).toNat + (S.testBit 7).toNat
theorem tn_le {a b : Bool} (h : a = true → b = true) : a.toNat ≤ b.toNat := by cases a <;> cases b <;> first | decide | (exact absurd (h rfl) (by decide))
theorem tn_eq {a b : Bool} (h : a.toNat = b.toNat) : a = b := by cases a <;> cases b <;> first | rfl | (exact absurd h (by decide))
theorem tn_1 (a : Bool) : a.toNat ≤ 1 := by cases a <;> decide
theorem lt8_cases {P : Nat → Prop} (h0 : P 0) (h1 : P 1) (h2 : P 2) (h3 : P 3) (h4 : P 4) (h5 : P 5) (h6 : P 6) (h7 : P 7) : ∀ i, i < 8 → P i := by
  intro i hi
  rcases (show i = 0 ∨ i = 1 ∨ i = 2 ∨ i = 3 ∨ i = 4 ∨ i = 5 ∨ i = 6 ∨ i = 7 by omega) with rfl | rfl | rfl | rfl | rfl | rfl | rfl | rfl <;> assumption
theorem ct8_lt {x y : Nat} (h : sbs x y) (hy : y < 2 ^ 8) (hne : x ≠ y) : ct8 x < ct8 y := by
  apply Nat.lt_of_not_le
  intro hc
  have g : ∀ i, (x.testBit i).toNat ≤ (y.testBit i).toNat := fun i => tn_le (h i)
  have g0 := g 0; have g1 := g 1; have g2 := g 2; have g3 := g 3; have g4 := g 4; have g5 := g 5; have g6 := g 6; have g7 := g 7
  unfold ct8 at hc
  have hx : x < 2 ^ 8 := Nat.lt_of_le_of_lt (sbs_le h) hy
  apply hne
  apply Nat.eq_of_testBit_eq
  intro i
  rcases Nat.lt_or_ge i 8 with q | q
  · exact lt8_cases (P := fun i => x.testBit i = y.testBit i) (tn_eq (by omega)) (tn_eq (by omega)) (tn_eq (by omega)) (tn_eq (by omega)) (tn_eq (by omega)) (tn_eq (by omega)) (tn_eq (by omega)) (tn_eq (by omega)) i q
  · have hp : 2 ^ 8 ≤ 2 ^ i := Nat.pow_le_pow_right (by decide) q
    rw [Nat.testBit_lt_two_pow (Nat.lt_of_lt_of_le hx hp), Nat.testBit_lt_two_pow (Nat.lt_of_lt_of_le hy hp)]
theorem ct8_full {x : Nat} (h : 8 ≤ ct8 x) : ∀ i, i < 8 → x.testBit i = true := by
  have g : ∀ i, (x.testBit i).toNat ≤ 1 := fun i => tn_1 _
  have g0 := g 0; have g1 := g 1; have g2 := g 2; have g3 := g 3; have g4 := g 4; have g5 := g 5; have g6 := g 6; have g7 := g 7
  unfold ct8 at h
  exact lt8_cases (P := fun i => x.testBit i = true) (tn_eq (b := true) (by show _ = 1; omega)) (tn_eq (b := true) (by show _ = 1; omega)) (tn_eq (b := true) (by show _ = 1; omega)) (tn_eq (b := true) (by show _ = 1; omega)) (tn_eq (b := true) (by show _ = 1; omega)) (tn_eq (b := true) (by show _ = 1; omega)) (tn_eq (b := true) (by show _ = 1; omega)) (tn_eq (b := true) (by show _ = 1; omega))
theorem rch_grow {L : Nat → Nat} {f : Nat} (hL : ∀ i, i < 8 → L i < 2 ^ 8) (hf : f < 2 ^ 8) (h0 : f ≠ 0) : ∀ t, cld L (rch L f t) ∨ t + 1 ≤ ct8 (rch L f t)
  | 0 => by
    right
    have := ct8_lt (sbs_0 (a := f)) hf (Ne.symm h0)
    have e : ct8 0 = 0 := by decide
    show 0 + 1 ≤ ct8 f
    omega
  | t + 1 => by
    rcases rch_grow hL hf h0 t with h | h
    · left
      have e : rch L f (t + 1) = rch L f t := cld_fix h
      rw [e]; exact h
    · by_cases e : itr (rsw L) 8 (rch L f t) = rch L f t
      · left
        have e1 : rch L f (t + 1) = rch L f t := e
        rw [e1]; exact fix_cld e
      · right
        have := ct8_lt (swp_mono L (rch L f t) (j := 0) (Nat.zero_le 8)) (rch_lt hL hf (t + 1)) (fun q => e q.symm)
        show t + 1 + 1 ≤ ct8 (itr (rsw L) 8 (rch L f t))
        have e0 : itr (rsw L) 0 (rch L f t) = rch L f t := rfl
        rw [e0] at this
        omega
theorem rch_cld {L : Nat → Nat} {f : Nat} (hL : ∀ i, i < 8 → L i < 2 ^ 8) (hf : f < 2 ^ 8) : cld L (rch L f 7) := by
  by_cases h0 : f = 0
  · subst h0
    intro k hk hx
    have h : sbs (rch L 0 7) 0 := rch_min sbs_rf (fun k _ h => by rw [Nat.zero_testBit] at h; cases h) 7
    have := h k hx
    rw [Nat.zero_testBit] at this; cases this
  · rcases rch_grow hL hf h0 7 with h | h
    · exact h
    · intro k hk _ i hi
      exact ct8_full h i (bit_lt (hL k hk) hi)
/-- the one closure -/
theorem clo_one {L : Nat → Nat} {f R : Nat} (hL : ∀ i, i < 8 → L i < 2 ^ 8) (hf : f < 2 ^ 8) (h1 : sbs f R) (h2 : cld L R) (h3 : ∀ Y, sbs f Y → cld L Y → sbs R Y) : R = rch L f 7 :=
  sbs_eq (h3 _ (rch_ge L f 7) (rch_cld hL hf)) (rch_min h1 h2 7)
/-- the reference's sweep: over what was there before -/
def mss (L : Nat → Nat) (had k x : Nat) : Nat := if had.testBit k = true then x ||| L k else x
theorem mss_ge (L : Nat → Nat) (had k x : Nat) : sbs x (mss L had k x) := by
  unfold mss; split
  · exact sbs_or1
  · exact sbs_rf
theorem msw_mono (L : Nat → Nat) (had x : Nat) : ∀ {j k : Nat}, j ≤ k → sbs (itr (mss L had) j x) (itr (mss L had) k x)
  | j, 0, h => by have e : j = 0 := by omega
                  subst e; exact sbs_rf
  | j, k + 1, h => by
    rcases Nat.lt_or_ge j (k + 1) with q | q
    · exact sbs_tr (msw_mono L had x (by omega)) (mss_ge L had k _)
    · have e : j = k + 1 := by omega
      subst e; exact sbs_rf
theorem msw_min {L : Nat → Nat} {had x Y : Nat} (h : sbs x Y) (hh : sbs had Y) (hY : cld L Y) : ∀ {k : Nat}, k ≤ 8 → sbs (itr (mss L had) k x) Y
  | 0, _ => h
  | k + 1, hk => by
    have ih := msw_min h hh hY (k := k) (by omega)
    show sbs (mss L had k _) Y
    unfold mss; split
    next q => exact sbs_or ih (hY k (by omega) (hh k q))
    next => exact ih
theorem msw_lt {L : Nat → Nat} {n had x : Nat} (hL : ∀ i, i < n → L i < 2 ^ n) (hx : x < 2 ^ n) : itr (mss L had) n x < 2 ^ n :=
  itr_lt n (fun i y hi hy => by
    unfold mss; split
    · exact or_lt hy (hL i hi)
    · exact hy) hx
/-- where the reference's search stands: n parts, from f, had before and now -/
def MI (L : Nat → Nat) (n f had now : Nat) : Prop := now < 2 ^ n ∧ sbs f now ∧ (∀ Y, sbs f Y → cld L Y → sbs now Y) ∧ sbs had now ∧ ((had = 0 ∧ now = f) ∨ now = itr (mss L had) n had)
theorem MI_0 {L : Nat → Nat} {n f : Nat} (hf : f < 2 ^ n) : MI L n f 0 f := ⟨hf, sbs_rf, fun _ h _ => h, sbs_0, Or.inl ⟨rfl, rfl⟩⟩
theorem MI_s {L : Nat → Nat} {n f had now : Nat} (h : MI L n f had now) (hn : n ≤ 8) (hL : ∀ i, i < n → L i < 2 ^ n) : MI L n f now (itr (mss L now) n now) :=
  ⟨msw_lt hL h.1, sbs_tr h.2.1 (msw_mono L now now (j := 0) (Nat.zero_le n)), fun Y a b => msw_min (h.2.2.1 Y a b) (h.2.2.1 Y a b) b hn, msw_mono L now now (j := 0) (Nat.zero_le n), Or.inr rfl⟩
theorem MI_end {L : Nat → Nat} {n f now : Nat} (h : MI L n f now now) (hn : n ≤ 8) (hL : ∀ i, i < 8 → L i < 2 ^ 8) (hf : f < 2 ^ n) : now = rch L f 7 := by
  obtain ⟨h1, h2, h3, -, h5⟩ := h
  refine clo_one hL (Nat.lt_of_lt_of_le hf (Nat.pow_le_pow_right (by decide) hn)) h2 ?_ h3
  rcases h5 with ⟨e, e2⟩ | e
  · intro k _ hk
    rw [e, Nat.zero_testBit] at hk; cases hk
  · intro k hk hx
    have hkn := bit_lt h1 hx
    have a : sbs (itr (mss L now) (k + 1) now) now := by
      have := msw_mono L now now (show k + 1 ≤ n by omega)
      rw [← e] at this; exact this
    have b : itr (mss L now) (k + 1) now = itr (mss L now) k now ||| L k := by
      show mss L now k _ = _
      unfold mss; rw [if_pos hx]
    rw [b] at a
    exact sbs_tr sbs_or2 a
theorem MI_ne {L : Nat → Nat} {n f had now : Nat} (h : MI L n f had now) (hn : n ≤ 8) (hne : ¬ had = now) : had < now ∧ now < 256 :=
  ⟨Nat.lt_of_le_of_ne (sbs_le h.2.2.2.1) hne, Nat.lt_of_lt_of_le h.1 (p2_le hn)⟩
/-- the bits of a sweep -/
theorem msw_bit {L : Nat → Nat} {had x : Nat} : ∀ {n i : Nat}, (itr (mss L had) n x).testBit i = true ↔ x.testBit i = true ∨ ∃ k, k < n ∧ had.testBit k = true ∧ (L k).testBit i = true
  | 0, i => ⟨Or.inl, fun h => h.elim id (fun ⟨_, a, _⟩ => absurd a (Nat.not_lt_zero _))⟩
  | n + 1, i => by
    show (if had.testBit n = true then itr (mss L had) n x ||| L n else itr (mss L had) n x).testBit i = true ↔ _
    split
    next q =>
      rw [Nat.testBit_or, Bool.or_eq_true, msw_bit]
      constructor
      · rintro ((h | ⟨k, a, b, c⟩) | h)
        · exact Or.inl h
        · exact Or.inr ⟨k, by omega, b, c⟩
        · exact Or.inr ⟨n, by omega, q, h⟩
      · rintro (h | ⟨k, a, b, c⟩)
        · exact Or.inl (Or.inl h)
        · rcases Nat.lt_or_ge k n with w | w
          · exact Or.inl (Or.inr ⟨k, w, b, c⟩)
          · have e : k = n := by omega
            subst e; exact Or.inr c
    next q =>
      rw [msw_bit]
      constructor
      · rintro (h | ⟨k, a, b, c⟩)
        · exact Or.inl h
        · exact Or.inr ⟨k, by omega, b, c⟩
      · rintro (h | ⟨k, a, b, c⟩)
        · exact Or.inl h
        · rcases Nat.lt_or_ge k n with w | w
          · exact Or.inr ⟨k, w, b, c⟩
          · have e : k = n := by omega
            subst e; exact absurd b q
/-- the set of those numbers below n that have f -/
def mkb (f : Nat → Bool) (n x : Nat) : Nat := itr (fun k x => if f k = true then x ||| 2 ^ k else x) n x
theorem mkb_bit {f : Nat → Bool} {x : Nat} : ∀ {n i : Nat}, (mkb f n x).testBit i = true ↔ x.testBit i = true ∨ (i < n ∧ f i = true)
  | 0, i => ⟨Or.inl, fun h => h.elim id (fun ⟨a, _⟩ => absurd a (Nat.not_lt_zero _))⟩
  | n + 1, i => by
    have ih := mkb_bit (f := f) (x := x) (n := n) (i := i)
    show (if f n = true then mkb f n x ||| 2 ^ n else mkb f n x).testBit i = true ↔ _
    split
    next q =>
      rw [Nat.testBit_or, Bool.or_eq_true, ih]
      constructor
      · rintro ((h | ⟨a, b⟩) | h)
        · exact Or.inl h
        · exact Or.inr ⟨by omega, b⟩
        · have e := pw_bit h
          subst e; exact Or.inr ⟨by omega, q⟩
      · rintro (h | ⟨a, b⟩)
        · exact Or.inl (Or.inl h)
        · rcases Nat.lt_or_ge i n with w | w
          · exact Or.inl (Or.inr ⟨w, b⟩)
          · have e : i = n := by omega
            subst e; exact Or.inr Nat.testBit_two_pow_self
    next q =>
      rw [ih]
      constructor
      · rintro (h | ⟨a, b⟩)
        · exact Or.inl h
        · exact Or.inr ⟨by omega, b⟩
      · rintro (h | ⟨a, b⟩)
        · exact Or.inl h
        · rcases Nat.lt_or_ge i n with w | w
          · exact Or.inr ⟨w, b⟩
          · have e : i = n := by omega
            subst e; exact absurd b q
/-- steadiness looked at from the other side -/
def hsP (Hd : Nat → Nat) (S had k : Nat) : Bool := S.testBit k && decide (Hd (40 + k) &&& had ≠ 0)
theorem and_ne0 {a b : Nat} : a &&& b ≠ 0 ↔ ∃ i, a.testBit i = true ∧ b.testBit i = true := by
  constructor
  · intro h
    obtain ⟨i, hi⟩ := Nat.exists_testBit_of_ne_zero h
    rw [Nat.testBit_and, Bool.and_eq_true] at hi
    exact ⟨i, hi⟩
  · rintro ⟨i, a1, b1⟩ h
    have : (a &&& b).testBit i = true := by rw [Nat.testBit_and, a1, b1]; rfl
    rw [h, Nat.zero_testBit] at this; cases this
theorem held_step {n : Nat} {C Hd : Nat → Nat} {b : Nat} (hI : PI0 n C Hd b) {S had x : Nat} (hS : S < 2 ^ n) (hh : had < 2 ^ n) : mkb (hsP Hd S had) n x = itr (mss (fun i => Hd (32 + i) &&& S) had) n x := by
  obtain ⟨hn8, hb8, hC, hH, hsy⟩ := hI
  have key : ∀ i k, i < n → k < n → (Hd (40 + i)).testBit k = (Hd (32 + k)).testBit i := fun i k hi hk => hsy 5 i k (by decide) (by omega) (by omega)
  apply sbs_eq
  · intro i hi
    rcases mkb_bit.mp hi with h | ⟨h, q⟩
    · exact msw_bit.mpr (Or.inl h)
    · unfold hsP at q
      rw [Bool.and_eq_true, decide_eq_true_iff, and_ne0] at q
      obtain ⟨q1, k, k1, k2⟩ := q
      have hk := bit_lt hh k2
      exact msw_bit.mpr (Or.inr ⟨k, hk, k2, by rw [Nat.testBit_and, ← key i k h hk, k1, q1]; rfl⟩)
  · intro i hi
    rcases msw_bit.mp hi with h | ⟨k, hk, k2, q⟩
    · exact mkb_bit.mpr (Or.inl h)
    · rw [Nat.testBit_and, Bool.and_eq_true] at q
      have hin := bit_lt hS q.2
      refine mkb_bit.mpr (Or.inr ⟨hin, ?_⟩)
      unfold hsP
      rw [Bool.and_eq_true, decide_eq_true_iff, and_ne0]
      exact ⟨q.2, k, by rw [key i k hin hk]; exact q.1, k2⟩
/-- what moves with a part, from both sides -/
theorem mov_lt {n : Nat} {C Hd : Nat → Nat} {b : Nat} (hI : PI0 n C Hd b) {p d : Nat} (hp : p < n) : mov Hd n p d < 2 ^ n :=
  rch_lt (fun i _ => and_b1 (hI.2.2.2.1 _)) (Nat.pow_lt_pow_right (by decide) hp) 7
theorem mov_L {n : Nat} {C Hd : Nat → Nat} {b : Nat} (hI : PI0 n C Hd b) (p d : Nat) : mov Hd n p d = rch (fun i => Hd (8 * d + i)) (2 ^ p) 7 := by
  unfold mov
  congr 1
  funext i
  exact Nat.and_two_pow_sub_one_of_lt_two_pow (hI.2.2.2.1 _)
theorem mov_cld {n : Nat} {C Hd : Nat → Nat} {b : Nat} (hI : PI0 n C Hd b) {p d : Nat} (hp : p < n) : cld (fun i => Hd (8 * d + i)) (mov Hd n p d) := by
  rw [mov_L hI]
  exact rch_cld (fun i _ => Nat.lt_of_lt_of_le (hI.2.2.2.1 _) (p2_le hI.1)) (Nat.lt_of_lt_of_le (Nat.pow_lt_pow_right (by decide) hp) (p2_le hI.1))
theorem mov_self {n : Nat} {C Hd : Nat → Nat} {b : Nat} (hI : PI0 n C Hd b) (p d : Nat) : (mov Hd n p d).testBit p = true := by
  rw [mov_L hI]
  exact rch_ge _ _ 7 p Nat.testBit_two_pow_self
theorem mov_in {n : Nat} {C Hd : Nat → Nat} {b : Nat} (hI : PI0 n C Hd b) {p k d : Nat} (hp : p < n) (h : (mov Hd n p d).testBit k = true) : sbs (mov Hd n k d) (mov Hd n p d) := by
  rw [mov_L hI k]
  exact rch_min (sbs_pw h) (mov_cld hI hp) 7
theorem xor1_lt : ∀ d, d < 6 → d ^^^ 1 < 6 ∧ d ^^^ 1 ^^^ 1 = d := by decide
theorem mov_flip1 {n : Nat} {C Hd : Nat → Nat} {b : Nat} (hI : PI0 n C Hd b) {p d : Nat} (hp : p < n) (hd : d < 6) : ∀ k, (mov Hd n p d).testBit k = true → (mov Hd n k (d ^^^ 1)).testBit p = true := by
  have hY : ∀ i, (mkb (fun k => (mov Hd n k (d ^^^ 1)).testBit p) n 0).testBit i = true ↔ (i < n ∧ (mov Hd n i (d ^^^ 1)).testBit p = true) := by
    intro i
    rw [mkb_bit]
    exact ⟨fun h => h.elim (fun q => by rw [Nat.zero_testBit] at q; cases q) id, Or.inr⟩
  generalize mkb (fun k => (mov Hd n k (d ^^^ 1)).testBit p) n 0 = Y at hY
  have h1 : sbs (2 ^ p) Y := sbs_pw ((hY p).mpr ⟨hp, mov_self hI p _⟩)
  have h2 : cld (fun i => Hd (8 * d + i)) Y := by
    intro k hk hx i hi
    obtain ⟨hkn, q⟩ := (hY k).mp hx
    have hin : i < n := bit_lt (hI.2.2.2.1 _) hi
    refine (hY i).mpr ⟨hin, ?_⟩
    have h8 := hI.1
    have e : (Hd (8 * (d ^^^ 1) + i)).testBit k = true := by rw [← hI.2.2.2.2 d k i hd (by omega) (by omega)]; exact hi
    have h1 : (mov Hd n i (d ^^^ 1)).testBit k = true := mov_cld hI hin i (by omega) (mov_self hI i _) k e
    exact mov_in hI hin h1 p q
  have h : sbs (mov Hd n p d) Y := by
    rw [mov_L hI]
    exact rch_min h1 h2 7
  intro k hk
  exact ((hY k).mp (h k hk)).2
theorem mov_flip {n : Nat} {C Hd : Nat → Nat} {b : Nat} (hI : PI0 n C Hd b) {p k d : Nat} (hp : p < n) (hk : k < n) (hd : d < 6) : (mov Hd n p (d ^^^ 1)).testBit k = (mov Hd n k d).testBit p := by
  have a := xor1_lt d hd
  cases h1 : (mov Hd n p (d ^^^ 1)).testBit k <;> cases h2 : (mov Hd n k d).testBit p
  · rfl
  · rw [mov_flip1 hI hk hd p h2] at h1; cases h1
  · have := mov_flip1 hI hp a.1 k h1
    rw [a.2, h2] at this; cases this
  · rfl
def bdP (Hd : Nat → Nat) (n p d k : Nat) : Bool := (mov Hd n p d).testBit k && (mov Hd n k d).testBit p
theorem bnd_mk {n : Nat} {C Hd : Nat → Nat} {b : Nat} (hI : PI0 n C Hd b) {p d : Nat} (hp : p < n) (hd : d < 6) : mkb (bdP Hd n p d) n 0 = bnd Hd n p d := by
  apply sbs_eq
  · intro i hi
    rcases mkb_bit.mp hi with q | ⟨hin, q⟩
    · rw [Nat.zero_testBit] at q; cases q
    · unfold bdP at q
      rw [Bool.and_eq_true] at q
      unfold bnd
      rw [Nat.testBit_and, mov_flip hI hp hin hd, q.1, q.2]; rfl
  · intro i hi
    unfold bnd at hi
    rw [Nat.testBit_and, Bool.and_eq_true] at hi
    have hin := bit_lt (mov_lt hI hp) hi.1
    refine mkb_bit.mpr (Or.inr ⟨hin, ?_⟩)
    unfold bdP
    rw [hi.1, ← mov_flip hI hp hin hd, hi.2]; rfl
def lowN (g : Nat) : Nat := if g % 2 = 1 then 1 else if g % 4 = 2 then 2 else if g % 8 = 4 then 4 else if g % 16 = 8 then 8 else if g % 32 = 16 then 16 else if g % 64 = 32 then 32 else if g % 128 = 64 then 64 else if g % 256 = 128 then 128 else 0
theorem low_N : ∀ g, g < 256 → low g = lowN g := by decide +kernel
theorem low_grpN : ∀ g, g < 256 → ∀ k, k < 8 → g.testBit k = true → (lowN g = 2 ^ k ↔ g &&& (2 ^ k - 1) = 0) := by decide +kernel
theorem low_grp (g : Nat) (hg : g < 256) (k : Nat) (hk : k < 8) (h : g.testBit k = true) : low g = 2 ^ k ↔ g &&& (2 ^ k - 1) = 0 := by rw [low_N g hg]; exact low_grpN g hg k hk h
theorem bnd_self {n : Nat} {C Hd : Nat → Nat} {b : Nat} (hI : PI0 n C Hd b) (p d : Nat) : (bnd Hd n p d).testBit p = true := by
  unfold bnd; rw [Nat.testBit_and, mov_self hI, mov_self hI]; rfl
theorem bnd_lt {n : Nat} {C Hd : Nat → Nat} {b : Nat} (hI : PI0 n C Hd b) {p d : Nat} (hp : p < n) : bnd Hd n p d < 2 ^ n := and_b1 (mov_lt hI hp)
/-! ===== the reference as the world holds it, and its reading methods' answers ===== -/
def isMod (k : kT) (ws : va_W) (h th n : Nat) (T C Hd : Nat → Nat) (b : Nat) (q : Bool) (J : Nat → Nat) (bg : Bool) (pu bu : Nat) (cl mo : Int32) (K : Nat → Nat) (fw fd fc fg fo : Nat → Int32) : Prop := ∃ a1 a2 a3 a4 a5 a6 a7 a8 a9 a10 : Nat,
  ws[19]? = some (h, .inr (5, [.int (nI th), .int (nI n), .ref a1, .ref a2, .ref a3, .int (nI b), .int (bI q), .ref a4, .int (bI bg), .int (nI pu), .int (nI bu), .int cl, .int mo, .ref a5, .ref a6, .ref a7, .ref a8, .ref a9, .ref a10])) ∧
  ws[20]? = some (a1, .inl (k.1, 8, .inl (fun i => nI (T i)))) ∧ ws[21]? = some (a2, .inl (k.1, 8, .inl (fun i => nI (C i)))) ∧ ws[22]? = some (a3, .inl (k.1, 48, .inl (fun i => nI (Hd i)))) ∧
  ws[23]? = some (a4, .inl (k.1, 8, .inl (fun i => nI (J i)))) ∧ ws[24]? = some (a5, .inl (k.1, 8, .inl (fun i => nI (K i)))) ∧ ws[25]? = some (a6, .inl (k.1, 256, .inl fw)) ∧ ws[26]? = some (a7, .inl (k.1, 256, .inl fd)) ∧
  ws[27]? = some (a8, .inl (k.1, 256, .inl fc)) ∧ ws[28]? = some (a9, .inl (k.1, 2048, .inl fg)) ∧ ws[29]? = some (a10, .inl (k.1, 8, .inl fo))
def prt (n : Nat) (x : Int32) : Bool := decide (¬ x < 0) && decide (x < nI n)
def stt (n : Nat) (x : Int32) : Bool := decide (0 < x) && decide (x ≤ nI (2 ^ n - 1))
def spl (C Hd : Nat → Nat) (n S one : Nat) : Bool := (decide (clr one S = 0) && (decide (clr S one ≠ 0) && decide (one &&& low S ≠ 0))) && (conn C one && (conn C (clr S one) && sep Hd n one (clr S one)))
def cad (C Hd : Nat → Nat) (b : Nat) (q : Bool) (S p : Nat) : Bool := decide (S ||| 2 ^ p ≠ S) && (sou C Hd b q S && (sou C Hd b q (S ||| 2 ^ p) && decide (frd Hd (S ||| 2 ^ p) p ≠ 0)))
theorem m1_ne {x : Nat} (h : x < 2 ^ 31) : ¬ (-1 : Int32) = nI x := fun q => by
  have h1 : (-1 : Int32).toInt = (nI x).toInt := by rw [q]
  rw [nI_toInt h] at h1
  have h2 : (-1 : Int32).toInt = -1 := by decide +kernel
  omega
theorem or_0 {x y : Nat} (h : x = y) : nI (x ||| 0) = nI y := by rw [Nat.or_zero, h]
theorem and_low (a S : Nat) : (nI (a &&& S)) &&& -nI S = nI (a &&& low S) := by
  rw [← an_and, ← an_and, ← low_eq, ← Int32.and_assoc]
theorem cnt_s (S k x : Nat) : x + S / 2 ^ k % 2 = x + S / 2 ^ k % 2 := rfl
theorem hos0 {Hd : Nat → Nat} {n one d oth : Nat} (h : itr (mss (fun k => Hd (8 * d + k) &&& oth) one) n 0 = 0) : hnd Hd n one d oth = false := by
  cases q : hnd Hd n one d oth
  · rfl
  · obtain ⟨k, hk, q2⟩ := exB_iff.mp q
    unfold hnP at q2
    rw [Bool.and_eq_true, decide_eq_true_iff] at q2
    obtain ⟨i, hi⟩ := Nat.exists_testBit_of_ne_zero q2.2
    have : (itr (mss (fun k => Hd (8 * d + k) &&& oth) one) n 0).testBit i = true := msw_bit.mpr (Or.inr ⟨k, hk, q2.1, hi⟩)
    rw [h, Nat.zero_testBit] at this; cases this
theorem hos1 {Hd : Nat → Nat} {n one d oth : Nat} (h : ¬ itr (mss (fun k => Hd (8 * d + k) &&& oth) one) n 0 = 0) : hnd Hd n one d oth = true := by
  obtain ⟨i, hi⟩ := Nat.exists_testBit_of_ne_zero h
  rcases msw_bit.mp hi with q | ⟨k, hk, k1, k2⟩
  · rw [Nat.zero_testBit] at q; cases q
  · refine exB_in hk ?_
    unfold hnP
    rw [k1, Bool.true_and, decide_eq_true_iff]
    intro e
    rw [e, Nat.zero_testBit] at k2; cases k2

