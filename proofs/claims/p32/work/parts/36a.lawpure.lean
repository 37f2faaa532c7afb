/-! ===== what the law asks of the product's answers, as facts of numbers ===== -/
theorem lz_tn0 {q : Bool} (h : q.toNat = 0) : q = false := by cases q; rfl; exact absurd h (by decide)
theorem lz_tn1 {q : Bool} (h : ¬ q.toNat = 0) : q = true := by cases q; exact absurd rfl h; rfl
theorem lz_tnI (q : Bool) : bI q = nI q.toNat := by cases q <;> rfl
theorem lz_clr0 {a b : Nat} (h : sbs a b) : clr a b = 0 := by unfold clr; rw [sbs_and h, Nat.xor_self]
theorem lz_stdy {Hd : Nat → Nat} {b S : Nat} (h0 : 0 < S) (h : stdy Hd b S = true) : S.testBit b = true := by
  cases z : S.testBit b
  · exfalso
    unfold stdy at h
    rw [decide_eq_true_iff, (bt_and S b).mpr z] at h
    have h2 : sbs (rch (fun i => Hd (32 + i) &&& S) 0 7) 0 := rch_min sbs_rf (fun k _ q => by rw [Nat.zero_testBit] at q; cases q) 7
    have h3 := sbs_le h2
    rw [h] at h3
    omega
  · rfl
theorem lz_one : ∀ S, S < 256 → 0 < S → cnt S ≤ 1 → S &&& (S - 1) = 0 := by decide +kernel
theorem lz_spc1 {C Hd : Nat → Nat} {n S : Nat} (hS : S < 256) (h : S &&& (S - 1) = 0) : spc C Hd n S = 0 := by
  unfold spc
  split
  · refine itr_id (fun i hi => ?_)
    show (if spl C Hd n S (i + 1) = true then 0 + 1 else 0) = 0
    rw [spl_low hS (by rw [h]; omega)]; rfl
  · rfl
theorem lz_spcn {C Hd : Nat → Nat} {n S : Nat} (h : conn C S = false) : spc C Hd n S = 0 := by unfold spc; rw [h]; rfl
theorem lz_chgT (S p : Nat) : clr S (2 ^ p) ||| 2 ^ p = chg S p true := Nat.eq_of_testBit_eq fun i => by
  rw [Nat.testBit_or, clr_bit, Nat.testBit_two_pow, chg_bit]
  by_cases e : p = i
  · subst e; simp
  · rw [decide_eq_false e, if_neg (fun z => e z.symm)]; simp
theorem lz_chgF (S p : Nat) : clr S (2 ^ p) ||| 0 = chg S p false := by rw [Nat.or_zero]; rfl
theorem lz_ctc {C : Nat → Nat} {p o : Nat} {are : Bool} (hne : ¬ p = o) : ctc C p o are p = chg (C p) o are := by unfold ctc; rw [upX_n hne, upX_s]
theorem lz_x1 {d p o : Nat} (hd : d < 6) (hp : p < 8) (ho : o < 8) : 8 * d + p ≠ 8 * (d ^^^ 1) + o ∧ 8 * d + p < 48 ∧ 8 * (d ^^^ 1) + o < 48 := by
  have h := x1_ne d hd
  generalize d ^^^ 1 = e at h ⊢
  omega
theorem lz_htc {Hd : Nat → Nat} {p d o : Nat} {is : Bool} (hd : d < 6) (hp : p < 8) (ho : o < 8) : htc Hd p d o is (8 * d + p) = chg (Hd (8 * d + p)) o is := by
  unfold htc; rw [upX_n (lz_x1 hd hp ho).1, upX_s]
/-- the law's own row of numbers tells the same product -/
def TI (n : Nat) (C Hd : Nat → Nat) (b : Nat) (q : Bool) (f : Nat → Nat) : Prop := (∀ i, i < 48 → f i = Hd i) ∧ (∀ i, i < 8 → f (48 + i) = C i) ∧ f 56 = n ∧ f 57 = b ∧ f 58 = q.toNat
theorem TI.contact {n : Nat} {C Hd : Nat → Nat} {b : Nat} {q : Bool} {f : Nat → Nat} (h : TI n C Hd b q f) {p o : Nat} {are : Bool} (hp : p < 8) (ho : o < 8) (hne : ¬ p = o) : TI n (ctc C p o are) Hd b q (upX (upX f (48 + p) (chg (C p) o are)) (48 + o) (chg (C o) p are)) := by
  obtain ⟨h1, h2, h3, h4, h5⟩ := h
  have hb : ∀ i, i ≠ 48 + p → i ≠ 48 + o → upX (upX f (48 + p) (chg (C p) o are)) (48 + o) (chg (C o) p are) i = f i := fun i a c => by rw [upX_n c, upX_n a]
  refine ⟨fun i hi => by rw [hb i (by omega) (by omega)]; exact h1 i hi, fun i hi => ?_, by rw [hb _ (by omega) (by omega)]; exact h3, by rw [hb _ (by omega) (by omega)]; exact h4, by rw [hb _ (by omega) (by omega)]; exact h5⟩
  unfold ctc
  by_cases e : i = o
  · subst e
    rw [upX_s, upX_s, upX_n (fun z => hne z.symm)]
  · rw [upX_n (show 48 + i ≠ 48 + o by omega), upX_n e]
    by_cases e2 : i = p
    · subst e2; rw [upX_s, upX_s]
    · rw [upX_n (show 48 + i ≠ 48 + p by omega), upX_n e2]; exact h2 i hi
theorem TI.hinder {n : Nat} {C Hd : Nat → Nat} {b : Nat} {q : Bool} {f : Nat → Nat} (h : TI n C Hd b q f) {p d o : Nat} {is : Bool} (hd : d < 6) (hp : p < 8) (ho : o < 8) : TI n C (htc Hd p d o is) b q (upX (upX f (8 * d + p) (chg (Hd (8 * d + p)) o is)) (8 * (d ^^^ 1) + o) (chg (Hd (8 * (d ^^^ 1) + o)) p is)) := by
  obtain ⟨h1, h2, h3, h4, h5⟩ := h
  unfold htc
  obtain ⟨a1, a2, a3⟩ := lz_x1 hd hp ho
  generalize 8 * d + p = i1 at a1 a2 ⊢
  generalize 8 * (d ^^^ 1) + o = i2 at a1 a3 ⊢
  have hb : ∀ i, 48 ≤ i → upX (upX f i1 (chg (Hd i1) o is)) i2 (chg (Hd i2) p is) i = f i := fun i a => by rw [upX_n (by omega), upX_n (by omega)]
  refine ⟨fun i hi => ?_, fun i hi => by rw [hb _ (by omega)]; exact h2 i hi, by rw [hb _ (by omega)]; exact h3, by rw [hb _ (by omega)]; exact h4, by rw [hb _ (by omega)]; exact h5⟩
  rw [upX_n (f := Hd) (k := i1) (j := i2) (fun z => a1 z.symm)]
  by_cases e : i = i2
  · subst e; rw [upX_s, upX_s]
  · rw [upX_n e, upX_n e]
    by_cases e2 : i = i1
    · subst e2; rw [upX_s, upX_s]
    · rw [upX_n e2, upX_n e2]; exact h1 i hi
/-! ===== what moves together ===== -/
theorem lz_bnd1 {Hd : Nat → Nat} {n p d : Nat} (hd : d < 6) : bnd Hd n p (d ^^^ 1) = bnd Hd n p d := by
  unfold bnd; rw [(xor1_lt d hd).2, Nat.and_comm]
theorem lz_grp1 {Hd : Nat → Nat} {n d : Nat} (hd : d < 6) : grp Hd n (d ^^^ 1) = grp Hd n d := by
  unfold grp
  exact itr_cong (fun p y _ => by unfold grs; rw [lz_bnd1 hd])
theorem lz_bndm {Hd : Nat → Nat} {n p d : Nat} : clr (bnd Hd n p d) (mov Hd n p d) = 0 := lz_clr0 (by unfold bnd; exact sbs_and1)
theorem lz_w1 {n : Nat} {C Hd : Nat → Nat} {b : Nat} (hI : PI0 n C Hd b) {p r d : Nat} (hp : p < n) (hr : r < n) (hd : d < 6) (h : (mov Hd n p d).testBit r = true) : bnd Hd n p d / 2 ^ r % 2 = mov Hd n r d / 2 ^ p % 2 := by
  rw [bt_div, bt_div]
  unfold bnd
  rw [Nat.testBit_and, h, Bool.true_and, mov_flip hI hp hr hd]
theorem lz_w0 {Hd : Nat → Nat} {n p r d : Nat} (h : (mov Hd n p d).testBit r = false) : bnd Hd n p d / 2 ^ r % 2 = 0 := by
  rw [bt_div]
  unfold bnd
  rw [Nat.testBit_and, h]; rfl
def opp (Hd : Nat → Nat) (n p d r x : Nat) : Nat := x ||| (mov Hd n r d / 2 ^ p % 2) * 2 ^ r
theorem opp_bit {Hd : Nat → Nat} {n p d : Nat} : ∀ (k i : Nat), (itr (opp Hd n p d) k 0).testBit i = true ↔ (i < k ∧ (mov Hd n i d).testBit p = true)
  | 0, i => ⟨fun h => (by rw [show itr (opp Hd n p d) 0 0 = 0 from rfl, Nat.zero_testBit] at h; cases h), fun h => absurd h.1 (Nat.not_lt_zero _)⟩
  | k + 1, i => by
    have ih := opp_bit (Hd := Hd) (n := n) (p := p) (d := d) k i
    show (itr (opp Hd n p d) k 0 ||| (mov Hd n k d / 2 ^ p % 2) * 2 ^ k).testBit i = true ↔ _
    rw [bt_div, Nat.testBit_or, Bool.or_eq_true, ih]
    cases z : (mov Hd n k d).testBit p
    · rw [show false.toNat * 2 ^ k = 0 from Nat.zero_mul _, Nat.zero_testBit]
      constructor
      · rintro (h | h)
        · exact ⟨by omega, h.2⟩
        · cases h
      · rintro ⟨a, c⟩
        left
        refine ⟨?_, c⟩
        rcases Nat.lt_or_ge i k with w | w
        · exact w
        · have e : i = k := by omega
          subst e; rw [z] at c; cases c
    · rw [show true.toNat * 2 ^ k = 2 ^ k from Nat.one_mul _]
      constructor
      · rintro (h | h)
        · exact ⟨by omega, h.2⟩
        · have e := pw_bit h
          subst e; exact ⟨by omega, z⟩
      · rintro ⟨a, c⟩
        rcases Nat.lt_or_ge i k with w | w
        · exact Or.inl ⟨w, c⟩
        · have e : i = k := by omega
          subst e; exact Or.inr Nat.testBit_two_pow_self
theorem opp_all {n : Nat} {C Hd : Nat → Nat} {b : Nat} (hI : PI0 n C Hd b) {p d : Nat} (hp : p < n) (hd : d < 6) : mov Hd n p (d ^^^ 1) = itr (opp Hd n p d) n 0 := by
  apply sbs_eq
  · intro i hi
    have hin := bit_lt (mov_lt hI hp) hi
    exact (opp_bit n i).mpr ⟨hin, by rw [← mov_flip hI hp hin hd]; exact hi⟩
  · intro i hi
    obtain ⟨a, c⟩ := (opp_bit n i).mp hi
    rw [mov_flip hI hp a hd]; exact c
theorem lz_b31 {x y : Nat} (h : x < 2) (hy : y < 31) : x * 2 ^ y < 2 ^ 32 := by
  have h1 := pw_lt hy
  have h2 : x * 2 ^ y ≤ 1 * 2 ^ y := Nat.mul_le_mul_right _ (by omega)
  omega
theorem lz_m2 (x : Nat) : x % 2 < 2 := Nat.mod_lt _ (by decide)
theorem lz_grb {Hd : Nat → Nat} {n d : Nat} : ∀ k, itr (grs Hd n d) k 0 ≤ k
  | 0 => Nat.le_refl _
  | k + 1 => by
    have ih := lz_grb (Hd := Hd) (n := n) (d := d) k
    show grs Hd n d k (itr (grs Hd n d) k 0) ≤ k + 1
    generalize itr (grs Hd n d) k 0 = y at ih ⊢
    unfold grs; split <;> omega
/-! ===== ways ===== -/
theorem lz_ctadd {S one : Nat} (h : clr one S = 0) : ct8 one + ct8 (clr S one) = ct8 S := by
  have key : ∀ i, (one.testBit i).toNat + ((clr S one).testBit i).toNat = (S.testBit i).toNat := fun i => by
    have h1 : (clr one S).testBit i = false := by rw [h]; exact Nat.zero_testBit i
    rw [clr_bit] at h1 ⊢
    revert h1
    cases one.testBit i <;> cases S.testBit i <;> decide
  have k0 := key 0; have k1 := key 1; have k2 := key 2; have k3 := key 3; have k4 := key 4; have k5 := key 5; have k6 := key 6; have k7 := key 7
  unfold ct8
  omega
theorem lz_ctle (S : Nat) : ct8 S ≤ 8 := by
  have g : ∀ i, (S.testBit i).toNat ≤ 1 := fun i => tn_1 _
  have g0 := g 0; have g1 := g 1; have g2 := g 2; have g3 := g 3; have g4 := g 4; have g5 := g 5; have g6 := g 6; have g7 := g 7
  unfold ct8
  omega
theorem lz_ct0 {S : Nat} (h0 : S ≠ 0) (h : S < 256) : 0 < ct8 S := by
  have := ct8_lt (sbs_0 (a := S)) h (Ne.symm h0)
  omega
theorem lz_ct1 : ∀ S, S < 256 → 0 < S → S &&& (S - 1) = 0 → ct8 S = 1 := by decide +kernel
theorem lz_ct2 : ∀ S, S < 256 → 0 < S → ¬ S &&& (S - 1) = 0 → 2 ≤ ct8 S := by decide +kernel
def WQ (c X Y : Nat) : Prop := (0 < X ∧ Y < c ∧ c ≤ 2 ^ Y) ∨ (X = 0 ∧ Y = 1000)
theorem lz_ways {C Hd : Nat → Nat} {n : Nat} : ∀ S, 0 < S → S < 64 → wys C Hd n S ≤ 63 ^ (ct8 S - 1) ∧ WQ (ct8 S) (wys C Hd n S) (dps C Hd n S) := by
  intro S
  induction S using Nat.strongRecOn with
  | _ S ih =>
    intro h0 hS
    cases hc : conn C S
    · have h := ff_not (Hd := Hd) (n := n) (show S < 256 by omega) (by omega) hc
      rw [h.2.1, h.2.2]
      exact ⟨Nat.zero_le _, Or.inr ⟨rfl, rfl⟩⟩
    · have hw : wys C Hd n S = itr (wyS C Hd n (wys C Hd n) S) (S - 1) (wy0 S) := by
        rw [wys_eq (show S < 256 by omega)]; unfold wyF; rw [if_pos hc]
      have hd : dps C Hd n S = itr (dpS C Hd n (dps C Hd n) S) (S - 1) (dp0 S) := by
        rw [dps_eq (show S < 256 by omega)]; unfold dpF; rw [if_pos hc]
      by_cases h1 : S &&& (S - 1) = 0
      · have z : ∀ i, i < S - 1 → spl C Hd n S (i + 1) = false := fun i hi => spl_low (by omega) (by rw [h1]; omega)
        rw [hw, hd, itr_id (fun i hi => wyS_no (z i hi)), itr_id (fun i hi => dpS_no (z i hi)), lz_ct1 S (by omega) h0 h1]
        unfold wy0 dp0
        rw [if_pos h1, if_pos h1]
        exact ⟨by decide, Or.inl ⟨by decide, by decide, by decide⟩⟩
      · have c2 := lz_ct2 S (by omega) h0 h1
        have c8 := lz_ctle S
        have ew : wy0 S = 0 := by unfold wy0; rw [if_neg h1]
        have ed : dp0 S = 1000 := by unfold dp0; rw [if_neg h1]
        rw [hw, hd, ew, ed]
        have key : ∀ k, k ≤ S - 1 → itr (wyS C Hd n (wys C Hd n) S) k 0 ≤ k * 63 ^ (ct8 S - 2) ∧ WQ (ct8 S) (itr (wyS C Hd n (wys C Hd n) S) k 0) (itr (dpS C Hd n (dps C Hd n) S) k 1000) := by
          intro k
          induction k with
          | zero => intro _; exact ⟨Nat.zero_le _, Or.inr ⟨rfl, rfl⟩⟩
          | succ k ihk =>
            intro hk
            have i := ihk (by omega)
            show wyS C Hd n (wys C Hd n) S k (itr (wyS C Hd n (wys C Hd n) S) k 0) ≤ (k + 1) * 63 ^ (ct8 S - 2) ∧ WQ (ct8 S) (wyS C Hd n (wys C Hd n) S k (itr (wyS C Hd n (wys C Hd n) S) k 0)) (dpS C Hd n (dps C Hd n) S k (itr (dpS C Hd n (dps C Hd n) S) k 1000))
            generalize itr (wyS C Hd n (wys C Hd n) S) k 0 = X at i ⊢
            generalize itr (dpS C Hd n (dps C Hd n) S) k 1000 = Y at i ⊢
            rw [Nat.succ_mul]
            cases hs : spl C Hd n S (k + 1)
            · rw [wyS_no hs, dpS_no hs]
              exact ⟨Nat.le_trans i.1 (Nat.le_add_right _ _), i.2⟩
            · have hl := spl_lt hs (show S < 256 by omega)
              have a1 := ih (k + 1) (by omega) (by omega) (by omega)
              have a2 := ih (clr S (k + 1)) hl.2.1 (Nat.pos_of_ne_zero hl.2.2.1) (by have := hl.2.1; omega)
              have hct := lz_ctadd hl.2.2.2
              have p1 := lz_ct0 (S := k + 1) (by omega) (by omega)
              have p2 := lz_ct0 hl.2.2.1 (by have := hl.2.1; omega)
              rw [wyS_yes hs, dpS_yes hs]
              have m1 := mx_1 (dps C Hd n (k + 1)) (dps C Hd n (clr S (k + 1)))
              have m2 := mx_2 (dps C Hd n (k + 1)) (dps C Hd n (clr S (k + 1)))
              have m3 := mx_or (dps C Hd n (k + 1)) (dps C Hd n (clr S (k + 1)))
              generalize mx (dps C Hd n (k + 1)) (dps C Hd n (clr S (k + 1))) = mm at m1 m2 m3 ⊢
              generalize wys C Hd n (k + 1) = w1 at a1 ⊢
              generalize wys C Hd n (clr S (k + 1)) = w2 at a2 ⊢
              generalize dps C Hd n (k + 1) = d1 at a1 m1 m3 ⊢
              generalize dps C Hd n (clr S (k + 1)) = d2 at a2 m2 m3 ⊢
              generalize ct8 (k + 1) = c1 at a1 hct p1 ⊢
              generalize ct8 (clr S (k + 1)) = c3 at a2 hct p2 ⊢
              generalize ct8 S = cS at c2 c8 hct i ⊢
              have hY : Y ≤ 1000 := by rcases i.2 with ⟨-, y1, -⟩ | ⟨-, y1⟩ <;> omega
              constructor
              · have hm : w1 * w2 ≤ 63 ^ (c1 - 1) * 63 ^ (c3 - 1) := Nat.mul_le_mul a1.1 a2.1
                rw [← Nat.pow_add, show c1 - 1 + (c3 - 1) = cS - 2 by omega] at hm
                exact Nat.add_le_add i.1 hm
              · rcases a1.2 with ⟨w1p, e1, g1⟩ | ⟨w1z, e1⟩
                · rcases a2.2 with ⟨w2p, e2, g2⟩ | ⟨w2z, e2⟩
                  · left
                    have hp : 0 < w1 * w2 := Nat.mul_pos w1p w2p
                    have q1 : mm + 1 < cS := by rcases m3 with e | e <;> omega
                    have q2 : cS ≤ 2 ^ (mm + 1) := by
                      have u1 : 2 ^ d1 ≤ 2 ^ mm := Nat.pow_le_pow_right (by decide) m1
                      have u2 : 2 ^ d2 ≤ 2 ^ mm := Nat.pow_le_pow_right (by decide) m2
                      rw [Nat.pow_succ]; omega
                    split
                    · exact ⟨by omega, q1, q2⟩
                    · next hnl =>
                      rcases i.2 with ⟨x1, x2, x3⟩ | ⟨x1, x2⟩
                      · exact ⟨by omega, x2, x3⟩
                      · exfalso; omega
                  · rw [w2z, Nat.mul_zero, Nat.add_zero, if_neg (by omega)]; exact i.2
                · rw [w1z, Nat.zero_mul, Nat.add_zero, if_neg (by omega)]; exact i.2
        have hk := key (S - 1) (Nat.le_refl _)
        refine ⟨Nat.le_trans hk.1 ?_, hk.2⟩
        have e : 63 ^ (ct8 S - 1) = 63 * 63 ^ (ct8 S - 2) := by
          rw [show ct8 S - 1 = ct8 S - 2 + 1 by omega, Nat.pow_succ, Nat.mul_comm]
        rw [e]
        exact Nat.mul_le_mul_right _ (by omega)
theorem lz_ways31 {C Hd : Nat → Nat} {n S : Nat} (h0 : 0 < S) (hS : S < 64) : wys C Hd n S < 2 ^ 31 := by
  have h1 := (lz_ways (C := C) (Hd := Hd) (n := n) S h0 hS).1
  have c6 : ct8 S ≤ 6 := by
    by_cases e : S = 2 ^ 6 - 1
    · rw [e, ct8_all 6 (by decide)]; exact Nat.le_refl _
    · have := ct8_n (n := 6) (by decide) hS e; omega
  have h2 : 63 ^ (ct8 S - 1) ≤ 63 ^ 5 := Nat.pow_le_pow_right (by decide) (by omega)
  exact Nat.lt_of_le_of_lt (Nat.le_trans h1 h2) (Nat.lt_of_succ_le (Nat.le_of_ble_eq_true rfl))
