/-! ===== orders, the fewest changes, the cell's run: facts of numbers ===== -/
theorem lz_itrle {f : Nat → Nat → Nat} {M : Nat} : ∀ {k x : Nat}, (∀ p y, p < k → f p y ≤ y + M) → itr f k x ≤ x + k * M
  | 0, _, _ => by rw [Nat.zero_mul]; exact Nat.le_refl _
  | k + 1, x, h => by
    show f k (itr f k x) ≤ _
    have h1 := h k (itr f k x) (by omega)
    have h2 := lz_itrle (k := k) (x := x) (fun p y hp => h p y (by omega))
    rw [Nat.succ_mul]; omega
theorem lz_itrge {f : Nat → Nat → Nat} {v p : Nat} : ∀ {k x : Nat}, (∀ r y, r < k → y ≤ f r y) → (∀ y, v ≤ f p y) → p < k → v ≤ itr f k x
  | 0, _, _, _, h => absurd h (Nat.not_lt_zero _)
  | k + 1, x, h, hv, hp => by
    show v ≤ f k (itr f k x)
    by_cases e : p = k
    · subst e; exact hv _
    · exact Nat.le_trans (lz_itrge (k := k) (fun r y hr => h r y (by omega)) hv (by omega)) (h k _ (by omega))
theorem lz_fwle {C Hd : Nat → Nat} {b : Nat} {q : Bool} {T g : Nat → Nat} {x : Int32} {S p : Nat} (hc : cad C Hd b q S p = true) : ∀ (k y : Nat), p < k → itr (fwS C Hd b q T g x S) k y ≤ chI x (T p) + g (4 * (S ||| 2 ^ p) + T p)
  | 0, _, h => absurd h (Nat.not_lt_zero _)
  | k + 1, y, h => by
    show fwS C Hd b q T g x S k (itr (fwS C Hd b q T g x S) k y) ≤ _
    by_cases e : p = k
    · subst e
      rw [fwS_yes hc]; split <;> omega
    · have ih := lz_fwle (C := C) (Hd := Hd) (b := b) (q := q) (T := T) (g := g) (x := x) hc k y (by omega)
      cases z : cad C Hd b q S k
      · rw [fwS_no z]; exact ih
      · rw [fwS_yes z]; split <;> omega
theorem lz_fwW {C Hd : Nat → Nat} {b : Nat} {q : Bool} {T g : Nat → Nat} {x : Int32} {n S : Nat} (e : S = 2 ^ n - 1) : fwF C Hd b q T n g x S = 0 := by
  unfold fwF
  rw [if_pos e, itr_id]
  intro p hp
  refine fwS_no (cad_no ?_)
  rw [e, Nat.testBit_two_pow_sub_one]; exact decide_eq_true hp
/-- orders are possible just where the changes are few; both are bounded -/
theorem lz_ord {C Hd : Nat → Nat} {b : Nat} {q : Bool} {T : Nat → Nat} {n : Nat} (hn : n ≤ 6) (hT : ∀ p, T p < 4) : ∀ (d S : Nat), S < 2 ^ n → ct8 S + d = n → ord C Hd b q n S ≤ 6 ^ d ∧ ((0 < ord C Hd b q n S ∧ ∀ x, fwF C Hd b q T n (cgv C Hd b q T n) x S ≤ d) ∨ (ord C Hd b q n S = 0 ∧ ∀ x, fwF C Hd b q T n (cgv C Hd b q T n) x S = 1000))
  | 0, S, hS, hd => by
    have e : S = 2 ^ n - 1 := by
      by_cases z : S = 2 ^ n - 1
      · exact z
      · have := ct8_n (by omega) hS z; omega
    have ho : ord C Hd b q n S = 1 := by
      rw [ord_eq hS]
      unfold orF
      rw [if_pos e, itr_id]
      intro p hp
      refine orS_no (cad_no ?_)
      rw [e, Nat.testBit_two_pow_sub_one]; exact decide_eq_true hp
    rw [ho]
    exact ⟨by decide, Or.inl ⟨by decide, fun x => by rw [lz_fwW e]; exact Nat.le_refl _⟩⟩
  | d + 1, S, hS, hd => by
    have e : ¬ S = 2 ^ n - 1 := by
      intro z
      have := ct8_all n (by omega)
      rw [← z] at this; omega
    have hp2 := p2_le (n := n) (by omega)
    have key : ∀ p, p < n → cad C Hd b q S p = true → (S ||| 2 ^ p < 2 ^ n ∧ ord C Hd b q n (S ||| 2 ^ p) ≤ 6 ^ d ∧ ((0 < ord C Hd b q n (S ||| 2 ^ p) ∧ ∀ x, fwF C Hd b q T n (cgv C Hd b q T n) x (S ||| 2 ^ p) ≤ d) ∨ (ord C Hd b q n (S ||| 2 ^ p) = 0 ∧ ∀ x, fwF C Hd b q T n (cgv C Hd b q T n) x (S ||| 2 ^ p) = 1000))) := fun p hp hc => by
      have g := cad_gt hc hS hp
      exact ⟨g.2.2, lz_ord hn hT d (S ||| 2 ^ p) g.2.2 (by rw [ct8_or S (by omega) p (by omega) g.1]; omega)⟩
    have ho : ord C Hd b q n S = itr (orS C Hd b q (ord C Hd b q n) S) n 0 := by
      rw [ord_eq hS]; unfold orF; rw [if_neg e]
    have hf : ∀ x, fwF C Hd b q T n (cgv C Hd b q T n) x S = itr (fwS C Hd b q T (cgv C Hd b q T n) x S) n 1000 := fun x => by
      unfold fwF; rw [if_neg e]
    constructor
    · rw [ho]
      have h1 := lz_itrle (f := orS C Hd b q (ord C Hd b q n) S) (M := 6 ^ d) (k := n) (x := 0) (fun p y hp => by
        cases z : cad C Hd b q S p
        · rw [orS_no z]; exact Nat.le_add_right _ _
        · rw [orS_yes z]; have := (key p hp z).2.1; omega)
      have h2 : n * 6 ^ d ≤ 6 * 6 ^ d := Nat.mul_le_mul_right _ hn
      rw [Nat.pow_succ]; omega
    · by_cases hx : ∃ p, p < n ∧ cad C Hd b q S p = true ∧ 0 < ord C Hd b q n (S ||| 2 ^ p)
      · obtain ⟨p, hp, hc, ho1⟩ := hx
        left
        obtain ⟨k1, -, k3⟩ := key p hp hc
        rcases k3 with ⟨-, k3⟩ | ⟨k3, -⟩
        · constructor
          · rw [ho]
            refine lz_itrge (p := p) (v := 1) (fun r y hr => ?_) (fun y => ?_) hp
            · cases z : cad C Hd b q S r
              · rw [orS_no z]; exact Nat.le_refl _
              · rw [orS_yes z]; exact Nat.le_add_right _ _
            · rw [orS_yes hc]; omega
          · intro x
            rw [hf x]
            have h1 := lz_fwle (T := T) (g := cgv C Hd b q T n) (x := x) hc n 1000 hp
            rw [cgv_eq hT k1 (hT p)] at h1
            have h2 := k3 (nI (T p))
            have h3 := chI_le x (T p)
            omega
        · omega
      · right
        have hz : ∀ p, p < n → cad C Hd b q S p = true → ord C Hd b q n (S ||| 2 ^ p) = 0 ∧ ∀ x, fwF C Hd b q T n (cgv C Hd b q T n) x (S ||| 2 ^ p) = 1000 := fun p hp hc => by
          rcases (key p hp hc).2.2 with k | k
          · exact absurd ⟨p, hp, hc, k.1⟩ hx
          · exact k
        constructor
        · rw [ho]
          refine itr_id (fun p hp => ?_)
          cases z : cad C Hd b q S p
          · exact orS_no z
          · rw [orS_yes z, (hz p hp z).1]
        · intro x
          rw [hf x]
          refine itr_id (fun p hp => ?_)
          cases z : cad C Hd b q S p
          · exact fwS_no z
          · have k := hz p hp z
            rw [fwS_yes z, cgv_eq hT (key p hp z).1 (hT p), k.2, if_neg (by omega)]
theorem lz_o6 {d : Nat} (h : d ≤ 6) : 6 ^ d < 2 ^ 31 := Nat.lt_of_le_of_lt (Nat.pow_le_pow_right (by decide) h) (Nat.lt_of_succ_le (Nat.le_of_ble_eq_true rfl : 6 ^ 6 + 1 ≤ 2 ^ 31))
theorem lz_few {C Hd : Nat → Nat} {b : Nat} {q : Bool} {T : Nat → Nat} {n : Nat} (hn : n ≤ 6) (hT : ∀ p, T p < 4) : ord C Hd b q n 0 < 2 ^ 31 ∧ ((0 < ord C Hd b q n 0 ∧ few C Hd b q T n ≤ n) ∨ (ord C Hd b q n 0 = 0 ∧ few C Hd b q T n = 1000)) := by
  have h := lz_ord (C := C) (Hd := Hd) (b := b) (q := q) hn hT n 0 (Nat.two_pow_pos n) (by rw [ct8_0]; omega)
  refine ⟨Nat.lt_of_le_of_lt h.1 (lz_o6 hn), ?_⟩
  rcases h.2 with ⟨h1, h2⟩ | ⟨h1, h2⟩
  · exact Or.inl ⟨h1, h2 (-1)⟩
  · exact Or.inr ⟨h1, h2 (-1)⟩
/-! the best order, step by step -/
theorem lz_cad {C Hd : Nat → Nat} {b : Nat} {q : Bool} {T : Nat → Nat} {n : Nat} (hn : n ≤ 8) (hT : ∀ p, T p < 4) (hf : few C Hd b q T n < 1000) {k : Nat} (hk : k < n) : cad C Hd b q (bq C Hd b q T n k).1 (bp C Hd b q T n k) = true ∧ (bq C Hd b q T n k).1 ||| 2 ^ (bp C Hd b q T n k) < 2 ^ n ∧ (bq C Hd b q T n k).2.2 = chI (bq C Hd b q T n k).2.1 (T (bp C Hd b q T n k)) + (bq C Hd b q T n (k + 1)).2.2 := by
  obtain ⟨i1, -, -, -, i5⟩ := bq_ok hn hT hf k (by omega)
  have hb : lnx C Hd b q T n (bq C Hd b q T n k).1 (bq C Hd b q T n k).2.1 (bq C Hd b q T n k).2.2 < n := i5 hk
  obtain ⟨l1, l2⟩ := lnx_yes hb
  refine ⟨l1, (cad_gt l1 i1 hb).2.2, ?_⟩
  show _ = chI (bq C Hd b q T n k).2.1 (T (lnx C Hd b q T n (bq C Hd b q T n k).1 (bq C Hd b q T n k).2.1 (bq C Hd b q T n k).2.2)) + ((bq C Hd b q T n k).2.2 - chI (bq C Hd b q T n k).2.1 (T (lnx C Hd b q T n (bq C Hd b q T n k).1 (bq C Hd b q T n k).2.1 (bq C Hd b q T n k).2.2)))
  omega
theorem lz_tke {C Hd : Nat → Nat} {b : Nat} {q : Bool} {S p : Nat} (h : cad C Hd b q S p = true) : tke C Hd b q (S ||| 2 ^ p) p = true := by
  have hb := cad_bit h
  unfold cad at h
  rw [Bool.and_eq_true, Bool.and_eq_true, Bool.and_eq_true] at h
  obtain ⟨-, h2, h3, h4⟩ := h
  unfold tke
  rw [clr_or hb, h2, h3, h4]; rfl
theorem lz_orb {S p : Nat} : (S ||| 2 ^ p).testBit p = true := by rw [Nat.testBit_or, Nat.testBit_two_pow_self, Bool.or_true]
theorem lz_orp {S p : Nat} : 0 < S ||| 2 ^ p := Nat.lt_of_lt_of_le (Nat.two_pow_pos p) (sbs_le sbs_or2)
theorem lz_bqn {C Hd : Nat → Nat} {b : Nat} {q : Bool} {T : Nat → Nat} {n : Nat} (hn : n ≤ 8) (hT : ∀ p, T p < 4) (hf : few C Hd b q T n < 1000) : (bq C Hd b q T n n).1 = 2 ^ n - 1 ∧ (bq C Hd b q T n n).2.2 = 0 := by
  obtain ⟨i1, i2, i3, -, -⟩ := bq_ok hn hT hf n (Nat.le_refl _)
  have e : (bq C Hd b q T n n).1 = 2 ^ n - 1 := by
    by_cases z : (bq C Hd b q T n n).1 = 2 ^ n - 1
    · exact z
    · have := ct8_n hn i1 z; omega
  exact ⟨e, by rw [i3, lz_fwW e]⟩
theorem lz_fewn {C Hd : Nat → Nat} {b : Nat} {q : Bool} {T : Nat → Nat} {n : Nat} (hn : n ≤ 6) (hT : ∀ p, T p < 4) (hf : few C Hd b q T n < 1000) (h0 : 0 < n) : few C Hd b q T n < n := by
  have h1 := (lz_cad (by omega) hT hf h0).2.2
  obtain ⟨i1, i2, i3, i4, -⟩ := bq_ok (by omega : n ≤ 8) hT hf 1 h0
  have h2 := (lz_ord (C := C) (Hd := Hd) (b := b) (q := q) hn hT (n - 1) (bq C Hd b q T n 1).1 i1 (by omega)).2
  have e : (bq C Hd b q T n 0).2.2 = few C Hd b q T n := rfl
  have e2 : chI (bq C Hd b q T n 0).2.1 (T (bp C Hd b q T n 0)) = 0 := if_pos rfl
  rw [e, e2, Nat.zero_add] at h1
  rw [h1, show (0 + 1 : Nat) = 1 from rfl]
  rcases h2 with ⟨-, h2⟩ | ⟨-, h2⟩
  · have := h2 (bq C Hd b q T n 1).2.1
    rw [← i3] at this; omega
  · have := h2 (bq C Hd b q T n 1).2.1
    rw [← i3] at this; omega
/-- where the count of mounted tools stands -/
def TRI (C Hd : Nat → Nat) (b : Nat) (q : Bool) (T : Nat → Nat) (n k ch : Nat) (tl : Int32) : Prop :=
  (tl = (bq C Hd b q T n k).2.1 ∧ ch + (bq C Hd b q T n k).2.2 = few C Hd b q T n + (if k = 0 then 0 else 1)) ∨ (k < n ∧ tl = nI (T (bp C Hd b q T n k)) ∧ ch + (bq C Hd b q T n (k + 1)).2.2 = few C Hd b q T n + 1)
theorem TRI.go {C Hd : Nat → Nat} {b : Nat} {q : Bool} {T : Nat → Nat} {n k ch : Nat} {tl : Int32} (h : TRI C Hd b q T n k ch tl) (hn : n ≤ 8) (hT : ∀ p, T p < 4) (hf : few C Hd b q T n < 1000) (hk : k < n) :
    (tl = nI (T (bp C Hd b q T n k)) → ch + (bq C Hd b q T n (k + 1)).2.2 = few C Hd b q T n + 1) ∧ (¬ tl = nI (T (bp C Hd b q T n k)) → ch + 1 + (bq C Hd b q T n (k + 1)).2.2 = few C Hd b q T n + 1) := by
  have hb : ∀ p, T p < 2 ^ 31 := fun p => Nat.lt_of_lt_of_le (hT p) (by decide)
  rcases h with ⟨e, h⟩ | ⟨-, e, h⟩
  · have s := (lz_cad hn hT hf hk).2.2
    rw [s, ← e] at h
    cases k with
    | zero =>
      have e1 : tl = -1 := e
      rw [if_pos rfl] at h
      have e2 : chI tl (T (bp C Hd b q T n 0)) = 0 := if_pos e1
      rw [e2] at h
      constructor
      · intro z
        rw [e1] at z
        exact absurd z (m1_ne (hb _))
      · intro _; omega
    | succ j =>
      rw [if_neg (by omega)] at h
      have e1 : tl = nI (T (bp C Hd b q T n j)) := e
      have hm : ¬ tl = -1 := fun z => m1_ne (hb (bp C Hd b q T n j)) (z.symm.trans e1)
      constructor
      · intro z
        have e2 : chI tl (T (bp C Hd b q T n (j + 1))) = 0 := (if_neg hm).trans (if_pos z)
        rw [e2] at h; omega
      · intro z
        have e2 : chI tl (T (bp C Hd b q T n (j + 1))) = 1 := (if_neg hm).trans (if_neg z)
        rw [e2] at h; omega
  · exact ⟨fun _ => h, fun z => absurd e z⟩
theorem TRI.jam {C Hd : Nat → Nat} {b : Nat} {q : Bool} {T : Nat → Nat} {n k ch : Nat} (hk : k < n) (h : ch + (bq C Hd b q T n (k + 1)).2.2 = few C Hd b q T n + 1) : TRI C Hd b q T n k ch (nI (T (bp C Hd b q T n k))) := Or.inr ⟨hk, rfl, h⟩
theorem TRI.put {C Hd : Nat → Nat} {b : Nat} {q : Bool} {T : Nat → Nat} {n k ch : Nat} (h : ch + (bq C Hd b q T n (k + 1)).2.2 = few C Hd b q T n + 1) : TRI C Hd b q T n (k + 1) ch (nI (T (bp C Hd b q T n k))) := Or.inl ⟨rfl, by rw [if_neg (by omega)]; exact h⟩
theorem TRI.st {C Hd : Nat → Nat} {b : Nat} {q : Bool} {T : Nat → Nat} {n : Nat} : TRI C Hd b q T n 0 0 (-1) := Or.inl ⟨rfl, by rw [if_pos rfl]; show 0 + few C Hd b q T n = few C Hd b q T n + 0; omega⟩
theorem TRI.fin {C Hd : Nat → Nat} {b : Nat} {q : Bool} {T : Nat → Nat} {n k ch : Nat} {tl : Int32} (h : TRI C Hd b q T n k ch tl) (hn : n ≤ 8) (hT : ∀ p, T p < 4) (hf : few C Hd b q T n < 1000) (hk : k = n) (h0 : 0 < n) : ch = few C Hd b q T n + 1 := by
  subst hk
  rcases h with ⟨-, h⟩ | ⟨h, -⟩
  · rw [(lz_bqn hn hT hf).2, if_neg (by omega)] at h; exact h
  · exact absurd h (Nat.lt_irrefl _)
/-! the feeders -/
theorem lz_zro {K : Nat → Nat} (i : Nat) : ∀ t, zro K t i ≤ K i
  | 0 => Nat.le_refl _
  | t + 1 => by
    show upX (zro K t) t 0 i ≤ K i
    unfold upX
    split
    · exact Nat.zero_le _
    · exact lz_zro i t
theorem lz_zro2 {K : Nat → Nat} (h : ∀ i, K i ≤ 2) : ∀ i, zro K 8 i ≤ 2 := fun i => Nat.le_trans (lz_zro i 8) (h i)
theorem lz_jm {J K : Nat → Nat} {p : Nat} (h : jm J K p = true) : ¬ J p = 0 ∧ ¬ 2 ≤ K p := by
  unfold jm at h
  rw [Bool.and_eq_true, decide_eq_true_iff, Bool.not_eq_true', decide_eq_false_iff_not] at h
  exact h
theorem lz_up {K : Nat → Nat} {p v m : Nat} (h : ∀ i, K i ≤ m) (hv : v ≤ m) : ∀ i, upX K p v i ≤ m := fun i => by
  unfold upX; split
  · exact hv
  · exact h i
theorem lz_sm2 {K : Nat → Nat} (h : ∀ i, K i ≤ 2) : ∀ n, sm K n ≤ 2 * n
  | 0 => Nat.le_refl _
  | n + 1 => by
    have := lz_sm2 h n
    have := h n
    rw [sm_s]; omega
theorem lz_smu {K : Nat → Nat} {p v : Nat} : ∀ n, n ≤ p → sm (upX K p v) n = sm K n
  | 0, _ => rfl
  | n + 1, h => by rw [sm_s, sm_s, lz_smu n (by omega), upX_n (by omega)]
theorem lz_sm1 {K : Nat → Nat} {p : Nat} : ∀ n, p < n → sm (upX K p (K p + 1)) n = sm K n + 1
  | 0, h => absurd h (Nat.not_lt_zero _)
  | n + 1, h => by
    rw [sm_s, sm_s]
    by_cases e : p = n
    · subst e
      rw [lz_smu p (Nat.le_refl _), upX_s]; omega
    · rw [lz_sm1 n (by omega), upX_n (by omega)]; omega
theorem lz_n0 (x : Int32) : x + nI 0 = x := by rw [nI_0, Int32.add_zero]
