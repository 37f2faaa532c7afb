/-! ===== what the product's questions answer, as functions of numbers (sets of parts are numbers below 256) ===== -/
def itr {α : Type} (f : Nat → α → α) : Nat → α → α
  | 0, x => x
  | k + 1, x => f k (itr f k x)
def rsw (L : Nat → Nat) (k x : Nat) : Nat := if x.testBit k = true then x ||| L k else x
def rch (L : Nat → Nat) (f t : Nat) : Nat := itr (fun _ x => itr (rsw L) 8 x) t f
def frs (Hd : Nat → Nat) (S p d x : Nat) : Nat := if Hd (8 * d + p) &&& S = 0 then x ||| 2 ^ d else x
def frd (Hd : Nat → Nat) (S p : Nat) : Nat := itr (frs Hd S p) 6 0
def low (S : Nat) : Nat := (nI S &&& -nI S).toBitVec.toNat
theorem nI_bv (x : Int32) : nI x.toBitVec.toNat = x := ap_bv (by show BitVec.ofNat 32 x.toBitVec.toNat = x.toBitVec; simp)
theorem low_eq (S : Nat) : nI S &&& -nI S = nI (low S) := (nI_bv _).symm
def conn (C : Nat → Nat) (S : Nat) : Bool := decide (S ≠ 0) && decide (rch (fun i => C i &&& S) (low S) 7 = S)
def stdy (Hd : Nat → Nat) (b S : Nat) : Bool := decide (rch (fun i => Hd (32 + i) &&& S) (S &&& 2 ^ b) 7 = S)
def sou (C Hd : Nat → Nat) (b : Nat) (q : Bool) (S : Nat) : Bool := decide (S = 0) || (conn C S && (!q || stdy Hd b S))
def tke (C Hd : Nat → Nat) (b : Nat) (q : Bool) (S p : Nat) : Bool := sou C Hd b q S && (decide (frd Hd S p ≠ 0) && sou C Hd b q (clr S (2 ^ p)))
def mov (Hd : Nat → Nat) (n p d : Nat) : Nat := rch (fun i => Hd (8 * d + i) &&& (2 ^ n - 1)) (2 ^ p) 7
def bnd (Hd : Nat → Nat) (n p d : Nat) : Nat := mov Hd n p d &&& mov Hd n p (d ^^^ 1)
def grs (Hd : Nat → Nat) (n d p x : Nat) : Nat := if bnd Hd n p d &&& (2 ^ p - 1) = 0 then x + 1 else x
def grp (Hd : Nat → Nat) (n d : Nat) : Nat := itr (grs Hd n d) n 0
def hnP (Hd : Nat → Nat) (one d other p : Nat) : Bool := one.testBit p && decide (Hd (8 * d + p) &&& other ≠ 0)
def exB (f : Nat → Bool) : Nat → Bool
  | 0 => false
  | k + 1 => exB f k || f k
def hnd (Hd : Nat → Nat) (n one d other : Nat) : Bool := exB (hnP Hd one d other) n
def sep (Hd : Nat → Nat) (n one other : Nat) : Bool := exB (fun d => !hnd Hd n one d other) 6
def chg (S p : Nat) (is : Bool) : Nat := if is = true then S ||| 2 ^ p else clr S (2 ^ p)
def cnt (S : Nat) : Nat := itr (fun k x => x + S / 2 ^ k % 2) 8 0
theorem exB_iff {f : Nat → Bool} : ∀ {n : Nat}, exB f n = true ↔ ∃ k, k < n ∧ f k = true
  | 0 => ⟨fun h => Bool.noConfusion h, fun ⟨_, h, _⟩ => absurd h (Nat.not_lt_zero _)⟩
  | n + 1 => by
    rw [exB, Bool.or_eq_true, exB_iff]
    exact ⟨fun h => h.elim (fun ⟨k, a, b⟩ => ⟨k, by omega, b⟩) (fun h => ⟨n, by omega, h⟩), fun ⟨k, a, b⟩ => by
      rcases Nat.lt_or_ge k n with q | q
      · exact Or.inl ⟨k, q, b⟩
      · have e : k = n := by omega
        subst e; exact Or.inr b⟩
theorem exB_in {f : Nat → Bool} {n k : Nat} (h : k < n) (hf : f k = true) : exB f n = true := exB_iff.mpr ⟨k, h, hf⟩
theorem exB_s {f : Nat → Bool} {k : Nat} (h : exB f k = false) (hf : f k = false) : exB f (k + 1) = false := by rw [exB, h, hf]; rfl
/-- the product as the world holds it: the object h at place 1, its rows at 2, 3, 4 -/
def isProd (k : kT) (ws : va_W) (h n : Nat) (T C Hd : Nat → Nat) (b : Nat) (q : Bool) : Prop := ∃ a1 a2 a3 : Nat,
  ws[1]? = some (h, .inr (3, [.ref a1, .ref a2, .ref a3, .int (nI n), .int (nI b), .int (bI q)])) ∧ ws[2]? = some (a1, .inl (k.1, 8, .inl (fun i => nI (T i)))) ∧
  ws[3]? = some (a2, .inl (k.1, 8, .inl (fun i => nI (C i)))) ∧ ws[4]? = some (a3, .inl (k.1, 48, .inl (fun i => nI (Hd i))))
theorem isProd.fr {k : kT} {ws ws1 : va_W} {h n : Nat} {T C Hd : Nat → Nat} {b : Nat} {q : Bool} {x y : Nat} (P : isProd k ws h n T C Hd b q) (f : fr ws ws1 x y) (hx : 4 < x ∨ y < 1 := by decide) : isProd k ws1 h n T C Hd b q := by
  obtain ⟨a1, a2, a3, h1, h2, h3, h4⟩ := P
  exact ⟨a1, a2, a3, (f 1 (by omega)).trans h1, (f 2 (by omega)).trans h2, (f 3 (by omega)).trans h3, (f 4 (by omega)).trans h4⟩
/-- what every product keeps: at most 8 parts, contacts and hinderers among them, hinderers of both sides -/
def PI0 (n : Nat) (C Hd : Nat → Nat) (b : Nat) : Prop := n ≤ 8 ∧ b < 8 ∧ (∀ i, C i < 2 ^ n) ∧ (∀ i, Hd i < 2 ^ n) ∧ ∀ d i j, d < 6 → i < 8 → j < 8 → (Hd (8 * d + i)).testBit j = (Hd (8 * (d ^^^ 1) + j)).testBit i
theorem p2_le {n : Nat} (h : n ≤ 8) : 2 ^ n ≤ 256 := Nat.pow_le_pow_right (by decide) h
theorem lt_31 {x n : Nat} (h : x < 2 ^ n) (hn : n ≤ 8) : x < 2 ^ 31 := Nat.lt_of_lt_of_le h (Nat.le_trans (p2_le hn) (by decide))
theorem or_lt {x y n : Nat} (h : x < 2 ^ n) (h2 : y < 2 ^ n) : x ||| y < 2 ^ n := Nat.or_lt_two_pow h h2
theorem rsw_lt {L : Nat → Nat} {n k x : Nat} (hL : L k < 2 ^ n) (hx : x < 2 ^ n) : rsw L k x < 2 ^ n := by
  unfold rsw; split
  · exact or_lt hx hL
  · exact hx
theorem itr_lt {f : Nat → Nat → Nat} {n : Nat} : ∀ (k : Nat) {x : Nat}, (∀ i y, i < k → y < n → f i y < n) → x < n → itr f k x < n
  | 0, _, _, hx => hx
  | k + 1, _, hf, hx => hf k _ (by omega) (itr_lt k (fun i y hi hy => hf i y (by omega) hy) hx)
theorem rch_lt {L : Nat → Nat} {n f : Nat} (hL : ∀ i, i < 8 → L i < 2 ^ n) (hf : f < 2 ^ n) (t : Nat) : rch L f t < 2 ^ n :=
  itr_lt t (fun _ _ _ hy => itr_lt 8 (fun i _ hi hz => rsw_lt (hL i hi) hz) hy) hf
theorem low_lt : ∀ S, S < 256 → low S < 256 ∧ low S ≤ S ∧ low S &&& S = low S ∧ (S ≠ 0 → low S ≠ 0) := by decide +kernel
theorem frd_lt (Hd : Nat → Nat) (S p : Nat) : frd Hd S p < 2 ^ 6 :=
  itr_lt 6 (fun d x hd hx => by
    unfold frs; split
    · exact or_lt hx (Nat.pow_lt_pow_right (by decide) hd)
    · exact hx) (by decide)
theorem clr_bit (a b i : Nat) : (clr a b).testBit i = (a.testBit i && !b.testBit i) := by
  unfold clr; rw [Nat.testBit_xor, Nat.testBit_and]; cases a.testBit i <;> cases b.testBit i <;> rfl
theorem clr_lt {a b n : Nat} (h : a < 2 ^ n) : clr a b < 2 ^ n := by
  unfold clr; exact Nat.xor_lt_two_pow h (Nat.lt_of_le_of_lt Nat.and_le_left h)

