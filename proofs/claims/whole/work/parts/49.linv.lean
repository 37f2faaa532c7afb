/-! ===== what holds at the law's loop head: the class and the reference tell the same product and the same cell ===== -/
def LR (n : Nat) (T C Hd : Nat → Nat) (b : Nat) (q : Bool) (J : Nat → Nat) (bg : Bool) (pi bu : Nat) (tm tl : Int32) (K : Nat → Nat) (pu bu9 : Nat) (cl mo : Int32) (K9 : Nat → Nat) : Prop :=
  PI0 n C Hd b ∧ (∀ p, T p < 4) ∧ (∀ i, J i ≤ 5) ∧ (∀ i, K i ≤ 2) ∧ (∀ i, K9 i ≤ 2) ∧ (∀ i, 8 ≤ i → K i = 0 ∧ K9 i = 0) ∧
  (bg = true → pu = pi ∧ bu9 = bu ∧ cl = tm ∧ mo = tl ∧ K9 = K ∧ pi ≤ n ∧ 0 < n ∧ few C Hd b q T n < 1000) ∧ (bg = false → pi = 0 ∧ bu = 0 ∧ tm = nI 0 ∧ tl = -1 ∧ K = fun _ => 0)
def LI (k : kT) (w : va_W) (x m o : Nat) : Prop :=
  ∃ (n : Nat) (T C Hd : Nat → Nat) (b : Nat) (q : Bool) (J : Nat → Nat) (bg : Bool) (pi bu : Nat) (tm tl : Int32) (K : Nat → Nat) (th pu bu9 : Nat) (cl mo : Int32) (K9 : Nat → Nat) (f : Nat → Int64),
    AP k w x n T C Hd b q J bg pi bu tm tl K ∧ MD k w m th n T C Hd b q J bg pu bu9 cl mo K9 ∧ isOut k w o f ∧ LR n T C Hd b q J bg pi bu tm tl K pu bu9 cl mo K9
theorem zro_z {K : Nat → Nat} (h : ∀ i, 8 ≤ i → K i = 0) : zro K 8 = fun _ => 0 := by
  funext i
  rcases Nat.lt_or_ge i 8 with z | z
  · exact zro_0 z
  · have e : ∀ t, t ≤ i → zro K t i = K i := by
      intro t
      induction t with
      | zero => intro _; rfl
      | succ t ih => intro hz; show upX (zro K t) t 0 i = _; rw [upX_n (by omega)]; exact ih (by omega)
    rw [e 8 z, h i z]
theorem LR.told {n n1 : Nat} {T T1 C C1 Hd Hd1 : Nat → Nat} {b b1 : Nat} {q q1 : Bool} {J : Nat → Nat} {bg : Bool} {pi bu : Nat} {tm tl : Int32} {K : Nat → Nat} {pu bu9 : Nat} {cl mo : Int32} {K9 : Nat → Nat} (h : LR n T C Hd b q J bg pi bu tm tl K pu bu9 cl mo K9) (hI : PI0 n1 C1 Hd1 b1) (hT : ∀ p, T1 p < 4) : LR n1 T1 C1 Hd1 b1 q1 J false 0 0 (nI 0) (-1) (zro K 8) pu bu9 cl mo K9 := by
  obtain ⟨-, -, h3, h4, h5, h6, -, -⟩ := h
  have e := zro_z (fun i hi => (h6 i hi).1)
  refine ⟨hI, hT, h3, fun i => by rw [e]; exact Nat.zero_le _, h5, fun i hi => ⟨by rw [e], (h6 i hi).2⟩, fun z => Bool.noConfusion z, fun _ => ⟨rfl, rfl, rfl, rfl, e⟩⟩
theorem prt_ex {n : Nat} {x : Int32} (h : prt n x = true) (hn : n ≤ 8) : ∃ p, p < n ∧ x = nI p := by
  unfold prt at h
  rw [Bool.and_eq_true, decide_eq_true_iff, decide_eq_true_iff] at h
  exact ap_ix h.1 h.2 hn
theorem stt_ex {n : Nat} {x : Int32} (h : stt n x = true) (hn : n ≤ 8) : ∃ S, 0 < S ∧ S < 2 ^ n ∧ x = nI S := by
  unfold stt at h
  rw [Bool.and_eq_true, decide_eq_true_iff, decide_eq_true_iff] at h
  have hp2 := p2_le hn
  obtain ⟨S, hS, rfl⟩ := nI_of (fun z => absurd (Int32.lt_trans h.1 z) Int32.lt_irrefl)
  have h2 := (nI_leI hS (by omega)).mp h.2
  have hp : 0 < 2 ^ n := Nat.two_pow_pos n
  refine ⟨S, Nat.pos_of_ne_zero (fun z => ?_), by omega, rfl⟩
  subst z
  exact absurd h.1 (by decide +kernel)
theorem MU.mono {l : Launch} {y : MethodName} {ws : List Cond} {fr lo mc ms : Nat} {D : va_G} {k : kT} {A : Nat → Prop} {Hs : Heap} {args : List Value} {p1 p2 : Int32 → va_W → Prop} (h : MU l y ws fr lo mc ms D k A Hs args p1) (hp : ∀ r w, p1 r w → p2 r w) : MU l y ws fr lo mc ms D k A Hs args p2 := fun p e h1 h2 h3 s m a below h4 h5 h6 h7 => by
  obtain ⟨n, o, a1, a2, a3, ⟨⟨r, u, b1, b2, b3⟩, b4⟩, b5⟩ := h p e h1 h2 h3 s m a below h4 h5 h6 h7
  exact ⟨n, o, a1, a2, a3, ⟨⟨r, u, b1, hp r u b2, b3⟩, b4⟩, b5⟩
theorem WU.mono {l : Launch} {y : MethodName} {ws : List Cond} {fr lo : Nat} {D : va_G} {k : kT} {A : Nat → Prop} {Hs : Heap} {args : List Value} {p1 p2 : Int32 → va_W → Prop} (h : WU l y ws fr lo D k A Hs args p1) (hp : ∀ r w, p1 r w → p2 r w) : WU l y ws fr lo D k A Hs args p2 := fun p e h1 h2 h3 s m a below h4 h5 h6 h7 => by
  obtain ⟨n, o, a1, a2, a3, hq⟩ := h p e h1 h2 h3 s m a below h4 h5 h6 h7
  refine ⟨n, o, a1, a2, a3, ?_⟩
  rcases hq with ⟨⟨⟨r, u, b1, b2, b3⟩, b4⟩, b5⟩ | hq
  · exact Or.inl ⟨⟨⟨r, u, b1, hp r u b2, b3⟩, b4⟩, b5⟩
  · exact Or.inr hq
theorem AP.at0 {k : kT} {ws : va_W} {h n : Nat} {T C Hd : Nat → Nat} {b : Nat} {q : Bool} {J : Nat → Nat} {bg : Bool} {pi bu : Nat} {tm tl : Int32} {K : Nat → Nat} (P : AP k ws h n T C Hd b q J bg pi bu tm tl K) : ∃ fs : List Value, ws[0]? = some (h, .inr (4, fs)) := by
  obtain ⟨hp, ht, a4, a5, a6, a7, ho, b1, b2, b3, b4, b5, hc, j1, j2, g0, -⟩ := P
  exact ⟨_, g0⟩
theorem MD.at19 {k : kT} {ws : va_W} {h th n : Nat} {T C Hd : Nat → Nat} {b : Nat} {q : Bool} {J : Nat → Nat} {bg : Bool} {pu bu : Nat} {cl mo : Int32} {K : Nat → Nat} (P : MD k ws h th n T C Hd b q J bg pu bu cl mo K) : ∃ fs : List Value, ws[19]? = some (h, .inr (5, fs)) := by
  obtain ⟨fw, fd, fc, fg, fo, a1, a2, a3, a4, a5, a6, a7, a8, a9, a10, g19, -⟩ := P
  exact ⟨_, g19⟩
theorem MD.thr {k : kT} {ws : va_W} {h th n : Nat} {T C Hd : Nat → Nat} {b : Nat} {q : Bool} {J : Nat → Nat} {bg : Bool} {pu bu : Nat} {cl mo : Int32} {K : Nat → Nat} (P : MD k ws h th n T C Hd b q J bg pu bu cl mo K) : THR k ws h th := by
  obtain ⟨fw, fd, fc, fg, fo, hm⟩ := P
  exact ⟨n, T, C, Hd, b, q, J, bg, pu, bu, cl, mo, K, fw, fd, fc, fg, fo, hm⟩
theorem isMod.md {k : kT} {ws : va_W} {h th n : Nat} {T C Hd : Nat → Nat} {b : Nat} {q : Bool} {J : Nat → Nat} {bg : Bool} {pu bu : Nat} {cl mo : Int32} {K : Nat → Nat} {fw fd fc fg fo : Nat → Int32} (P : isMod k ws h th n T C Hd b q J bg pu bu cl mo K fw fd fc fg fo) : MD k ws h th n T C Hd b q J bg pu bu cl mo K := ⟨fw, fd, fc, fg, fo, P⟩
theorem MD.fr {k : kT} {ws ws1 : va_W} {h th n : Nat} {T C Hd : Nat → Nat} {b : Nat} {q : Bool} {J : Nat → Nat} {bg : Bool} {pu bu : Nat} {cl mo : Int32} {K : Nat → Nat} {x y : Nat} (P : MD k ws h th n T C Hd b q J bg pu bu cl mo K) (f : fr ws ws1 x y) (hx : 29 < x ∨ y < 19 := by decide) : MD k ws1 h th n T C Hd b q J bg pu bu cl mo K := by
  obtain ⟨fw, fd, fc, fg, fo, a1, a2, a3, a4, a5, a6, a7, a8, a9, a10, h1, h2, h3, h4, h5, h6, h7, h8, h9, h10, h11⟩ := P
  exact ⟨fw, fd, fc, fg, fo, a1, a2, a3, a4, a5, a6, a7, a8, a9, a10, (f 19 (by omega)).trans h1, (f 20 (by omega)).trans h2, (f 21 (by omega)).trans h3, (f 22 (by omega)).trans h4, (f 23 (by omega)).trans h5, (f 24 (by omega)).trans h6, (f 25 (by omega)).trans h7, (f 26 (by omega)).trans h8, (f 27 (by omega)).trans h9, (f 28 (by omega)).trans h10, (f 29 (by omega)).trans h11⟩
theorem isOut.fr {k : kT} {ws ws1 : va_W} {o : Nat} {f : Nat → Int64} {x y : Nat} (P : isOut k ws o f) (g : fr ws ws1 x y) (hx : y < 30 := by decide) : isOut k ws1 o f := (g 30 (Or.inr hx)).trans P
theorem bI_l (v : Bool) : (if bI v = 0 then (0 : Int64) else 1) = if v = true then 1 else 0 := by cases v <;> rfl
theorem jam_ex {y : Int32} (h : ¬ y < 0 ∧ y ≤ nI 5) : ∃ j, j ≤ 5 ∧ y = nI j := by
  obtain ⟨j, hj, rfl⟩ := nI_of h.1
  exact ⟨j, (nI_leI hj (by decide)).mp h.2, rfl⟩
theorem PI0_add {n : Nat} {C Hd : Nat → Nat} {b : Nat} (h : PI0 n C Hd b) (hn : n < 8) : PI0 (n + 1) C Hd b := by
  obtain ⟨-, h2, h3, h4, h5⟩ := h
  have h6 : 2 ^ n ≤ 2 ^ (n + 1) := Nat.pow_le_pow_right (by decide) (by omega)
  exact ⟨hn, h2, fun i => Nat.lt_of_lt_of_le (h3 i) h6, fun i => Nat.lt_of_lt_of_le (h4 i) h6, h5⟩
theorem LR.begun {n : Nat} {T C Hd : Nat → Nat} {b : Nat} {q : Bool} {J : Nat → Nat} {bg : Bool} {pi bu : Nat} {tm tl : Int32} {K : Nat → Nat} {pu bu9 : Nat} {cl mo : Int32} {K9 : Nat → Nat} (h : LR n T C Hd b q J bg pi bu tm tl K pu bu9 cl mo K9) (hn1 : 0 < n) (hf : few C Hd b q T n < 1000) : LR n T C Hd b q J true 0 0 (nI 0) (-1) (zro K 8) 0 0 (nI 0) (-1) (zro K9 8) := by
  obtain ⟨h1, h2, h3, h4, h5, h6, -, -⟩ := h
  have e := zro_z (fun i hi => (h6 i hi).1)
  have e9 := zro_z (fun i hi => (h6 i hi).2)
  rw [e, e9]
  exact ⟨h1, h2, h3, fun _ => Nat.zero_le _, fun _ => Nat.zero_le _, fun _ _ => ⟨rfl, rfl⟩, fun _ => ⟨rfl, rfl, rfl, rfl, rfl, Nat.zero_le _, hn1, hf⟩, fun z => Bool.noConfusion z⟩
theorem LR.jam {n : Nat} {T C Hd : Nat → Nat} {b : Nat} {q : Bool} {J : Nat → Nat} {bg : Bool} {pu bu9 : Nat} {cl mo t1 t2 : Int32} {K9 : Nat → Nat} {p : Nat} (h : LR n T C Hd b q J bg pu bu9 cl mo K9 pu bu9 cl mo K9) (hbg : bg = true) (hj : jm J K9 p = true) (hp : p < 8) : LR n T C Hd b q (upX J p (J p - 1)) bg pu bu9 t1 t2 (upX K9 p (K9 p + 1)) pu bu9 t1 t2 (upX K9 p (K9 p + 1)) := by
  obtain ⟨h1, h2, h3, h4, h5, h6, h7, -⟩ := h
  obtain ⟨-, -, -, -, -, g1, g2, g3⟩ := h7 hbg
  have hk : K9 p < 2 := by
    unfold jm at hj
    rw [Bool.and_eq_true, Bool.not_eq_true', decide_eq_false_iff_not] at hj
    omega
  have hu : ∀ i, upX K9 p (K9 p + 1) i ≤ 2 := fun i => by
    unfold upX; split
    · omega
    · exact h4 i
  refine ⟨h1, h2, fun i => ?_, hu, hu, fun i hi => ?_, fun _ => ⟨rfl, rfl, rfl, rfl, rfl, g1, g2, g3⟩, fun z => by rw [hbg] at z; cases z⟩
  · unfold upX; split
    · have := h3 p; omega
    · exact h3 i
  · have e : upX K9 p (K9 p + 1) i = K9 i := upX_n (by omega)
    rw [e]; exact ⟨(h6 i hi).1, (h6 i hi).2⟩
