
/-! breaking words into lines: the words of the document, over widths wd, rooms rm, n words -/
def us (wd : Int → Int) (s c : Int) : Int := sumI (fun k => wd (s + k)) c + (c - 1)
theorem us_1 (wd : Int → Int) (s : Int) : us wd s 1 = wd s := by
  have e : us wd s (0 + 1) = wd s := by
    unfold us
    rw [sumI_s (by omega), sumI_0]
    simp
  exact e
theorem us_s {wd : Int → Int} {s c : Int} (h : 0 ≤ c) : us wd s (c + 1) = us wd s c + 1 + wd (s + c) := by
  unfold us
  rw [sumI_s h]
  omega
theorem us_mono {wd : Int → Int} {s a b : Int} (h0 : 0 ≤ a) (hab : a ≤ b) (hw : ∀ k, 0 ≤ k → k < b → 0 ≤ wd (s + k)) : us wd s a + (b - a) ≤ us wd s b := by
  have := sumI_mono (f := fun k => wd (s + k)) h0 hab hw
  unfold us
  omega
/-- fewer of them, from the front -/
theorem us_drop {wd : Int → Int} {s c : Int} (h : 1 ≤ c) : us wd s (c + 1) = wd s + 1 + us wd (s + 1) c := by
  have key : ∀ n : Nat, sumN (fun k => wd (s + k)) (n + 1) = wd s + sumN (fun k => wd (s + 1 + k)) n := by
    intro n
    induction n with
    | zero => simp [sumN]
    | succ n ih =>
      rw [sumN, ih]
      simp only [sumN]
      have e : s + ((n + 1 : Nat) : Int) = s + 1 + (n : Int) := by omega
      rw [e]
      omega
  have h1 := key c.toNat
  have e : (c + 1).toNat = c.toNat + 1 := by omega
  unfold us sumI
  rw [e, h1]
  omega
theorem us_sub {wd : Int → Int} {s s' c : Int} (hs : s ≤ s') (hc : 1 ≤ c) (hw : ∀ k, s ≤ k → k < s' → 0 ≤ wd k) : us wd s' c ≤ us wd s (s' - s + c) := by
  have key : ∀ d : Nat, ∀ s0, s0 + (d : Int) = s' → s ≤ s0 → us wd s' c ≤ us wd s0 (d + c) := by
    intro d
    induction d with
    | zero => intro s0 h1 _; have : s0 = s' := by omega
              subst this; simp
    | succ d ih =>
      intro s0 h1 h2
      have h3 := ih (s0 + 1) (by omega) (by omega)
      have e : ((d + 1 : Nat) : Int) + c = ((d : Int) + c) + 1 := by omega
      rw [e, us_drop (by omega)]
      have := hw s0 h2 (by omega)
      omega
  have h1 := key (s' - s).toNat s (by omega) (by omega)
  have e : (((s' - s).toNat : Nat) : Int) = s' - s := by omega
  rw [e] at h1
  exact h1
/-- as many words into each line as fit: G t words stand ahead of line t, m lines -/
def Grd (wd rm : Int → Int) (n : Int) (G : Int → Int) (m : Int) : Prop := 0 ≤ m ∧ G 0 = 0 ∧ G m = n ∧ ∀ t, 0 ≤ t → t < m → G t < G (t + 1) ∧ G (t + 1) ≤ n ∧ (G (t + 1) - G t = 1 ∨ us wd (G t) (G (t + 1) - G t) ≤ rm t) ∧ (G (t + 1) < n → ¬ us wd (G t) (G (t + 1) - G t + 1) ≤ rm t)
theorem Grd.lo {wd rm : Int → Int} {n : Int} {G : Int → Int} {m : Int} (h : Grd wd rm n G m) : ∀ t, t ≤ m → 0 ≤ t → t ≤ G t := by
  have key : ∀ k : Nat, (k : Int) ≤ m → (k : Int) ≤ G (k : Int) := by
    intro k
    induction k with
    | zero => intro _; rw [show ((0 : Nat) : Int) = 0 from rfl, h.2.1]; omega
    | succ k ih =>
      intro hk
      have h1 := ih (by omega)
      have h2 := (h.2.2.2 (k : Int) (by omega) (by omega)).1
      have e : ((k + 1 : Nat) : Int) = (k : Int) + 1 := by omega
      rw [e]
      omega
  intro t ht h0
  have := key t.toNat (by omega)
  have e : ((t.toNat : Nat) : Int) = t := by omega
  rw [e] at this
  exact this
theorem Grd.hi {wd rm : Int → Int} {n : Int} {G : Int → Int} {m : Int} (h : Grd wd rm n G m) : ∀ t, t ≤ m → 0 ≤ t → G t + (m - t) ≤ n := by
  have key : ∀ k : Nat, (k : Int) ≤ m → G (m - k) + k ≤ n := by
    intro k
    induction k with
    | zero => intro _; simp; rw [h.2.2.1]; omega
    | succ k ih =>
      intro hk
      have h1 := ih (by omega)
      have h2 := (h.2.2.2 (m - (k + 1 : Nat)) (by omega) (by omega)).1
      have e : m - ((k + 1 : Nat) : Int) + 1 = m - k := by omega
      rw [e] at h2
      omega
  intro t ht h0
  have := key (m - t).toNat (by omega)
  have e : (((m - t).toNat : Nat) : Int) = m - t := by omega
  rw [e, show m - (m - t) = t by omega] at this
  omega
theorem Grd.uniq {wd rm : Int → Int} {n : Int} {G G' : Int → Int} {m m' : Int} (hw : ∀ k, 0 ≤ k → k < n → 0 ≤ wd k) (h : Grd wd rm n G m) (h' : Grd wd rm n G' m') : m = m' ∧ ∀ t, 0 ≤ t → t ≤ m → G t = G' t := by
  have key : ∀ k : Nat, (k : Int) ≤ m → (k : Int) ≤ m' → G (k : Int) = G' (k : Int) := by
    intro k
    induction k with
    | zero => intro _ _; rw [show ((0 : Nat) : Int) = 0 from rfl, h.2.1, h'.2.1]
    | succ k ih =>
      intro hk hk'
      have e0 := ih (by omega) (by omega)
      have l0 := h.lo (k : Int) (by omega) (by omega)
      obtain ⟨a1, a2, a3, a4⟩ := h.2.2.2 (k : Int) (by omega) (by omega)
      obtain ⟨b1, b2, b3, b4⟩ := h'.2.2.2 (k : Int) (by omega) (by omega)
      have e : ((k + 1 : Nat) : Int) = (k : Int) + 1 := by omega
      rw [e]
      rw [← e0] at b1 b3 b4
      generalize G (k : Int) = g at *
      generalize G ((k : Int) + 1) = x at *
      generalize G' ((k : Int) + 1) = y at *
      rcases Int.lt_trichotomy x y with q | q | q
      · have := a4 (by omega)
        have hm := us_mono (wd := wd) (s := g) (a := x - g + 1) (b := y - g) (by omega) (by omega) (fun i i0 i1 => hw _ (by omega) (by omega))
        omega
      · exact q
      · have := b4 (by omega)
        have hm := us_mono (wd := wd) (s := g) (a := y - g + 1) (b := x - g) (by omega) (by omega) (fun i i0 i1 => hw _ (by omega) (by omega))
        omega
  have hmm : m = m' := by
    rcases Int.lt_trichotomy m m' with q | q | q
    · have h1 := key m.toNat (by have := h.1; omega) (by have := h.1; omega)
      have e : ((m.toNat : Nat) : Int) = m := by have := h.1; omega
      rw [e, h.2.2.1] at h1
      have := h'.hi m (by omega) h.1
      omega
    · exact q
    · have h1 := key m'.toNat (by have := h'.1; omega) (by have := h'.1; omega)
      have e : ((m'.toNat : Nat) : Int) = m' := by have := h'.1; omega
      rw [e, h'.2.2.1] at h1
      have := h.hi m' (by omega) h'.1
      omega
  refine ⟨hmm, fun t h0 ht => ?_⟩
  have := key t.toNat (by omega) (by omega)
  have e : ((t.toNat : Nat) : Int) = t := by omega
  rw [e] at this
  exact this
/-- nobody comes farther: from a place that is no farther, with words that fit -/
theorem Grd.far {wd rm : Int → Int} {n : Int} {G : Int → Int} {m : Int} (hw : ∀ k, 0 ≤ k → k < n → 0 ≤ wd k) (h : Grd wd rm n G m) {t w c : Int} (h0 : 0 ≤ t) (ht : t < m) (hw0 : 0 ≤ w) (hwG : w ≤ G t) (hc : 1 ≤ c) (hn : w + c ≤ n) (hf : c = 1 ∨ us wd w c ≤ rm t) : w + c ≤ G (t + 1) := by
  obtain ⟨a1, a2, a3, a4⟩ := h.2.2.2 t h0 ht
  rcases hf with rfl | hf
  · omega
  · apply Classical.byContradiction
    intro hx
    have h1 := a4 (by omega)
    have h2 := us_sub (wd := wd) (s := w) (s' := G t) (c := G (t + 1) - G t + 1) hwG (by omega) (fun k k0 k1 => hw k (by omega) (by omega))
    have h3 := us_mono (wd := wd) (s := w) (a := G t - w + (G (t + 1) - G t + 1)) (b := c) (by omega) (by omega) (fun i i0 i1 => hw _ (by omega) (by omega))
    omega
/-- evenly: of a line with so many behind it, w words ahead: how many words it has best (0: no way), how many are over, slacks squared -/
def fov (wd : Int → Int) (R w c : Int) : Int := if us wd w c ≤ R then 0 else 1
def fsl (wd : Int → Int) (R w c : Int) (r : Nat) : Int := if r = 0 ∨ ¬ us wd w c ≤ R then 0 else (R - us wd w c) * (R - us wd w c)
def eO (wd : Int → Int) (R w : Int) (r : Nat) (nx : Int → Int × Int × Int) (c : Int) : Int := fov wd R w c + if r = 0 then 0 else (nx (w + c)).2.1
def eL (wd : Int → Int) (R w : Int) (r : Nat) (nx : Int → Int × Int × Int) (c : Int) : Int := fsl wd R w c r + if r = 0 then 0 else (nx (w + c)).2.2
def eCan (wd : Int → Int) (R n w : Int) (r : Nat) (nx : Int → Int × Int × Int) (c : Int) : Prop := (c = 1 ∨ us wd w c ≤ R) ∧ (if r = 0 then w + c = n else w + c < n ∧ 0 < (nx (w + c)).1)
def eBet (s : Int × Int × Int) (o l : Int) : Prop := s.1 = 0 ∨ o < s.2.1 ∨ (o = s.2.1 ∧ l ≤ s.2.2)
noncomputable def evB (wd : Int → Int) (R n w : Int) (r : Nat) (nx : Int → Int × Int × Int) : Nat → Int × Int × Int
  | 0 => (0, 0, 0)
  | k + 1 => haveI := Classical.propDecidable (eCan wd R n w r nx ((k : Int) + 1) ∧ eBet (evB wd R n w r nx k) (eO wd R w r nx ((k : Int) + 1)) (eL wd R w r nx ((k : Int) + 1)))
    if eCan wd R n w r nx ((k : Int) + 1) ∧ eBet (evB wd R n w r nx k) (eO wd R w r nx ((k : Int) + 1)) (eL wd R w r nx ((k : Int) + 1)) then ((k : Int) + 1, eO wd R w r nx ((k : Int) + 1), eL wd R w r nx ((k : Int) + 1)) else evB wd R n w r nx k
noncomputable def evS (wd rm : Int → Int) (n m : Int) : Nat → Int → Int × Int × Int
  | 0, _ => (0, 0, 0)
  | r + 1, w => evB wd (rm (m - ((r : Int) + 1))) n w r (evS wd rm n m r) (n - w).toNat
noncomputable def evP (wd rm : Int → Int) (n m : Int) : Nat → Int
  | 0 => 0
  | t + 1 => evP wd rm n m t + (evS wd rm n m (m.toNat - t) (evP wd rm n m t)).1
theorem evB_yes {wd : Int → Int} {R n w : Int} {r : Nat} {nx : Int → Int × Int × Int} {k : Nat} (h : eCan wd R n w r nx ((k : Int) + 1)) (h2 : eBet (evB wd R n w r nx k) (eO wd R w r nx ((k : Int) + 1)) (eL wd R w r nx ((k : Int) + 1))) : evB wd R n w r nx (k + 1) = ((k : Int) + 1, eO wd R w r nx ((k : Int) + 1), eL wd R w r nx ((k : Int) + 1)) := by
  simp only [evB]
  rw [if_pos ⟨h, h2⟩]
theorem evB_no {wd : Int → Int} {R n w : Int} {r : Nat} {nx : Int → Int × Int × Int} {k : Nat} (h : ¬ (eCan wd R n w r nx ((k : Int) + 1) ∧ eBet (evB wd R n w r nx k) (eO wd R w r nx ((k : Int) + 1)) (eL wd R w r nx ((k : Int) + 1)))) : evB wd R n w r nx (k + 1) = evB wd R n w r nx k := by
  simp only [evB]
  rw [if_neg h]
/-- what is chosen can be -/
theorem evB_can {wd : Int → Int} {R n w : Int} {r : Nat} {nx : Int → Int × Int × Int} : ∀ k : Nat, ((evB wd R n w r nx k).1 = 0) ∨ (1 ≤ (evB wd R n w r nx k).1 ∧ (evB wd R n w r nx k).1 ≤ k ∧ eCan wd R n w r nx (evB wd R n w r nx k).1 ∧ (evB wd R n w r nx k).2.1 = eO wd R w r nx (evB wd R n w r nx k).1 ∧ (evB wd R n w r nx k).2.2 = eL wd R w r nx (evB wd R n w r nx k).1)
  | 0 => Or.inl rfl
  | k + 1 => by
    by_cases h : eCan wd R n w r nx ((k : Int) + 1) ∧ eBet (evB wd R n w r nx k) (eO wd R w r nx ((k : Int) + 1)) (eL wd R w r nx ((k : Int) + 1))
    · rw [evB_yes h.1 h.2]
      exact Or.inr ⟨by show (1 : Int) ≤ (k : Int) + 1; omega, by show (k : Int) + 1 ≤ ((k + 1 : Nat) : Int); omega, h.1, rfl, rfl⟩
    · rw [evB_no h]
      rcases evB_can k with q | ⟨q1, q2, q3⟩
      · exact Or.inl q
      · exact Or.inr ⟨q1, by omega, q3⟩
/-- if one can be, one is chosen -/
theorem evB_pos {wd : Int → Int} {R n w : Int} {r : Nat} {nx : Int → Int × Int × Int} {c : Nat} (h : eCan wd R n w r nx ((c : Int) + 1)) : ∀ k : Nat, c < k → 0 < (evB wd R n w r nx k).1
  | 0, hk => absurd hk (Nat.not_lt_zero c)
  | k + 1, hk => by
    by_cases hy : eCan wd R n w r nx ((k : Int) + 1) ∧ eBet (evB wd R n w r nx k) (eO wd R w r nx ((k : Int) + 1)) (eL wd R w r nx ((k : Int) + 1))
    · rw [evB_yes hy.1 hy.2]
      show (0 : Int) < (k : Int) + 1
      omega
    · rw [evB_no hy]
      by_cases hck : c = k
      · subst hck
        rcases evB_can (wd := wd) (R := R) (n := n) (w := w) (r := r) (nx := nx) c with q | q
        · exact absurd ⟨h, Or.inl q⟩ hy
        · omega
      · exact evB_pos h k (by omega)
/-- what cannot be changes nothing -/
theorem evB_stop {wd : Int → Int} {R n w : Int} {r : Nat} {nx : Int → Int × Int × Int} {a : Nat} (h : ∀ c : Nat, a ≤ c → ¬ eCan wd R n w r nx ((c : Int) + 1)) : ∀ d : Nat, evB wd R n w r nx (a + d) = evB wd R n w r nx a
  | 0 => rfl
  | d + 1 => by
    rw [← Nat.add_assoc, evB_no (fun q => h (a + d) (by omega) q.1)]
    exact evB_stop h d
theorem evS_can {wd rm : Int → Int} {n m : Int} {r : Nat} {w : Int} (h : 0 < (evS wd rm n m (r + 1) w).1) : 1 ≤ (evS wd rm n m (r + 1) w).1 ∧ (evS wd rm n m (r + 1) w).1 ≤ n - w ∧ eCan wd (rm (m - ((r : Int) + 1))) n w r (evS wd rm n m r) (evS wd rm n m (r + 1) w).1 ∧ (evS wd rm n m (r + 1) w).2.1 = eO wd (rm (m - ((r : Int) + 1))) w r (evS wd rm n m r) (evS wd rm n m (r + 1) w).1 ∧ (evS wd rm n m (r + 1) w).2.2 = eL wd (rm (m - ((r : Int) + 1))) w r (evS wd rm n m r) (evS wd rm n m (r + 1) w).1 := by
  have e : evS wd rm n m (r + 1) w = evB wd (rm (m - ((r : Int) + 1))) n w r (evS wd rm n m r) (n - w).toNat := rfl
  rcases evB_can (wd := wd) (R := rm (m - ((r : Int) + 1))) (n := n) (w := w) (r := r) (nx := evS wd rm n m r) (n - w).toNat with q | q
  · rw [e] at h; omega
  · rw [e]
    obtain ⟨q1, q2, q3, q4, q5⟩ := q
    exact ⟨q1, by omega, q3, q4, q5⟩
theorem fsl_bd {wd : Int → Int} {R w c : Int} {r : Nat} (hR : R ≤ 99) (hu : 0 ≤ us wd w c) : 0 ≤ fsl wd R w c r ∧ fsl wd R w c r ≤ 9801 := by
  unfold fsl
  split
  · omega
  · have := mulb (a := R - us wd w c) (b := R - us wd w c) (A := 99) (B := 99) (by omega) (by omega) (by omega) (by omega)
    omega
theorem evS_bd {wd rm : Int → Int} {n m : Int} (hw : ∀ k, 0 ≤ k → k < n → 0 ≤ wd k) (hR : ∀ t, rm t ≤ 99) : ∀ (r : Nat) (w : Int), 0 ≤ w → 0 < (evS wd rm n m r w).1 → 0 ≤ (evS wd rm n m r w).2.1 ∧ (evS wd rm n m r w).2.1 ≤ r ∧ 0 ≤ (evS wd rm n m r w).2.2 ∧ (evS wd rm n m r w).2.2 ≤ 9801 * r
  | 0, w, _, h => by simp [evS] at h
  | r + 1, w, h0, h => by
    obtain ⟨h1, h2, h3, h4, h5⟩ := evS_can h
    rw [h4, h5]
    generalize (evS wd rm n m (r + 1) w).1 = c at h1 h2 h3
    have hu : 0 ≤ us wd w c := by
      have := us_mono (wd := wd) (s := w) (a := 1) (b := c) (by omega) (by omega) (fun i i0 i1 => hw _ (by omega) (by omega))
      rw [us_1] at this
      have := hw w h0 (by omega)
      omega
    have hf := fsl_bd (wd := wd) (R := rm (m - ((r : Int) + 1))) (w := w) (c := c) (r := r) (hR _) hu
    have ho : 0 ≤ fov wd (rm (m - ((r : Int) + 1))) w c ∧ fov wd (rm (m - ((r : Int) + 1))) w c ≤ 1 := by unfold fov; split <;> omega
    unfold eO eL
    by_cases hr : r = 0
    · subst hr
      simp only [if_true]
      omega
    · have h6 := h3.2
      rw [if_neg hr] at h6
      have ih := evS_bd hw hR r (w + c) (by omega) h6.2
      rw [if_neg hr, if_neg hr]
      omega
theorem evS_rem {wd rm : Int → Int} {n m : Int} : ∀ (r : Nat) (w : Int), 0 < (evS wd rm n m r w).1 → (r : Int) ≤ n - w
  | 0, w, h => by simp [evS] at h
  | r + 1, w, h => by
    obtain ⟨h1, h2, h3, -⟩ := evS_can h
    generalize (evS wd rm n m (r + 1) w).1 = c at h1 h2 h3
    by_cases hr : r = 0
    · subst hr; omega
    · have h6 := h3.2
      rw [if_neg hr] at h6
      have ih := evS_rem r (w + c) h6.2
      omega
theorem evS_grd {wd rm : Int → Int} {n m : Int} {G : Int → Int} (h : Grd wd rm n G m) : ∀ r : Nat, 1 ≤ r → (r : Int) ≤ m → 0 < (evS wd rm n m r (G (m - r))).1
  | 0, h1, _ => absurd h1 (by omega)
  | r + 1, _, hr => by
    have e0 : m - ((r + 1 : Nat) : Int) = m - ((r : Int) + 1) := by omega
    obtain ⟨a1, a2, a3, a4⟩ := h.2.2.2 (m - ((r : Int) + 1)) (by omega) (by omega)
    have e1 : m - ((r : Int) + 1) + 1 = m - r := by omega
    rw [e1] at a1 a2 a3 a4
    rw [e0]
    show 0 < (evB wd (rm (m - ((r : Int) + 1))) n (G (m - ((r : Int) + 1))) r (evS wd rm n m r) (n - G (m - ((r : Int) + 1))).toNat).1
    generalize hg : G (m - ((r : Int) + 1)) = g at *
    have hc : (((G (m - r) - g - 1).toNat : Nat) : Int) + 1 = G (m - r) - g := by omega
    refine evB_pos (c := (G (m - r) - g - 1).toNat) ?_ _ (by omega)
    rw [hc]
    refine ⟨?_, ?_⟩
    · rcases a3 with q | q
      · left; exact q
      · right; exact q
    · by_cases hr0 : r = 0
      · subst hr0
        rw [if_pos rfl]
        have : G m = n := h.2.2.1
        simp at hc ⊢
        omega
      · rw [if_neg hr0]
        have ih := evS_grd h r (by omega) (by omega)
        have hi := h.hi (m - r) (by omega) (by omega)
        rw [show g + (G (m - r) - g) = G (m - r) by omega]
        exact ⟨by omega, ih⟩
/-- the way that is chosen: its places -/
theorem evP_ok {wd rm : Int → Int} {n m : Int} {G : Int → Int} (hw : ∀ k, 0 ≤ k → k < n → 0 ≤ wd k) (h : Grd wd rm n G m) : ∀ t : Nat, (t : Int) ≤ m → 0 ≤ evP wd rm n m t ∧ (t : Int) ≤ evP wd rm n m t ∧ evP wd rm n m t ≤ G t ∧ ((t : Int) < m → 0 < (evS wd rm n m (m.toNat - t) (evP wd rm n m t)).1) ∧ ((t : Int) = m → evP wd rm n m t = n)
  | 0, ht => by
    have h0 : evP wd rm n m 0 = 0 := rfl
    rw [h0]
    refine ⟨by omega, by omega, by rw [show ((0 : Nat) : Int) = 0 from rfl, h.2.1]; omega, fun hm => ?_, fun hm => ?_⟩
    · have := evS_grd h m.toNat (by omega) (by omega)
      have e : m - ((m.toNat : Nat) : Int) = 0 := by omega
      rw [e, h.2.1] at this
      exact this
    · have h1 := h.2.2.1
      rw [← hm] at h1
      rw [← h1]
      exact h.2.1.symm
  | t + 1, ht => by
    obtain ⟨i1, i2, i3, i4, -⟩ := evP_ok hw h t (by omega)
    have hp := i4 (by omega)
    have e1 : evP wd rm n m (t + 1) = evP wd rm n m t + (evS wd rm n m (m.toNat - t) (evP wd rm n m t)).1 := rfl
    obtain ⟨r, hr⟩ : ∃ r, m.toNat - t = r + 1 := ⟨m.toNat - t - 1, by omega⟩
    rw [hr] at hp e1
    obtain ⟨h1, h2, h3, -⟩ := evS_can hp
    have hj : m - ((r : Int) + 1) = t := by omega
    rw [hj] at h3
    have hfar := h.far hw (t := (t : Int)) (w := evP wd rm n m t) (c := (evS wd rm n m (r + 1) (evP wd rm n m t)).1) (by omega) (by omega) i1 i3 h1 (by omega) h3.1
    have ec : ((t + 1 : Nat) : Int) = (t : Int) + 1 := by omega
    rw [e1, ec]
    refine ⟨by omega, by omega, hfar, fun hm => ?_, fun hm => ?_⟩
    · have h6 := h3.2
      have hr2 : m.toNat - (t + 1) = r := by omega
      rw [if_neg (by omega)] at h6
      rw [hr2]
      exact h6.2
    · have h6 := h3.2
      rw [if_pos (by omega)] at h6
      exact h6
