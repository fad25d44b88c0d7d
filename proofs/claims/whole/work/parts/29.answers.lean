
/-! what each call answers, over the two pictures -/
noncomputable def sX (D S : Sto) : Int := sumI (lX D S) (nL D S)
noncomputable def sO (D S : Sto) : Int := sumI (lO D S) (nL D S)
noncomputable def aRule (D S : Sto) (tl ks what : Int) : Int :=
  if what < 0 ∨ 15 < what then -1 else if 8 ≤ what ∧ what ≤ 13 then D 5 (what - 8) else if what = 0 then S 0 0 else if what = 1 then D 0 0 else if what = 2 then tot D else if what = 3 then unN (D 4) (tot D) else if what = 4 then nL D S else if what = 5 then sumI (fun l => if own D S l < 0 then 1 else 0) (nL D S) else if what = 6 then sX D S else if what = 7 then sO D S else if what = 14 then tl else ks
def aShape (S : Sto) (g what : Int) : Int := if g < 0 ∨ S 0 0 ≤ g ∨ what < 0 ∨ 3 < what then -1 else if what = 0 then S 1 g else if what = 1 then S 2 g else if what = 2 then S 3 g else mxI (fun i => S 5 (g * 8 + i)) (S 3 g)
def aStep (S : Sto) (g i what : Int) : Int := if g < 0 ∨ S 0 0 ≤ g ∨ i < 0 ∨ what < 0 ∨ 1 < what then -1 else if S 3 g ≤ i then -4 else if what = 0 then S 4 (g * 8 + i) else S 5 (g * 8 + i)
noncomputable def fcl (D S : Sto) (p : Int) : Int := if fnd (fun t => lX D S (LB D S p + t)) (LM D S p) 1 = -4 then -4 else LB D S p + fnd (fun t => lX D S (LB D S p + t)) (LM D S p) 1
noncomputable def slk (D S : Sto) (l : Int) : Int := if lR D S l < lU D S l then 0 else (lR D S l - lU D S l) * (lR D S l - lU D S l)
noncomputable def aPar (D S : Sto) (p what : Int) : Int := if p < 0 ∨ D 0 0 ≤ p ∨ what < 0 ∨ 9 < what then -1 else if what = 0 then D 1 p else if what = 1 then D 2 p else if what = 2 then D 3 p else if what = 3 then (if D 2 p < 0 then 0 else hgt D p) else if what = 4 then LB D S p else if what = 5 then LM D S p else if what = 6 then sumI (fun k => lX D S (LB D S p + k)) (LM D S p) else if what = 7 then fcl D S p else if what = 8 then sumI (fun k => lO D S (LB D S p + k)) (LM D S p) else sumI (fun k => slk D S (LB D S p + k)) (LM D S p - 1)
noncomputable def lnF (D S : Sto) (p i : Int) : Int := LB D S p + fnd (fun t => if i < sumI (LC D S p) (t + 1) then 1 else 0) (LM D S p) 1
noncomputable def aWord (D S : Sto) (p i what : Int) : Int := if p < 0 ∨ D 0 0 ≤ p ∨ i < 0 ∨ what < 0 ∨ 4 < what then -1 else if D 1 p ≤ i then -4 else if what = 0 then nlt (D 4 (fstS D p + i)) else if what = 1 then wid (D 4 (fstS D p + i)) else if what = 2 then lkN (D 4) (D 4 (fstS D p + i)) (tot D) else if what = 3 then lnF D S p i else plW D S p i (lnF D S p i)
def aLetter (D : Sto) (p i k : Int) : Int := if p < 0 ∨ D 0 0 ≤ p ∨ i < 0 ∨ k < 0 then -1 else if D 1 p ≤ i then -4 else if k < nlt (D 4 (fstS D p + i)) then ltr (D 4 (fstS D p + i)) k else -4
def aDrawn (D S : Sto) (p i what : Int) : Int := if p < 0 ∨ D 0 0 ≤ p ∨ i < 0 ∨ what < 0 ∨ 2 < what then -1 else if D 2 p < 0 ∨ S 3 (D 2 p) ≤ i then -4 else if what = 0 then dbg D S p i else if what = 1 then den D S p i else dex D S p i
def aReach (D S : Sto) (p j : Int) : Int := if p < 0 ∨ D 0 0 ≤ p ∨ j < 0 then -1 else if D 2 p < 0 then -4 else rch D S p j
noncomputable def aLine (D S : Sto) (l what : Int) : Int := if l < 0 ∨ nL D S ≤ l ∨ what < 0 ∨ 7 < what then -1 else if own D S l < 0 then -4 else if what = 0 then own D S l else if what = 1 then lF D S l else if what = 2 then lNw D S l else if what = 3 then lI D S l else if what = 4 then lR D S l else if what = 5 then lU D S l else if what = 6 then lO D S l else lX D S l
/-- the letters of a line's words, one behind another, 0 between two -/
def sgA (c : Int → Int) (n : Int) : Nat → Int → Int → Int
  | 0, _, _ => -4
  | f + 1, i, a => if n ≤ i then -4 else if a < nlt (c i) then ltr (c i) a else if a = nlt (c i) then (if i < n - 1 then 0 else -4) else sgA c n f (i + 1) (a - nlt (c i) - 1)
noncomputable def aSign (D S : Sto) (l k : Int) : Int := if l < 0 ∨ nL D S ≤ l ∨ k < 0 then -1 else if own D S l < 0 then -4 else sgA (fun j => D 4 (fstS D (own D S l) + lF D S l + j)) (lNw D S l) (lNw D S l).toNat 0 k
/-- another drop -/
def setD (D : Sto) (p n : Int) : Sto := fun k i => if k = 3 ∧ i = p then n else D k i
noncomputable def mk3 (D S : Sto) (p n : Int) : Int := nL (setD D p n) S * 1000000 + sX (setD D p n) S * 1000 + sO (setD D p n) S
noncomputable def bstN (D S : Sto) (p : Int) : Nat → Int
  | 0 => 2
  | k + 1 => if mk3 D S p ((k : Int) + 3) ≤ mk3 D S p (bstN D S p k) then (k : Int) + 3 else bstN D S p k
noncomputable def aBest (D S : Sto) (p : Int) : Int := if p < 0 ∨ D 0 0 ≤ p then -1 else if D 2 p < 0 then -4 else bstN D S p 3
noncomputable def aTried (D S : Sto) (p n : Int) : Int := if p < 0 ∨ D 0 0 ≤ p ∨ n < 2 ∨ 5 < n then -1 else if D 2 p < 0 then -4 else nL (setD D p n) S
noncomputable def fitN (D S : Sto) : Nat → Sto × Int
  | 0 => (D, 0)
  | k + 1 => if (fitN D S k).1 2 (k : Int) < 0 then fitN D S k else (setD (fitN D S k).1 (k : Int) (bstN (fitN D S k).1 S (k : Int) 3), (fitN D S k).2 + if bstN (fitN D S k).1 S (k : Int) 3 = (fitN D S k).1 3 (k : Int) then 0 else 1)
theorem lnF_eq {D S : Sto} (h : OKD D S) (hS : OKS S) {p i z : Int} (p0 : 0 ≤ p) (hp : p < D 0 0) (hz : isLn D S p i z) : z = lnF D S p i := by
  have hE := LE_eq D S p0
  obtain ⟨c1, -, -⟩ := LC_ok h hS p0 hp
  obtain ⟨a1, a2, a3, a4⟩ := hz
  have := fnd_hit (f := fun t => if i < sumI (LC D S p) (t + 1) then 1 else 0) (n := LM D S p) (w := 1) (q := z - LB D S p) (by omega) (by omega) (fun k k0 k1 => by
    have := sumI_mono (f := LC D S p) (m := k + 1) (n := z - LB D S p) (by omega) (by omega) (fun x x0 x1 => by have := c1 x x0 (by omega); omega)
    rw [if_neg (by omega)]
    omega) (by rw [if_pos a4])
  unfold lnF
  rw [this]
  omega
theorem lO_01 (D S : Sto) (l : Int) : lO D S l = 0 ∨ lO D S l = 1 := by
  unfold lO
  split
  · right; rfl
  · left; rfl
theorem s3_bd {D S : Sto} (h : OKD D S) : (0 ≤ nL D S ∧ nL D S ≤ 143) ∧ (0 ≤ sX D S ∧ sX D S ≤ 143) ∧ (0 ≤ sO D S ∧ sO D S ≤ 143) := by
  have h1 := nL_bd h
  have h2 := sumI_bd (f := lX D S) (n := nL D S) (c := 1) h1.1 (fun k _ _ => by have := lX_01 D S k; omega)
  have h3 := sumI_bd (f := lO D S) (n := nL D S) (c := 1) h1.1 (fun k _ _ => by have := lO_01 D S k; omega)
  unfold sX sO
  omega
theorem setD_ok {D S : Sto} (h : OKD D S) {p n : Int} (hs : 0 ≤ p → p < D 0 0 → 0 ≤ D 2 p) (hn : 2 ≤ n ∧ n ≤ 5) : OKD (setD D p n) S := by
  have e : ∀ k, k ≠ 3 → setD D p n k = D k := fun k hk => by funext i; simp [setD, hk]
  have et : tot (setD D p n) = tot D := by unfold tot; rw [e 1 (by decide), e 0 (by decide)]
  obtain ⟨h1, h2, h3, h4, h5, h6⟩ := h
  refine ⟨by rw [e 0 (by decide)]; exact h1, by rw [e 0 (by decide), e 1 (by decide)]; exact h2, by rw [et]; exact h3, fun q q0 q1 => ?_, by rw [et, e 4 (by decide)]; exact h5, by rw [e 5 (by decide)]; exact h6⟩
  rw [e 0 (by decide)] at q1
  rw [e 2 (by decide)]
  by_cases hq : q = p
  · subst hq
    have := hs q0 q1
    have h9 := h4 q q0 q1
    right
    refine ⟨this, by omega, ?_⟩
    simp only [setD, if_true, and_self]
    exact hn
  · have h9 := h4 q q0 q1
    simp only [setD, hq, and_false, if_false]
    exact h9
theorem bstN_bd (D S : Sto) (p : Int) : ∀ k : Nat, 2 ≤ bstN D S p k ∧ bstN D S p k ≤ k + 2
  | 0 => by unfold bstN; omega
  | k + 1 => by
    have := bstN_bd D S p k
    unfold bstN
    split <;> omega
