
/-! pure words: sums, counts, updates -/
def sumN (f : Int → Int) : Nat → Int
  | 0 => 0
  | n + 1 => sumN f n + f (n : Int)
def sumI (f : Int → Int) (n : Int) : Int := sumN f n.toNat
theorem sumI_0 (f : Int → Int) : sumI f 0 = 0 := rfl
theorem sumI_s {f : Int → Int} {n : Int} (h : 0 ≤ n) : sumI f (n + 1) = sumI f n + f n := by
  have e : (n + 1).toNat = n.toNat + 1 := by omega
  have e2 : ((n.toNat : Nat) : Int) = n := by omega
  simp only [sumI, e, sumN, e2]
theorem sumI_cong {f g : Int → Int} {n : Int} (h : ∀ k, 0 ≤ k → k < n → f k = g k) : sumI f n = sumI g n := by
  have : ∀ m : Nat, (m : Int) ≤ n → sumN f m = sumN g m := by
    intro m
    induction m with
    | zero => intro _; rfl
    | succ m ih => intro hm; simp only [sumN]; rw [ih (by omega), h (m : Int) (by omega) (by omega)]
  by_cases hn : 0 ≤ n
  · exact this n.toNat (by omega)
  · have e : n.toNat = 0 := by omega
    simp only [sumI, e, sumN]
theorem sumI_bd {f : Int → Int} {n c : Int} (hn : 0 ≤ n) (h : ∀ k, 0 ≤ k → k < n → 0 ≤ f k ∧ f k ≤ c) : 0 ≤ sumI f n ∧ sumI f n ≤ n * c := by
  have : ∀ m : Nat, (m : Int) ≤ n → 0 ≤ sumN f m ∧ sumN f m ≤ m * c := by
    intro m
    induction m with
    | zero => intro _; simp [sumN]
    | succ m ih =>
      intro hm
      have h1 := ih (by omega)
      have h2 := h (m : Int) (by omega) (by omega)
      have e : ((m + 1 : Nat) : Int) * c = (m : Int) * c + c := by rw [Int.natCast_add, Int.add_mul]; simp
      simp only [sumN]
      rw [e]
      omega
  have h3 := this n.toNat (by omega)
  have e2 : ((n.toNat : Nat) : Int) = n := by omega
  rw [e2] at h3
  exact h3
theorem sumI_mono {f : Int → Int} {m n : Int} (h0 : 0 ≤ m) (hmn : m ≤ n) (h : ∀ k, 0 ≤ k → k < n → 0 ≤ f k) : sumI f m ≤ sumI f n := by
  have : ∀ d : Nat, m + d ≤ n → sumI f m ≤ sumI f (m + d) := by
    intro d
    induction d with
    | zero => intro _; simp
    | succ d ih =>
      intro hd
      have h1 := ih (by omega)
      have e : m + ((d + 1 : Nat) : Int) = (m + d) + 1 := by omega
      rw [e, sumI_s (by omega)]
      have := h (m + d) (by omega) (by omega)
      omega
  have h4 := this (n - m).toNat (by omega)
  have e2 : m + (((n - m).toNat : Nat) : Int) = n := by omega
  rw [e2] at h4
  exact h4
theorem upd2_eq {σ : Sto} {r : Nat} {k v : Int} : upd2 σ r k v r k = v := by simp [upd2]
theorem upd2_ne {σ : Sto} {r r' : Nat} {k k' v : Int} (h : ¬ (r' = r ∧ k' = k)) : upd2 σ r k v r' k' = σ r' k' := by simp [upd2, h]
theorem upd2_r {σ : Sto} {r r' : Nat} {k k' v : Int} (h : r' ≠ r) : upd2 σ r k v r' k' = σ r' k' := by simp [upd2, h]
theorem upd2_k {σ : Sto} {r : Nat} {k k' v : Int} (h : k' ≠ k) : upd2 σ r k v r k' = σ r k' := by simp [upd2, h]
theorem stV_ok (k : Nat) (i : Int) : okI (stV k i) := by
  have key : ∀ l : List Int, (∀ x ∈ l, okI x) → ∀ j : Nat, okI (l.getD j 0) := by
    intro l hl j
    rw [List.getD_eq_getElem?_getD]
    cases h : l[j]? with
    | none => exact ok0
    | some x => exact hl x (List.mem_of_getElem? h)
  refine key _ ?_ _
  unfold stL
  split
  · decide
  · split <;> decide
/-- a loop that counts up -/
theorem up_ind {P : Int → Prop} (b : Int) (hs : ∀ i, i ≤ b → (i < b → P (i + 1)) → P i) : ∀ i, i ≤ b → P i := by
  have : ∀ n : Nat, ∀ i, i ≤ b → (b - i).toNat = n → P i := by
    intro n
    induction n with
    | zero => intro i hi hn; exact hs i hi (fun h => absurd h (by omega))
    | succ n ih => intro i hi hn; exact hs i hi (fun h => ih (i + 1) (by omega) (by omega))
  intro i hi
  exact this _ i hi rfl
/-- the first place of a value -/
def fndN (f : Int → Int) (w : Int) : Nat → Int
  | 0 => -4
  | n + 1 => if fndN f w n = -4 then (if f (n : Int) = w then (n : Int) else -4) else fndN f w n
def fnd (f : Int → Int) (n w : Int) : Int := fndN f w n.toNat
theorem fnd_none {f : Int → Int} {n w : Int} (h : ∀ k, 0 ≤ k → k < n → f k ≠ w) : fnd f n w = -4 := by
  have : ∀ m : Nat, (m : Int) ≤ n → fndN f w m = -4 := by
    intro m
    induction m with
    | zero => intro _; rfl
    | succ m ih => intro hm; simp only [fndN]; rw [if_pos (ih (by omega)), if_neg (h (m : Int) (by omega) (by omega))]
  by_cases hn : 0 ≤ n
  · exact this n.toNat (by omega)
  · have e : n.toNat = 0 := by omega
    simp only [fnd, e, fndN]
theorem fnd_hit {f : Int → Int} {n w q : Int} (h0 : 0 ≤ q) (hq : q < n) (h : ∀ k, 0 ≤ k → k < q → f k ≠ w) (hw : f q = w) : fnd f n w = q := by
  have h1 : fndN f w (q.toNat + 1) = q := by
    simp only [fndN]
    have e : ((q.toNat : Nat) : Int) = q := by omega
    have h2 := fnd_none (f := f) (n := q) h
    rw [if_pos (show fndN f w q.toNat = -4 from h2), e, if_pos hw]
  have h3 : ∀ d : Nat, fndN f w (q.toNat + 1 + d) = q := by
    intro d
    induction d with
    | zero => exact h1
    | succ d ih =>
      show (if fndN f w (q.toNat + 1 + d) = -4 then _ else fndN f w (q.toNat + 1 + d)) = q
      rw [ih, if_neg (by omega)]
  have h4 := h3 (n.toNat - (q.toNat + 1))
  have e : q.toNat + 1 + (n.toNat - (q.toNat + 1)) = n.toNat := by omega
  rw [e] at h4
  exact h4
theorem fnd_cong {f g : Int → Int} {n w : Int} (h : ∀ k, 0 ≤ k → k < n → f k = g k) : fnd f n w = fnd g n w := by
  have : ∀ m : Nat, (m : Int) ≤ n → fndN f w m = fndN g w m := by
    intro m
    induction m with
    | zero => intro _; rfl
    | succ m ih => intro hm; simp only [fndN]; rw [ih (by omega), h (m : Int) (by omega) (by omega)]
  by_cases hn : 0 ≤ n
  · exact this n.toNat (by omega)
  · have e : n.toNat = 0 := by omega
    simp only [fnd, e, fndN]
theorem fnd_bd (f : Int → Int) (n w : Int) : fnd f n w = -4 ∨ (0 ≤ fnd f n w ∧ fnd f n w < n) := by
  have : ∀ m : Nat, fndN f w m = -4 ∨ (0 ≤ fndN f w m ∧ fndN f w m < m) := by
    intro m
    induction m with
    | zero => left; rfl
    | succ m ih =>
      simp only [fndN]
      by_cases h : fndN f w m = -4
      · rw [if_pos h]
        by_cases h2 : f (m : Int) = w
        · rw [if_pos h2]; right; omega
        · rw [if_neg h2]; left; rfl
      · rw [if_neg h]
        rcases ih with h3 | h3
        · exact absurd h3 h
        · right; omega
  rcases this n.toNat with h | h
  · left; exact h
  · right
    have h1 : fnd f n w = fndN f w n.toNat := rfl
    omega
/-- the greatest of some, 0 at least -/
def mxN (f : Int → Int) : Nat → Int
  | 0 => 0
  | n + 1 => max (mxN f n) (f (n : Int))
def mxI (f : Int → Int) (n : Int) : Int := mxN f n.toNat
theorem mxI_0 (f : Int → Int) : mxI f 0 = 0 := rfl
theorem mxI_s {f : Int → Int} {n : Int} (h : 0 ≤ n) : mxI f (n + 1) = max (mxI f n) (f n) := by
  have e : (n + 1).toNat = n.toNat + 1 := by omega
  have e2 : ((n.toNat : Nat) : Int) = n := by omega
  simp only [mxI, e, mxN, e2]
theorem mxI_cong {f g : Int → Int} {n : Int} (h : ∀ k, 0 ≤ k → k < n → f k = g k) : mxI f n = mxI g n := by
  have : ∀ m : Nat, (m : Int) ≤ n → mxN f m = mxN g m := by
    intro m
    induction m with
    | zero => intro _; rfl
    | succ m ih => intro hm; simp only [mxN]; rw [ih (by omega), h (m : Int) (by omega) (by omega)]
  by_cases hn : 0 ≤ n
  · exact this n.toNat (by omega)
  · have e : n.toNat = 0 := by omega
    simp only [mxI, e, mxN]
theorem mxI_bd {f : Int → Int} {n c : Int} (hc : 0 ≤ c) (h : ∀ k, 0 ≤ k → k < n → f k ≤ c) : 0 ≤ mxI f n ∧ mxI f n ≤ c := by
  have : ∀ m : Nat, (m : Int) ≤ n → 0 ≤ mxN f m ∧ mxN f m ≤ c := by
    intro m
    induction m with
    | zero => intro _; exact ⟨Int.le_refl 0, hc⟩
    | succ m ih =>
      intro hm
      have h1 := ih (by omega)
      have h2 := h (m : Int) (by omega) (by omega)
      simp only [mxN]
      omega
  by_cases hn : 0 ≤ n
  · exact this n.toNat (by omega)
  · have e : n.toNat = 0 := by omega
    simp only [mxI, e, mxN]
    exact ⟨Int.le_refl 0, hc⟩
theorem cpy2_out {σ : Sto} {a b r : Nat} {x y n k : Int} (h : r ≠ b) : cpy2 σ a b x y n r k = σ r k := by simp [cpy2, h]
theorem cpy2_in {σ : Sto} {a b : Nat} {n k : Int} (h : 0 ≤ k) (h2 : k < n) : cpy2 σ a b 0 0 n b k = σ a k := by
  simp only [cpy2]
  rw [if_pos ⟨trivial, h, by omega⟩]
  congr 1
  omega
/-- only these cells may be others -/
def Frm (L : List Nat) (σ σ' : Sto) : Prop := ∀ r, r ∉ L → σ' r = σ r
theorem Frm.rf {L : List Nat} {σ : Sto} : Frm L σ σ := fun _ _ => rfl
theorem Frm.tr {L : List Nat} {a b c : Sto} (h1 : Frm L a b) (h2 : Frm L b c) : Frm L a c := fun r h => (h2 r h).trans (h1 r h)
theorem Frm.mono {L M : List Nat} {a b : Sto} (h : Frm L a b) (hs : ∀ r ∈ L, r ∈ M) : Frm M a b := fun r hr => h r (fun q => hr (hs r q))
theorem Frm.up {L : List Nat} {σ σ' : Sto} {r : Nat} {k v : Int} (h : Frm L σ σ') (hr : r ∈ L) : Frm L σ (upd2 σ' r k v) := fun q hq => by
  rw [upd2_out (fun e => hq (by rw [e]; exact hr))]
  exact h q hq
theorem Frm.cp {L : List Nat} {σ σ' : Sto} {a r : Nat} {x y n : Int} (h : Frm L σ σ') (hr : r ∈ L) : Frm L σ (cpy2 σ' a r x y n) := fun q hq => by
  rw [← h q hq]
  funext k
  exact cpy2_out (fun e => hq (by rw [e]; exact hr))
theorem down_ind {P : Int → Prop} (b : Int) (hs : ∀ i, b ≤ i → (b < i → P (i - 1)) → P i) : ∀ i, b ≤ i → P i := by
  have : ∀ n : Nat, ∀ i, b ≤ i → (i - b).toNat = n → P i := by
    intro n
    induction n with
    | zero => intro i hi hn; exact hs i hi (fun h => absurd h (by omega))
    | succ n ih => intro i hi hn; exact hs i hi (fun h => ih (i - 1) (by omega) (by omega))
  intro i hi
  exact this _ i hi rfl
