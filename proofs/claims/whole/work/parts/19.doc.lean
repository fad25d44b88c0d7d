
/-! what is drawn: words of the document, over two pictures: D (0 count, 1 sizes, 2 shapes, 3 drops, 4 words, 5 settings), S (0 count, 1 signs, 2 heights, 3 steps, 4 depths, 5 extents) -/
def DC (σ : Sto) : Sto := fun k i => if k = 0 then σ 14 0 else if k = 1 then σ 16 i else if k = 2 then σ 17 i else if k = 3 then σ 18 i else if k = 4 then σ 15 i else σ 19 i
def SC (σ : Sto) : Sto := fun k i => if k = 0 then σ 2 0 else if k = 1 then σ 3 i else if k = 2 then σ 4 i else if k = 3 then σ 5 i else if k = 4 then σ 6 i else σ 7 i
def tot (D : Sto) : Int := sumI (D 1) (D 0 0)
/-- a word that can be told: letters 1 to 26, then none -/
def okC (c : Int) : Prop := 0 ≤ c ∧ c < 1073741824 ∧ 1 ≤ nlt c ∧ ∀ k, 0 ≤ k → k < 6 → (k < nlt c → 1 ≤ ltr c k ∧ ltr c k ≤ 26) ∧ (nlt c ≤ k → ltr c k = 0)
def OKD (D S : Sto) : Prop := (0 ≤ D 0 0 ∧ D 0 0 ≤ 8) ∧ (∀ p, 0 ≤ p → p < D 0 0 → 1 ≤ D 1 p) ∧ tot D ≤ 80 ∧ (∀ p, 0 ≤ p → p < D 0 0 → (D 2 p = -4 ∧ D 3 p = 0) ∨ (0 ≤ D 2 p ∧ D 2 p < S 0 0 ∧ 2 ≤ D 3 p ∧ D 3 p ≤ 5)) ∧ (∀ w, 0 ≤ w → w < tot D → okC (D 4 w)) ∧ (20 ≤ D 5 0 ∧ D 5 0 ≤ 99) ∧ (4 ≤ D 5 1 ∧ D 5 1 ≤ 20) ∧ (2 ≤ D 5 2 ∧ D 5 2 ≤ 20) ∧ (0 ≤ D 5 3 ∧ D 5 3 ≤ 9) ∧ (0 ≤ D 5 4 ∧ D 5 4 ≤ 1) ∧ (0 ≤ D 5 5 ∧ D 5 5 ≤ 2)
def OKS (S : Sto) : Prop := (0 ≤ S 0 0 ∧ S 0 0 ≤ 6) ∧ ∀ g, 0 ≤ g → g < S 0 0 → (1 ≤ S 1 g ∧ S 1 g ≤ 26) ∧ (1 ≤ S 2 g ∧ S 2 g ≤ 60) ∧ (1 ≤ S 3 g ∧ S 3 g ≤ 8) ∧ ∀ i, 0 ≤ i → i < S 3 g → 0 ≤ S 4 (g * 8 + i) ∧ S 4 (g * 8 + i) < S 2 g ∧ 0 ≤ S 5 (g * 8 + i) ∧ S 5 (g * 8 + i) ≤ 60
def hgt (D : Sto) (p : Int) : Int := (D 3 p - 1) * D 5 1 + D 5 2
def dbg (D S : Sto) (p i : Int) : Int := S 4 (D 2 p * 8 + i) * hgt D p / S 2 (D 2 p)
def den (D S : Sto) (p i : Int) : Int := if i = S 3 (D 2 p) - 1 then hgt D p else dbg D S p (i + 1)
def dex (D S : Sto) (p i : Int) : Int := (S 5 (D 2 p * 8 + i) * hgt D p + S 2 (D 2 p) - 1) / S 2 (D 2 p)
/-- of drawn steps, those that have something of the band from a on, as long as b: the greatest extent -/
def rbN (B E X : Int → Int) (a b : Int) : Nat → Int
  | 0 => -4
  | n + 1 => if B (n : Int) < E (n : Int) ∧ B (n : Int) < a + b ∧ a < E (n : Int) ∧ rbN B E X a b n < X (n : Int) then X (n : Int) else rbN B E X a b n
def rbI (B E X : Int → Int) (a b n : Int) : Int := rbN B E X a b n.toNat
theorem rbI_s {B E X : Int → Int} {a b n : Int} (h : 0 ≤ n) : rbI B E X a b (n + 1) = if B n < E n ∧ B n < a + b ∧ a < E n ∧ rbI B E X a b n < X n then X n else rbI B E X a b n := by
  have e : (n + 1).toNat = n.toNat + 1 := by omega
  have e2 : ((n.toNat : Nat) : Int) = n := by omega
  simp only [rbI, e, rbN, e2]
  congr
theorem rbI_cong {B E X B' E' X' : Int → Int} {a b n : Int} (h : ∀ k, 0 ≤ k → k < n → B k = B' k ∧ E k = E' k ∧ X k = X' k) : rbI B E X a b n = rbI B' E' X' a b n := by
  have : ∀ m : Nat, (m : Int) ≤ n → rbN B E X a b m = rbN B' E' X' a b m := by
    intro m
    induction m with
    | zero => intro _; rfl
    | succ m ih =>
      intro hm
      obtain ⟨h1, h2, h3⟩ := h (m : Int) (by omega) (by omega)
      simp only [rbN]
      rw [ih (by omega), h1, h2, h3]
  by_cases hn : 0 ≤ n
  · exact this n.toNat (by omega)
  · have e : n.toNat = 0 := by omega
    simp only [rbI, e, rbN]
theorem rbI_bd {B E X : Int → Int} {a b n c : Int} (hc : 0 ≤ c) (h : ∀ k, 0 ≤ k → k < n → 0 ≤ X k ∧ X k ≤ c) : (rbI B E X a b n = -4 ∨ 0 ≤ rbI B E X a b n) ∧ rbI B E X a b n ≤ c := by
  have : ∀ m : Nat, (m : Int) ≤ n → (rbN B E X a b m = -4 ∨ 0 ≤ rbN B E X a b m) ∧ rbN B E X a b m ≤ c := by
    intro m
    induction m with
    | zero => intro _; exact ⟨Or.inl rfl, by show (-4 : Int) ≤ c; omega⟩
    | succ m ih =>
      intro hm
      have h1 := ih (by omega)
      have h2 := h (m : Int) (by omega) (by omega)
      simp only [rbN]
      split <;> omega
  by_cases hn : 0 ≤ n
  · exact this n.toNat (by omega)
  · have e : n.toNat = 0 := by omega
    simp only [rbI, e, rbN]
    exact ⟨Or.inl trivial, by omega⟩
theorem rbI_out {B E X : Int → Int} {a b n : Int} (h : ∀ k, 0 ≤ k → k < n → E k ≤ a) : rbI B E X a b n = -4 := by
  have : ∀ m : Nat, (m : Int) ≤ n → rbN B E X a b m = -4 := by
    intro m
    induction m with
    | zero => intro _; rfl
    | succ m ih =>
      intro hm
      have h2 := h (m : Int) (by omega) (by omega)
      simp only [rbN]
      rw [if_neg (by omega)]
      exact ih (by omega)
  by_cases hn : 0 ≤ n
  · exact this n.toNat (by omega)
  · have e : n.toNat = 0 := by omega
    simp only [rbI, e, rbN]
def rbs (D S : Sto) (p j : Int) : Int := rbI (dbg D S p) (den D S p) (dex D S p) (j * D 5 1) (D 5 1) (S 3 (D 2 p))
/-- THE REACH of a paragraph's shape at j -/
def rch (D S : Sto) (p j : Int) : Int := if D 2 p < 0 ∨ j < 0 then 0 else if rbs D S p j < 0 then 0 else rbs D S p j + D 5 3
theorem mulb {a b A B : Int} (ha : 0 ≤ a) (hA : a ≤ A) (hb : 0 ≤ b) (hB : b ≤ B) : 0 ≤ a * b ∧ a * b ≤ A * B :=
  ⟨Int.mul_nonneg ha hb, Int.mul_le_mul hA hB hb (Int.le_trans ha hA)⟩
theorem hgt_bd {D S : Sto} (h : OKD D S) {p : Int} (h0 : 0 ≤ p) (hp : p < D 0 0) (hs : 0 ≤ D 2 p) : 6 ≤ hgt D p ∧ hgt D p ≤ 100 ∧ hgt D p ≤ 9 * D 5 1 ∧ 0 ≤ (D 3 p - 1) * D 5 1 ∧ (D 3 p - 1) * D 5 1 ≤ 80 := by
  obtain ⟨-, -, -, h4, -, -, h7, h8, -⟩ := h
  have h1 := h4 p h0 hp
  have h2 := mulb (a := D 3 p - 1) (b := D 5 1) (A := 4) (B := 20) (by omega) (by omega) (by omega) (by omega)
  have h3 : D 5 1 ≤ (D 3 p - 1) * D 5 1 := by
    have := Int.mul_le_mul_of_nonneg_right (show (1 : Int) ≤ D 3 p - 1 by omega) (show 0 ≤ D 5 1 by omega)
    omega
  have h5 : (D 3 p - 1) * D 5 1 ≤ 4 * D 5 1 := Int.mul_le_mul_of_nonneg_right (by omega) (by omega)
  unfold hgt
  omega
theorem divb {x y c : Int} (hx : 0 ≤ x) (hc : x ≤ c) (hy : 0 < y) : 0 ≤ x / y ∧ x / y ≤ c := by
  have h1 : 0 ≤ x / y := Int.ediv_nonneg hx (by omega)
  have h2 : x / y ≤ x := Int.ediv_le_self y hx
  omega
theorem dbg_bd {D S : Sto} (h : OKD D S) (hS : OKS S) {p i : Int} (h0 : 0 ≤ p) (hp : p < D 0 0) (hs : 0 ≤ D 2 p) (hi : 0 ≤ i) (hi2 : i < S 3 (D 2 p)) : 0 ≤ dbg D S p i ∧ dbg D S p i ≤ hgt D p ∧ 0 ≤ S 4 (D 2 p * 8 + i) * hgt D p ∧ S 4 (D 2 p * 8 + i) * hgt D p ≤ 6000 := by
  have hh := hgt_bd h h0 hp hs
  have hg : D 2 p < S 0 0 := by rcases h.2.2.2.1 p h0 hp with q | q <;> omega
  obtain ⟨-, h1, h2, h3⟩ := hS.2 (D 2 p) hs hg
  obtain ⟨h4, h5, -⟩ := h3 i hi hi2
  have h6 := mulb (a := S 4 (D 2 p * 8 + i)) (b := hgt D p) (A := 60) (B := 100) (by omega) (by omega) (by omega) (by omega)
  have h7 : S 4 (D 2 p * 8 + i) * hgt D p ≤ hgt D p * S 2 (D 2 p) := by
    rw [Int.mul_comm (hgt D p)]
    exact Int.mul_le_mul_of_nonneg_right (by omega) (by omega)
  have h8 : dbg D S p i ≤ hgt D p := Int.ediv_le_of_le_mul (by omega) h7
  have h9 : 0 ≤ dbg D S p i := Int.ediv_nonneg h6.1 (by omega)
  omega
theorem den_bd {D S : Sto} (h : OKD D S) (hS : OKS S) {p i : Int} (h0 : 0 ≤ p) (hp : p < D 0 0) (hs : 0 ≤ D 2 p) (hi : 0 ≤ i) (hi2 : i < S 3 (D 2 p)) : 0 ≤ den D S p i ∧ den D S p i ≤ hgt D p := by
  have hh := hgt_bd h h0 hp hs
  unfold den
  split
  · omega
  · have := dbg_bd h hS h0 hp hs (i := i + 1) (by omega) (by omega)
    omega
theorem dex_bd {D S : Sto} (h : OKD D S) (hS : OKS S) {p i : Int} (h0 : 0 ≤ p) (hp : p < D 0 0) (hs : 0 ≤ D 2 p) (hi : 0 ≤ i) (hi2 : i < S 3 (D 2 p)) : 0 ≤ dex D S p i ∧ dex D S p i ≤ 6060 ∧ 0 ≤ S 5 (D 2 p * 8 + i) * hgt D p ∧ S 5 (D 2 p * 8 + i) * hgt D p ≤ 6000 := by
  have hh := hgt_bd h h0 hp hs
  have hg : D 2 p < S 0 0 := by rcases h.2.2.2.1 p h0 hp with q | q <;> omega
  obtain ⟨-, h1, h2, h3⟩ := hS.2 (D 2 p) hs hg
  obtain ⟨-, -, h4, h5⟩ := h3 i hi hi2
  have h6 := mulb (a := S 5 (D 2 p * 8 + i)) (b := hgt D p) (A := 60) (B := 100) (by omega) (by omega) (by omega) (by omega)
  have h7 := divb (x := S 5 (D 2 p * 8 + i) * hgt D p + S 2 (D 2 p) - 1) (y := S 2 (D 2 p)) (c := 6060) (by omega) (by omega) (by omega)
  exact ⟨h7.1, h7.2, h6.1, by omega⟩
theorem rbs_bd {D S : Sto} (h : OKD D S) (hS : OKS S) {p : Int} (j : Int) (h0 : 0 ≤ p) (hp : p < D 0 0) (hs : 0 ≤ D 2 p) : (rbs D S p j = -4 ∨ 0 ≤ rbs D S p j) ∧ rbs D S p j ≤ 6060 :=
  rbI_bd (by decide) (fun k a b => by have := dex_bd h hS h0 hp hs a b; omega)
theorem rch_bd {D S : Sto} (h : OKD D S) (hS : OKS S) {p : Int} (j : Int) (h0 : 0 ≤ p) (hp : p < D 0 0) : 0 ≤ rch D S p j ∧ rch D S p j ≤ 6069 := by
  have h9 := h.2.2.2.2.2.2.2.2.1
  unfold rch
  split
  · omega
  · rename_i hn
    have := rbs_bd h hS j h0 hp (by omega)
    split <;> omega
theorem rch_far {D S : Sto} (h : OKD D S) (hS : OKS S) {p j : Int} (h0 : 0 ≤ p) (hp : p < D 0 0) (hj : 9 ≤ j) : rch D S p j = 0 := by
  unfold rch
  split
  · rfl
  · rename_i hn
    have hh := hgt_bd h h0 hp (by omega)
    have h7 := h.2.2.2.2.2.2.1
    have hm : 9 * D 5 1 ≤ j * D 5 1 := Int.mul_le_mul_of_nonneg_right hj (by omega)
    have e : rbs D S p j = -4 := rbI_out (fun k a b => by have := den_bd h hS h0 hp (by omega) a b; omega)
    rw [e, if_pos (by omega)]
