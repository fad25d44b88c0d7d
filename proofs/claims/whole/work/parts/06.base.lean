/-! THE MINI MACHINE: ints are Int with a bound, cells are numbered, the store is one function -/
abbrev Sto : Type := Nat → Int → Int
abbrev MV : Type := Int ⊕ (Int ⊕ Nat)
abbrev mI (z : Int) : MV := .inl z
abbrev mL (z : Int) : MV := .inr (.inl z)
abbrev mR (r : Nat) : MV := .inr (.inr r)
abbrev okI (z : Int) : Prop := -2147483648 ≤ z ∧ z < 2147483648
abbrev okL (z : Int) : Prop := -9223372036854775808 ≤ z ∧ z < 9223372036854775808
def okv : MV → Prop
  | .inl z => okI z
  | .inr (.inl z) => okL z
  | .inr (.inr _) => True
def okS (σ : Sto) : Prop := ∀ r i, okI (σ r i)
def upd2 (σ : Sto) (r : Nat) (k v : Int) : Sto := fun r' k' => if r' = r ∧ k' = k then v else σ r' k'
abbrev GG : Type := (Nat → ClassId) × (Nat → Nat → Nat) × (Nat → Nat) × ClassId × ClassId × ClassId × (Nat → Nat)
abbrev gD (g : GG) : va_G := (g.1, g.2.1)
abbrev gad (g : GG) : Nat → Nat := g.2.2.1
abbrev gI (g : GG) : ClassId := g.2.2.2.1
abbrev gB (g : GG) : ClassId := g.2.2.2.2.1
abbrev gZ (g : GG) : ClassId := g.2.2.2.2.2.1
abbrev gV (g : GG) : Nat → Nat := g.2.2.2.2.2.2
def tv (g : GG) : MV → Value
  | .inl z => .int (Int32.ofInt z)
  | .inr (.inl z) => .long (Int64.ofInt z)
  | .inr (.inr r) => .ref (gad g r)
abbrev NC : Nat := 92
def kdL : List Nat := [6, 101, 5, 100, 100, 100, 100, 100, 5, 100, 100, 100, 100, 100, 3, 100, 100, 100, 100, 100, 3, 100, 100, 100, 100, 100, 3, 100, 100, 100, 100, 100, 3, 100, 100, 100, 100, 100, 4, 1, 100, 100, 100, 0, 100, 100, 100, 100, 100, 2, 100, 100, 100, 100, 100, 100, 100, 100, 100, 102, 2, 100, 100, 100, 100, 100, 100, 100, 100, 100, 102, 7, 100, 100, 100, 100, 100, 102, 100, 100, 100, 102, 100, 100, 100, 100, 100, 100, 100, 100, 100, 100]
def lnL : List Nat := [0, 400, 0, 6, 6, 6, 48, 48, 0, 6, 6, 6, 48, 48, 0, 80, 8, 8, 8, 6, 0, 80, 8, 8, 8, 6, 0, 80, 8, 8, 8, 6, 0, 80, 8, 8, 8, 6, 0, 0, 8, 8, 8, 0, 80, 80, 80, 1640, 1640, 0, 8, 8, 72, 152, 152, 152, 152, 152, 152, 152, 0, 8, 8, 72, 152, 152, 152, 152, 152, 152, 152, 0, 591, 591, 114, 114, 1182, 2, 400, 10, 41, 6, 9, 8, 300, 300, 300, 300, 6642, 6642, 6642, 7]
def fdL : List (List (Option Nat)) := [[some 1, none, some 2, some 14, some 8, some 20, some 38, some 39, some 43, some 49, some 60, none, some 26, some 32, none, none], [], [none, some 3, some 4, some 5, some 6, some 7], [], [], [], [], [], [none, some 9, some 10, some 11, some 12, some 13], [], [], [], [], [], [none, none, some 15, some 16, some 17, some 18, some 19], [], [], [], [], [], [none, none, some 21, some 22, some 23, some 24, some 25], [], [], [], [], [], [none, none, some 27, some 28, some 29, some 30, some 31], [], [], [], [], [], [none, none, some 33, some 34, some 35, some 36, some 37], [], [], [], [], [], [some 1, some 8, some 20, none, none, none, none, none, none, none, none], [some 2, some 14, none, none, some 40, some 41, some 42], [], [], [], [some 44, some 45, some 46, some 47, some 48, none, none, none], [], [], [], [], [], [some 14, some 39, some 43, none, some 50, some 51, some 52, some 53, some 54, some 55, some 56, some 57, some 58, some 59], [], [], [], [], [], [], [], [], [], [], [some 14, some 39, some 43, none, some 61, some 62, some 63, some 64, some 65, some 66, some 67, some 68, some 69, some 70], [], [], [], [], [], [], [], [], [], [], [some 72, some 73, some 74, none, some 75, none, some 76, some 77, some 78, none, none, none, none, none, none, none, some 79, some 80, some 81, some 82, some 83, some 84, some 85, some 86, some 87, none, some 88, some 89, some 90, some 91], [], [], [], [], [], [], [], [], [], [], [], [], [], [], [], [], [], [], [], []]
def kd (r : Nat) : Nat := kdL.getD r 0
def ln (r : Nat) : Nat := lnL.getD r 0
def fdn (r : Nat) : Nat := (fdL.getD r []).length
def fld (r k : Nat) : Option Nat := (fdL.getD r []).getD k none
def fvO (g : GG) (σ : Sto) (r k : Nat) : Value := match fld r k with
  | none => .int (Int32.ofInt (σ r (k : Int)))
  | some q => .ref (gad g q)
def fsO (g : GG) (σ : Sto) (r : Nat) : List Value := (List.range (fdn r)).map (fvO g σ r)
def gcA (g : GG) (k : Nat) : ClassId := if k = 100 then gI g else if k = 101 then gB g else gZ g
def cel (g : GG) (σ : Sto) (r : Nat) : va_E := if kd r < 100 then .inr (kd r, fsO g σ r) else .inl (gcA g (kd r), ln r, .inl (fun i => Int32.ofInt (σ r (i : Int))))
def wsO (g : GG) (σ : Sto) : va_W := (List.range NC).map (fun r => (gad g r, cel g σ r))
abbrev tyO (g : GG) : List (ClassId × FieldType) := [(gI g, .int), (gB g, .byte), (gZ g, .boolean)]
def gAr (g : GG) : Nat → Prop := fun q => ∃ r, r < NC ∧ q = gad g r
def gInj (g : GG) : Prop := ∀ i j, i < NC → j < NC → gad g i = gad g j → i = j
theorem wsO_at {g : GG} {σ : Sto} {r : Nat} (h : r < NC) : (wsO g σ)[r]? = some (gad g r, cel g σ r) := by
  simp [wsO, List.getElem?_map, List.getElem?_range h]
theorem wsO_obj {g : GG} {σ : Sto} {r ci : Nat} (h : r < NC) (hk : kd r = ci) (hc : ci < 100) : (wsO g σ)[r]? = some (gad g r, .inr (ci, fsO g σ r)) := by
  rw [wsO_at h, cel, hk, if_pos hc]
theorem wsO_arr {g : GG} {σ : Sto} {r k : Nat} (h : r < NC) (hk : kd r = k) (hc : ¬ k < 100) : (wsO g σ)[r]? = some (gad g r, .inl (gcA g k, ln r, .inl (fun i => Int32.ofInt (σ r (i : Int))))) := by
  rw [wsO_at h, cel, hk, if_neg hc]
theorem wsO_inv {g : GG} {σ : Sto} {k : Nat} {q : Nat × va_E} (h : (wsO g σ)[k]? = some q) : k < NC ∧ q = (gad g k, cel g σ k) := by
  have hk : k < NC := by
    have := (List.getElem?_eq_some_iff.mp h).1
    simpa [wsO] using this
  rw [wsO_at hk] at h
  exact ⟨hk, (Option.some.inj h).symm⟩
theorem wsO_D {g : GG} (σ : Sto) (h : gInj g) : va_D (gAr g) (wsO g σ) := by
  refine ⟨fun i j p q hp hq e => ?_, fun k q hq => ?_⟩
  · obtain ⟨hi, rfl⟩ := wsO_inv hp
    obtain ⟨hj, rfl⟩ := wsO_inv hq
    exact h i j hi hj e
  · obtain ⟨hk, rfl⟩ := wsO_inv hq
    exact ⟨k, hk, rfl⟩
theorem wsO_set {g : GG} {σ σ' : Sto} {r : Nat} {e : va_E} (h : r < NC) (he : e = cel g σ' r) (ho : ∀ q, q ≠ r → σ' q = σ q) : (wsO g σ).set r (gad g r, e) = wsO g σ' := by
  apply List.ext_getElem?
  intro i
  rw [List.getElem?_set]
  by_cases hi : r = i
  · subst hi
    have hl : r < (wsO g σ).length := by simpa [wsO] using h
    rw [if_pos rfl, if_pos hl, wsO_at h, he]
  · rw [if_neg hi]
    by_cases hc : i < NC
    · rw [wsO_at hc, wsO_at hc]
      have e1 : σ' i = σ i := ho i (fun z => hi z.symm)
      have e2 : fvO g σ' i = fvO g σ i := by funext k; simp only [fvO, e1]
      simp only [cel, fsO, e1, e2]
    · rw [List.getElem?_eq_none (by simpa [wsO] using hc), List.getElem?_eq_none (by simpa [wsO] using hc)]
theorem upd2_out {σ : Sto} {r : Nat} {k v : Int} {q : Nat} (h : q ≠ r) : upd2 σ r k v q = σ q := by
  funext j
  simp [upd2, h]
theorem cel_upd_obj {g : GG} {σ : Sto} {r k : Nat} {v : Int} (hk : kd r < 100) (hf : fld r k = none) (hl : k < fdn r) : .inr (kd r, (fsO g σ r).set k (.int (Int32.ofInt v))) = cel g (upd2 σ r (k : Int) v) r := by
  rw [cel, if_pos hk]
  congr 2
  apply List.ext_getElem?
  intro i
  rw [List.getElem?_set]
  by_cases hi : k = i
  · subst hi
    rw [if_pos rfl, if_pos (by simpa [fsO] using hl)]
    simp [fsO, List.getElem?_map, List.getElem?_range hl, fvO, hf, upd2]
  · rw [if_neg hi]
    by_cases hc : i < fdn r
    · simp only [fsO, List.getElem?_map, List.getElem?_range hc, Option.map_some]
      congr 1
      simp only [fvO]
      cases fld r i with
      | some q => rfl
      | none =>
        have e : ¬ ((i : Int) = (k : Int)) := by omega
        simp [upd2, e]
    · rw [List.getElem?_eq_none (by simpa [fsO] using hc), List.getElem?_eq_none (by simpa [fsO] using hc)]
theorem cel_upd_arr {g : GG} {σ : Sto} {r kk : Nat} {i v : Int} (hk : kd r = kk) (hc : ¬ kk < 100) (hi : 0 ≤ i) : .inl (gcA g kk, ln r, .inl (upd (fun j => Int32.ofInt (σ r (j : Int))) i.toNat (Int32.ofInt v))) = cel g (upd2 σ r i v) r := by
  rw [cel, hk, if_neg hc]
  congr 4
  funext j
  simp only [upd, upd2]
  by_cases hj : j = i.toNat
  · have e : (j : Int) = i := by omega
    rw [if_pos hj, if_pos ⟨trivial, e⟩]
  · have e : ¬ (j : Int) = i := by omega
    simp [hj, e]
/-- numbers -/
theorem oI_toInt {z : Int} (h : okI z) : (Int32.ofInt z).toInt = z := Int32.toInt_ofInt_of_le h.1 h.2
theorem oI_eq {a b : Int} (ha : okI a) (hb : okI b) : Int32.ofInt a = Int32.ofInt b ↔ a = b := by
  constructor
  · intro h
    have := congrArg Int32.toInt h
    rwa [oI_toInt ha, oI_toInt hb] at this
  · intro h; rw [h]
theorem oI_lt {a b : Int} (ha : okI a) (hb : okI b) : Int32.ofInt a < Int32.ofInt b ↔ a < b := by
  rw [Int32.lt_iff_toInt_lt, oI_toInt ha, oI_toInt hb]
theorem oI_le {a b : Int} (ha : okI a) (hb : okI b) : Int32.ofInt a ≤ Int32.ofInt b ↔ a ≤ b := by
  rw [Int32.le_iff_toInt_le, oI_toInt ha, oI_toInt hb]
theorem oI_0 : Int32.ofInt 0 = 0 := by decide
theorem ok0 : okI 0 := by unfold okI; omega
theorem oI_add (a b : Int) : Int32.ofInt a + Int32.ofInt b = Int32.ofInt (a + b) := (Int32.ofInt_add a b).symm
theorem oI_sub (a b : Int) : Int32.ofInt a - Int32.ofInt b = Int32.ofInt (a - b) := (Int32.ofInt_sub a b).symm
theorem oI_mul (a b : Int) : Int32.ofInt a * Int32.ofInt b = Int32.ofInt (a * b) := (Int32.ofInt_mul a b).symm
theorem fb_bmod' {z : Int} (h : okI z) : z.bmod (2 ^ 32) = z := by
  have e : z.bmod 4294967296 = z := by
    unfold okI at h
    rw [Int.bmod_def]
    split <;> omega
  exact e
theorem oI_div {a b : Int} (ha : okI a) (hb : okI b) (hr : okI (a.tdiv b)) : Int32.ofInt a / Int32.ofInt b = Int32.ofInt (a.tdiv b) := by
  apply Int32.toInt_inj.mp
  rw [Int32.toInt_div, oI_toInt ha, oI_toInt hb, oI_toInt hr]
  exact fb_bmod' hr
theorem oI_clamp {z : Int} (h : okI z) (h0 : 0 ≤ z) : (Int32.ofInt z).toNatClampNeg = z.toNat := by
  show (Int32.ofInt z).toInt.toNat = z.toNat
  rw [oI_toInt h]
theorem oI_in {z : Int} {n : Nat} (h : okI z) (h0 : 0 ≤ z) (h1 : z < n) : vp_in (Int32.ofInt z) n := by
  rintro (q | q)
  · rw [← oI_0, oI_lt h ok0] at q; omega
  · rw [oI_clamp h h0] at q; omega
