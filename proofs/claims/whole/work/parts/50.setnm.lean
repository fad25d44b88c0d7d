set_option maxHeartbeats 4000000 in
set_option maxRecDepth 100000 in
theorem nm6_of {P : Nat → Prop} {z : Int} (h : (∃ w : Nat, 3 ≤ w ∧ w < 9 ∧ P w ∧ (∀ q : Nat, 3 ≤ q → q < w → ¬ P q) ∧ z = (w : Int) - 3) ∨ (z = -4 ∧ ∀ q : Nat, 3 ≤ q → q < 9 → ¬ P q)) : z = nm6 P := by
  unfold nm6
  rcases h with ⟨w, w3, w9, hP, hn, hz⟩ | ⟨hz, hn⟩
  · have hw : w = 3 ∨ w = 4 ∨ w = 5 ∨ w = 6 ∨ w = 7 ∨ w = 8 := by omega
    rcases hw with rfl | rfl | rfl | rfl | rfl | rfl
    · rw [cif_pos hP, hz]; rfl
    · rw [cif_neg (hn 3 (by decide) (by decide)), cif_pos hP, hz]; rfl
    · rw [cif_neg (hn 3 (by decide) (by decide)), cif_neg (hn 4 (by decide) (by decide)), cif_pos hP, hz]; rfl
    · rw [cif_neg (hn 3 (by decide) (by decide)), cif_neg (hn 4 (by decide) (by decide)), cif_neg (hn 5 (by decide) (by decide)), cif_pos hP, hz]; rfl
    · rw [cif_neg (hn 3 (by decide) (by decide)), cif_neg (hn 4 (by decide) (by decide)), cif_neg (hn 5 (by decide) (by decide)), cif_neg (hn 6 (by decide) (by decide)), cif_pos hP, hz]; rfl
    · rw [cif_neg (hn 3 (by decide) (by decide)), cif_neg (hn 4 (by decide) (by decide)), cif_neg (hn 5 (by decide) (by decide)), cif_neg (hn 6 (by decide) (by decide)), cif_neg (hn 7 (by decide) (by decide)), cif_pos hP, hz]; rfl
  · rw [cif_neg (hn 3 (by decide) (by decide)), cif_neg (hn 4 (by decide) (by decide)), cif_neg (hn 5 (by decide) (by decide)), cif_neg (hn 6 (by decide) (by decide)), cif_neg (hn 7 (by decide) (by decide)), cif_neg (hn 8 (by decide) (by decide)), hz]
set_option maxHeartbeats 4000000 in
set_option maxRecDepth 100000 in
theorem nm6_bd (P : Nat → Prop) : -4 ≤ nm6 P ∧ nm6 P < 6 ∧ (0 ≤ nm6 P ∨ nm6 P = -4) := by
  have key : ∀ (p : Prop) (a b : Int), (-4 ≤ a ∧ a < 6 ∧ (0 ≤ a ∨ a = -4)) → (-4 ≤ b ∧ b < 6 ∧ (0 ≤ b ∨ b = -4)) → -4 ≤ cif p a b ∧ cif p a b < 6 ∧ (0 ≤ cif p a b ∨ cif p a b = -4) := fun p a b ha hb => by
    by_cases h : p
    · rw [cif_pos h]; exact ha
    · rw [cif_neg h]; exact hb
  unfold nm6
  exact key _ _ _ (by decide) (key _ _ _ (by decide) (key _ _ _ (by decide) (key _ _ _ (by decide) (key _ _ _ (by decide) (key _ _ _ (by decide) (by decide))))))
def SN (σ : Sto) : Sto := fun k i => if k = 0 then σ 8 0 else if k = 1 then σ 9 i else if k = 2 then σ 10 i else if k = 3 then σ 11 i else if k = 4 then σ 12 i else if k = 5 then σ 13 i else 0
abbrev DN (σ : Sto) : Sto := DI σ 20 21 22 23 24 25
-- the class's reader stands as the pure one
def RP (t : Int → Int) (n : Int) (σ : Sto) (s : PS) : Prop := RdI σ ∧ σ 1 = t ∧ σ 38 3 = n ∧ σ 38 4 = s.x ∧ s.f = 0 ∧ σ 38 10 = 0 ∧ DN σ = s.D ∧ SN σ = s.S ∧ σ 20 1 = tot s.D ∧ (0 ≤ σ 38 9 ∧ σ 38 9 < 64) ∧ ∀ w, 0 ≤ w → w < 6 → s.T w = σ 38 9 / 2 ^ w.toNat % 2
