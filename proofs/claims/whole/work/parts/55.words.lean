-- a draft that may be told on: the last paragraph may still be empty
def DW (D S : Sto) : Prop := (0 ≤ D 0 0 ∧ D 0 0 ≤ 8) ∧ (∀ p, 0 ≤ p → p < D 0 0 → 0 ≤ D 1 p) ∧ tot D ≤ 80 ∧ (∀ p, 0 ≤ p → p < D 0 0 → (D 2 p = -4 ∧ D 3 p = 0) ∨ (0 ≤ D 2 p ∧ D 2 p < S 0 0 ∧ 2 ≤ D 3 p ∧ D 3 p ≤ 5)) ∧ (∀ w, 0 ≤ w → w < tot D → okC (D 4 w)) ∧ (20 ≤ D 5 0 ∧ D 5 0 ≤ 99) ∧ (4 ≤ D 5 1 ∧ D 5 1 ≤ 20) ∧ (2 ≤ D 5 2 ∧ D 5 2 ≤ 20) ∧ (0 ≤ D 5 3 ∧ D 5 3 ≤ 9) ∧ (0 ≤ D 5 4 ∧ D 5 4 ≤ 1) ∧ (0 ≤ D 5 5 ∧ D 5 5 ≤ 2)
set_option maxHeartbeats 4000000 in
set_option maxRecDepth 100000 in
theorem DW.last {D S : Sto} (h : DW D S) (h1 : 1 ≤ D 0 0) : 0 ≤ sumI (D 1) (D 0 0 - 1) ∧ tot D = sumI (D 1) (D 0 0 - 1) + D 1 (D 0 0 - 1) ∧ 0 ≤ D 1 (D 0 0 - 1) ∧ D 1 (D 0 0 - 1) ≤ 80 ∧ 0 ≤ tot D := by
  obtain ⟨a, b, c, -⟩ := h
  have hl := b (D 0 0 - 1) (by omega) (by omega)
  have e : tot D = sumI (D 1) (D 0 0 - 1) + D 1 (D 0 0 - 1) := by
    unfold tot
    have := sumI_s (f := D 1) (n := D 0 0 - 1) (by omega)
    rw [show D 0 0 - 1 + 1 = D 0 0 by omega] at this
    exact this
  have h0 : 0 ≤ sumI (D 1) (D 0 0 - 1) := by
    have := sumI_mono (f := D 1) (m := 0) (n := D 0 0 - 1) (by decide) (by omega) (fun k k0 k1 => b k k0 (by omega))
    rw [sumI_0] at this
    exact this
  omega
set_option maxHeartbeats 4000000 in
set_option maxRecDepth 100000 in
theorem adW_tot {D S : Sto} {c : Int} (h : DW D S) (h1 : 1 ≤ D 0 0) : tot (adW D c) = tot D + 1 := by
  have e0 : adW D c 0 0 = D 0 0 := by simp [adW, updD]
  have hx := h.last h1
  unfold tot at *
  rw [e0]
  have := sumI_s (f := adW D c 1) (n := D 0 0 - 1) (by omega)
  rw [show D 0 0 - 1 + 1 = D 0 0 by omega] at this
  rw [this, hx.2.1]
  have e1 : adW D c 1 (D 0 0 - 1) = D 1 (D 0 0 - 1) + 1 := by simp [adW, updD]
  have e2 : sumI (adW D c 1) (D 0 0 - 1) = sumI (D 1) (D 0 0 - 1) := sumI_cong (fun k k0 k1 => by
    have : ¬ k = D 0 0 - 1 := by omega
    simp [adW, updD, this])
  rw [e1, e2]
  omega
set_option maxHeartbeats 4000000 in
set_option maxRecDepth 100000 in
theorem DN_addW {σ : Sto} {c : Int} (ht : σ 20 1 = tot (DN σ)) : DN (upd2 (upd2 (upd2 σ 21 (σ 20 1) c) 20 1 (σ 20 1 + 1)) 22 (σ 20 0 - 1) (σ 22 (σ 20 0 - 1) + 1)) = adW (DN σ) c := by
  have e0 : DN σ 0 0 = σ 20 0 := rfl
  have e1 : ∀ i, DN σ 1 i = σ 22 i := fun i => rfl
  funext k i
  show _ = updD (updD (DN σ) 4 (tot (DN σ)) c) 1 (DN σ 0 0 - 1) (DN σ 1 (DN σ 0 0 - 1) + 1) k i
  rw [← ht, e0, e1]
  by_cases h0 : k = 0
  · subst h0; simp [updD, DI, upd2]
  · by_cases h1 : k = 1
    · subst h1; simp [updD, DI, upd2]
    · by_cases h2 : k = 2
      · subst h2; simp [updD, DI, upd2]
      · by_cases h3 : k = 3
        · subst h3; simp [updD, DI, upd2]
        · by_cases h4 : k = 4
          · subst h4; simp [updD, DI, upd2]
          · simp [updD, DI, upd2, h0, h1, h2, h3, h4]
