set_option maxHeartbeats 4000000 in
set_option maxRecDepth 100000 in
theorem RP.addW {t : Int → Int} {n : Int} {σ : Sto} {s : PS} (h : RP t n σ s) (hD : DW s.D s.S) (h1 : 1 ≤ s.D 0 0) (c : Int) : RP t n (upd2 (upd2 (upd2 σ 21 (σ 20 1) c) 20 1 (σ 20 1 + 1)) 22 (σ 20 0 - 1) (σ 22 (σ 20 0 - 1) + 1)) (s.wD (adW s.D c)) := by
  obtain ⟨⟨r1, r2, r3⟩, h2, h3, h4, h5, h6, h7, h8, h9, h10, h11⟩ := h
  have ht : σ 20 1 = tot (DN σ) := by rw [h7]; exact h9
  have ea := DN_addW (σ := σ) (c := c) ht
  have er : ∀ r : Nat, r ≠ 20 → r ≠ 21 → r ≠ 22 → upd2 (upd2 (upd2 σ 21 (σ 20 1) c) 20 1 (σ 20 1 + 1)) 22 (σ 20 0 - 1) (σ 22 (σ 20 0 - 1) + 1) r = σ r := fun r a b d => by
    funext i; rw [upd2_r d, upd2_r a, upd2_r b]
  have e20 : upd2 (upd2 (upd2 σ 21 (σ 20 1) c) 20 1 (σ 20 1 + 1)) 22 (σ 20 0 - 1) (σ 22 (σ 20 0 - 1) + 1) 20 1 = σ 20 1 + 1 := by rw [upd2_r (by decide), upd2_eq]
  generalize upd2 (upd2 (upd2 σ 21 (σ 20 1) c) 20 1 (σ 20 1 + 1)) 22 (σ 20 0 - 1) (σ 22 (σ 20 0 - 1) + 1) = υ at *
  have e38 := er 38 (by decide) (by decide) (by decide)
  have e1 := er 1 (by decide) (by decide) (by decide)
  refine ⟨⟨by rw [e38]; exact r1, by rw [e38]; exact r2, by rw [e38, e1]; exact r3⟩, e1.trans h2, by rw [e38]; exact h3, by rw [e38]; exact h4, h5, by rw [e38]; exact h6, ?_, ?_, ?_, by rw [e38]; exact h10, by rw [e38]; exact h11⟩
  · rw [ea, h7]; rfl
  · refine Eq.trans ?_ h8
    funext k i
    simp only [SN, er 8 (by decide) (by decide) (by decide), er 9 (by decide) (by decide) (by decide), er 10 (by decide) (by decide) (by decide), er 11 (by decide) (by decide) (by decide), er 12 (by decide) (by decide) (by decide), er 13 (by decide) (by decide) (by decide)]
  · rw [e20, h9]
    exact (adW_tot hD h1).symm
set_option maxHeartbeats 4000000 in
set_option maxRecDepth 100000 in
theorem okC_of {z m : Int} (m1 : 1 ≤ m) (m6 : m ≤ 6) (z0 : 0 ≤ z) (z1 : z < 1073741824) (hl : ∀ k, 0 ≤ k → k < m → 1 ≤ ltr z k ∧ ltr z k ≤ 26) (hn : ∀ k, m ≤ k → k < 6 → ltr z k = 0) : okC z ∧ nlt z = m := by
  have e : nlt z = m := by
    unfold nlt
    have key : ∀ j : Nat, (j : Int) ≤ 6 → sumI (fun k => if ltr z k = 0 then 0 else 1) j = if (j : Int) ≤ m then (j : Int) else m := by
      intro j
      induction j with
      | zero => intro _; rw [show ((0 : Nat) : Int) = 0 from rfl, sumI_0, if_pos (by omega)]
      | succ j ih =>
        intro hj
        rw [show ((j + 1 : Nat) : Int) = (j : Int) + 1 by omega, sumI_s (by omega), ih (by omega)]
        by_cases h : (j : Int) < m
        · have := hl j (by omega) h
          rw [if_pos (by omega), if_neg (by omega), if_pos (by omega)]
        · have := hn j (by omega) (by omega)
          rw [if_pos this, if_neg (show ¬ (j : Int) + 1 ≤ m by omega)]
          split <;> omega
    have := key 6 (by decide)
    rw [show ((6 : Nat) : Int) = 6 from rfl] at this
    rw [this]
    split <;> omega
  refine ⟨⟨z0, z1, by omega, fun k k0 k6 => ⟨fun h => hl k k0 (by omega), fun h => hn k (by omega) k6⟩⟩, e⟩
set_option maxHeartbeats 4000000 in
set_option maxRecDepth 100000 in
theorem adW_DW {D S : Sto} {c : Int} (h : DW D S) (h1 : 1 ≤ D 0 0) (ht : tot D < 80) (hc : okC c) : DW (adW D c) S := by
  have et := adW_tot (c := c) h h1
  have hx := h.last h1
  obtain ⟨a, b, c3, d, e, f⟩ := h
  have e0 : adW D c 0 0 = D 0 0 := by simp [adW, updD]
  have e2 : adW D c 2 = D 2 := by funext i; simp [adW, updD]
  have e3 : adW D c 3 = D 3 := by funext i; simp [adW, updD]
  have e5 : adW D c 5 = D 5 := by funext i; simp [adW, updD]
  refine ⟨by rw [e0]; exact a, fun p p0 p1 => ?_, by omega, by rw [e0, e2, e3]; exact d, fun w w0 w1 => ?_, by rw [e5]; exact f⟩
  · have hb := b p p0 (by omega)
    by_cases hp : p = D 0 0 - 1
    · subst hp; simp [adW, updD]; omega
    · simp [adW, updD, hp]; exact hb
  · by_cases hw : w = tot D
    · subst hw; simp [adW, updD]; exact hc
    · have := e w w0 (by omega)
      simp [adW, updD, hw]; exact this
