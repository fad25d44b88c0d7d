set_option maxHeartbeats 4000000 in
set_option maxRecDepth 100000 in
theorem PR.same {P : Int → Int} {D E S : Sto} (h : PR P D) (hD : OKD D S) (s : Same E D) : PR P E := by
  obtain ⟨a, b, c, d⟩ := h
  obtain ⟨ho, ht⟩ := s.ok hD
  have hb := hD.tt
  obtain ⟨s0, s1, s4, s5⟩ := s
  refine ⟨by rw [a, s0], fun p p0 p1 => ?_, fun w w0 w1 => ?_, fun k k0 k1 => by rw [d k k0 k1, s5 k k0 k1]⟩
  · obtain ⟨e1, e2, e3⟩ := s1 p p0 (by omega)
    rw [e1, e2, e3]; exact b p p0 (by omega)
  · rw [s4 w w0 (by omega)]; exact c w w0 (by omega)
set_option maxHeartbeats 4000000 in
set_option maxRecDepth 100000 in
theorem SR.same {P : Int → Int} {S E : Sto} (h : SR P S) (hS : OKS S) (s : SameS E S) : SR P E := by
  obtain ⟨s0, s1, s4⟩ := s
  intro g g0 g1
  have hg : g < S 0 0 := by omega
  have hg6 : g < 6 := by have := hS.1; omega
  obtain ⟨e1, e2, e3⟩ := s1 g g0 hg6
  obtain ⟨a, b, c, d⟩ := h g g0 hg
  have h8 := (hS.2 g g0 hg).2.2.1
  rw [e1, e2, e3]
  refine ⟨a, b, c, fun i i0 i1 => ?_⟩
  obtain ⟨x1, x2⟩ := s4 (g * 8 + i) (by omega) (by omega)
  rw [x1, x2]; exact d i i0 i1
set_option maxHeartbeats 4000000 in
set_option maxRecDepth 100000 in
theorem p_feed {σ : Sto} {c : Int} (h : INV σ) : Pair yX6_feed cX6_feed 2 0 yX7_feed cX7_feed 2 1 [mI c] σ := by
  have hi := h
  obtain ⟨D, S, hC, hK, hM⟩ := h
  have hl := hC.2.2.2.2.2.1
  have e9 : σ 71 9 = σ 0 1 := hM.2.2.1
  refine ⟨_, c_feed hC, fun z σ1 h1 => ?_⟩
  obtain ⟨hC1, h1⟩ := h1
  by_cases c1 : c < 0 ∨ 127 < c
  · rw [if_pos c1] at h1
    obtain ⟨a, rfl⟩ := h1
    refine ⟨_, m_feed (by rw [e9]; exact hl), fun z' σ2 h2 => ?_⟩
    rw [if_pos c1] at h2
    obtain ⟨b, rfl⟩ := h2
    exact ⟨by rw [a, b], hi⟩
  rw [if_neg c1] at h1
  by_cases c2 : 400 ≤ σ 0 1
  · rw [if_pos c2] at h1
    obtain ⟨a, rfl⟩ := h1
    refine ⟨_, m_feed (by rw [e9]; exact hl), fun z' σ2 h2 => ?_⟩
    rw [if_neg c1, if_pos (by rw [e9]; exact c2)] at h2
    obtain ⟨b, rfl⟩ := h2
    exact ⟨by rw [a, b], hi⟩
  rw [if_neg c2] at h1
  obtain ⟨a, h1⟩ := h1
  have g9 : σ1 71 9 = σ 0 1 := by rw [h1]; simp [upd2]; exact e9
  refine ⟨_, m_feed (by rw [g9]; exact hl), fun z' σ2 h2 => ?_⟩
  rw [if_neg c1, if_neg (by rw [g9]; exact c2), g9] at h2
  obtain ⟨b, h2⟩ := h2
  refine ⟨by rw [a, b], D, S, hC1.low (fun r hr => ?_), hK.low (fun x hx => ?_), hM.1.hi ?_ ?_ ?_, ?_⟩
  · rw [h2]; funext x; have q1 : r ≠ 71 := by omega
    have q2 : r ≠ 78 := by omega
    simp [upd2, q1, q2]
  · rw [h2, h1]; have q1 : x ≠ 1 := by omega
    simp [upd2, q1]
  · rw [h2, h1]; funext x; simp [upd2]
  · rw [h2, h1]; funext x; simp [upd2]
  · rw [h2, h1]; simp [upd2]
  obtain ⟨b0, -, d0, e0, f0, g0, i0, j0⟩ := hM.2
  have q : ∀ r, r ≠ 0 → r ≠ 1 → r ≠ 71 → r ≠ 78 → σ2 r = σ r := fun r r0 r1 r2 r3 => by rw [h2, h1]; funext x; simp [upd2, r0, r1, r2, r3]
  have q0 : ∀ x, x ≠ 1 → σ2 0 x = σ 0 x := fun x hx => by rw [h2, h1]; simp [upd2, hx]
  have d1 : DI σ2 26 27 28 29 30 31 = DI σ 26 27 28 29 30 31 := by funext k i; simp only [DI, q 26 (by decide) (by decide) (by decide) (by decide), q 27 (by decide) (by decide) (by decide) (by decide), q 28 (by decide) (by decide) (by decide) (by decide), q 29 (by decide) (by decide) (by decide) (by decide), q 30 (by decide) (by decide) (by decide) (by decide), q 31 (by decide) (by decide) (by decide) (by decide)]
  have d2 : DI σ2 32 33 34 35 36 37 = DI σ 32 33 34 35 36 37 := by funext k i; simp only [DI, q 32 (by decide) (by decide) (by decide) (by decide), q 33 (by decide) (by decide) (by decide) (by decide), q 34 (by decide) (by decide) (by decide) (by decide), q 35 (by decide) (by decide) (by decide) (by decide), q 36 (by decide) (by decide) (by decide) (by decide), q 37 (by decide) (by decide) (by decide) (by decide)]
  refine ⟨b0.hi (q 79 (by decide) (by decide) (by decide) (by decide)) (q 80 (by decide) (by decide) (by decide) (by decide)), ?_, fun k k0 k1 => ?_, ?_, ?_, ?_, ?_, ?_⟩
  · rw [h2, h1]; simp [upd2]
  · have k1' : k < σ 0 1 + 1 := by rw [h2, h1] at k1; simpa [upd2] using k1
    rw [h2, h1]
    by_cases hk : k = σ 0 1
    · simp [upd2, hk]
    · simp [upd2, hk]; exact d0 k k0 (by omega)
  · rw [q 38 (by decide) (by decide) (by decide) (by decide), h2, h1]; simp [upd2]; exact e0
  · rw [q 77 (by decide) (by decide) (by decide) (by decide), q0 14 (by decide)]; exact f0
  · rw [q 77 (by decide) (by decide) (by decide) (by decide), q0 15 (by decide)]; exact g0
  · rw [q 76 (by decide) (by decide) (by decide) (by decide), q0 14 (by decide), d1]; exact i0
  · rw [q 76 (by decide) (by decide) (by decide) (by decide), q0 15 (by decide), d2]; exact j0
set_option maxHeartbeats 4000000 in
set_option maxRecDepth 100000 in
theorem p_end {σ : Sto} {n : Int} (h : INV σ) : Pair yX6_end cX6_end 3 0 yX7_end cX7_end 3 1 [mI n] σ := by
  have hi := h
  obtain ⟨D, S, hC, hK, hM⟩ := h
  have e9 : σ 71 9 = σ 0 1 := hM.2.2.1
  refine ⟨_, c_end hC, fun z σ1 h1 => ?_⟩
  obtain ⟨hC1, h1⟩ := h1
  by_cases c1 : n < 0 ∨ σ 0 1 < n
  · rw [if_pos c1] at h1
    obtain ⟨a, rfl⟩ := h1
    refine ⟨_, m_end, fun z' σ2 h2 => ?_⟩
    rw [if_pos (by rw [e9]; exact c1)] at h2
    obtain ⟨b, rfl⟩ := h2
    exact ⟨by rw [a, b], hi⟩
  rw [if_neg c1] at h1
  obtain ⟨a, h1⟩ := h1
  have g9 : σ1 71 9 = σ 0 1 := by rw [h1]; simp [upd2]; exact e9
  refine ⟨_, m_end, fun z' σ2 h2 => ?_⟩
  rw [if_neg (by rw [g9]; exact c1), g9] at h2
  obtain ⟨b, h2⟩ := h2
  refine ⟨by rw [a, b], D, S, hC1.low (fun r hr => ?_), hK.low (fun x hx => ?_), hM.1.hi ?_ ?_ ?_, ?_⟩
  · rw [h2]; funext x; have q1 : r ≠ 71 := by omega
    simp [upd2, q1]
  · rw [h2, h1]; have q1 : x ≠ 1 := by omega
    simp [upd2, q1]
  · rw [h2, h1]; funext x; simp [upd2]
  · rw [h2, h1]; funext x; simp [upd2]
  · rw [h2, h1]; simp [upd2]
  obtain ⟨b0, -, d0, e0, f0, g0, i0, j0⟩ := hM.2
  have q : ∀ r, r ≠ 0 → r ≠ 71 → σ2 r = σ r := fun r r0 r2 => by rw [h2, h1]; funext x; simp [upd2, r0, r2]
  have q0 : ∀ x, x ≠ 1 → σ2 0 x = σ 0 x := fun x hx => by rw [h2, h1]; simp [upd2, hx]
  have d1 : DI σ2 26 27 28 29 30 31 = DI σ 26 27 28 29 30 31 := by funext k i; simp only [DI, q 26 (by decide) (by decide), q 27 (by decide) (by decide), q 28 (by decide) (by decide), q 29 (by decide) (by decide), q 30 (by decide) (by decide), q 31 (by decide) (by decide)]
  have d2 : DI σ2 32 33 34 35 36 37 = DI σ 32 33 34 35 36 37 := by funext k i; simp only [DI, q 32 (by decide) (by decide), q 33 (by decide) (by decide), q 34 (by decide) (by decide), q 35 (by decide) (by decide), q 36 (by decide) (by decide), q 37 (by decide) (by decide)]
  refine ⟨b0.hi (q 79 (by decide) (by decide)) (q 80 (by decide) (by decide)), ?_, fun k k0 k1 => ?_, ?_, ?_, ?_, ?_, ?_⟩
  · rw [h2, h1]; simp [upd2]
  · have k1' : k < n := by rw [h2, h1] at k1; simpa [upd2] using k1
    rw [q 78 (by decide) (by decide), q 1 (by decide) (by decide)]
    exact d0 k k0 (by omega)
  · rw [q 38 (by decide) (by decide), h2, h1]; simp [upd2]; exact e0
  · rw [q 77 (by decide) (by decide), q0 14 (by decide)]; exact f0
  · rw [q 77 (by decide) (by decide), q0 15 (by decide)]; exact g0
  · rw [q 76 (by decide) (by decide), q0 14 (by decide), d1]; exact i0
  · rw [q 76 (by decide) (by decide), q0 15 (by decide), d2]; exact j0
