set_option maxHeartbeats 4000000 in
set_option maxRecDepth 100000 in
theorem p_back_x {σ : Sto} {k : Int} (h : INV σ) (hk : k < 0 ∨ 2 ≤ k) : Pair yX6_back cX6_back 2 3 yX7_back cX7_back 3 1 [mI k] σ := by
  have hi := h
  obtain ⟨D, S, hC, hK, hM⟩ := h
  have hz : ∀ j, 0 ≤ j → j < 2 → σ 77 j = 0 ∨ σ 77 j = 1 := fun j j0 j1 => by
    have f := hM.2.2.2.2.2.1
    have g := hM.2.2.2.2.2.2.1
    have := hK.1
    have := hK.2
    rcases (show j = 0 ∨ j = 1 by omega) with rfl | rfl
    · rw [f]; omega
    · rw [g]; omega
  refine ⟨_, c_back_x hk, fun z σ1 h1 => ?_⟩
  obtain ⟨a, rfl⟩ := h1
  refine ⟨_, m_back hz, fun z' σ2 h2 => ?_⟩
  rcases h2 with ⟨_, b, rfl⟩ | ⟨x, _⟩ | ⟨x, _⟩
  · exact ⟨by rw [a, b], hi⟩
  · omega
  · omega
set_option maxHeartbeats 4000000 in
set_option maxRecDepth 100000 in
theorem p_keep_x {σ : Sto} {k : Int} (h : INV σ) (hk : k < 0 ∨ 2 ≤ k) : Pair yX6_keep cX6_keep 3 3 yX7_keep cX7_keep 4 1 [mI k] σ := by
  have hi := h
  obtain ⟨D, S, hC, hK, hM⟩ := h
  have hz : ∀ j, 0 ≤ j → j < 2 → σ 77 j = 0 ∨ σ 77 j = 1 := fun j j0 j1 => by
    have f := hM.2.2.2.2.2.1
    have g := hM.2.2.2.2.2.2.1
    have := hK.1
    have := hK.2
    rcases (show j = 0 ∨ j = 1 by omega) with rfl | rfl
    · rw [f]; omega
    · rw [g]; omega
  refine ⟨_, c_keep_x hk, fun z σ1 h1 => ?_⟩
  obtain ⟨a, rfl⟩ := h1
  refine ⟨_, m_keep hz, fun z' σ2 h2 => ?_⟩
  rcases h2 with ⟨_, b, rfl⟩ | ⟨x, _⟩
  · exact ⟨by rw [a, b], hi⟩
  · omega
set_option maxHeartbeats 4000000 in
set_option maxRecDepth 100000 in
theorem p_keep_0 {σ : Sto} {k : Int} (h : INV σ) (hk : k = 0) : Pair yX6_keep cX6_keep 3 3 yX7_keep cX7_keep 4 1 [mI k] σ := by
  obtain ⟨D, S, hC, hK, hM⟩ := h
  have hf := hM.2.2.2.2.2.1
  have hg := hM.2.2.2.2.2.2.1
  have hK1 := hK.1
  have hK2 := hK.2
  have hKf : 0 ≤ σ 0 14 ∧ σ 0 14 ≤ 1 := hK.1
  refine ⟨_, c_keep_0 hC hKf hk, fun z σ1 h1 => ?_⟩
  obtain ⟨a, a1, hC1, sm, o⟩ := h1
  have q1 : ∀ r, r ∉ [26, 27, 28, 29, 30, 31] → r ≠ 0 → σ1 r = σ r := fun r h1 h2 => funext (fun j => o r j h1 (by omega))
  have q0 : ∀ j, j ≠ 14 → σ1 0 j = σ 0 j := fun j hj => o 0 j (by decide) (by omega)
  have hz : ∀ j, 0 ≤ j → j < 2 → σ1 77 j = 0 ∨ σ1 77 j = 1 := fun j j0 j1 => by
    rw [q1 77 (by decide) (by decide)]
    rcases (show j = 0 ∨ j = 1 by omega) with rfl | rfl
    · rw [hf]; omega
    · rw [hg]; omega
  refine ⟨_, m_keep hz, fun z' σ2 h2 => ?_⟩
  subst hk
  rcases h2 with ⟨x, _⟩ | ⟨_, b, fr, u1, u2, u3, u4⟩
  · omega
  have q2 : ∀ r, r ≠ 76 → r ≠ 77 → σ2 r = σ1 r := fun r r1 r2 => fr r (fun h => by simp only [List.mem_cons, List.not_mem_nil, or_false] at h; omega)
  have q : ∀ r, r ≠ 76 → r ≠ 77 → r ∉ [26, 27, 28, 29, 30, 31] → r ≠ 0 → σ2 r = σ r := fun r r1 r2 r3 r4 => (q2 r r1 r2).trans (q1 r r3 r4)
  have e0 : σ2 0 = σ1 0 := q2 0 (by decide) (by decide)
  have d1 : DI σ2 26 27 28 29 30 31 = DI σ1 26 27 28 29 30 31 := by funext k i; simp only [DI, q2 26 (by decide) (by decide), q2 27 (by decide) (by decide), q2 28 (by decide) (by decide), q2 29 (by decide) (by decide), q2 30 (by decide) (by decide), q2 31 (by decide) (by decide)]
  have d2 : DI σ2 32 33 34 35 36 37 = DI σ 32 33 34 35 36 37 := by funext k i; simp only [DI, q 32 (by decide) (by decide) (by decide) (by decide), q 33 (by decide) (by decide) (by decide) (by decide), q 34 (by decide) (by decide) (by decide) (by decide), q 35 (by decide) (by decide) (by decide) (by decide), q 36 (by decide) (by decide) (by decide) (by decide), q 37 (by decide) (by decide) (by decide) (by decide)]
  have hR : RM σ2 D S := hM.1.hi (q 72 (by decide) (by decide) (by decide) (by decide)) (q 74 (by decide) (by decide) (by decide) (by decide)) (by rw [q 71 (by decide) (by decide) (by decide) (by decide)])
  obtain ⟨b0, b9, d0, x0, -, -, i0, j0⟩ := hM.2
  have hA : σ2 77 0 = σ2 0 14 := by rw [u1, e0, a1]
  have hB : σ2 77 1 = σ2 0 15 := by rw [u2 1 (by decide), e0, q0 15 (by decide), q1 77 (by decide) (by decide)]; first | exact hg | exact hf
  have hI : ¬ σ2 0 14 = 0 → PR (fun c => σ2 76 (c)) (DI σ2 26 27 28 29 30 31) := fun _ => by
    rw [d1]
    refine PR.same (PR.cp hM.1.1 hC.2.2.1 (fun x x0 x1 => ?_)) hC.2.2.1 sm
    have := u3 x x0 x1
    rw [q1 72 (by decide) (by decide)] at this
    rw [← this]
    congr 1
    all_goals omega
  have hJ : ¬ σ2 0 15 = 0 → PR (fun c => σ2 76 (591+c)) (DI σ2 32 33 34 35 36 37) := fun hn => by
    rw [e0, q0 15 (by decide)] at hn
    rw [d2]
    refine PR.cp (j0 hn) (hC.2.2.2.2.2.2.2.2.2 hn).1 (fun x x0 x1 => ?_)
    show σ2 76 _ = σ 76 _
    rw [u4 _ (by omega), q1 76 (by decide) (by decide)]
  refine ⟨by rw [a, b, q1 77 (by decide) (by decide)]; first | exact hf | exact hg, D, S, hC1.low (fun r hr => q2 r (by omega) (by omega)), ?_, hR, b0.hi (q 79 (by decide) (by decide) (by decide) (by decide)) (q 80 (by decide) (by decide) (by decide) (by decide)), ?_, ?_, ?_, hA, hB, hI, hJ⟩
  · unfold KI
    rw [e0, a1, q0 15 (by decide)]
    all_goals omega
  · rw [q 71 (by decide) (by decide) (by decide) (by decide), e0, q0 1 (by decide)]; exact b9
  · rw [q 78 (by decide) (by decide) (by decide) (by decide), q 1 (by decide) (by decide) (by decide) (by decide), e0, q0 1 (by decide)]; exact d0
  · rw [q 71 (by decide) (by decide) (by decide) (by decide), q 38 (by decide) (by decide) (by decide) (by decide)]; exact x0
set_option maxHeartbeats 4000000 in
set_option maxRecDepth 100000 in
theorem p_back_0 {σ : Sto} {k : Int} (h : INV σ) (hk : k = 0) : Pair yX6_back cX6_back 2 3 yX7_back cX7_back 3 1 [mI k] σ := by
  have hi := h
  obtain ⟨D, S, hC, hK, hM⟩ := h
  have hf := hM.2.2.2.2.2.1
  have hg := hM.2.2.2.2.2.2.1
  have hK1 := hK.1
  have hK2 := hK.2
  have hKf : 0 ≤ σ 0 14 ∧ σ 0 14 ≤ 1 := hK.1
  have hz : ∀ j, 0 ≤ j → j < 2 → σ 77 j = 0 ∨ σ 77 j = 1 := fun j j0 j1 => by
    rcases (show j = 0 ∨ j = 1 by omega) with rfl | rfl
    · rw [hf]; omega
    · rw [hg]; omega
  have e77 : σ 77 0 = σ 0 14 := by first | exact hf | exact hg
  refine ⟨_, c_back_0 hC hKf hk, fun z σ1 h1 => ?_⟩
  subst hk
  rcases h1 with ⟨a0, a, rfl⟩ | ⟨a0, D', a, hC1, sm, kp⟩
  · refine ⟨_, m_back hz, fun z' σ2 h2 => ?_⟩
    rcases h2 with ⟨x, _⟩ | ⟨_, _, b, rfl⟩ | ⟨_, x, _⟩
    · omega
    · exact ⟨by rw [a, b], hi⟩
    · omega
  · have q77 : σ1 77 = σ 77 := kp.out (by decide) (by omega) (by decide)
    have q76 : σ1 76 = σ 76 := kp.out (by decide) (by omega) (by decide)
    refine ⟨_, m_back (by rw [q77]; exact hz), fun z' σ2 h2 => ?_⟩
    rcases h2 with ⟨x, _⟩ | ⟨_, x, _⟩ | ⟨_, _, b, fr, u⟩
    · omega
    · rw [q77] at x; omega
    have hn : ¬ σ 0 14 = 0 := by omega
    have hP := hM.2.2.2.2.2.2.2.1 hn
    have ho := (hC.2.2.2.2.2.2.2.2.1 hn).1
    obtain ⟨f1, f2⟩ := f72 fr (by decide)
    have k2 := (hM.1.kpc kp)
    refine ⟨?_, INV.chg hC1 hK hM.2 kp f1 f2 ⟨?_, ?_, ?_, hC1.2.2.1, hC1.2.2.2.1⟩⟩
    · rw [b, q76, a, sm.1]
      have := hP.1
      exact this
    · refine PR.same (PR.cp hP ho (fun x x0 x1 => ?_)) ho sm
      rw [u x x0 x1, q76]
      show σ 76 _ = σ 76 _
      congr 1
      all_goals omega
    · rw [fr 74 (by decide)]; exact k2.2.1
    · rw [fr 71 (by decide)]; exact k2.2.2.1

set_option maxHeartbeats 4000000 in
set_option maxRecDepth 100000 in
theorem p_keep_1 {σ : Sto} {k : Int} (h : INV σ) (hk : k = 1) : Pair yX6_keep cX6_keep 3 3 yX7_keep cX7_keep 4 1 [mI k] σ := by
  obtain ⟨D, S, hC, hK, hM⟩ := h
  have hf := hM.2.2.2.2.2.1
  have hg := hM.2.2.2.2.2.2.1
  have hK1 := hK.1
  have hK2 := hK.2
  have hKf : 0 ≤ σ 0 15 ∧ σ 0 15 ≤ 1 := hK.2
  refine ⟨_, c_keep_1 hC hKf hk, fun z σ1 h1 => ?_⟩
  obtain ⟨a, a1, hC1, sm, o⟩ := h1
  have q1 : ∀ r, r ∉ [32, 33, 34, 35, 36, 37] → r ≠ 0 → σ1 r = σ r := fun r h1 h2 => funext (fun j => o r j h1 (by omega))
  have q0 : ∀ j, j ≠ 15 → σ1 0 j = σ 0 j := fun j hj => o 0 j (by decide) (by omega)
  have hz : ∀ j, 0 ≤ j → j < 2 → σ1 77 j = 0 ∨ σ1 77 j = 1 := fun j j0 j1 => by
    rw [q1 77 (by decide) (by decide)]
    rcases (show j = 0 ∨ j = 1 by omega) with rfl | rfl
    · rw [hf]; omega
    · rw [hg]; omega
  refine ⟨_, m_keep hz, fun z' σ2 h2 => ?_⟩
  subst hk
  rcases h2 with ⟨x, _⟩ | ⟨_, b, fr, u1, u2, u3, u4⟩
  · omega
  have q2 : ∀ r, r ≠ 76 → r ≠ 77 → σ2 r = σ1 r := fun r r1 r2 => fr r (fun h => by simp only [List.mem_cons, List.not_mem_nil, or_false] at h; omega)
  have q : ∀ r, r ≠ 76 → r ≠ 77 → r ∉ [32, 33, 34, 35, 36, 37] → r ≠ 0 → σ2 r = σ r := fun r r1 r2 r3 r4 => (q2 r r1 r2).trans (q1 r r3 r4)
  have e0 : σ2 0 = σ1 0 := q2 0 (by decide) (by decide)
  have d1 : DI σ2 32 33 34 35 36 37 = DI σ1 32 33 34 35 36 37 := by funext k i; simp only [DI, q2 32 (by decide) (by decide), q2 33 (by decide) (by decide), q2 34 (by decide) (by decide), q2 35 (by decide) (by decide), q2 36 (by decide) (by decide), q2 37 (by decide) (by decide)]
  have d2 : DI σ2 26 27 28 29 30 31 = DI σ 26 27 28 29 30 31 := by funext k i; simp only [DI, q 26 (by decide) (by decide) (by decide) (by decide), q 27 (by decide) (by decide) (by decide) (by decide), q 28 (by decide) (by decide) (by decide) (by decide), q 29 (by decide) (by decide) (by decide) (by decide), q 30 (by decide) (by decide) (by decide) (by decide), q 31 (by decide) (by decide) (by decide) (by decide)]
  have hR : RM σ2 D S := hM.1.hi (q 72 (by decide) (by decide) (by decide) (by decide)) (q 74 (by decide) (by decide) (by decide) (by decide)) (by rw [q 71 (by decide) (by decide) (by decide) (by decide)])
  obtain ⟨b0, b9, d0, x0, -, -, i0, j0⟩ := hM.2
  have hA : σ2 77 1 = σ2 0 15 := by rw [u1, e0, a1]
  have hB : σ2 77 0 = σ2 0 14 := by rw [u2 0 (by decide), e0, q0 14 (by decide), q1 77 (by decide) (by decide)]; first | exact hg | exact hf
  have hI : ¬ σ2 0 15 = 0 → PR (fun c => σ2 76 (591+c)) (DI σ2 32 33 34 35 36 37) := fun _ => by
    rw [d1]
    refine PR.same (PR.cp hM.1.1 hC.2.2.1 (fun x x0 x1 => ?_)) hC.2.2.1 sm
    have := u3 x x0 x1
    rw [q1 72 (by decide) (by decide)] at this
    rw [← this]
    congr 1
    all_goals omega
  have hJ : ¬ σ2 0 14 = 0 → PR (fun c => σ2 76 (c)) (DI σ2 26 27 28 29 30 31) := fun hn => by
    rw [e0, q0 14 (by decide)] at hn
    rw [d2]
    refine PR.cp (i0 hn) (hC.2.2.2.2.2.2.2.2.1 hn).1 (fun x x0 x1 => ?_)
    show σ2 76 _ = σ 76 _
    rw [u4 _ (by omega), q1 76 (by decide) (by decide)]
  refine ⟨by rw [a, b, q1 77 (by decide) (by decide)]; first | exact hf | exact hg, D, S, hC1.low (fun r hr => q2 r (by omega) (by omega)), ?_, hR, b0.hi (q 79 (by decide) (by decide) (by decide) (by decide)) (q 80 (by decide) (by decide) (by decide) (by decide)), ?_, ?_, ?_, hB, hA, hJ, hI⟩
  · unfold KI
    rw [e0, a1, q0 14 (by decide)]
    all_goals omega
  · rw [q 71 (by decide) (by decide) (by decide) (by decide), e0, q0 1 (by decide)]; exact b9
  · rw [q 78 (by decide) (by decide) (by decide) (by decide), q 1 (by decide) (by decide) (by decide) (by decide), e0, q0 1 (by decide)]; exact d0
  · rw [q 71 (by decide) (by decide) (by decide) (by decide), q 38 (by decide) (by decide) (by decide) (by decide)]; exact x0
set_option maxHeartbeats 4000000 in
set_option maxRecDepth 100000 in
theorem p_back_1 {σ : Sto} {k : Int} (h : INV σ) (hk : k = 1) : Pair yX6_back cX6_back 2 3 yX7_back cX7_back 3 1 [mI k] σ := by
  have hi := h
  obtain ⟨D, S, hC, hK, hM⟩ := h
  have hf := hM.2.2.2.2.2.1
  have hg := hM.2.2.2.2.2.2.1
  have hK1 := hK.1
  have hK2 := hK.2
  have hKf : 0 ≤ σ 0 15 ∧ σ 0 15 ≤ 1 := hK.2
  have hz : ∀ j, 0 ≤ j → j < 2 → σ 77 j = 0 ∨ σ 77 j = 1 := fun j j0 j1 => by
    rcases (show j = 0 ∨ j = 1 by omega) with rfl | rfl
    · rw [hf]; omega
    · rw [hg]; omega
  have e77 : σ 77 1 = σ 0 15 := by first | exact hf | exact hg
  refine ⟨_, c_back_1 hC hKf hk, fun z σ1 h1 => ?_⟩
  subst hk
  rcases h1 with ⟨a0, a, rfl⟩ | ⟨a0, D', a, hC1, sm, kp⟩
  · refine ⟨_, m_back hz, fun z' σ2 h2 => ?_⟩
    rcases h2 with ⟨x, _⟩ | ⟨_, _, b, rfl⟩ | ⟨_, x, _⟩
    · omega
    · exact ⟨by rw [a, b], hi⟩
    · omega
  · have q77 : σ1 77 = σ 77 := kp.out (by decide) (by omega) (by decide)
    have q76 : σ1 76 = σ 76 := kp.out (by decide) (by omega) (by decide)
    refine ⟨_, m_back (by rw [q77]; exact hz), fun z' σ2 h2 => ?_⟩
    rcases h2 with ⟨x, _⟩ | ⟨_, x, _⟩ | ⟨_, _, b, fr, u⟩
    · omega
    · rw [q77] at x; omega
    have hn : ¬ σ 0 15 = 0 := by omega
    have hP := hM.2.2.2.2.2.2.2.2 hn
    have ho := (hC.2.2.2.2.2.2.2.2.2 hn).1
    obtain ⟨f1, f2⟩ := f72 fr (by decide)
    have k2 := (hM.1.kpc kp)
    refine ⟨?_, INV.chg hC1 hK hM.2 kp f1 f2 ⟨?_, ?_, ?_, hC1.2.2.1, hC1.2.2.2.1⟩⟩
    · rw [b, q76, a, sm.1]
      have := hP.1
      exact this
    · refine PR.same (PR.cp hP ho (fun x x0 x1 => ?_)) ho sm
      rw [u x x0 x1, q76]
      show σ 76 _ = σ 76 _
      congr 1
      all_goals omega
    · rw [fr 74 (by decide)]; exact k2.2.1
    · rw [fr 71 (by decide)]; exact k2.2.2.1

set_option maxHeartbeats 4000000 in
set_option maxRecDepth 100000 in
theorem p_keep {σ : Sto} {k : Int} (h : INV σ) : Pair yX6_keep cX6_keep 3 3 yX7_keep cX7_keep 4 1 [mI k] σ := by
  by_cases h0 : k = 0
  · exact p_keep_0 h h0
  by_cases h1 : k = 1
  · exact p_keep_1 h h1
  exact p_keep_x h (by omega)
set_option maxHeartbeats 4000000 in
set_option maxRecDepth 100000 in
theorem p_back {σ : Sto} {k : Int} (h : INV σ) : Pair yX6_back cX6_back 2 3 yX7_back cX7_back 3 1 [mI k] σ := by
  by_cases h0 : k = 0
  · exact p_back_0 h h0
  by_cases h1 : k = 1
  · exact p_back_1 h h1
  exact p_back_x h (by omega)
