set_option maxHeartbeats 4000000 in
set_option maxRecDepth 100000 in
theorem p_text {σ : Sto} (h : INV σ) : Pair yX6_text cX6_text 2 10 yX7_text cX7_text 3 6 [] σ := by
  obtain ⟨D, S, hC, hK, hM⟩ := h
  obtain ⟨b0, b9, d0, x0, hf, hg, i0, j0⟩ := hM.2
  refine ⟨_, c_text hC, fun z σ1 h1 => ?_⟩
  obtain ⟨hi, s0, hs, h1⟩ := h1
  have hR1 : RM σ1 D S := hM.1.hi (hi 72 (by decide)) (hi 74 (by decide)) (by rw [hi 71 (by decide)])
  refine ⟨_, m_text (t := σ 1) (n := σ 0 1) (s0 := s0) hR1 (by rw [hi 71 (by decide)]; exact b9) hC.2.2.2.2.2.1 (by rw [hi 78 (by decide)]; exact d0) hC.2.2.2.2.2.2.1 (b0.hi (hi 79 (by decide)) (hi 80 (by decide))) hs rfl, fun z' σ2 h2 => ?_⟩
  obtain ⟨fr, u9, h2⟩ := h2
  generalize pAll (σ 1) (σ 0 1) 401 0 s0 = R at h1 h2
  have q : ∀ r, r ∉ [71, 72, 73, 74, 75, 77, 81] → σ2 r = σ1 r := fr
  have hlow : ∀ r, r < 71 → σ2 r = σ1 r := fun r hr => fr r (fun h => by simp only [List.mem_cons, List.not_mem_nil, or_false] at h; omega)
  have hN : NT σ2 := (b0.hi (hi 79 (by decide)) (hi 80 (by decide))).hi (q 79 (by decide)) (q 80 (by decide))
  rcases h1 with ⟨n1, a, a10, a01, hC1, e0, ei⟩ | ⟨n1, a, a10, a01, a14, a15, D', S', hC1, sm, sms⟩
  · rcases h2 with ⟨_, b, c10, hR, u77⟩ | ⟨n2, _⟩
    · have dI : ∀ b c1 c2 c3 c4 c5 : Nat, (26 ≤ b ∧ b < 38) → (26 ≤ c1 ∧ c1 < 38) → (26 ≤ c2 ∧ c2 < 38) → (26 ≤ c3 ∧ c3 < 38) → (26 ≤ c4 ∧ c4 < 38) → (26 ≤ c5 ∧ c5 < 38) → DI σ2 b c1 c2 c3 c4 c5 = DI σ b c1 c2 c3 c4 c5 := by
        intro b c1 c2 c3 c4 c5 h0 h1 h2 h3 h4 h5
        have w : ∀ r, 26 ≤ r ∧ r < 38 → σ2 r = σ r := fun r hr => (hlow r (by omega)).trans (ei r hr.1 hr.2)
        funext k i
        simp only [DI, w b h0, w c1 h1, w c2 h2, w c3 h3, w c4 h4, w c5 h5]
      have w0 : ∀ k, k ≠ 1 → σ2 0 k = σ 0 k := fun k hk => by rw [hlow 0 (by decide)]; exact e0 k hk
      have w76 : σ2 76 = σ 76 := (q 76 (by decide)).trans (hi 76 (by decide))
      refine ⟨by rw [a, b], D, S, hC1.low hlow, hK.low (fun k hk => w0 k (by omega)), hR, hN, ?_, fun k k0 k1 => ?_, ?_, ?_, ?_, ?_, ?_⟩
      · rw [u9, hlow 0 (by decide), a01]
      · rw [hlow 0 (by decide), a01] at k1; omega
      · rw [c10, hlow 38 (by decide), a10]
      · rw [u77, hi 77 (by decide), w0 14 (by decide)]; exact hf
      · rw [u77, hi 77 (by decide), w0 15 (by decide)]; exact hg
      · rw [w0 14 (by decide), w76, dI 26 27 28 29 30 31 (by omega) (by omega) (by omega) (by omega) (by omega) (by omega)]; exact i0
      · rw [w0 15 (by decide), w76, dI 32 33 34 35 36 37 (by omega) (by omega) (by omega) (by omega) (by omega) (by omega)]; exact j0
    · exact absurd n2 n1
  · rcases h2 with ⟨n2, _⟩ | ⟨_, b, c10, hP, hS, u3, v0, v1⟩
    · exact absurd n1 n2
    · have oD := hC1.2.2.1
      have oS := hC1.2.2.2.1
      have sm' : Same R.1.D D' := ⟨sm.1.symm, fun p p0 p1 => ⟨(sm.2.1 p p0 p1).1.symm, (sm.2.1 p p0 p1).2.1.symm, (sm.2.1 p p0 p1).2.2.symm⟩, fun w w0 w1 => (sm.2.2.1 w w0 w1).symm, fun s s0 s1 => (sm.2.2.2 s s0 s1).symm⟩
      have sms' : SameS R.1.S S' := ⟨sms.1.symm, fun p p0 p1 => ⟨(sms.2.1 p p0 p1).1.symm, (sms.2.1 p p0 p1).2.1.symm, (sms.2.1 p p0 p1).2.2.symm⟩, fun x x0 x1 => ⟨(sms.2.2 x x0 x1).1.symm, (sms.2.2 x x0 x1).2.symm⟩⟩
      have z0 := hlow 0 (by decide)
      refine ⟨by rw [a, b], D', S', hC1.low hlow, ?_, ⟨PR.same hP (sm'.ok oD).1 sm, SR.same hS (sms'.ok oS) sms, by rw [u3, sms.1], oD, oS⟩, hN, ?_, fun k k0 k1 => ?_, ?_, ?_, ?_, fun h => ?_, fun h => ?_⟩
      · unfold KI
        rw [z0, a14, a15]; omega
      · rw [u9, z0, a01]
      · rw [z0, a01] at k1; omega
      · rw [c10, hlow 38 (by decide), a10]
      · rw [v0, z0, a14]
      · rw [v1, z0, a15]
      · rw [z0, a14] at h; exact absurd rfl h
      · rw [z0, a15] at h; exact absurd rfl h
