def MJ (σ : Sto) : Prop := NT σ ∧ σ 71 9 = σ 0 1 ∧ (∀ k, 0 ≤ k → k < σ 0 1 → σ 78 k = σ 1 k) ∧ σ 71 10 = σ 38 10 ∧ σ 77 0 = σ 0 14 ∧ σ 77 1 = σ 0 15 ∧ (¬ σ 0 14 = 0 → PR (fun c => σ 76 c) (DI σ 26 27 28 29 30 31)) ∧ (¬ σ 0 15 = 0 → PR (fun c => σ 76 (591 + c)) (DI σ 32 33 34 35 36 37))
set_option maxHeartbeats 4000000 in
set_option maxRecDepth 100000 in
theorem MJ.cp {σ σ' : Sto} (h : MJ σ) (q : ∀ r, (r = 1 ∨ (26 ≤ r ∧ r ≤ 38) ∨ (76 ≤ r ∧ r ≤ 80)) → σ' r = σ r) (q0 : ∀ k, k ≠ 11 → σ' 0 k = σ 0 k) (q1 : σ' 71 9 = σ 71 9 ∧ σ' 71 10 = σ 71 10) : MJ σ' := by
  obtain ⟨b, c, d, e, f, g, i, j⟩ := h
  have d1 : DI σ' 26 27 28 29 30 31 = DI σ 26 27 28 29 30 31 := by funext k i; simp only [DI, q 26 (by omega), q 27 (by omega), q 28 (by omega), q 29 (by omega), q 30 (by omega), q 31 (by omega)]
  have d2 : DI σ' 32 33 34 35 36 37 = DI σ 32 33 34 35 36 37 := by funext k i; simp only [DI, q 32 (by omega), q 33 (by omega), q 34 (by omega), q 35 (by omega), q 36 (by omega), q 37 (by omega)]
  refine ⟨b.hi (q 79 (by omega)) (q 80 (by omega)), ?_, ?_, ?_, ?_, ?_, ?_, ?_⟩
  · rw [q1.1, q0 1 (by omega)]; exact c
  · rw [q 78 (by omega), q 1 (by omega), q0 1 (by omega)]; exact d
  · rw [q1.2, q 38 (by omega)]; exact e
  · rw [q 77 (by omega), q0 14 (by omega)]; exact f
  · rw [q 77 (by omega), q0 15 (by omega)]; exact g
  · rw [q 76 (by omega), q0 14 (by omega), d1]; exact i
  · rw [q 76 (by omega), q0 15 (by omega), d2]; exact j
set_option maxHeartbeats 4000000 in
set_option maxRecDepth 100000 in
theorem Kp.out {L : List Nat} {σ σ1 : Sto} (k : Kp L σ σ1) {r : Nat} (h : r ∉ L) (h1 : ¬ (38 < r ∧ r < 71)) (h0 : r ≠ 0) : σ1 r = σ r := funext (fun x => k r x h h1 (by omega))
set_option maxHeartbeats 4000000 in
set_option maxRecDepth 100000 in
theorem RM.kpc {σ σ1 D S : Sto} (h : RM σ D S) (k : Kp [14, 15, 16, 17, 18, 19] σ σ1) : RM σ1 D S := h.hi (k.out (by decide) (by omega) (by decide)) (k.out (by decide) (by omega) (by decide)) (by rw [k.out (r := 71) (by decide) (by omega) (by decide)])
set_option maxHeartbeats 4000000 in
set_option maxRecDepth 100000 in
theorem INV.chg {σ σ1 σ2 D' S : Sto} (hC : CI σ1 D' S) (hK : KI σ) (hM : MJ σ) (k : Kp [14, 15, 16, 17, 18, 19] σ σ1) (f : ∀ r, r < 71 ∨ (76 ≤ r ∧ r ≤ 80) → σ2 r = σ1 r) (f1 : σ2 71 9 = σ1 71 9 ∧ σ2 71 10 = σ1 71 10) (hR : RM σ2 D' S) : INV σ2 := by
  have hn : ∀ r, (r = 1 ∨ (26 ≤ r ∧ r ≤ 38) ∨ (76 ≤ r ∧ r ≤ 80)) → r ∉ [14, 15, 16, 17, 18, 19] := fun r hr h => by simp only [List.mem_cons, List.not_mem_nil, or_false] at h; omega
  have e71 : σ1 71 = σ 71 := k.out (by decide) (by omega) (by decide)
  refine ⟨D', S, hC.low (fun r hr => f r (Or.inl hr)), hK.low (fun x hx => ?_), hR, hM.cp (fun r hr => ?_) (fun x hx => ?_) ?_⟩
  · rw [f 0 (by omega)]; exact k 0 x (by decide) (by omega) (by omega)
  · rw [f r (by omega)]; exact k.out (hn r hr) (by omega) (by omega)
  · rw [f 0 (by omega)]; exact k 0 x (by decide) (by omega) (by omega)
  · rw [f1.1, f1.2, e71]; exact ⟨rfl, rfl⟩
set_option maxHeartbeats 4000000 in
set_option maxRecDepth 100000 in
theorem f72 {σ1 σ2 : Sto} {L : List Nat} (f : Frm L σ1 σ2) (hL : ∀ r ∈ L, 71 < r ∧ (r < 76 ∨ 80 < r)) : (∀ r, r < 71 ∨ (76 ≤ r ∧ r ≤ 80) → σ2 r = σ1 r) ∧ (σ2 71 9 = σ1 71 9 ∧ σ2 71 10 = σ1 71 10) := by
  have h71 : σ2 71 = σ1 71 := f 71 (fun h => by have := hL 71 h; omega)
  exact ⟨fun r hr => f r (fun h => by have := hL r h; omega), by rw [h71]; exact ⟨rfl, rfl⟩⟩
set_option maxHeartbeats 4000000 in
set_option maxRecDepth 100000 in
theorem p_set {σ : Sto} {w v : Int} (h : INV σ) : Pair yX6_set cX6_set 5 0 yX7_set cX7_set 4 1 [mI w, mI v] σ := by
  have hi := h
  obtain ⟨D, S, hC, hK, hM⟩ := h
  refine ⟨_, c_set hC, fun z σ1 h1 => ?_⟩
  rcases h1 with ⟨a, b, rfl⟩ | ⟨a, b, hC1, k⟩
  · refine ⟨_, m_set hM.1, fun z' σ2 h2 => ?_⟩
    rcases h2 with ⟨a', b', rfl⟩ | ⟨a', _⟩
    · exact ⟨by rw [b, b'], hi⟩
    · exact absurd a' a
  · refine ⟨_, m_set (hM.1.kpc k), fun z' σ2 h2 => ?_⟩
    rcases h2 with ⟨a', _⟩ | ⟨a', b', hR, f⟩
    · exact absurd a a'
    · obtain ⟨f1, f2⟩ := f72 f (by decide)
      exact ⟨by rw [b, b'], INV.chg hC1 hK hM.2 k f1 f2 hR⟩
set_option maxHeartbeats 4000000 in
set_option maxRecDepth 100000 in
theorem p_drop {σ : Sto} {p g n : Int} (h : INV σ) : Pair yX6_drop cX6_drop 6 1 yX7_drop cX7_drop 5 2 [mI p, mI g, mI n] σ := by
  have hi := h
  obtain ⟨D, S, hC, hK, hM⟩ := h
  refine ⟨_, c_drop hC, fun z σ1 h1 => ?_⟩
  rcases h1 with ⟨a, b, rfl⟩ | ⟨a, b, hC1, k⟩
  · refine ⟨_, m_drop hM.1, fun z' σ2 h2 => ?_⟩
    rcases h2 with ⟨a', b', rfl⟩ | ⟨a', _⟩
    · exact ⟨by rw [b, b'], hi⟩
    · exact absurd a' a
  · refine ⟨_, m_drop (hM.1.kpc k), fun z' σ2 h2 => ?_⟩
    rcases h2 with ⟨a', _⟩ | ⟨a', b', hR, f⟩
    · exact absurd a a'
    · obtain ⟨f1, f2⟩ := f72 f (by decide)
      exact ⟨by rw [b, b'], INV.chg hC1 hK hM.2 k f1 f2 hR⟩
set_option maxHeartbeats 4000000 in
set_option maxRecDepth 100000 in
theorem p_fit {σ : Sto} (h : INV σ) : Pair yX6_fit cX6_fit 4 6 yX7_fit cX7_fit 4 10 [] σ := by
  obtain ⟨D, S, hC, hK, hM⟩ := h
  refine ⟨_, c_fit hC, fun z σ1 h1 => ?_⟩
  obtain ⟨b, hC1, k⟩ := h1
  refine ⟨_, m_fit (hM.1.kpc k), fun z' σ2 h2 => ?_⟩
  obtain ⟨b', hR, f, f1⟩ := h2
  exact ⟨b'.trans b.symm, INV.chg hC1 hK hM.2 k (fun r hr => f r (fun h => by simp only [List.mem_cons, List.not_mem_nil, or_false] at h; omega)) ⟨f1 9 (by decide), f1 10 (by decide)⟩ hR⟩
set_option maxHeartbeats 4000000 in
set_option maxRecDepth 100000 in
theorem p_cut {σ : Sto} {p i : Int} (h : INV σ) : Pair yX6_cut cX6_cut 3 2 yX7_cut cX7_cut 4 2 [mI p, mI i] σ := by
  have hi := h
  obtain ⟨D, S, hC, hK, hM⟩ := h
  refine ⟨_, c_cut hC, fun z σ1 h1 => ?_⟩
  rcases h1 with ⟨a, b, rfl⟩ | ⟨a, a2, b, rfl⟩ | ⟨a, a2, b, D', hp, hC1, k⟩
  · refine ⟨_, m_cut hM.1, fun z' σ2 h2 => ?_⟩
    rcases h2 with ⟨a', b', rfl⟩ | ⟨a', _⟩ | ⟨a', _⟩
    · exact ⟨by rw [b, b'], hi⟩
    · exact absurd a' a
    · exact absurd a' a
  · refine ⟨_, m_cut hM.1, fun z' σ2 h2 => ?_⟩
    rcases h2 with ⟨a', _⟩ | ⟨a', _, b', rfl⟩ | ⟨a', a3, _⟩
    · exact absurd a a'
    · exact ⟨by rw [b, b'], hi⟩
    · omega
  · refine ⟨_, m_cut (hM.1.kpc k), fun z' σ2 h2 => ?_⟩
    rcases h2 with ⟨a', _⟩ | ⟨a', a3, _⟩ | ⟨a', a3, b', hR, f⟩
    · exact absurd a a'
    · omega
    · obtain ⟨f1, f2⟩ := f72 f (by decide)
      exact ⟨by rw [b, b'], INV.chg hC1 hK hM.2 k f1 f2 (hR D' hp)⟩
set_option maxHeartbeats 4000000 in
set_option maxRecDepth 100000 in
theorem p_join {σ : Sto} {p : Int} (h : INV σ) : Pair yX6_join cX6_join 2 2 yX7_join cX7_join 3 2 [mI p] σ := by
  have hi := h
  obtain ⟨D, S, hC, hK, hM⟩ := h
  refine ⟨_, c_join hC, fun z σ1 h1 => ?_⟩
  rcases h1 with ⟨a, b, rfl⟩ | ⟨a, a2, b, rfl⟩ | ⟨a, b, D', hp, hC1, k⟩
  · refine ⟨_, m_join hM.1, fun z' σ2 h2 => ?_⟩
    rcases h2 with ⟨a', b', rfl⟩ | ⟨a', _⟩ | ⟨a', _⟩
    · exact ⟨by rw [b, b'], hi⟩
    · exact absurd a' a
    · exact absurd ⟨a'.1, by omega⟩ a
  · refine ⟨_, m_join hM.1, fun z' σ2 h2 => ?_⟩
    rcases h2 with ⟨a', _⟩ | ⟨a', _, b', rfl⟩ | ⟨a', _⟩
    · exact absurd a a'
    · exact ⟨by rw [b, b'], hi⟩
    · omega
  · refine ⟨_, m_join (hM.1.kpc k), fun z' σ2 h2 => ?_⟩
    rcases h2 with ⟨a', _⟩ | ⟨a', a3, _⟩ | ⟨a', b', hR, f⟩
    · exact absurd ⟨a.1, by omega⟩ a'
    · omega
    · obtain ⟨f1, f2⟩ := f72 f (by decide)
      exact ⟨by rw [b, b'], INV.chg hC1 hK hM.2 k f1 f2 (hR D' hp)⟩
set_option maxHeartbeats 4000000 in
set_option maxRecDepth 100000 in
theorem p_move {σ : Sto} {p i q k : Int} (h : INV σ) : Pair yX6_move cX6_move 5 2 yX7_move cX7_move 7 2 [mI p, mI i, mI q, mI k] σ := by
  have hi := h
  obtain ⟨D, S, hC, hK, hM⟩ := h
  refine ⟨_, c_move hC, fun z σ1 h1 => ?_⟩
  rcases h1 with ⟨a, b, rfl⟩ | ⟨a, a2, b, rfl⟩ | ⟨a, a2, D', hp, b, hC1, kp⟩
  · refine ⟨_, m_move hM.1, fun z' σ2 h2 => ?_⟩
    rcases h2 with ⟨a', b', rfl⟩ | ⟨a', _⟩ | ⟨a', _⟩
    · exact ⟨by rw [b, b'], hi⟩
    · exact absurd a' a
    · exact absurd a' a
  · refine ⟨_, m_move hM.1, fun z' σ2 h2 => ?_⟩
    rcases h2 with ⟨a', _⟩ | ⟨a', _, b', rfl⟩ | ⟨a', a3, _⟩
    · exact absurd a a'
    · exact ⟨by rw [b, b'], hi⟩
    · exact absurd a2 a3
  · refine ⟨_, m_move (hM.1.kpc kp), fun z' σ2 h2 => ?_⟩
    rcases h2 with ⟨a', _⟩ | ⟨a', a3, _⟩ | ⟨a', a3, hR⟩
    · exact absurd a a'
    · exact absurd a3 a2
    · obtain ⟨b', hR, f⟩ := hR D' hp
      obtain ⟨f1, f2⟩ := f72 f (by decide)
      exact ⟨by rw [b, b'], INV.chg hC1 hK hM.2 kp f1 f2 hR⟩
set_option maxHeartbeats 4000000 in
set_option maxRecDepth 100000 in
theorem p_fault {σ : Sto} (h : INV σ) : Pair yX6_fault cX6_fault 1 1 yX7_fault cX7_fault 1 0 [] σ := by
  have hi := h
  obtain ⟨D, S, hC, hK, hM⟩ := h
  refine ⟨_, c_fault, fun z σ1 h1 => ?_⟩
  obtain ⟨a, rfl⟩ := h1
  refine ⟨_, m_fault, fun z' σ2 h2 => ?_⟩
  obtain ⟨b, rfl⟩ := h2
  exact ⟨by rw [a, b]; exact hM.2.2.2.2.1, hi⟩
