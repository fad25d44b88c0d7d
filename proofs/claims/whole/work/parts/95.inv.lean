/-! BOTH SIDES TOGETHER: what holds between two steps of a script -/
set_option maxHeartbeats 4000000 in
set_option maxRecDepth 100000 in
theorem CI.low {σ σ' D S : Sto} (h : CI σ D S) (e : ∀ r, r < 71 → σ' r = σ r) : CI σ' D S := by
  have e0 := e 0 (by decide)
  have e1 := e 1 (by decide)
  have e2 := e 2 (by decide)
  have e3 := e 3 (by decide)
  have e4 := e 4 (by decide)
  have e5 := e 5 (by decide)
  have e6 := e 6 (by decide)
  have e7 := e 7 (by decide)
  have e14 := e 14 (by decide)
  have e15 := e 15 (by decide)
  have e16 := e 16 (by decide)
  have e17 := e 17 (by decide)
  have e18 := e 18 (by decide)
  have e19 := e 19 (by decide)
  have e26 := e 26 (by decide)
  have e27 := e 27 (by decide)
  have e28 := e 28 (by decide)
  have e29 := e 29 (by decide)
  have e30 := e 30 (by decide)
  have e31 := e 31 (by decide)
  have e32 := e 32 (by decide)
  have e33 := e 33 (by decide)
  have e34 := e 34 (by decide)
  have e35 := e 35 (by decide)
  have e36 := e 36 (by decide)
  have e37 := e 37 (by decide)
  have e49 := e 49 (by decide)
  have e50 := e 50 (by decide)
  have e51 := e 51 (by decide)
  have e52 := e 52 (by decide)
  have e53 := e 53 (by decide)
  have e54 := e 54 (by decide)
  have e55 := e 55 (by decide)
  have e56 := e 56 (by decide)
  have e57 := e 57 (by decide)
  have e58 := e 58 (by decide)
  have e59 := e 59 (by decide)
  clear e
  have d1 : DI σ' 26 27 28 29 30 31 = DI σ 26 27 28 29 30 31 := by funext k i; simp only [DI, e26, e27, e28, e29, e30, e31]
  have d2 : DI σ' 32 33 34 35 36 37 = DI σ 32 33 34 35 36 37 := by funext k i; simp only [DI, e32, e33, e34, e35, e36, e37]
  have d3 : DC σ' = DC σ := by funext k i; simp only [DC, e14, e15, e16, e17, e18, e19]
  have d4 : SC σ' = SC σ := by funext k i; simp only [SC, e2, e3, e4, e5, e6, e7]
  have d5 : Lay49 σ' D S = Lay49 σ D S := by simp only [Lay49, LayOK, RK, LPf, e49, e50, e51, e52, e53, e54, e55, e56, e57, e58, e59]
  unfold CI at h ⊢
  rw [d1, d2, d3, d4, d5, e0, e1, e14, e26, e32]
  exact h
set_option maxHeartbeats 4000000 in
set_option maxRecDepth 100000 in
theorem KI.low {σ σ' : Sto} (h : KI σ) (e : ∀ k, k = 14 ∨ k = 15 → σ' 0 k = σ 0 k) : KI σ' := by
  unfold KI at h ⊢
  rw [e 14 (Or.inl rfl), e 15 (Or.inr rfl)]; exact h
set_option maxHeartbeats 4000000 in
set_option maxRecDepth 100000 in
theorem RM.hi {σ σ' D S : Sto} (h : RM σ D S) (e2 : σ' 72 = σ 72) (e4 : σ' 74 = σ 74) (e1 : σ' 71 3 = σ 71 3) : RM σ' D S := by
  unfold RM at h ⊢
  rw [e2, e4, e1]; exact h
set_option maxHeartbeats 4000000 in
set_option maxRecDepth 100000 in
theorem NT.hi {σ σ' : Sto} (h : NT σ) (e9 : σ' 79 = σ 79) (e0 : σ' 80 = σ 80) : NT σ' := by
  unfold NT at h ⊢
  rw [e9, e0]; exact h
def MI (σ D S : Sto) : Prop := RM σ D S ∧ NT σ ∧ σ 71 9 = σ 0 1 ∧ (∀ k, 0 ≤ k → k < σ 0 1 → σ 78 k = σ 1 k) ∧ σ 71 10 = σ 38 10 ∧ σ 77 0 = σ 0 14 ∧ σ 77 1 = σ 0 15 ∧ (¬ σ 0 14 = 0 → PR (fun c => σ 76 c) (DI σ 26 27 28 29 30 31)) ∧ (¬ σ 0 15 = 0 → PR (fun c => σ 76 (591 + c)) (DI σ 32 33 34 35 36 37))
def INV (σ : Sto) : Prop := ∃ D S, CI σ D S ∧ KI σ ∧ MI σ D S
def Pair (y1 : MethodName) (c1 : ByteArray) (n1 d1 : Nat) (y2 : MethodName) (c2 : ByteArray) (n2 d2 : Nat) (as : List MV) (σ : Sto) : Prop :=
  ∃ Qc, CtI y1 c1 n1 (some .int) d1 (mR 0 :: as) σ Qc ∧ ∀ z σ1, Qc z σ1 → ∃ Qm, CtI y2 c2 n2 (some .int) d2 (mR 71 :: as) σ1 Qm ∧ ∀ z' σ2, Qm z' σ2 → z' = z ∧ INV σ2
-- the class's side has moved but what is seen has not
set_option maxHeartbeats 4000000 in
set_option maxRecDepth 100000 in
theorem MI.obs {σ σ' D S : Sto} (h : MI σ D S) (o : Obs σ σ') : MI σ' D S := by
  obtain ⟨a, b, c, d, e, f, g, i, j⟩ := h
  have q : ∀ r, (r < 39 ∨ 70 < r) → r ≠ 0 → σ' r = σ r := fun r hr h0 => funext (fun k => o r k (by omega) (by omega))
  have q0 : ∀ k, k ≠ 11 → σ' 0 k = σ 0 k := fun k hk => o 0 k (by omega) (by omega)
  have d1 : DI σ' 26 27 28 29 30 31 = DI σ 26 27 28 29 30 31 := by funext k i; simp only [DI, q 26 (by omega) (by omega), q 27 (by omega) (by omega), q 28 (by omega) (by omega), q 29 (by omega) (by omega), q 30 (by omega) (by omega), q 31 (by omega) (by omega)]
  have d2 : DI σ' 32 33 34 35 36 37 = DI σ 32 33 34 35 36 37 := by funext k i; simp only [DI, q 32 (by omega) (by omega), q 33 (by omega) (by omega), q 34 (by omega) (by omega), q 35 (by omega) (by omega), q 36 (by omega) (by omega), q 37 (by omega) (by omega)]
  refine ⟨a.hi (q 72 (by omega) (by omega)) (q 74 (by omega) (by omega)) (by rw [q 71 (by omega) (by omega)]), b.hi (q 79 (by omega) (by omega)) (q 80 (by omega) (by omega)), ?_, ?_, ?_, ?_, ?_, ?_, ?_⟩
  · rw [q 71 (by omega) (by omega), q0 1 (by omega)]; exact c
  · rw [q 78 (by omega) (by omega), q 1 (by omega) (by omega), q0 1 (by omega)]; exact d
  · rw [q 71 (by omega) (by omega), q 38 (by omega) (by omega)]; exact e
  · rw [q 77 (by omega) (by omega), q0 14 (by omega)]; exact f
  · rw [q 77 (by omega) (by omega), q0 15 (by omega)]; exact g
  · rw [q 76 (by omega) (by omega), q0 14 (by omega), d1]; exact i
  · rw [q 76 (by omega) (by omega), q0 15 (by omega), d2]; exact j
-- the model has looked, not changed
set_option maxHeartbeats 4000000 in
set_option maxRecDepth 100000 in
theorem MI.mo {σ σ' D S : Sto} (h : MI σ D S) (o : MO σ σ') : MI σ' D S := by
  obtain ⟨a, b, c, d, e, f, g, i, j⟩ := h
  have q : ∀ r, r ∉ [71, 82, 83, 84, 85, 86, 87, 88, 89, 90] → σ' r = σ r := o.1
  have q0 : ∀ k, k ≠ 25 → σ' 71 k = σ 71 k := o.2
  have d1 : DI σ' 26 27 28 29 30 31 = DI σ 26 27 28 29 30 31 := by funext k i; simp only [DI, q 26 (by decide), q 27 (by decide), q 28 (by decide), q 29 (by decide), q 30 (by decide), q 31 (by decide)]
  have d2 : DI σ' 32 33 34 35 36 37 = DI σ 32 33 34 35 36 37 := by funext k i; simp only [DI, q 32 (by decide), q 33 (by decide), q 34 (by decide), q 35 (by decide), q 36 (by decide), q 37 (by decide)]
  refine ⟨a.hi (q 72 (by decide)) (q 74 (by decide)) (q0 3 (by omega)), b.hi (q 79 (by decide)) (q 80 (by decide)), ?_, ?_, ?_, ?_, ?_, ?_, ?_⟩
  · rw [q0 9 (by omega), q 0 (by decide)]; exact c
  · rw [q 78 (by decide), q 1 (by decide), q 0 (by decide)]; exact d
  · rw [q0 10 (by omega), q 38 (by decide)]; exact e
  · rw [q 77 (by decide), q 0 (by decide)]; exact f
  · rw [q 77 (by decide), q 0 (by decide)]; exact g
  · rw [q 76 (by decide), q 0 (by decide), d1]; exact i
  · rw [q 76 (by decide), q 0 (by decide), d2]; exact j
set_option maxHeartbeats 4000000 in
set_option maxRecDepth 100000 in
theorem Obs.ki {σ σ' : Sto} (h : KI σ) (o : Obs σ σ') : KI σ' := h.low (fun k hk => o 0 k (by omega) (by omega))
set_option maxHeartbeats 4000000 in
set_option maxRecDepth 100000 in
theorem INV.ask {σ σ1 σ2 D S : Sto} (hC : CI σ1 D S) (hK : KI σ) (hM : MI σ D S) (o : Obs σ σ1) (m : MO σ1 σ2) : INV σ2 :=
  ⟨D, S, hC.low (fun r hr => m.1 r (fun h => by simp only [List.mem_cons, List.not_mem_nil, or_false] at h; omega)), (o.ki hK).low (fun k _ => by rw [m.1 0 (by decide)]), (hM.obs o).mo m⟩
set_option maxHeartbeats 4000000 in
set_option maxRecDepth 100000 in
theorem p_rule {σ : Sto} {w : Int} (h : INV σ) : Pair yX6_rule cX6_rule 2 5 yX7_rule cX7_rule 2 8 [mI w] σ := by
  obtain ⟨D, S, hC, hK, hM⟩ := h
  refine ⟨_, c_rule hC, fun z σ1 h1 => ?_⟩
  obtain ⟨h1, o, hC1⟩ := h1
  have hM1 := hM.obs o
  refine ⟨_, m_rule hM1.1, fun z' σ2 h2 => ?_⟩
  obtain ⟨h2, m⟩ := h2
  refine ⟨?_, INV.ask hC1 hK hM o m⟩
  rw [h1, h2, hM1.2.2.1, hM1.2.2.2.2.2.1, hM1.2.2.2.2.2.2.1, o 0 1 (by omega) (by omega), o 0 14 (by omega) (by omega), o 0 15 (by omega) (by omega)]
set_option maxHeartbeats 4000000 in
set_option maxRecDepth 100000 in
theorem p_shape {σ : Sto} {g w : Int} (h : INV σ) : Pair yX6_shape cX6_shape 3 2 yX7_shape cX7_shape 6 2 [mI g, mI w] σ := by
  obtain ⟨D, S, hC, hK, hM⟩ := h
  refine ⟨_, c_shape hC, fun z σ1 h1 => ?_⟩
  obtain ⟨h1, rfl⟩ := h1
  have o : Obs σ1 σ1 := fun _ _ _ _ => rfl
  have hC1 := hC
  refine ⟨_, m_shape (hM.obs o).1, fun z' σ2 h2 => ?_⟩
  obtain ⟨h2, rfl⟩ := h2
  have m : MO σ2 σ2 := ⟨fun _ _ => rfl, fun _ _ => rfl⟩
  exact ⟨h2.trans h1.symm, INV.ask hC1 hK hM o m⟩
set_option maxHeartbeats 4000000 in
set_option maxRecDepth 100000 in
theorem p_step {σ : Sto} {g i w : Int} (h : INV σ) : Pair yX6_step cX6_step 4 1 yX7_step cX7_step 4 2 [mI g, mI i, mI w] σ := by
  obtain ⟨D, S, hC, hK, hM⟩ := h
  refine ⟨_, c_step hC, fun z σ1 h1 => ?_⟩
  obtain ⟨h1, rfl⟩ := h1
  have o : Obs σ1 σ1 := fun _ _ _ _ => rfl
  have hC1 := hC
  refine ⟨_, m_step (hM.obs o).1, fun z' σ2 h2 => ?_⟩
  obtain ⟨h2, rfl⟩ := h2
  have m : MO σ2 σ2 := ⟨fun _ _ => rfl, fun _ _ => rfl⟩
  exact ⟨h2.trans h1.symm, INV.ask hC1 hK hM o m⟩
set_option maxHeartbeats 4000000 in
set_option maxRecDepth 100000 in
theorem p_par {σ : Sto} {p w : Int} (h : INV σ) : Pair yX6_par cX6_par 3 6 yX7_par cX7_par 3 8 [mI p, mI w] σ := by
  obtain ⟨D, S, hC, hK, hM⟩ := h
  refine ⟨_, c_par hC, fun z σ1 h1 => ?_⟩
  obtain ⟨h1, o, hC1⟩ := h1
  refine ⟨_, m_par (hM.obs o).1, fun z' σ2 h2 => ?_⟩
  obtain ⟨h2, m⟩ := h2
  exact ⟨h2.trans h1.symm, INV.ask hC1 hK hM o m⟩
set_option maxHeartbeats 4000000 in
set_option maxRecDepth 100000 in
theorem p_word {σ : Sto} {p i w : Int} (h : INV σ) : Pair yX6_word cX6_word 5 5 yX7_word cX7_word 5 8 [mI p, mI i, mI w] σ := by
  obtain ⟨D, S, hC, hK, hM⟩ := h
  refine ⟨_, c_word hC, fun z σ1 h1 => ?_⟩
  obtain ⟨h1, o, hC1⟩ := h1
  refine ⟨_, m_word (hM.obs o).1, fun z' σ2 h2 => ?_⟩
  obtain ⟨h2, m⟩ := h2
  exact ⟨h2.trans h1.symm, INV.ask hC1 hK hM o m⟩
set_option maxHeartbeats 4000000 in
set_option maxRecDepth 100000 in
theorem p_letter {σ : Sto} {p i k : Int} (h : INV σ) : Pair yX6_letter cX6_letter 5 2 yX7_letter cX7_letter 5 2 [mI p, mI i, mI k] σ := by
  obtain ⟨D, S, hC, hK, hM⟩ := h
  refine ⟨_, c_letter hC, fun z σ1 h1 => ?_⟩
  obtain ⟨h1, rfl⟩ := h1
  have o : Obs σ1 σ1 := fun _ _ _ _ => rfl
  have hC1 := hC
  refine ⟨_, m_letter (hM.obs o).1, fun z' σ2 h2 => ?_⟩
  obtain ⟨h2, rfl⟩ := h2
  have m : MO σ2 σ2 := ⟨fun _ _ => rfl, fun _ _ => rfl⟩
  exact ⟨h2.trans h1.symm, INV.ask hC1 hK hM o m⟩
set_option maxHeartbeats 4000000 in
set_option maxRecDepth 100000 in
theorem p_drawn {σ : Sto} {p i w : Int} (h : INV σ) : Pair yX6_drawn cX6_drawn 4 1 yX7_drawn cX7_drawn 4 3 [mI p, mI i, mI w] σ := by
  obtain ⟨D, S, hC, hK, hM⟩ := h
  refine ⟨_, c_drawn hC, fun z σ1 h1 => ?_⟩
  obtain ⟨h1, o, hC1⟩ := h1
  refine ⟨_, m_drawn (hM.obs o).1, fun z' σ2 h2 => ?_⟩
  obtain ⟨h2, rfl⟩ := h2
  have m : MO σ2 σ2 := ⟨fun _ _ => rfl, fun _ _ => rfl⟩
  exact ⟨h2.trans h1.symm, INV.ask hC1 hK hM o m⟩
set_option maxHeartbeats 4000000 in
set_option maxRecDepth 100000 in
theorem p_reach {σ : Sto} {p j : Int} (h : INV σ) : Pair yX6_reach cX6_reach 3 1 yX7_reach cX7_reach 3 4 [mI p, mI j] σ := by
  obtain ⟨D, S, hC, hK, hM⟩ := h
  refine ⟨_, c_reach hC, fun z σ1 h1 => ?_⟩
  obtain ⟨h1, o, hC1⟩ := h1
  refine ⟨_, m_reach (hM.obs o).1, fun z' σ2 h2 => ?_⟩
  obtain ⟨h2, rfl⟩ := h2
  have m : MO σ2 σ2 := ⟨fun _ _ => rfl, fun _ _ => rfl⟩
  exact ⟨h2.trans h1.symm, INV.ask hC1 hK hM o m⟩
set_option maxHeartbeats 4000000 in
set_option maxRecDepth 100000 in
theorem p_line {σ : Sto} {l w : Int} (h : INV σ) : Pair yX6_line cX6_line 4 5 yX7_line cX7_line 3 8 [mI l, mI w] σ := by
  obtain ⟨D, S, hC, hK, hM⟩ := h
  refine ⟨_, c_line hC, fun z σ1 h1 => ?_⟩
  obtain ⟨h1, o, hC1⟩ := h1
  refine ⟨_, m_line (hM.obs o).1, fun z' σ2 h2 => ?_⟩
  obtain ⟨h2, m⟩ := h2
  exact ⟨h2.trans h1.symm, INV.ask hC1 hK hM o m⟩
set_option maxHeartbeats 4000000 in
set_option maxRecDepth 100000 in
theorem p_sign {σ : Sto} {l k : Int} (h : INV σ) : Pair yX6_sign cX6_sign 10 5 yX7_sign cX7_sign 6 8 [mI l, mI k] σ := by
  obtain ⟨D, S, hC, hK, hM⟩ := h
  refine ⟨_, c_sign hC, fun z σ1 h1 => ?_⟩
  obtain ⟨h1, o, hC1⟩ := h1
  refine ⟨_, m_sign (hM.obs o).1, fun z' σ2 h2 => ?_⟩
  obtain ⟨h2, m⟩ := h2
  exact ⟨h2.trans h1.symm, INV.ask hC1 hK hM o m⟩
set_option maxHeartbeats 4000000 in
set_option maxRecDepth 100000 in
theorem p_best {σ : Sto} {p : Int} (h : INV σ) : Pair yX6_best cX6_best 2 6 yX7_best cX7_best 2 10 [mI p] σ := by
  obtain ⟨D, S, hC, hK, hM⟩ := h
  refine ⟨_, c_best hC, fun z σ1 h1 => ?_⟩
  obtain ⟨h1, o, hC1⟩ := h1
  refine ⟨_, m_best (hM.obs o).1, fun z' σ2 h2 => ?_⟩
  obtain ⟨h2, m⟩ := h2
  exact ⟨h2.trans h1.symm, INV.ask hC1 hK hM o m⟩
set_option maxHeartbeats 4000000 in
set_option maxRecDepth 100000 in
theorem p_tried {σ : Sto} {p n : Int} (h : INV σ) : Pair yX6_tried cX6_tried 3 5 yX7_tried cX7_tried 3 9 [mI p, mI n] σ := by
  obtain ⟨D, S, hC, hK, hM⟩ := h
  refine ⟨_, c_tried hC, fun z σ1 h1 => ?_⟩
  obtain ⟨h1, o, hC1⟩ := h1
  refine ⟨_, m_tried (hM.obs o).1, fun z' σ2 h2 => ?_⟩
  obtain ⟨h2, m⟩ := h2
  exact ⟨h2.trans h1.symm, INV.ask hC1 hK hM o m⟩
