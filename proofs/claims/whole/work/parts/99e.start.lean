set_option maxHeartbeats 4000000 in
set_option maxRecDepth 100000 in
theorem posL_nd : ∀ i, i < 92 → ∀ j, j < 92 → posL.getD i 0 = posL.getD j 0 → i = j := by decide +kernel
set_option maxHeartbeats 4000000 in
set_option maxRecDepth 100000 in
theorem w0_P {g : GG} {t z : Nat} {H : Heap} (h : va_P (gD g) vwCl (W0 g (gD g, gI g, gB g, gZ g, t, z)) H) : va_P (gD g) vwCl (wsO g sg0) H := by
  intro r q hq
  obtain ⟨hr, rfl⟩ := wsO_inv hq
  exact h _ _ (w0_all g t z r hr)
set_option maxHeartbeats 4000000 in
set_option maxRecDepth 100000 in
theorem w0_inj {g : GG} {t z : Nat} {A : Nat → Prop} (h : va_D A (W0 g (gD g, gI g, gB g, gZ g, t, z))) : gInj g ∧ ∀ q, gAr g q → A q := by
  refine ⟨fun i j hi hj he => posL_nd i hi j hj (h.1 _ _ _ _ (w0_all g t z i hi) (w0_all g t z j hj) he), fun q hq => ?_⟩
  obtain ⟨r, hr, rfl⟩ := hq
  exact h.2 _ _ (w0_all g t z r hr)
set_option maxHeartbeats 4000000 in
set_option maxRecDepth 100000 in
theorem okS_sg0 : okS sg0 := by
  intro r i
  have h1 : ∀ (L : List Int) (n : Nat), (∀ x ∈ L, okI x) → okI (L.getD n 0) := by
    intro L n h
    rw [List.getD_eq_getElem?_getD]
    cases hn : L[n]? with
    | none => exact ok0
    | some v => exact h v (List.mem_of_getElem? hn)
  unfold sg0
  have k1 : okI 1 := by unfold okI; omega
  have k40 : okI 40 := by unfold okI; omega
  have k8 : okI 8 := by unfold okI; omega
  have k5 : okI 5 := by unfold okI; omega
  split
  · split
    · exact k1
    · exact ok0
  split
  · exact h1 _ _ (by decide)
  split
  · split
    · exact k40
    split
    · exact k8
    split
    · exact k5
    split
    · exact k1
    · exact ok0
  split
  · exact h1 _ _ (by decide)
  split
  · exact h1 _ _ (by decide)
  · exact ok0
