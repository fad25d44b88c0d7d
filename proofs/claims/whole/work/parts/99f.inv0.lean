set_option maxHeartbeats 4000000 in
set_option maxRecDepth 100000 in
theorem inv0_OKD : OKD (DC sg0) (SC sg0) := by
  have h0 : DC sg0 0 0 = 0 := rfl
  have ht : tot (DC sg0) = 0 := rfl
  have e0 : DC sg0 5 0 = 40 := rfl
  have e1 : DC sg0 5 1 = 8 := rfl
  have e2 : DC sg0 5 2 = 5 := rfl
  have e3 : DC sg0 5 3 = 1 := rfl
  have e4 : DC sg0 5 4 = 0 := rfl
  have e5 : DC sg0 5 5 = 0 := rfl
  exact ⟨⟨by omega, by omega⟩, fun p a b => absurd b (by omega), by omega, fun p a b => absurd b (by omega), fun w a b => absurd b (by omega), ⟨by omega, by omega⟩, ⟨by omega, by omega⟩, ⟨by omega, by omega⟩, ⟨by omega, by omega⟩, ⟨by omega, by omega⟩, by omega, by omega⟩
set_option maxHeartbeats 4000000 in
set_option maxRecDepth 100000 in
theorem inv0_OKS : OKS (SC sg0) := by
  have hS : SC sg0 0 0 = 0 := rfl
  exact ⟨⟨by omega, by omega⟩, fun g a b => absurd b (by omega)⟩
set_option maxHeartbeats 4000000 in
set_option maxRecDepth 100000 in
theorem inv0_PR : PR (sg0 72) (DC sg0) := by
  have hD : DC sg0 0 0 = 0 := rfl
  have ht : tot (DC sg0) = 0 := rfl
  refine ⟨rfl, fun p a b => absurd b (by omega), fun w a b => absurd b (by omega), fun k a b => ?_⟩
  have hk : k = 0 ∨ k = 1 ∨ k = 2 ∨ k = 3 ∨ k = 4 ∨ k = 5 := by omega
  rcases hk with rfl | rfl | rfl | rfl | rfl | rfl <;> decide +kernel
set_option maxHeartbeats 4000000 in
set_option maxRecDepth 100000 in
theorem inv0_SR : SR (sg0 74) (SC sg0) := by
  have hS : SC sg0 0 0 = 0 := rfl
  intro g a b
  exact absurd b (by omega)
set_option maxHeartbeats 4000000 in
set_option maxRecDepth 100000 in
theorem inv0_NT : NT sg0 := ⟨by decide +kernel, by decide +kernel⟩
set_option maxHeartbeats 4000000 in
set_option maxRecDepth 100000 in
theorem inv0 : INV sg0 := by
  have a1 : sg0 0 1 = 0 := rfl
  have a11 : sg0 0 11 = 1 := rfl
  have a14 : sg0 0 14 = 0 := rfl
  have a15 : sg0 0 15 = 0 := rfl
  exact ⟨DC sg0, SC sg0, ⟨rfl, rfl, inv0_OKD, inv0_OKS, rfl, ⟨by omega, by omega⟩, fun k a b => absurd b (by omega), fun h => absurd h (by omega), fun h => absurd a14 h, fun h => absurd a15 h⟩, ⟨⟨by omega, by omega⟩, by omega, by omega⟩, ⟨⟨inv0_PR, inv0_SR, rfl, inv0_OKD, inv0_OKS⟩, inv0_NT, rfl, fun k a b => absurd b (by omega), rfl, rfl, rfl, fun h => absurd a14 h, fun h => absurd a15 h⟩⟩
