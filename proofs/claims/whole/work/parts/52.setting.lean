set_option maxHeartbeats 4000000 in
set_option maxRecDepth 100000 in
theorem bit_all : ∀ (m : Fin 64) (w : Fin 6), (((m : Nat) &&& 2 ^ (w : Nat) = 0) ↔ (m : Nat) / 2 ^ (w : Nat) % 2 = 0) ∧ ((m : Nat) ||| 2 ^ (w : Nat)) < 64 ∧ ∀ v : Fin 6, ((m : Nat) ||| 2 ^ (w : Nat)) / 2 ^ (v : Nat) % 2 = if (v : Nat) = (w : Nat) then 1 else (m : Nat) / 2 ^ (v : Nat) % 2 := by decide +kernel
set_option maxHeartbeats 4000000 in
set_option maxRecDepth 100000 in
theorem bit_at {m w : Int} (m0 : 0 ≤ m) (m1 : m < 64) (w0 : 0 ≤ w) (w1 : w < 6) : ((((m.toNat &&& (1 * 2 ^ w.toNat : Int).toNat : Nat) : Int) = 0) ↔ m / 2 ^ w.toNat % 2 = 0) ∧ (((m.toNat ||| (1 * 2 ^ w.toNat : Int).toNat : Nat) : Int) < 64) ∧ ∀ v, 0 ≤ v → v < 6 → ((m.toNat ||| (1 * 2 ^ w.toNat : Int).toNat : Nat) : Int) / 2 ^ v.toNat % 2 = if v = w then 1 else m / 2 ^ v.toNat % 2 := by
  obtain ⟨mm, rfl⟩ := Int.eq_ofNat_of_zero_le m0
  rw [Int.toNat_natCast]
  obtain ⟨a, b, c⟩ := bit_all ⟨mm, by omega⟩ ⟨w.toNat, by omega⟩
  simp only at a b c
  have e : (1 * 2 ^ w.toNat : Int).toNat = 2 ^ w.toNat := by
    rw [Int.one_mul]
    have : (2 ^ w.toNat : Int) = ((2 ^ w.toNat : Nat) : Int) := by simp
    rw [this, Int.toNat_natCast]
  rw [e]
  have cm : ∀ k : Nat, (2 ^ k : Int) = ((2 ^ k : Nat) : Int) := fun k => by simp
  refine ⟨?_, by omega, fun v v0 v1 => ?_⟩
  · rw [cm]
    constructor
    · intro h
      have := a.mp (by omega)
      omega
    · intro h
      have := a.mpr (by omega)
      omega
  · have hv := c ⟨v.toNat, by omega⟩
    simp only at hv
    rw [cm]
    by_cases hw : v = w
    · subst hw
      rw [if_pos rfl] at hv
      rw [if_pos rfl]
      omega
    · rw [if_neg (by omega)] at hv
      rw [if_neg hw]
      omega
set_option maxHeartbeats 4000000 in
set_option maxRecDepth 100000 in
theorem DN_sett {σ : Sto} {k v : Int} : DN (upd2 σ 25 k v) = setSt (DN σ) k v := by
  funext kk i
  by_cases h : 5 ≤ kk
  · have h0 : ∀ τ : Sto, DN τ kk i = τ 25 i := fun τ => by
      simp only [DN, DI]
      rw [if_neg (by omega), if_neg (by omega), if_neg (by omega), if_neg (by omega), if_neg (by omega)]
    rw [h0]
    show _ = ite _ _ _
    rw [h0]
    by_cases hi : i = k
    · subst hi; rw [upd2_eq, if_pos ⟨h, rfl⟩]
    · rw [upd2_k hi, if_neg (fun q => hi q.2)]
  · show _ = ite _ _ _
    rw [if_neg (fun q => h q.1)]
    simp only [DN, DI]
    rw [upd2_r (by decide), upd2_r (by decide), upd2_r (by decide), upd2_r (by decide), upd2_r (by decide)]
    have : kk = 0 ∨ kk = 1 ∨ kk = 2 ∨ kk = 3 ∨ kk = 4 := by omega
    rcases this with rfl | rfl | rfl | rfl | rfl <;> rfl
