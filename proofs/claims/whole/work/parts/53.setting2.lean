set_option maxHeartbeats 4000000 in
set_option maxRecDepth 100000 in
theorem upd38 {σ : Sto} {k v : Int} : DN (upd2 σ 38 k v) = DN σ ∧ SN (upd2 σ 38 k v) = SN σ := by
  constructor
  · funext kk i
    simp only [DN, DI, upd2_r (show (20 : Nat) ≠ 38 by decide), upd2_r (show (21 : Nat) ≠ 38 by decide), upd2_r (show (22 : Nat) ≠ 38 by decide), upd2_r (show (23 : Nat) ≠ 38 by decide), upd2_r (show (24 : Nat) ≠ 38 by decide), upd2_r (show (25 : Nat) ≠ 38 by decide)]
  · funext kk i
    simp only [SN, upd2_r (show (8 : Nat) ≠ 38 by decide), upd2_r (show (9 : Nat) ≠ 38 by decide), upd2_r (show (10 : Nat) ≠ 38 by decide), upd2_r (show (11 : Nat) ≠ 38 by decide), upd2_r (show (12 : Nat) ≠ 38 by decide), upd2_r (show (13 : Nat) ≠ 38 by decide)]
set_option maxHeartbeats 4000000 in
set_option maxRecDepth 100000 in
theorem SN_25 {σ : Sto} {k v : Int} : SN (upd2 σ 25 k v) = SN σ := by
  funext kk i
  simp only [SN, upd2_r (show (8 : Nat) ≠ 25 by decide), upd2_r (show (9 : Nat) ≠ 25 by decide), upd2_r (show (10 : Nat) ≠ 25 by decide), upd2_r (show (11 : Nat) ≠ 25 by decide), upd2_r (show (12 : Nat) ≠ 25 by decide), upd2_r (show (13 : Nat) ≠ 25 by decide)]
set_option maxHeartbeats 4000000 in
set_option maxRecDepth 100000 in
theorem tot_sett {D : Sto} {k v : Int} : tot (setSt D k v) = tot D := by
  have e : ∀ r, r < 5 → setSt D k v r = D r := fun r hr => by funext i; show ite _ _ _ = _; rw [if_neg (by omega)]
  unfold tot
  rw [e 1 (by decide), e 0 (by decide)]
-- a setting is taken
set_option maxHeartbeats 4000000 in
set_option maxRecDepth 100000 in
theorem RP.set {t : Int → Int} {n : Int} {σ : Sto} {s : PS} (h : RP t n σ s) {w v : Int} (w0 : 0 ≤ w) (w1 : w < 6) : RP t n (upd2 (upd2 σ 38 9 (((σ 38 9).toNat ||| (1 * 2 ^ w.toNat : Int).toNat : Nat) : Int)) 25 w v) ((s.wT (upf s.T w 1)).wD (setSt s.D w v)) := by
  obtain ⟨⟨r1, r2, r3⟩, h2, h3, h4, h5, h6, h7, h8, h9, h10, h11⟩ := h
  obtain ⟨b1, b2, b3⟩ := bit_at h10.1 h10.2 w0 w1
  generalize hm : (((σ 38 9).toNat ||| (1 * 2 ^ w.toNat : Int).toNat : Nat) : Int) = mm at *
  have e1 : upd2 (upd2 σ 38 9 mm) 25 w v 1 = σ 1 := by funext i; rw [upd2_r (by decide), upd2_r (by decide)]
  have ek : ∀ k, k ≠ 9 → upd2 (upd2 σ 38 9 mm) 25 w v 38 k = σ 38 k := fun k hk => by rw [upd2_r (by decide), upd2_k hk]
  have e9 : upd2 (upd2 σ 38 9 mm) 25 w v 38 9 = mm := by rw [upd2_r (by decide), upd2_eq]
  refine ⟨⟨?_, ?_, ?_⟩, e1.trans h2, (ek 3 (by decide)).trans h3, (ek 4 (by decide)).trans h4, h5, (ek 10 (by decide)).trans h6, ?_, ?_, ?_, ?_, ?_⟩
  · rw [ek 3 (by decide)]; exact r1
  · rw [ek 3 (by decide), ek 4 (by decide)]; exact r2
  · rw [ek 3 (by decide), e1]; exact r3
  · rw [DN_sett, upd38.1, h7]; rfl
  · rw [SN_25, upd38.2, h8]; rfl
  · rw [upd2_r (by decide), upd2_r (by decide), h9]
    exact tot_sett.symm
  · rw [e9]; omega
  · intro u u0 u1
    rw [e9, b3 u u0 u1]
    show (if u = w then 1 else s.T u) = _
    rw [h11 u u0 u1]
