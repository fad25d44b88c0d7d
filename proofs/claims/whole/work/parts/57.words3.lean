set_option maxHeartbeats 4000000 in
set_option maxRecDepth 100000 in
theorem wcd_in {t : Int → Int} {s : Int} : ∀ m : Nat, (m : Int) ≤ 6 → (∀ k, 0 ≤ k → k < (m : Int) → 97 ≤ t (s + k) ∧ t (s + k) ≤ 122) → 0 ≤ wcd t s m ∧ wcd t s m < pl m ∧ ∀ k, 0 ≤ k → k < (m : Int) → ltr (wcd t s m) k = t (s + k) - 96 := by
  intro m
  induction m with
  | zero => intro _ _; exact ⟨Int.le_refl _, (show (0 : Int) < pl 0 by decide), fun k k0 k1 => absurd k1 (by omega)⟩
  | succ m ih =>
    intro h6 hl
    obtain ⟨a, b, c⟩ := ih (by omega) (fun k k0 k1 => hl k k0 (by omega))
    have hm := hl m (by omega) (by omega)
    have e : wcd t s ((m + 1 : Nat) : Int) = wcd t s m + (t (s + m) - 96) * pl m := by
      unfold wcd
      rw [show ((m + 1 : Nat) : Int) = (m : Int) + 1 by omega, sumI_s (by omega)]
    obtain ⟨w1, w2, w3, w4⟩ := wh_step (c := wcd t s m) (l := t (s + m) - 96) (j := m) (by omega) (by omega) a b (by omega) (by omega)
    rw [e, show ((m + 1 : Nat) : Int) = (m : Int) + 1 by omega]
    refine ⟨w1, w2, fun k k0 k1 => ?_⟩
    by_cases h : k = m
    · rw [h]; exact w4
    · rw [w3 k k0 (by omega)]; exact c k k0 (by omega)
set_option maxHeartbeats 4000000 in
set_option maxRecDepth 100000 in
theorem wcd_ok {t : Int → Int} {s m : Int} (m1 : 1 ≤ m) (m6 : m ≤ 6) (hl : ∀ k, 0 ≤ k → k < m → 97 ≤ t (s + k) ∧ t (s + k) ≤ 122) : okC (wcd t s m) ∧ nlt (wcd t s m) = m ∧ ∀ k, 0 ≤ k → k < m → ltr (wcd t s m) k = t (s + k) - 96 := by
  have em : ((m.toNat : Nat) : Int) = m := by omega
  obtain ⟨a, b, c⟩ := wcd_in (t := t) (s := s) m.toNat (by omega) (fun k k0 k1 => hl k k0 (by omega))
  rw [em] at a b c
  have hp := pl_bd m
  obtain ⟨o1, o2⟩ := okC_of m1 m6 a (by omega) (fun k k0 k1 => by rw [c k k0 k1]; have := hl k k0 k1; omega) (fun k k0 k1 => wh_none (by omega) k0 k1 a b)
  exact ⟨o1, o2, c⟩
set_option maxHeartbeats 4000000 in
set_option maxRecDepth 100000 in
theorem tkL {t : Int → Int} {n x : Int} (x0 : 0 ≤ x) (hx : x ≤ n) (h : tkK t n x = 1) : 1 ≤ tkE t n x - tkS t n x ∧ ∀ y, tkS t n x ≤ y → y < tkE t n x → 97 ≤ t y ∧ t y ≤ 122 := by
  have hb := tk_bd (t := t) x0 hx
  unfold tkK at h
  by_cases h1 : n ≤ tkS t n x
  · rw [if_pos h1] at h; omega
  · rw [if_neg h1] at h
    by_cases h2 : 97 ≤ t (tkS t n x) ∧ t (tkS t n x) ≤ 122
    · have e : tkE t n x = rn t 97 122 n (tkS t n x) := by unfold tkE; rw [if_neg h1, if_pos h2]
      have e2 := rn_go (t := t) (lo := 97) (hi := 122) (n := n) (x := tkS t n x) (by omega) h2.1 h2.2
      have e3 := rn_bd (t := t) (lo := 97) (hi := 122) (n := n) (tkS t n x + 1) (by omega)
      refine ⟨by omega, fun y y0 y1 => ?_⟩
      rw [e] at y1
      exact rn_in (tkS t n x) (by omega) y y0 y1
    · rw [if_neg h2] at h
      exfalso
      split at h
      · split at h <;> omega
      · split at h
        · omega
        · split at h <;> omega
