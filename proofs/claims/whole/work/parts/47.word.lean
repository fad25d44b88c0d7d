set_option maxHeartbeats 4000000 in
set_option maxRecDepth 100000 in
theorem or_add {c l : Int} {i : Nat} (hc : 0 ≤ c) (h : c < 2 ^ i) (hl : 0 ≤ l) : ((c.toNat ||| (l * 2 ^ i).toNat : Nat) : Int) = c + l * 2 ^ i := by
  have h1 : c.toNat < 2 ^ i := by
    have h2 : ((2 ^ i : Nat) : Int) = (2 : Int) ^ i := by simp
    omega
  have e1 : (l * 2 ^ i).toNat = 2 ^ i * l.toNat := by
    obtain ⟨n, rfl⟩ := Int.eq_ofNat_of_zero_le hl
    have h2 : ((n : Int) * (2 : Int) ^ i) = ((2 ^ i * n : Nat) : Int) := by simp [Int.mul_comm]
    rw [h2, Int.toNat_natCast]
    rfl
  rw [e1, Nat.or_comm, ← Nat.two_pow_add_eq_or_of_lt h1]
  have h2 : ((2 ^ i * l.toNat + c.toNat : Nat) : Int) = (2 : Int) ^ i * (l.toNat : Int) + (c.toNat : Int) := by simp
  rw [h2, Int.toNat_of_nonneg hl, Int.toNat_of_nonneg hc, Int.mul_comm, Int.add_comm]
def pl (j : Int) : Int := if j = 0 then 1 else if j = 1 then 32 else if j = 2 then 1024 else if j = 3 then 32768 else if j = 4 then 1048576 else if j = 5 then 33554432 else 1073741824
set_option maxHeartbeats 4000000 in
set_option maxRecDepth 100000 in
theorem pl_eq {j : Int} (h0 : 0 ≤ j) (h : j ≤ 6) : (2 : Int) ^ (5 * j).toNat = pl j := by
  have : j = 0 ∨ j = 1 ∨ j = 2 ∨ j = 3 ∨ j = 4 ∨ j = 5 ∨ j = 6 := by omega
  rcases this with rfl | rfl | rfl | rfl | rfl | rfl | rfl <;> decide
set_option maxHeartbeats 4000000 in
set_option maxRecDepth 100000 in
theorem wh_step {c l j : Int} (h0 : 0 ≤ j) (hj : j < 6) (hc : 0 ≤ c) (hc2 : c < pl j) (hl : 0 ≤ l) (hl2 : l < 32) : 0 ≤ c + l * pl j ∧ c + l * pl j < pl (j + 1) ∧ (∀ k, 0 ≤ k → k < j → ltr (c + l * pl j) k = ltr c k) ∧ ltr (c + l * pl j) j = l := by
  have hjj : j = 0 ∨ j = 1 ∨ j = 2 ∨ j = 3 ∨ j = 4 ∨ j = 5 := by omega
  refine ⟨?_, ?_, fun k k0 k1 => ?_, ?_⟩
  · rcases hjj with rfl | rfl | rfl | rfl | rfl | rfl <;> simp [pl] at * <;> omega
  · rcases hjj with rfl | rfl | rfl | rfl | rfl | rfl <;> simp [pl] at * <;> omega
  · have hkk : k = 0 ∨ k = 1 ∨ k = 2 ∨ k = 3 ∨ k = 4 := by omega
    unfold ltr
    rw [pl_eq k0 (by omega)]
    rcases hjj with rfl | rfl | rfl | rfl | rfl | rfl <;> rcases hkk with rfl | rfl | rfl | rfl | rfl <;> simp [pl] at * <;> omega
  · unfold ltr
    rw [pl_eq h0 (by omega)]
    rcases hjj with rfl | rfl | rfl | rfl | rfl | rfl <;> simp [pl] at * <;> omega
set_option maxHeartbeats 4000000 in
set_option maxRecDepth 100000 in
theorem wh_none {c j k : Int} (h0 : 0 ≤ j) (hj : j ≤ k) (hk : k < 6) (hc : 0 ≤ c) (hc2 : c < pl j) : ltr c k = 0 := by
  have hjj : j = 0 ∨ j = 1 ∨ j = 2 ∨ j = 3 ∨ j = 4 ∨ j = 5 := by omega
  have hkk : k = 0 ∨ k = 1 ∨ k = 2 ∨ k = 3 ∨ k = 4 ∨ k = 5 := by omega
  unfold ltr
  rw [pl_eq (by omega) (by omega)]
  rcases hjj with rfl | rfl | rfl | rfl | rfl | rfl <;> rcases hkk with rfl | rfl | rfl | rfl | rfl | rfl <;> simp [pl] at * <;> omega
set_option maxHeartbeats 4000000 in
set_option maxRecDepth 100000 in
theorem pl_bd (j : Int) : 1 ≤ pl j ∧ pl j ≤ 1073741824 := by
  unfold pl
  repeat' split
  all_goals omega
def wcd (t : Int → Int) (s m : Int) : Int := sumI (fun k => (t (s + k) - 96) * pl k) m
set_option maxHeartbeats 4000000 in
set_option maxRecDepth 100000 in
theorem c_wordAtHand {σ : Sto} (hR : RdI σ) (h6 : 0 ≤ σ 38 6) (h7 : 1 ≤ σ 38 7 ∧ σ 38 7 ≤ 6) (hl : σ 38 6 + σ 38 7 ≤ σ 38 3) (hlet : ∀ x, σ 38 6 ≤ x → x < σ 38 6 + σ 38 7 → 97 ≤ σ 1 x ∧ σ 1 x ≤ 122) : CtI yX4_wordAtHand cX4_wordAtHand 3 (some .int) 1 [mR 38] σ (fun z σ' => (0 ≤ z ∧ z < 1073741824 ∧ (∀ k, 0 ≤ k → k < σ 38 7 → ltr z k = σ 1 (σ 38 6 + k) - 96) ∧ (∀ k, σ 38 7 ≤ k → k < 6 → ltr z k = 0) ∧ z = wcd (σ 1) (σ 38 6) (σ 38 7)) ∧ σ' = σ) := by
  refine ct_of rfl [some (mR 38), none, none] (Nat.le_of_ble_eq_true rfl) rfl (fun hσ => ?_)
  show Wp cX4_wordAtHand RX4 (some .int) 1 0 [some (mR 38), none, none] [] _ _
  obtain ⟨r1, r2, r3⟩ := hR
  have lp : ∀ j, j ≤ σ 38 7 → 0 ≤ j → ∀ c : Int, 0 ≤ c → c < pl j → (∀ k, 0 ≤ k → k < j → ltr c k = σ 1 (σ 38 6 + k) - 96) → c = wcd (σ 1) (σ 38 6) j → Wp cX4_wordAtHand RX4 (some .int) 1 4 [some (mR 38), some (mI c), some (mI j)] [] σ (fun v σ' => ∃ z, v = some (mI z) ∧ (fun z σ' => (0 ≤ z ∧ z < 1073741824 ∧ (∀ k, 0 ≤ k → k < σ 38 7 → ltr z k = σ 1 (σ 38 6 + k) - 96) ∧ (∀ k, σ 38 7 ≤ k → k < 6 → ltr z k = 0) ∧ z = wcd (σ 1) (σ 38 6) (σ 38 7)) ∧ σ' = σ) z σ') := by
    refine up_ind (σ 38 7) (fun j hj ih j0 c hc hcp hk hw => ?_)
    have hpb := pl_bd j
    refine wp_iload_n (pc := 4) dX4_wordAtHand_4 rfl rfl ?_
    refine wp_aload_n (pc := 5) dX4_wordAtHand_5 rfl rfl ?_
    refine wp_getI (pc := 6) 7 dX4_wordAtHand_6 fl_X4_110 rfl rfl ?_
    refine wp_icmp_ge (pc := 9) 41 dX4_wordAtHand_9 (by decide) (fun c_9 => ?_) (fun c_9 => ?_)
    · refine wp_iload_n (pc := 41) dX4_wordAtHand_41 rfl rfl ?_
      refine wp_ireturn (pc := 42) dX4_wordAtHand_42 rfl ?_
      have ej : j = σ 38 7 := by omega
      refine ⟨_, rfl, ⟨hc, by omega, fun k k0 k1 => hk k k0 (by omega), fun k k0 k1 => wh_none j0 (by omega) k1 hc hcp, by rw [hw, ej]⟩, rfl⟩
    · refine wp_iload_n (pc := 12) dX4_wordAtHand_12 rfl rfl ?_
      refine wp_bipush (pc := 13) dX4_wordAtHand_13 (by decide) (by decide) ?_
      refine wp_icmp_ge (pc := 15) 41 dX4_wordAtHand_15 (by decide) (fun c_15 => ?_) (fun c_15 => ?_)
      · refine wp_iload_n (pc := 41) dX4_wordAtHand_41 rfl rfl ?_
        refine wp_ireturn (pc := 42) dX4_wordAtHand_42 rfl ?_
        have ej : j = σ 38 7 := by omega
        refine ⟨_, rfl, ⟨hc, by omega, fun k k0 k1 => hk k k0 (by omega), fun k k0 k1 => wh_none j0 (by omega) k1 hc hcp, by rw [hw, ej]⟩, rfl⟩
      · have hlt := hlet (σ 38 6 + j) (by omega) (by omega)
        have hpe := pl_eq (j := j) j0 (by omega)
        obtain ⟨w1, w2, w3, w4⟩ := wh_step (c := c) (l := σ 1 (σ 38 6 + j) - 96) (j := j) j0 (by omega) hc hcp (by omega) (by omega)
        have hpb2 := pl_bd (j + 1)
        have hm0 : 0 ≤ (σ 1 (σ 38 6 + j) - 96) * pl j := Int.mul_nonneg (by omega) (by omega)
        have hs : 0 ≤ (σ 1 (σ 38 6 + j) - 96) * 2 ^ (5 * j).toNat ∧ (σ 1 (σ 38 6 + j) - 96) * 2 ^ (5 * j).toNat < 2147483648 := by
          rw [hpe]
          generalize (σ 1 (σ 38 6 + j) - 96) * pl j = mm at *
          omega
        have hor : ((c.toNat ||| ((σ 1 (σ 38 6 + j) - 96) * 2 ^ (5 * j).toNat).toNat : Nat) : Int) = c + (σ 1 (σ 38 6 + j) - 96) * pl j := by
          rw [or_add hc (by rw [hpe]; exact hcp) (by omega), hpe]
        refine wp_iload_n (pc := 18) dX4_wordAtHand_18 rfl rfl ?_
        refine wp_aload_n (pc := 19) dX4_wordAtHand_19 rfl rfl ?_
        refine wp_aload_n (pc := 20) dX4_wordAtHand_20 rfl rfl ?_
        refine wp_getI (pc := 21) 6 dX4_wordAtHand_21 fl_X4_62 rfl rfl ?_
        refine wp_iload_n (pc := 24) dX4_wordAtHand_24 rfl rfl ?_
        refine wp_iadd (pc := 25) dX4_wordAtHand_25 (by omega) ?_
        refine wp_cvI1 (pc := 26) dX4_wordAtHand_26 mv_X4_113 (c_letterAt (by omega) (by omega) (r3 _ (by omega) (by omega))) (Nat.le_of_ble_eq_true rfl) rfl (Nat.le_of_ble_eq_true rfl) (fun z_26 σ_26 h_26 => ?_)
        obtain ⟨rfl, e_26⟩ := h_26; have e2_26 := e_26.symm; subst e2_26
        refine wp_iconst (pc := 29) dX4_wordAtHand_29 (by decide) ?_
        refine wp_iload_n (pc := 30) dX4_wordAtHand_30 rfl rfl ?_
        refine wp_imul (pc := 31) dX4_wordAtHand_31 (by omega) ?_
        refine wp_ishl (pc := 32) dX4_wordAtHand_32 (by exact ⟨by omega, by omega, by omega, hs.2⟩) ?_
        refine wp_ior (pc := 33) dX4_wordAtHand_33 (by exact ⟨hc, hs.1⟩) ?_
        refine wp_istore_n (pc := 34) dX4_wordAtHand_34 rfl (Nat.le_of_ble_eq_true rfl) rfl ?_
        refine wp_iinc (pc := 35) dX4_wordAtHand_35 rfl rfl (by omega) ?_
        refine wp_goto (pc := 38) 4 dX4_wordAtHand_38 (by decide) ?_
        rw [hor]
        refine ih (by omega) (by omega) _ w1 w2 (fun k k0 k1 => ?_) ?_
        · by_cases e : k = j
          · rw [e]; exact w4
          · rw [w3 k k0 (by omega)]; exact hk k k0 (by omega)
        · unfold wcd at *
          rw [sumI_s j0, ← hw]
  refine wp_iconst (pc := 0) dX4_wordAtHand_0 (by decide) ?_
  refine wp_istore_n (pc := 1) dX4_wordAtHand_1 rfl (Nat.le_of_ble_eq_true rfl) rfl ?_
  refine wp_iconst (pc := 2) dX4_wordAtHand_2 (by decide) ?_
  refine wp_istore_n (pc := 3) dX4_wordAtHand_3 rfl (Nat.le_of_ble_eq_true rfl) rfl ?_
  exact lp 0 (by omega) (by decide) 0 (by decide) (by decide) (fun k k0 k1 => absurd k1 (by omega)) rfl
