-- a page of the model holds D, its shapes hold S
def PR (P : Int → Int) (D : Sto) : Prop := P 0 = D 0 0 ∧ (∀ p, 0 ≤ p → p < D 0 0 → P (1 + 3 * p) = D 2 p ∧ P (1 + 3 * p + 1) = D 3 p ∧ P (1 + 3 * p + 2) = D 1 p) ∧ (∀ w, 0 ≤ w → w < tot D → P (25 + 7 * w) = nlt (D 4 w) ∧ ∀ k, 0 ≤ k → k < 6 → P (25 + 7 * w + 1 + k) = ltr (D 4 w) k) ∧ ∀ k, 0 ≤ k → k < 6 → P (585 + k) = D 5 k
def SR (P : Int → Int) (S : Sto) : Prop := ∀ g, 0 ≤ g → g < S 0 0 → P (19 * g) = S 1 g ∧ P (19 * g + 1) = S 2 g ∧ P (19 * g + 2) = S 3 g ∧ ∀ i, 0 ≤ i → i < S 3 g → P (19 * g + (3 + i)) = S 4 (g * 8 + i) ∧ P (19 * g + (11 + i)) = S 5 (g * 8 + i)
def RM (σ D S : Sto) : Prop := PR (σ 72) D ∧ SR (σ 74) S ∧ σ 71 3 = S 0 0 ∧ OKD D S ∧ OKS S
set_option maxHeartbeats 4000000 in
set_option maxRecDepth 100000 in
theorem RM.kp {σ σ' D S : Sto} (h : RM σ D S) (e1 : σ' 72 = σ 72) (e2 : σ' 74 = σ 74) (e3 : σ' 71 3 = σ 71 3) : RM σ' D S := by
  unfold RM at *
  rw [e1, e2, e3]; exact h
set_option maxHeartbeats 4000000 in
set_option maxRecDepth 100000 in
theorem RM.n {σ D S : Sto} (h : RM σ D S) : (0 ≤ D 0 0 ∧ D 0 0 ≤ 8) ∧ (0 ≤ S 0 0 ∧ S 0 0 ≤ 6) ∧ σ 72 0 = D 0 0 ∧ σ 71 3 = S 0 0 ∧ (0 ≤ tot D ∧ tot D ≤ 80) := by
  have e := fst_bd h.2.2.2.1 (p := D 0 0) h.2.2.2.1.1.1 (Int.le_refl _)
  have f := h.2.2.2.1.2.2.1
  exact ⟨h.2.2.2.1.1, h.2.2.2.2.1, h.1.1, h.2.2.1, by omega⟩
set_option maxHeartbeats 4000000 in
set_option maxRecDepth 100000 in
theorem RM.p {σ D S : Sto} (h : RM σ D S) {p : Int} (p0 : 0 ≤ p) (hp : p < D 0 0) : σ 72 (1 + 3 * p) = D 2 p ∧ σ 72 (1 + 3 * p + 1) = D 3 p ∧ σ 72 (1 + 3 * p + 2) = D 1 p ∧ ((D 2 p = -4 ∧ D 3 p = 0) ∨ (0 ≤ D 2 p ∧ D 2 p < S 0 0 ∧ 2 ≤ D 3 p ∧ D 3 p ≤ 5)) ∧ (1 ≤ D 1 p ∧ D 1 p ≤ 80) ∧ (0 ≤ fstS D p ∧ fstS D p + D 1 p ≤ tot D) := by
  obtain ⟨a, b, c⟩ := h.1.2.1 p p0 hp
  have d := h.2.2.2.1.2.1 p p0 hp
  have e := fst_bd h.2.2.2.1 (p := p) p0 (by omega)
  have f := fst_bd h.2.2.2.1 (p := p + 1) (by omega) (by omega)
  have g := fst_s D (p := p) p0
  have n := h.n
  exact ⟨a, b, c, h.2.2.2.1.2.2.2.1 p p0 hp, by omega, by omega⟩
set_option maxHeartbeats 4000000 in
set_option maxRecDepth 100000 in
theorem RM.st {σ D S : Sto} (h : RM σ D S) : (σ 72 585 = D 5 0 ∧ σ 72 586 = D 5 1 ∧ σ 72 587 = D 5 2 ∧ σ 72 588 = D 5 3 ∧ σ 72 589 = D 5 4 ∧ σ 72 590 = D 5 5) ∧ (20 ≤ D 5 0 ∧ D 5 0 ≤ 99) ∧ (4 ≤ D 5 1 ∧ D 5 1 ≤ 20) ∧ (2 ≤ D 5 2 ∧ D 5 2 ≤ 20) ∧ (0 ≤ D 5 3 ∧ D 5 3 ≤ 9) ∧ (0 ≤ D 5 4 ∧ D 5 4 ≤ 1) ∧ (0 ≤ D 5 5 ∧ D 5 5 ≤ 2) := by
  have q := h.1.2.2.2
  exact ⟨⟨q 0 (by decide) (by decide), q 1 (by decide) (by decide), q 2 (by decide) (by decide), q 3 (by decide) (by decide), q 4 (by decide) (by decide), q 5 (by decide) (by decide)⟩, h.2.2.2.1.2.2.2.2.2⟩
set_option maxHeartbeats 4000000 in
set_option maxRecDepth 100000 in
theorem m_in {σ : Sto} {v a b : Int} : CtI yX7_in cX7_in 6 (some .boolean) 0 [mL v, mL a, mL b] σ (fun z σ' => ((z = 1 ∧ a ≤ v ∧ v ≤ b) ∨ (z = 0 ∧ (v < a ∨ b < v))) ∧ σ' = σ) := by
  refine ct_of rfl [some (mL v), none, some (mL a), none, some (mL b), none] (Nat.le_of_ble_eq_true rfl) rfl (fun hσ => ?_)
  show Wp cX7_in RX7 (some .boolean) 0 0 [some (mL v), none, some (mL a), none, some (mL b), none] [] _ _
  refine wp_lload_n (pc := 0) dX7_in_0 rfl rfl ?_
  refine wp_lload_n (pc := 1) dX7_in_1 rfl rfl ?_
  refine wp_lcmp_lt (pc := 2) 17 dX7_in_2 dX7_in_3 (by decide) (fun c_2 => ?_) (fun c_2 => ?_)
  · refine wp_iconst (pc := 17) dX7_in_17 (by decide) ?_
    refine wp_zreturn (pc := 18) dX7_in_18 rfl (by omega) ?_
    exact ⟨_, rfl, by omega, rfl⟩
  · refine wp_lload_n (pc := 6) dX7_in_6 rfl rfl ?_
    refine wp_lload (pc := 7) dX7_in_7 rfl ?_
    refine wp_lcmp_gt (pc := 9) 17 dX7_in_9 dX7_in_10 (by decide) (fun c_9 => ?_) (fun c_9 => ?_)
    · refine wp_iconst (pc := 17) dX7_in_17 (by decide) ?_
      refine wp_zreturn (pc := 18) dX7_in_18 rfl (by omega) ?_
      exact ⟨_, rfl, by omega, rfl⟩
    · refine wp_iconst (pc := 13) dX7_in_13 (by decide) ?_
      refine wp_goto (pc := 14) 18 dX7_in_14 (by decide) ?_
      refine wp_zreturn (pc := 18) dX7_in_18 rfl (by omega) ?_
      exact ⟨_, rfl, by omega, rfl⟩
set_option maxHeartbeats 4000000 in
set_option maxRecDepth 100000 in
theorem m_leastOf {σ : Sto} {k : Int} (hk : 0 ≤ k ∧ k < 6) : CtI yX7_leastOf cX7_leastOf 1 (some .int) 0 [mI k] σ (fun z σ' => z = stV 0 k ∧ σ' = σ) := by
  refine ct_of rfl [some (mI k)] (Nat.le_of_ble_eq_true rfl) rfl (fun hσ => ?_)
  show Wp cX7_leastOf RX7 (some .int) 0 0 [some (mI k)] [] _ _
  have hT := stT (w := k + 8) (by omega) (by omega)
  rw [show k + 8 - 8 = k by omega] at hT
  refine wp_iload_n (pc := 0) dX7_leastOf_0 rfl rfl ?_
  refine wp_if_ne (pc := 1) 9 dX7_leastOf_1 (by decide) (fun c_1 => ?_) (fun c_1 => ?_)
  · refine wp_iload_n (pc := 9) dX7_leastOf_9 rfl rfl ?_
    refine wp_iconst (pc := 10) dX7_leastOf_10 (by decide) ?_
    refine wp_icmp_ne (pc := 11) 18 dX7_leastOf_11 (by decide) (fun c_11 => ?_) (fun c_11 => ?_)
    · refine wp_iload_n (pc := 18) dX7_leastOf_18 rfl rfl ?_
      refine wp_iconst (pc := 19) dX7_leastOf_19 (by decide) ?_
      refine wp_icmp_ne (pc := 20) 27 dX7_leastOf_20 (by decide) (fun c_20 => ?_) (fun c_20 => ?_)
      · refine wp_iconst (pc := 27) dX7_leastOf_27 (by decide) ?_
        refine wp_ireturn (pc := 28) dX7_leastOf_28 rfl ?_
        exact ⟨_, rfl, by omega, rfl⟩
      · refine wp_iconst (pc := 23) dX7_leastOf_23 (by decide) ?_
        refine wp_goto (pc := 24) 28 dX7_leastOf_24 (by decide) ?_
        refine wp_ireturn (pc := 28) dX7_leastOf_28 rfl ?_
        exact ⟨_, rfl, by omega, rfl⟩
    · refine wp_iconst (pc := 14) dX7_leastOf_14 (by decide) ?_
      refine wp_goto (pc := 15) 28 dX7_leastOf_15 (by decide) ?_
      refine wp_ireturn (pc := 28) dX7_leastOf_28 rfl ?_
      exact ⟨_, rfl, by omega, rfl⟩
  · refine wp_bipush (pc := 4) dX7_leastOf_4 (by decide) (by decide) ?_
    refine wp_goto (pc := 6) 28 dX7_leastOf_6 (by decide) ?_
    refine wp_ireturn (pc := 28) dX7_leastOf_28 rfl ?_
    exact ⟨_, rfl, by omega, rfl⟩
set_option maxHeartbeats 4000000 in
set_option maxRecDepth 100000 in
theorem m_mostOf {σ : Sto} {k : Int} (hk : 0 ≤ k ∧ k < 6) : CtI yX7_mostOf cX7_mostOf 1 (some .int) 0 [mI k] σ (fun z σ' => z = stV 1 k ∧ σ' = σ) := by
  refine ct_of rfl [some (mI k)] (Nat.le_of_ble_eq_true rfl) rfl (fun hσ => ?_)
  show Wp cX7_mostOf RX7 (some .int) 0 0 [some (mI k)] [] _ _
  have hT := stT (w := k + 8) (by omega) (by omega)
  rw [show k + 8 - 8 = k by omega] at hT
  refine wp_iload_n (pc := 0) dX7_mostOf_0 rfl rfl ?_
  refine wp_if_ne (pc := 1) 9 dX7_mostOf_1 (by decide) (fun c_1 => ?_) (fun c_1 => ?_)
  · refine wp_iload_n (pc := 9) dX7_mostOf_9 rfl rfl ?_
    refine wp_iconst (pc := 10) dX7_mostOf_10 (by decide) ?_
    refine wp_icmp_ge (pc := 11) 19 dX7_mostOf_11 (by decide) (fun c_11 => ?_) (fun c_11 => ?_)
    · refine wp_iload_n (pc := 19) dX7_mostOf_19 rfl rfl ?_
      refine wp_iconst (pc := 20) dX7_mostOf_20 (by decide) ?_
      refine wp_icmp_ne (pc := 21) 29 dX7_mostOf_21 (by decide) (fun c_21 => ?_) (fun c_21 => ?_)
      · refine wp_iload_n (pc := 29) dX7_mostOf_29 rfl rfl ?_
        refine wp_iconst (pc := 30) dX7_mostOf_30 (by decide) ?_
        refine wp_icmp_ne (pc := 31) 38 dX7_mostOf_31 (by decide) (fun c_31 => ?_) (fun c_31 => ?_)
        · refine wp_iconst (pc := 38) dX7_mostOf_38 (by decide) ?_
          refine wp_ireturn (pc := 39) dX7_mostOf_39 rfl ?_
          exact ⟨_, rfl, by omega, rfl⟩
        · refine wp_iconst (pc := 34) dX7_mostOf_34 (by decide) ?_
          refine wp_goto (pc := 35) 39 dX7_mostOf_35 (by decide) ?_
          refine wp_ireturn (pc := 39) dX7_mostOf_39 rfl ?_
          exact ⟨_, rfl, by omega, rfl⟩
      · refine wp_bipush (pc := 24) dX7_mostOf_24 (by decide) (by decide) ?_
        refine wp_goto (pc := 26) 39 dX7_mostOf_26 (by decide) ?_
        refine wp_ireturn (pc := 39) dX7_mostOf_39 rfl ?_
        exact ⟨_, rfl, by omega, rfl⟩
    · refine wp_bipush (pc := 14) dX7_mostOf_14 (by decide) (by decide) ?_
      refine wp_goto (pc := 16) 39 dX7_mostOf_16 (by decide) ?_
      refine wp_ireturn (pc := 39) dX7_mostOf_39 rfl ?_
      exact ⟨_, rfl, by omega, rfl⟩
  · refine wp_bipush (pc := 4) dX7_mostOf_4 (by decide) (by decide) ?_
    refine wp_goto (pc := 6) 39 dX7_mostOf_6 (by decide) ?_
    refine wp_ireturn (pc := 39) dX7_mostOf_39 rfl ?_
    exact ⟨_, rfl, by omega, rfl⟩
set_option maxHeartbeats 4000000 in
set_option maxRecDepth 100000 in
theorem m_parShape {σ D S : Sto} {p : Int} (h : RM σ D S) (hp : 0 ≤ p ∧ p < D 0 0) : CtI yX7_parShape cX7_parShape 2 (some .int) 0 [mR 71, mI p] σ (fun z σ' => z = D 2 p ∧ σ' = σ) := by
  refine ct_of rfl [some (mR 71), some (mI p)] (Nat.le_of_ble_eq_true rfl) rfl (fun hσ => ?_)
  show Wp cX7_parShape RX7 (some .int) 0 0 [some (mR 71), some (mI p)] [] _ _
  have n := h.n
  have q := h.p hp.1 hp.2
  refine wp_aload_n (pc := 0) dX7_parShape_0 rfl rfl ?_
  refine wp_getR (pc := 1) (q := 72) dX7_parShape_1 fl_X7_7 rfl ?_
  refine wp_iconst (pc := 4) dX7_parShape_4 (by decide) ?_
  refine wp_iconst (pc := 5) dX7_parShape_5 (by decide) ?_
  refine wp_iload_n (pc := 6) dX7_parShape_6 rfl rfl ?_
  refine wp_imul (pc := 7) dX7_parShape_7 (by omega) ?_
  refine wp_iadd (pc := 8) dX7_parShape_8 (by omega) ?_
  refine wp_iald (pc := 9) 591 dX7_parShape_9 rfl (by omega) ?_
  refine wp_ireturn (pc := 10) dX7_parShape_10 rfl ?_
  exact ⟨_, rfl, by omega, rfl⟩
set_option maxHeartbeats 4000000 in
set_option maxRecDepth 100000 in
theorem m_parDrop {σ D S : Sto} {p : Int} (h : RM σ D S) (hp : 0 ≤ p ∧ p < D 0 0) : CtI yX7_parDrop cX7_parDrop 2 (some .int) 0 [mR 71, mI p] σ (fun z σ' => z = D 3 p ∧ σ' = σ) := by
  refine ct_of rfl [some (mR 71), some (mI p)] (Nat.le_of_ble_eq_true rfl) rfl (fun hσ => ?_)
  show Wp cX7_parDrop RX7 (some .int) 0 0 [some (mR 71), some (mI p)] [] _ _
  have n := h.n
  have q := h.p hp.1 hp.2
  refine wp_aload_n (pc := 0) dX7_parDrop_0 rfl rfl ?_
  refine wp_getR (pc := 1) (q := 72) dX7_parDrop_1 fl_X7_7 rfl ?_
  refine wp_iconst (pc := 4) dX7_parDrop_4 (by decide) ?_
  refine wp_iconst (pc := 5) dX7_parDrop_5 (by decide) ?_
  refine wp_iload_n (pc := 6) dX7_parDrop_6 rfl rfl ?_
  refine wp_imul (pc := 7) dX7_parDrop_7 (by omega) ?_
  refine wp_iadd (pc := 8) dX7_parDrop_8 (by omega) ?_
  refine wp_iconst (pc := 9) dX7_parDrop_9 (by decide) ?_
  refine wp_iadd (pc := 10) dX7_parDrop_10 (by omega) ?_
  refine wp_iald (pc := 11) 591 dX7_parDrop_11 rfl (by omega) ?_
  refine wp_ireturn (pc := 12) dX7_parDrop_12 rfl ?_
  exact ⟨_, rfl, by omega, rfl⟩
set_option maxHeartbeats 4000000 in
set_option maxRecDepth 100000 in
theorem m_parWords {σ D S : Sto} {p : Int} (h : RM σ D S) (hp : 0 ≤ p ∧ p < D 0 0) : CtI yX7_parWords cX7_parWords 2 (some .int) 0 [mR 71, mI p] σ (fun z σ' => z = D 1 p ∧ σ' = σ) := by
  refine ct_of rfl [some (mR 71), some (mI p)] (Nat.le_of_ble_eq_true rfl) rfl (fun hσ => ?_)
  show Wp cX7_parWords RX7 (some .int) 0 0 [some (mR 71), some (mI p)] [] _ _
  have n := h.n
  have q := h.p hp.1 hp.2
  refine wp_aload_n (pc := 0) dX7_parWords_0 rfl rfl ?_
  refine wp_getR (pc := 1) (q := 72) dX7_parWords_1 fl_X7_7 rfl ?_
  refine wp_iconst (pc := 4) dX7_parWords_4 (by decide) ?_
  refine wp_iconst (pc := 5) dX7_parWords_5 (by decide) ?_
  refine wp_iload_n (pc := 6) dX7_parWords_6 rfl rfl ?_
  refine wp_imul (pc := 7) dX7_parWords_7 (by omega) ?_
  refine wp_iadd (pc := 8) dX7_parWords_8 (by omega) ?_
  refine wp_iconst (pc := 9) dX7_parWords_9 (by decide) ?_
  refine wp_iadd (pc := 10) dX7_parWords_10 (by omega) ?_
  refine wp_iald (pc := 11) 591 dX7_parWords_11 rfl (by omega) ?_
  refine wp_ireturn (pc := 12) dX7_parWords_12 rfl ?_
  exact ⟨_, rfl, by omega, rfl⟩
set_option maxHeartbeats 4000000 in
set_option maxRecDepth 100000 in
theorem m_firstWord {σ D S : Sto} {p : Int} (h : RM σ D S) (hp : 0 ≤ p ∧ p ≤ D 0 0) : CtI yX7_firstWord cX7_firstWord 4 (some .int) 1 [mR 71, mI p] σ (fun z σ' => z = fstS D p ∧ σ' = σ) := by
  refine ct_of rfl [some (mR 71), some (mI p), none, none] (Nat.le_of_ble_eq_true rfl) rfl (fun hσ => ?_)
  show Wp cX7_firstWord RX7 (some .int) 1 0 [some (mR 71), some (mI p), none, none] [] _ _
  have n := h.n
  have lp : ∀ q, q ≤ p → 0 ≤ q → Wp cX7_firstWord RX7 (some .int) 1 4 [some (mR 71), some (mI p), some (mI (fstS D q)), some (mI q)] [] σ (fun v σ' => ∃ z, v = some (mI z) ∧ (fun z σ' => z = fstS D p ∧ σ' = σ) z σ') := by
    refine up_ind p (fun q hq ih q0 => ?_)
    have b := fst_bd h.2.2.2.1 (p := q) q0 (by omega)
    have s := fst_s D (p := q) q0
    have hq2 := fun w => h.p q0 (show q < D 0 0 from w)
    refine wp_iload_n (pc := 4) dX7_firstWord_4 rfl rfl ?_
    refine wp_iload_n (pc := 5) dX7_firstWord_5 rfl rfl ?_
    refine wp_icmp_ge (pc := 6) 23 dX7_firstWord_6 (by decide) (fun c_6 => ?_) (fun c_6 => ?_)
    · refine wp_iload_n (pc := 23) dX7_firstWord_23 rfl rfl ?_
      refine wp_ireturn (pc := 24) dX7_firstWord_24 rfl ?_
      rw [show q = p by omega]
      exact ⟨_, rfl, rfl, rfl⟩
    · have hq3 := hq2 (by omega)
      refine wp_iload_n (pc := 9) dX7_firstWord_9 rfl rfl ?_
      refine wp_aload_n (pc := 10) dX7_firstWord_10 rfl rfl ?_
      refine wp_iload_n (pc := 11) dX7_firstWord_11 rfl rfl ?_
      refine wp_cvI1 (pc := 12) dX7_firstWord_12 mv_X7_171 (m_parWords h (by omega)) (Nat.le_of_ble_eq_true rfl) rfl (Nat.le_of_ble_eq_true rfl) (fun z_12 σ_12 h_12 => ?_)
      obtain ⟨rfl, e_12⟩ := h_12; have e2_12 := e_12.symm; subst e2_12
      refine wp_iadd (pc := 15) dX7_firstWord_15 (by omega) ?_
      refine wp_istore_n (pc := 16) dX7_firstWord_16 rfl (Nat.le_of_ble_eq_true rfl) rfl ?_
      refine wp_iinc (pc := 17) dX7_firstWord_17 rfl rfl (by omega) ?_
      refine wp_goto (pc := 20) 4 dX7_firstWord_20 (by decide) ?_
      rw [← s]
      exact ih (by omega) (by omega)
  refine wp_iconst (pc := 0) dX7_firstWord_0 (by decide) ?_
  refine wp_istore_n (pc := 1) dX7_firstWord_1 rfl (Nat.le_of_ble_eq_true rfl) rfl ?_
  refine wp_iconst (pc := 2) dX7_firstWord_2 (by decide) ?_
  refine wp_istore_n (pc := 3) dX7_firstWord_3 rfl (Nat.le_of_ble_eq_true rfl) rfl ?_
  exact lp 0 (by omega) (by omega)
set_option maxHeartbeats 4000000 in
set_option maxRecDepth 100000 in
theorem m_allWords {σ D S : Sto} (h : RM σ D S) : CtI yX7_allWords cX7_allWords 1 (some .int) 2 [mR 71] σ (fun z σ' => z = tot D ∧ σ' = σ) := by
  refine ct_of rfl [some (mR 71)] (Nat.le_of_ble_eq_true rfl) rfl (fun hσ => ?_)
  show Wp cX7_allWords RX7 (some .int) 2 0 [some (mR 71)] [] _ _
  have n := h.n
  refine wp_aload_n (pc := 0) dX7_allWords_0 rfl rfl ?_
  refine wp_aload_n (pc := 1) dX7_allWords_1 rfl rfl ?_
  refine wp_getR (pc := 2) (q := 72) dX7_allWords_2 fl_X7_7 rfl ?_
  refine wp_iconst (pc := 5) dX7_allWords_5 (by decide) ?_
  refine wp_iald (pc := 6) 591 dX7_allWords_6 rfl (by omega) ?_
  rw [n.2.2.1]
  refine wp_cvI1 (pc := 7) dX7_allWords_7 mv_X7_201 (m_firstWord h (by omega)) (Nat.le_of_ble_eq_true rfl) rfl (Nat.le_of_ble_eq_true rfl) (fun z_7 σ_7 h_7 => ?_)
  obtain ⟨rfl, e_7⟩ := h_7; have e2_7 := e_7.symm; subst e2_7
  refine wp_ireturn (pc := 10) dX7_allWords_10 rfl ?_
  exact ⟨_, rfl, rfl, rfl⟩
set_option maxHeartbeats 4000000 in
set_option maxRecDepth 100000 in
theorem m_isShape {σ D S : Sto} {g : Int} (h : RM σ D S) : CtI yX7_isShape cX7_isShape 2 (some .boolean) 1 [mR 71, mI g] σ (fun z σ' => ((z = 1 ∧ 0 ≤ g ∧ g < S 0 0) ∨ (z = 0 ∧ (g < 0 ∨ S 0 0 ≤ g))) ∧ σ' = σ) := by
  refine ct_of rfl [some (mR 71), some (mI g)] (Nat.le_of_ble_eq_true rfl) rfl (fun hσ => ?_)
  show Wp cX7_isShape RX7 (some .boolean) 1 0 [some (mR 71), some (mI g)] [] _ _
  have n := h.n
  refine wp_iload_n (pc := 0) dX7_isShape_0 rfl rfl ?_
  refine wp_i2l (pc := 1) dX7_isShape_1 ?_
  refine wp_lconst (pc := 2) (z := 0) dX7_isShape_2 (by decide) (by decide) ?_
  refine wp_aload_n (pc := 3) dX7_isShape_3 rfl rfl ?_
  refine wp_getI (pc := 4) 3 dX7_isShape_4 fl_X7_168 rfl rfl ?_
  refine wp_iconst (pc := 7) dX7_isShape_7 (by decide) ?_
  refine wp_isub (pc := 8) dX7_isShape_8 (by omega) ?_
  refine wp_i2l (pc := 9) dX7_isShape_9 ?_
  refine wp_csI3 (pc := 10) dX7_isShape_10 ms_X7_73 m_in (Nat.le_of_ble_eq_true rfl) (Nat.le_of_ble_eq_true rfl) (fun z_10 σ_10 h_10 => ?_)
  obtain ⟨y_10, e_10⟩ := h_10; have e2_10 := e_10.symm; subst e2_10
  refine wp_zreturn (pc := 13) dX7_isShape_13 rfl (by omega) ?_
  exact ⟨_, rfl, by omega, rfl⟩
set_option maxHeartbeats 4000000 in
set_option maxRecDepth 100000 in
theorem m_isPar {σ D S : Sto} {p : Int} (h : RM σ D S) : CtI yX7_isPar cX7_isPar 2 (some .boolean) 1 [mR 71, mI p] σ (fun z σ' => ((z = 1 ∧ 0 ≤ p ∧ p < D 0 0) ∨ (z = 0 ∧ (p < 0 ∨ D 0 0 ≤ p))) ∧ σ' = σ) := by
  refine ct_of rfl [some (mR 71), some (mI p)] (Nat.le_of_ble_eq_true rfl) rfl (fun hσ => ?_)
  show Wp cX7_isPar RX7 (some .boolean) 1 0 [some (mR 71), some (mI p)] [] _ _
  have n := h.n
  refine wp_iload_n (pc := 0) dX7_isPar_0 rfl rfl ?_
  refine wp_i2l (pc := 1) dX7_isPar_1 ?_
  refine wp_lconst (pc := 2) (z := 0) dX7_isPar_2 (by decide) (by decide) ?_
  refine wp_aload_n (pc := 3) dX7_isPar_3 rfl rfl ?_
  refine wp_getR (pc := 4) (q := 72) dX7_isPar_4 fl_X7_7 rfl ?_
  refine wp_iconst (pc := 7) dX7_isPar_7 (by decide) ?_
  refine wp_iald (pc := 8) 591 dX7_isPar_8 rfl (by omega) ?_
  refine wp_iconst (pc := 9) dX7_isPar_9 (by decide) ?_
  refine wp_isub (pc := 10) dX7_isPar_10 (by omega) ?_
  refine wp_i2l (pc := 11) dX7_isPar_11 ?_
  refine wp_csI3 (pc := 12) dX7_isPar_12 ms_X7_73 m_in (Nat.le_of_ble_eq_true rfl) (Nat.le_of_ble_eq_true rfl) (fun z_12 σ_12 h_12 => ?_)
  obtain ⟨y_12, e_12⟩ := h_12; have e2_12 := e_12.symm; subst e2_12
  refine wp_zreturn (pc := 15) dX7_isPar_15 rfl (by omega) ?_
  exact ⟨_, rfl, by omega, rfl⟩
set_option maxHeartbeats 4000000 in
set_option maxRecDepth 100000 in
theorem m_heightOf {σ D S : Sto} {p : Int} (h : RM σ D S) (hp : 0 ≤ p ∧ p < D 0 0) : CtI yX7_heightOf cX7_heightOf 2 (some .int) 1 [mR 71, mI p] σ (fun z σ' => z = (if D 2 p < 0 then 0 else hgt D p) ∧ σ' = σ) := by
  refine ct_of rfl [some (mR 71), some (mI p)] (Nat.le_of_ble_eq_true rfl) rfl (fun hσ => ?_)
  show Wp cX7_heightOf RX7 (some .int) 1 0 [some (mR 71), some (mI p)] [] _ _
  have n := h.n
  have q := h.p hp.1 hp.2
  have t := h.st
  have hh := fun w => hgt_bd h.2.2.2.1 hp.1 hp.2 (show 0 ≤ D 2 p from w)
  refine wp_aload_n (pc := 0) dX7_heightOf_0 rfl rfl ?_
  refine wp_iload_n (pc := 1) dX7_heightOf_1 rfl rfl ?_
  refine wp_cvI1 (pc := 2) dX7_heightOf_2 mv_X7_174 (m_parShape h (by omega)) (Nat.le_of_ble_eq_true rfl) rfl (Nat.le_of_ble_eq_true rfl) (fun z_2 σ_2 h_2 => ?_)
  obtain ⟨rfl, e_2⟩ := h_2; have e2_2 := e_2.symm; subst e2_2
  refine wp_bipush (pc := 5) dX7_heightOf_5 (by decide) (by decide) ?_
  refine wp_icmp_ne (pc := 7) 14 dX7_heightOf_7 (by decide) (fun c_7 => ?_) (fun c_7 => ?_)
  · have hh2 := hh (by omega)
    refine wp_aload_n (pc := 14) dX7_heightOf_14 rfl rfl ?_
    refine wp_iload_n (pc := 15) dX7_heightOf_15 rfl rfl ?_
    refine wp_cvI1 (pc := 16) dX7_heightOf_16 mv_X7_177 (m_parDrop h (by omega)) (Nat.le_of_ble_eq_true rfl) rfl (Nat.le_of_ble_eq_true rfl) (fun z_16 σ_16 h_16 => ?_)
    obtain ⟨rfl, e_16⟩ := h_16; have e2_16 := e_16.symm; subst e2_16
    refine wp_iconst (pc := 19) dX7_heightOf_19 (by decide) ?_
    refine wp_isub (pc := 20) dX7_heightOf_20 (by omega) ?_
    refine wp_aload_n (pc := 21) dX7_heightOf_21 rfl rfl ?_
    refine wp_getR (pc := 22) (q := 72) dX7_heightOf_22 fl_X7_7 rfl ?_
    refine wp_sipush (pc := 25) dX7_heightOf_25 (by decide) (by decide) ?_
    refine wp_iald (pc := 28) 591 dX7_heightOf_28 rfl (by omega) ?_
    rw [t.1.2.1]
    refine wp_imul (pc := 29) dX7_heightOf_29 (by omega) ?_
    refine wp_aload_n (pc := 30) dX7_heightOf_30 rfl rfl ?_
    refine wp_getR (pc := 31) (q := 72) dX7_heightOf_31 fl_X7_7 rfl ?_
    refine wp_sipush (pc := 34) dX7_heightOf_34 (by decide) (by decide) ?_
    refine wp_iald (pc := 37) 591 dX7_heightOf_37 rfl (by omega) ?_
    rw [t.1.2.2.1]
    refine wp_iadd (pc := 38) dX7_heightOf_38 (by omega) ?_
    refine wp_ireturn (pc := 39) dX7_heightOf_39 rfl ?_
    first
      | exact ⟨_, rfl, by rw [if_neg (by omega)]; rfl, rfl⟩
      | exact ⟨_, rfl, by rw [if_pos (by omega)], rfl⟩
  · refine wp_iconst (pc := 10) dX7_heightOf_10 (by decide) ?_
    refine wp_goto (pc := 11) 39 dX7_heightOf_11 (by decide) ?_
    refine wp_ireturn (pc := 39) dX7_heightOf_39 rfl ?_
    first
      | exact ⟨_, rfl, by rw [if_neg (by omega)]; rfl, rfl⟩
      | exact ⟨_, rfl, by rw [if_pos (by omega)], rfl⟩
set_option maxHeartbeats 4000000 in
set_option maxRecDepth 100000 in
theorem m_ofShape {σ D S : Sto} {p k : Int} (h : RM σ D S) (hp : 0 ≤ p ∧ p < D 0 0) (hs : 0 ≤ D 2 p) (hk : 0 ≤ k ∧ k < 19) : CtI yX7_ofShape cX7_ofShape 3 (some .int) 1 [mR 71, mI p, mI k] σ (fun z σ' => z = σ 74 (19 * D 2 p + k) ∧ σ' = σ) := by
  refine ct_of rfl [some (mR 71), some (mI p), some (mI k)] (Nat.le_of_ble_eq_true rfl) rfl (fun hσ => ?_)
  show Wp cX7_ofShape RX7 (some .int) 1 0 [some (mR 71), some (mI p), some (mI k)] [] _ _
  have n := h.n
  have q := h.p hp.1 hp.2
  refine wp_aload_n (pc := 0) dX7_ofShape_0 rfl rfl ?_
  refine wp_getR (pc := 1) (q := 74) dX7_ofShape_1 fl_X7_16 rfl ?_
  refine wp_bipush (pc := 4) dX7_ofShape_4 (by decide) (by decide) ?_
  refine wp_aload_n (pc := 6) dX7_ofShape_6 rfl rfl ?_
  refine wp_iload_n (pc := 7) dX7_ofShape_7 rfl rfl ?_
  refine wp_cvI1 (pc := 8) dX7_ofShape_8 mv_X7_174 (m_parShape h (by omega)) (Nat.le_of_ble_eq_true rfl) rfl (Nat.le_of_ble_eq_true rfl) (fun z_8 σ_8 h_8 => ?_)
  obtain ⟨rfl, e_8⟩ := h_8; have e2_8 := e_8.symm; subst e2_8
  refine wp_imul (pc := 11) dX7_ofShape_11 (by omega) ?_
  refine wp_iload_n (pc := 12) dX7_ofShape_12 rfl rfl ?_
  refine wp_iadd (pc := 13) dX7_ofShape_13 (by omega) ?_
  refine wp_iald (pc := 14) 114 dX7_ofShape_14 rfl (by omega) ?_
  refine wp_ireturn (pc := 15) dX7_ofShape_15 rfl ?_
  exact ⟨_, rfl, rfl, rfl⟩
set_option maxHeartbeats 4000000 in
set_option maxRecDepth 100000 in
theorem RM.g {σ D S : Sto} (h : RM σ D S) {p : Int} (p0 : 0 ≤ p) (hp : p < D 0 0) (hs : 0 ≤ D 2 p) : σ 74 (19 * D 2 p + 1) = S 2 (D 2 p) ∧ σ 74 (19 * D 2 p + 2) = S 3 (D 2 p) ∧ (1 ≤ S 2 (D 2 p) ∧ S 2 (D 2 p) ≤ 60) ∧ (1 ≤ S 3 (D 2 p) ∧ S 3 (D 2 p) ≤ 8) ∧ ∀ i, 0 ≤ i → i < S 3 (D 2 p) → σ 74 (19 * D 2 p + (3 + i)) = S 4 (D 2 p * 8 + i) ∧ σ 74 (19 * D 2 p + (11 + i)) = S 5 (D 2 p * 8 + i) := by
  have q := h.p p0 hp
  obtain ⟨a, b, c, d⟩ := h.2.1 (D 2 p) hs (by omega)
  obtain ⟨e, f, g, i⟩ := h.2.2.2.2.2 (D 2 p) hs (by omega)
  exact ⟨b, c, f, g, d⟩
set_option maxHeartbeats 4000000 in
set_option maxRecDepth 100000 in
theorem m_drawnBegin {σ D S : Sto} {p i : Int} (h : RM σ D S) (hp : 0 ≤ p ∧ p < D 0 0) (hs : 0 ≤ D 2 p) (hi : 0 ≤ i ∧ i ≤ S 3 (D 2 p)) : CtI yX7_drawnBegin cX7_drawnBegin 3 (some .int) 2 [mR 71, mI p, mI i] σ (fun z σ' => z = (if i = S 3 (D 2 p) then hgt D p else dbg D S p i) ∧ σ' = σ) := by
  refine ct_of rfl [some (mR 71), some (mI p), some (mI i)] (Nat.le_of_ble_eq_true rfl) rfl (fun hσ => ?_)
  show Wp cX7_drawnBegin RX7 (some .int) 2 0 [some (mR 71), some (mI p), some (mI i)] [] _ _
  obtain ⟨g1, g2, g3, g4, g5⟩ := h.g hp.1 hp.2 hs
  have hh := hgt_bd h.2.2.2.1 hp.1 hp.2 hs
  have hd := fun w => dbg_bd h.2.2.2.1 h.2.2.2.2 hp.1 hp.2 hs hi.1 (show i < S 3 (D 2 p) from w)
  refine wp_iload_n (pc := 0) dX7_drawnBegin_0 rfl rfl ?_
  refine wp_aload_n (pc := 1) dX7_drawnBegin_1 rfl rfl ?_
  refine wp_iload_n (pc := 2) dX7_drawnBegin_2 rfl rfl ?_
  refine wp_iconst (pc := 3) dX7_drawnBegin_3 (by decide) ?_
  refine wp_cvI2 (pc := 4) dX7_drawnBegin_4 mv_X7_180 (m_ofShape h (by omega) (by omega) (by omega)) (Nat.le_of_ble_eq_true rfl) rfl (Nat.le_of_ble_eq_true rfl) (fun z_4 σ_4 h_4 => ?_)
  obtain ⟨rfl, e_4⟩ := h_4; have e2_4 := e_4.symm; subst e2_4
  refine wp_icmp_ne (pc := 7) 18 dX7_drawnBegin_7 (by decide) (fun c_7 => ?_) (fun c_7 => ?_)
  · have hi3 : i < S 3 (D 2 p) := by omega
    have hd3 := hd hi3
    have g6 := (g5 i hi.1 hi3).1
    refine wp_aload_n (pc := 18) dX7_drawnBegin_18 rfl rfl ?_
    refine wp_iload_n (pc := 19) dX7_drawnBegin_19 rfl rfl ?_
    refine wp_iconst (pc := 20) dX7_drawnBegin_20 (by decide) ?_
    refine wp_iload_n (pc := 21) dX7_drawnBegin_21 rfl rfl ?_
    refine wp_iadd (pc := 22) dX7_drawnBegin_22 (by omega) ?_
    refine wp_cvI2 (pc := 23) dX7_drawnBegin_23 mv_X7_180 (m_ofShape h (by omega) (by omega) (by omega)) (Nat.le_of_ble_eq_true rfl) rfl (Nat.le_of_ble_eq_true rfl) (fun z_23 σ_23 h_23 => ?_)
    obtain ⟨rfl, e_23⟩ := h_23; have e2_23 := e_23.symm; subst e2_23
    rw [g6]
    refine wp_aload_n (pc := 26) dX7_drawnBegin_26 rfl rfl ?_
    refine wp_iload_n (pc := 27) dX7_drawnBegin_27 rfl rfl ?_
    refine wp_cvI1 (pc := 28) dX7_drawnBegin_28 mv_X7_183 (m_heightOf h (by omega)) (Nat.le_of_ble_eq_true rfl) rfl (Nat.le_of_ble_eq_true rfl) (fun z_28 σ_28 h_28 => ?_)
    obtain ⟨rfl, e_28⟩ := h_28; have e2_28 := e_28.symm; subst e2_28
    rw [if_neg (show ¬ D 2 p < 0 by omega)]
    refine wp_imul (pc := 31) dX7_drawnBegin_31 (by omega) ?_
    refine wp_aload_n (pc := 32) dX7_drawnBegin_32 rfl rfl ?_
    refine wp_iload_n (pc := 33) dX7_drawnBegin_33 rfl rfl ?_
    refine wp_iconst (pc := 34) dX7_drawnBegin_34 (by decide) ?_
    refine wp_cvI2 (pc := 35) dX7_drawnBegin_35 mv_X7_180 (m_ofShape h (by omega) (by omega) (by omega)) (Nat.le_of_ble_eq_true rfl) rfl (Nat.le_of_ble_eq_true rfl) (fun z_35 σ_35 h_35 => ?_)
    obtain ⟨rfl, e_35⟩ := h_35; have e2_35 := e_35.symm; subst e2_35
    rw [g1]
    refine wp_idiv (pc := 38) dX7_drawnBegin_38 (by exact hd3.2.2.1) (by omega) ?_
    refine wp_ireturn (pc := 39) dX7_drawnBegin_39 rfl ?_
    first
      | exact ⟨_, rfl, by rw [if_neg (show ¬ D 2 p < 0 by omega), if_pos (show i = S 3 (D 2 p) by omega)], rfl⟩
      | exact ⟨_, rfl, by rw [if_neg (by omega)]; rfl, rfl⟩
  · refine wp_aload_n (pc := 10) dX7_drawnBegin_10 rfl rfl ?_
    refine wp_iload_n (pc := 11) dX7_drawnBegin_11 rfl rfl ?_
    refine wp_cvI1 (pc := 12) dX7_drawnBegin_12 mv_X7_183 (m_heightOf h (by omega)) (Nat.le_of_ble_eq_true rfl) rfl (Nat.le_of_ble_eq_true rfl) (fun z_12 σ_12 h_12 => ?_)
    obtain ⟨rfl, e_12⟩ := h_12; have e2_12 := e_12.symm; subst e2_12
    refine wp_goto (pc := 15) 39 dX7_drawnBegin_15 (by decide) ?_
    refine wp_ireturn (pc := 39) dX7_drawnBegin_39 rfl ?_
    first
      | exact ⟨_, rfl, by rw [if_neg (show ¬ D 2 p < 0 by omega), if_pos (show i = S 3 (D 2 p) by omega)], rfl⟩
      | exact ⟨_, rfl, by rw [if_neg (by omega)]; rfl, rfl⟩
set_option maxHeartbeats 4000000 in
set_option maxRecDepth 100000 in
theorem m_drawnExtent {σ D S : Sto} {p i : Int} (h : RM σ D S) (hp : 0 ≤ p ∧ p < D 0 0) (hs : 0 ≤ D 2 p) (hi : 0 ≤ i ∧ i < S 3 (D 2 p)) : CtI yX7_drawnExtent cX7_drawnExtent 3 (some .int) 2 [mR 71, mI p, mI i] σ (fun z σ' => z = dex D S p i ∧ σ' = σ) := by
  refine ct_of rfl [some (mR 71), some (mI p), some (mI i)] (Nat.le_of_ble_eq_true rfl) rfl (fun hσ => ?_)
  show Wp cX7_drawnExtent RX7 (some .int) 2 0 [some (mR 71), some (mI p), some (mI i)] [] _ _
  obtain ⟨g1, g2, g3, g4, g5⟩ := h.g hp.1 hp.2 hs
  have hh := hgt_bd h.2.2.2.1 hp.1 hp.2 hs
  have hd := dex_bd h.2.2.2.1 h.2.2.2.2 hp.1 hp.2 hs hi.1 hi.2
  have g6 := (g5 i hi.1 hi.2).2
  refine wp_aload_n (pc := 0) dX7_drawnExtent_0 rfl rfl ?_
  refine wp_iload_n (pc := 1) dX7_drawnExtent_1 rfl rfl ?_
  refine wp_bipush (pc := 2) dX7_drawnExtent_2 (by decide) (by decide) ?_
  refine wp_iload_n (pc := 4) dX7_drawnExtent_4 rfl rfl ?_
  refine wp_iadd (pc := 5) dX7_drawnExtent_5 (by omega) ?_
  refine wp_cvI2 (pc := 6) dX7_drawnExtent_6 mv_X7_180 (m_ofShape h (by omega) (by omega) (by omega)) (Nat.le_of_ble_eq_true rfl) rfl (Nat.le_of_ble_eq_true rfl) (fun z_6 σ_6 h_6 => ?_)
  obtain ⟨rfl, e_6⟩ := h_6; have e2_6 := e_6.symm; subst e2_6
  rw [g6]
  refine wp_aload_n (pc := 9) dX7_drawnExtent_9 rfl rfl ?_
  refine wp_iload_n (pc := 10) dX7_drawnExtent_10 rfl rfl ?_
  refine wp_cvI1 (pc := 11) dX7_drawnExtent_11 mv_X7_183 (m_heightOf h (by omega)) (Nat.le_of_ble_eq_true rfl) rfl (Nat.le_of_ble_eq_true rfl) (fun z_11 σ_11 h_11 => ?_)
  obtain ⟨rfl, e_11⟩ := h_11; have e2_11 := e_11.symm; subst e2_11
  rw [if_neg (show ¬ D 2 p < 0 by omega)]
  refine wp_imul (pc := 14) dX7_drawnExtent_14 (by omega) ?_
  refine wp_aload_n (pc := 15) dX7_drawnExtent_15 rfl rfl ?_
  refine wp_iload_n (pc := 16) dX7_drawnExtent_16 rfl rfl ?_
  refine wp_iconst (pc := 17) dX7_drawnExtent_17 (by decide) ?_
  refine wp_cvI2 (pc := 18) dX7_drawnExtent_18 mv_X7_180 (m_ofShape h (by omega) (by omega) (by omega)) (Nat.le_of_ble_eq_true rfl) rfl (Nat.le_of_ble_eq_true rfl) (fun z_18 σ_18 h_18 => ?_)
  obtain ⟨rfl, e_18⟩ := h_18; have e2_18 := e_18.symm; subst e2_18
  rw [g1]
  refine wp_iadd (pc := 21) dX7_drawnExtent_21 (by omega) ?_
  refine wp_iconst (pc := 22) dX7_drawnExtent_22 (by decide) ?_
  refine wp_isub (pc := 23) dX7_drawnExtent_23 (by omega) ?_
  refine wp_aload_n (pc := 24) dX7_drawnExtent_24 rfl rfl ?_
  refine wp_iload_n (pc := 25) dX7_drawnExtent_25 rfl rfl ?_
  refine wp_iconst (pc := 26) dX7_drawnExtent_26 (by decide) ?_
  refine wp_cvI2 (pc := 27) dX7_drawnExtent_27 mv_X7_180 (m_ofShape h (by omega) (by omega) (by omega)) (Nat.le_of_ble_eq_true rfl) rfl (Nat.le_of_ble_eq_true rfl) (fun z_27 σ_27 h_27 => ?_)
  obtain ⟨rfl, e_27⟩ := h_27; have e2_27 := e_27.symm; subst e2_27
  rw [g1]
  refine wp_idiv (pc := 30) dX7_drawnExtent_30 (by omega) (by omega) ?_
  refine wp_ireturn (pc := 31) dX7_drawnExtent_31 rfl ?_
  exact ⟨_, rfl, rfl, rfl⟩
