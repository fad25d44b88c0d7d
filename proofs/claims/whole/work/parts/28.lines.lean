-- a line of all: whose it is, and what it holds
noncomputable def nL (D S : Sto) : Int := LL D S (D 0 0)
noncomputable def own (D S : Sto) (l : Int) : Int := fnd (fun q => if LB D S q ≤ l ∧ l < LE D S q then 1 else 0) (D 0 0) 1
noncomputable def lF (D S : Sto) (l : Int) : Int := sumI (LC D S (own D S l)) (l - LB D S (own D S l))
noncomputable def lNw (D S : Sto) (l : Int) : Int := LC D S (own D S l) (l - LB D S (own D S l))
noncomputable def lI (D S : Sto) (l : Int) : Int := indS D S (LB D S) (own D S l) l
noncomputable def lR (D S : Sto) (l : Int) : Int := roomS D S (LB D S) (own D S l) l
noncomputable def lU (D S : Sto) (l : Int) : Int := us (wdS D (own D S l)) (lF D S l) (lNw D S l)
noncomputable def lX (D S : Sto) (l : Int) : Int := if own D S l < 0 then 0 else clsS D S (LB D S) (own D S l) l
noncomputable def lO (D S : Sto) (l : Int) : Int := if 0 ≤ own D S l ∧ lR D S l < lU D S l then 1 else 0
set_option maxHeartbeats 4000000 in
set_option maxRecDepth 100000 in
theorem own_in {D S : Sto} (h : OKD D S) {p l : Int} (p0 : 0 ≤ p) (hp : p < D 0 0) (h1 : LB D S p ≤ l) (h2 : l < LE D S p) : own D S l = p := by
  refine fnd_hit p0 hp (fun k k0 k1 => ?_) (by rw [if_pos ⟨h1, h2⟩])
  have h3 := LE_LB h k0 k1 hp
  have h4 := LBb h p0 hp
  rw [if_neg (by omega)]
  omega
set_option maxHeartbeats 4000000 in
set_option maxRecDepth 100000 in
theorem own_bd (D S : Sto) (l : Int) : own D S l = -4 ∨ (0 ≤ own D S l ∧ own D S l < D 0 0) := fnd_bd _ _ _
set_option maxHeartbeats 4000000 in
set_option maxRecDepth 100000 in
theorem own_at {D S : Sto} (h : OKD D S) {l : Int} (h0 : 0 ≤ own D S l) : own D S l < D 0 0 ∧ LB D S (own D S l) ≤ l ∧ l < LE D S (own D S l) := by
  apply Classical.byContradiction
  intro hn
  by_cases hx : ∃ p, 0 ≤ p ∧ p < D 0 0 ∧ LB D S p ≤ l ∧ l < LE D S p
  · obtain ⟨p, p0, p1, p2, p3⟩ := hx
    have := own_in h p0 p1 p2 p3
    rw [this] at hn
    exact hn ⟨p1, p2, p3⟩
  · have : own D S l = -4 := fnd_none (fun k k0 k1 => by rw [if_neg (fun q => hx ⟨k, k0, k1, q.1, q.2⟩)]; omega)
    omega
set_option maxHeartbeats 4000000 in
set_option maxRecDepth 100000 in
theorem nL_bd {D S : Sto} (h : OKD D S) : 0 ≤ nL D S ∧ nL D S ≤ 143 := LLb h h.1.1 (Int.le_refl _)
set_option maxHeartbeats 4000000 in
set_option maxRecDepth 100000 in
theorem LE_nL {D S : Sto} (h : OKD D S) {p : Int} (p0 : 0 ≤ p) (hp : p < D 0 0) : LE D S p ≤ nL D S := by
  unfold nL
  by_cases e : p = D 0 0 - 1
  · have := LL_s D S p0
    rw [show p + 1 = D 0 0 by omega] at this
    omega
  · have h1 := LE_LB h p0 (show p < D 0 0 - 1 by omega) (by omega)
    have h2 := LBb h (p := D 0 0 - 1) (by omega) (by omega)
    have h3 := LL_s D S (p := D 0 0 - 1) (by omega)
    rw [show D 0 0 - 1 + 1 = D 0 0 by omega] at h3
    omega
set_option maxHeartbeats 4000000 in
set_option maxRecDepth 100000 in
theorem lay_line {τ D S : Sto} {L l1 l2 l3 l4 l5 l6 l7 l8 l9 l10 : Nat} (h : OKD D S) (hO : LayOK τ L l1 l2 l3 l4 l5 l6 l7 l8 l9 l10 D S (D 0 0)) {l : Int} (l0 : 0 ≤ l) (hl : l < nL D S) : τ l4 l = own D S l ∧ τ l10 l = lX D S l ∧ (0 ≤ own D S l → τ l5 l = lF D S l ∧ τ l6 l = lNw D S l ∧ τ l7 l = lI D S l ∧ τ l8 l = lR D S l ∧ τ l9 l = lU D S l) := by
  rcases own_bd D S l with q | q
  · have h4 := hO.2.2.2 l l0 hl (fun p p0 p1 hp => by have := own_in h p0 p1 hp.1 hp.2; omega)
    refine ⟨by rw [h4.1, q], by rw [h4.2, lX, if_pos (by omega)], fun h0 => by omega⟩
  · have h1 := own_at h q.1
    have h2 := LE_eq D S q.1
    have h3 := (hO.2.2.1 _ q.1 q.2).2 (l - LB D S (own D S l)) (by omega) (by omega)
    rw [show LB D S (own D S l) + (l - LB D S (own D S l)) = l by omega] at h3
    refine ⟨h3.1, by rw [h3.2.2.2.2.2.2, lX, if_neg (by omega)], fun _ => ⟨h3.2.1, h3.2.2.1, h3.2.2.2.1, ?_, h3.2.2.2.2.2.1⟩⟩
    rw [h3.2.2.2.2.1]
    show roomS D S (LB D S) (own D S l) (LB D S (own D S l) + (l - LB D S (own D S l))) = _
    rw [show LB D S (own D S l) + (l - LB D S (own D S l)) = l by omega]
    rfl
set_option maxHeartbeats 4000000 in
set_option maxRecDepth 100000 in
theorem lX_01 (D S : Sto) (l : Int) : lX D S l = 0 ∨ lX D S l = 1 := by
  unfold lX clsS
  split
  · left; rfl
  · split
    · right; rfl
    · left; rfl
set_option maxHeartbeats 4000000 in
set_option maxRecDepth 100000 in
theorem lU_bd {D S : Sto} (h : OKD D S) (hS : OKS S) {l : Int} (h0 : 0 ≤ own D S l) : 0 ≤ lU D S l ∧ lU D S l ≤ 19 * 80 ∧ 0 ≤ lR D S l ∧ lR D S l ≤ 99 ∧ 1 ≤ lNw D S l ∧ 0 ≤ lF D S l ∧ lF D S l + lNw D S l ≤ D 1 (own D S l) ∧ 0 ≤ lI D S l ∧ lI D S l ≤ 6069 := by
  have h1 := own_at h h0
  have h2 := LE_eq D S h0
  obtain ⟨c1, c2, c3⟩ := LC_ok h hS h0 h1.1
  have c4 := c1 (l - LB D S (own D S l)) (by omega) (by omega)
  have c5 := c3 (l - LB D S (own D S l)) (by omega) (by omega)
  have c6 := c3 (l - LB D S (own D S l) + 1) (by omega) (by omega)
  rw [sumI_s (by omega)] at c6
  have hr := roomS_bd h hS (LB D S) l h0 h1.1
  have hi := indS_bd h hS (LB D S) l h0 h1.1
  have e1 : lF D S l = sumI (LC D S (own D S l)) (l - LB D S (own D S l)) := rfl
  have e2 : lNw D S l = LC D S (own D S l) (l - LB D S (own D S l)) := rfl
  have hb := sumI_bd (f := fun k => wdS D (own D S l) (lF D S l + k)) (n := lNw D S l) (c := 18) (by omega) (fun k k0 k1 => wdS_bd D _ _)
  have ht := fst_bd h (p := own D S l + 1) (by omega) (by omega)
  have ht0 := fst_bd h (p := own D S l) h0 (by omega)
  have ht1 := fst_s D h0
  have h80 := h.2.2.1
  unfold lU us lR lI
  omega
set_option maxHeartbeats 4000000 in
set_option maxRecDepth 100000 in
theorem c_isOver_49 {τ : Sto} {l : Int} (hl : 0 ≤ l ∧ l < 152) : CtI yX2_isOver cX2_isOver 2 (some .boolean) 0 [mR 49, mI l] τ (fun z σ' => z = (if 0 ≤ τ 53 l ∧ τ 57 l < τ 58 l then 1 else 0) ∧ σ' = τ) := by
  refine ct_of rfl [some (mR 49), some (mI l)] (Nat.le_of_ble_eq_true rfl) rfl (fun hσ => ?_)
  show Wp cX2_isOver RX2 (some .boolean) 0 0 [some (mR 49), some (mI l)] [] _ _
  refine wp_aload_n (pc := 0) dX2_isOver_0 rfl rfl ?_
  refine wp_getR (pc := 1) (q := 53) dX2_isOver_1 fl_X2_21 rfl ?_
  refine wp_iload_n (pc := 4) dX2_isOver_4 rfl rfl ?_
  refine wp_iald (pc := 5) 152 dX2_isOver_5 rfl (by omega) ?_
  refine wp_if_lt (pc := 6) 28 dX2_isOver_6 (by decide) (fun c_6 => ?_) (fun c_6 => ?_)
  · refine wp_iconst (pc := 28) dX2_isOver_28 (by decide) ?_
    refine wp_zreturn (pc := 29) dX2_isOver_29 rfl (by omega) ?_
    exact ⟨_, rfl, by split <;> omega, rfl⟩
  · refine wp_aload_n (pc := 9) dX2_isOver_9 rfl rfl ?_
    refine wp_getR (pc := 10) (q := 58) dX2_isOver_10 fl_X2_36 rfl ?_
    refine wp_iload_n (pc := 13) dX2_isOver_13 rfl rfl ?_
    refine wp_iald (pc := 14) 152 dX2_isOver_14 rfl (by omega) ?_
    refine wp_aload_n (pc := 15) dX2_isOver_15 rfl rfl ?_
    refine wp_getR (pc := 16) (q := 57) dX2_isOver_16 fl_X2_33 rfl ?_
    refine wp_iload_n (pc := 19) dX2_isOver_19 rfl rfl ?_
    refine wp_iald (pc := 20) 152 dX2_isOver_20 rfl (by omega) ?_
    refine wp_icmp_le (pc := 21) 28 dX2_isOver_21 (by decide) (fun c_21 => ?_) (fun c_21 => ?_)
    · refine wp_iconst (pc := 28) dX2_isOver_28 (by decide) ?_
      refine wp_zreturn (pc := 29) dX2_isOver_29 rfl (by omega) ?_
      exact ⟨_, rfl, by split <;> omega, rfl⟩
    · refine wp_iconst (pc := 24) dX2_isOver_24 (by decide) ?_
      refine wp_goto (pc := 25) 29 dX2_isOver_25 (by decide) ?_
      refine wp_zreturn (pc := 29) dX2_isOver_29 rfl (by omega) ?_
      exact ⟨_, rfl, by split <;> omega, rfl⟩
set_option maxHeartbeats 4000000 in
set_option maxRecDepth 100000 in
theorem c_oversWithin_49 {τ : Sto} {a b : Int} (hl : 0 ≤ τ 49 3 ∧ τ 49 3 ≤ 152) (ha : 0 ≤ a ∧ a ≤ min b (τ 49 3)) : CtI yX2_oversWithin cX2_oversWithin 5 (some .int) 1 [mR 49, mI a, mI b] τ (fun z σ' => z = sumI (fun k => if 0 ≤ τ 53 (a + k) ∧ τ 57 (a + k) < τ 58 (a + k) then 1 else 0) (min b (τ 49 3) - a) ∧ σ' = τ) := by
  refine ct_of rfl [some (mR 49), some (mI a), some (mI b), none, none] (Nat.le_of_ble_eq_true rfl) rfl (fun hσ => ?_)
  show Wp cX2_oversWithin RX2 (some .int) 1 0 [some (mR 49), some (mI a), some (mI b), none, none] [] _ _
  have lp : ∀ q, q ≤ min b (τ 49 3) → a ≤ q → Wp cX2_oversWithin RX2 (some .int) 1 5 [some (mR 49), some (mI a), some (mI b), some (mI (sumI (fun k => if 0 ≤ τ 53 (a + k) ∧ τ 57 (a + k) < τ 58 (a + k) then 1 else 0) (q - a))), some (mI q)] [] τ (fun v σ' => ∃ z, v = some (mI z) ∧ (fun z σ' => z = sumI (fun k => if 0 ≤ τ 53 (a + k) ∧ τ 57 (a + k) < τ 58 (a + k) then 1 else 0) (min b (τ 49 3) - a) ∧ σ' = τ) z σ') := by
    refine up_ind _ (fun q hq ih h0 => ?_)
    have hb := sumI_bd (f := fun k => if 0 ≤ τ 53 (a + k) ∧ τ 57 (a + k) < τ 58 (a + k) then 1 else 0) (n := q - a) (c := 1) (by omega) (fun k k0 k1 => by split <;> omega)
    have es := sumI_s (f := fun k => if 0 ≤ τ 53 (a + k) ∧ τ 57 (a + k) < τ 58 (a + k) then 1 else 0) (n := q - a) (by omega)
    simp only [show a + (q - a) = q by omega] at es
    refine wp_iload (pc := 5) dX2_oversWithin_5 rfl ?_
    refine wp_iload_n (pc := 7) dX2_oversWithin_7 rfl rfl ?_
    refine wp_icmp_ge (pc := 8) 38 dX2_oversWithin_8 (by decide) (fun c_8 => ?_) (fun c_8 => ?_)
    · have e : q = min b (τ 49 3) := by omega
      rw [e]
      refine wp_iload_n (pc := 38) dX2_oversWithin_38 rfl rfl ?_
      refine wp_ireturn (pc := 39) dX2_oversWithin_39 rfl ?_
      exact ⟨_, rfl, rfl, rfl⟩
    · refine wp_iload (pc := 11) dX2_oversWithin_11 rfl ?_
      refine wp_aload_n (pc := 13) dX2_oversWithin_13 rfl rfl ?_
      refine wp_getI (pc := 14) 3 dX2_oversWithin_14 fl_X2_55 rfl rfl ?_
      refine wp_icmp_ge (pc := 17) 38 dX2_oversWithin_17 (by decide) (fun c_17 => ?_) (fun c_17 => ?_)
      · have e : q = min b (τ 49 3) := by omega
        rw [e]
        refine wp_iload_n (pc := 38) dX2_oversWithin_38 rfl rfl ?_
        refine wp_ireturn (pc := 39) dX2_oversWithin_39 rfl ?_
        exact ⟨_, rfl, rfl, rfl⟩
      · refine wp_aload_n (pc := 20) dX2_oversWithin_20 rfl rfl ?_
        refine wp_iload (pc := 21) dX2_oversWithin_21 rfl ?_
        refine wp_cvI1 (pc := 23) dX2_oversWithin_23 mv_X2_137 (c_isOver_49 (by omega)) (Nat.le_of_ble_eq_true rfl) rfl (Nat.le_of_ble_eq_true rfl) (fun z_23 σ_23 h_23 => ?_)
        obtain ⟨z23, s23⟩ := h_23
        have s23 := s23.symm
        subst s23
        refine wp_if_eq (pc := 26) 32 dX2_oversWithin_26 (by decide) (fun c_26 => ?_) (fun c_26 => ?_)
        · refine wp_iinc (pc := 32) dX2_oversWithin_32 rfl rfl (by omega) ?_
          refine wp_goto (pc := 35) 5 dX2_oversWithin_35 (by decide) ?_
          have h2 := ih (by omega) (by omega)
          rw [show q + 1 - a = q - a + 1 by omega, es, ← z23] at h2
          first
            | (rw [c_26, Int.add_zero] at h2; exact h2)
            | (rw [show z_23 = 1 by split at z23 <;> omega] at h2; exact h2)
        · refine wp_iinc (pc := 29) dX2_oversWithin_29 rfl rfl (by omega) ?_
          refine wp_iinc (pc := 32) dX2_oversWithin_32 rfl rfl (by omega) ?_
          refine wp_goto (pc := 35) 5 dX2_oversWithin_35 (by decide) ?_
          have h2 := ih (by omega) (by omega)
          rw [show q + 1 - a = q - a + 1 by omega, es, ← z23] at h2
          first
            | (rw [c_26, Int.add_zero] at h2; exact h2)
            | (rw [show z_23 = 1 by split at z23 <;> omega] at h2; exact h2)
  refine wp_iconst (pc := 0) dX2_oversWithin_0 (by decide) ?_
  refine wp_istore_n (pc := 1) dX2_oversWithin_1 rfl (Nat.le_of_ble_eq_true rfl) rfl ?_
  refine wp_iload_n (pc := 2) dX2_oversWithin_2 rfl rfl ?_
  refine wp_istore (pc := 3) dX2_oversWithin_3 (Nat.le_of_ble_eq_true rfl) rfl ?_
  have h2 := lp a (by omega) (by omega)
  rw [show a - a = 0 by omega, sumI_0] at h2
  exact h2
set_option maxHeartbeats 4000000 in
set_option maxRecDepth 100000 in
theorem c_clashesWithin_49 {τ : Sto} {a b : Int} (hl : 0 ≤ τ 49 3 ∧ τ 49 3 ≤ 152) (ha : 0 ≤ a ∧ a ≤ min b (τ 49 3)) : CtI yX2_clashesWithin cX2_clashesWithin 5 (some .int) 0 [mR 49, mI a, mI b] τ (fun z σ' => z = sumI (fun k => if τ 59 (a + k) = 0 then 0 else 1) (min b (τ 49 3) - a) ∧ σ' = τ) := by
  refine ct_of rfl [some (mR 49), some (mI a), some (mI b), none, none] (Nat.le_of_ble_eq_true rfl) rfl (fun hσ => ?_)
  show Wp cX2_clashesWithin RX2 (some .int) 0 0 [some (mR 49), some (mI a), some (mI b), none, none] [] _ _
  have lp : ∀ q, q ≤ min b (τ 49 3) → a ≤ q → Wp cX2_clashesWithin RX2 (some .int) 0 5 [some (mR 49), some (mI a), some (mI b), some (mI (sumI (fun k => if τ 59 (a + k) = 0 then 0 else 1) (q - a))), some (mI q)] [] τ (fun v σ' => ∃ z, v = some (mI z) ∧ (fun z σ' => z = sumI (fun k => if τ 59 (a + k) = 0 then 0 else 1) (min b (τ 49 3) - a) ∧ σ' = τ) z σ') := by
    refine up_ind _ (fun q hq ih h0 => ?_)
    have hb := sumI_bd (f := fun k => if τ 59 (a + k) = 0 then 0 else 1) (n := q - a) (c := 1) (by omega) (fun k k0 k1 => by split <;> omega)
    have es := sumI_s (f := fun k => if τ 59 (a + k) = 0 then 0 else 1) (n := q - a) (by omega)
    simp only [show a + (q - a) = q by omega] at es
    refine wp_iload (pc := 5) dX2_clashesWithin_5 rfl ?_
    refine wp_iload_n (pc := 7) dX2_clashesWithin_7 rfl rfl ?_
    refine wp_icmp_ge (pc := 8) 39 dX2_clashesWithin_8 (by decide) (fun c_8 => ?_) (fun c_8 => ?_)
    · have e : q = min b (τ 49 3) := by omega
      rw [e]
      refine wp_iload_n (pc := 39) dX2_clashesWithin_39 rfl rfl ?_
      refine wp_ireturn (pc := 40) dX2_clashesWithin_40 rfl ?_
      exact ⟨_, rfl, rfl, rfl⟩
    · refine wp_iload (pc := 11) dX2_clashesWithin_11 rfl ?_
      refine wp_aload_n (pc := 13) dX2_clashesWithin_13 rfl rfl ?_
      refine wp_getI (pc := 14) 3 dX2_clashesWithin_14 fl_X2_55 rfl rfl ?_
      refine wp_icmp_ge (pc := 17) 39 dX2_clashesWithin_17 (by decide) (fun c_17 => ?_) (fun c_17 => ?_)
      · have e : q = min b (τ 49 3) := by omega
        rw [e]
        refine wp_iload_n (pc := 39) dX2_clashesWithin_39 rfl rfl ?_
        refine wp_ireturn (pc := 40) dX2_clashesWithin_40 rfl ?_
        exact ⟨_, rfl, rfl, rfl⟩
      · refine wp_aload_n (pc := 20) dX2_clashesWithin_20 rfl rfl ?_
        refine wp_getR (pc := 21) (q := 59) dX2_clashesWithin_21 fl_X2_39 rfl ?_
        refine wp_iload (pc := 24) dX2_clashesWithin_24 rfl ?_
        refine wp_zald (pc := 26) 152 dX2_clashesWithin_26 rfl (by omega) ?_
        refine wp_if_eq (pc := 27) 33 dX2_clashesWithin_27 (by decide) (fun c_27 => ?_) (fun c_27 => ?_)
        · refine wp_iinc (pc := 33) dX2_clashesWithin_33 rfl rfl (by omega) ?_
          refine wp_goto (pc := 36) 5 dX2_clashesWithin_36 (by decide) ?_
          have h2 := ih (by omega) (by omega)
          rw [show q + 1 - a = q - a + 1 by omega, es] at h2
          first
            | (rw [if_pos c_27, Int.add_zero] at h2; exact h2)
            | (rw [if_neg c_27] at h2; exact h2)
        · refine wp_iinc (pc := 30) dX2_clashesWithin_30 rfl rfl (by omega) ?_
          refine wp_iinc (pc := 33) dX2_clashesWithin_33 rfl rfl (by omega) ?_
          refine wp_goto (pc := 36) 5 dX2_clashesWithin_36 (by decide) ?_
          have h2 := ih (by omega) (by omega)
          rw [show q + 1 - a = q - a + 1 by omega, es] at h2
          first
            | (rw [if_pos c_27, Int.add_zero] at h2; exact h2)
            | (rw [if_neg c_27] at h2; exact h2)
  refine wp_iconst (pc := 0) dX2_clashesWithin_0 (by decide) ?_
  refine wp_istore_n (pc := 1) dX2_clashesWithin_1 rfl (Nat.le_of_ble_eq_true rfl) rfl ?_
  refine wp_iload_n (pc := 2) dX2_clashesWithin_2 rfl rfl ?_
  refine wp_istore (pc := 3) dX2_clashesWithin_3 (Nat.le_of_ble_eq_true rfl) rfl ?_
  have h2 := lp a (by omega) (by omega)
  rw [show a - a = 0 by omega, sumI_0] at h2
  exact h2

set_option maxHeartbeats 4000000 in
set_option maxRecDepth 100000 in
theorem c_isOver_60 {τ : Sto} {l : Int} (hl : 0 ≤ l ∧ l < 152) : CtI yX2_isOver cX2_isOver 2 (some .boolean) 0 [mR 60, mI l] τ (fun z σ' => z = (if 0 ≤ τ 64 l ∧ τ 68 l < τ 69 l then 1 else 0) ∧ σ' = τ) := by
  refine ct_of rfl [some (mR 60), some (mI l)] (Nat.le_of_ble_eq_true rfl) rfl (fun hσ => ?_)
  show Wp cX2_isOver RX2 (some .boolean) 0 0 [some (mR 60), some (mI l)] [] _ _
  refine wp_aload_n (pc := 0) dX2_isOver_0 rfl rfl ?_
  refine wp_getR (pc := 1) (q := 64) dX2_isOver_1 fl_X2_21 rfl ?_
  refine wp_iload_n (pc := 4) dX2_isOver_4 rfl rfl ?_
  refine wp_iald (pc := 5) 152 dX2_isOver_5 rfl (by omega) ?_
  refine wp_if_lt (pc := 6) 28 dX2_isOver_6 (by decide) (fun c_6 => ?_) (fun c_6 => ?_)
  · refine wp_iconst (pc := 28) dX2_isOver_28 (by decide) ?_
    refine wp_zreturn (pc := 29) dX2_isOver_29 rfl (by omega) ?_
    exact ⟨_, rfl, by split <;> omega, rfl⟩
  · refine wp_aload_n (pc := 9) dX2_isOver_9 rfl rfl ?_
    refine wp_getR (pc := 10) (q := 69) dX2_isOver_10 fl_X2_36 rfl ?_
    refine wp_iload_n (pc := 13) dX2_isOver_13 rfl rfl ?_
    refine wp_iald (pc := 14) 152 dX2_isOver_14 rfl (by omega) ?_
    refine wp_aload_n (pc := 15) dX2_isOver_15 rfl rfl ?_
    refine wp_getR (pc := 16) (q := 68) dX2_isOver_16 fl_X2_33 rfl ?_
    refine wp_iload_n (pc := 19) dX2_isOver_19 rfl rfl ?_
    refine wp_iald (pc := 20) 152 dX2_isOver_20 rfl (by omega) ?_
    refine wp_icmp_le (pc := 21) 28 dX2_isOver_21 (by decide) (fun c_21 => ?_) (fun c_21 => ?_)
    · refine wp_iconst (pc := 28) dX2_isOver_28 (by decide) ?_
      refine wp_zreturn (pc := 29) dX2_isOver_29 rfl (by omega) ?_
      exact ⟨_, rfl, by split <;> omega, rfl⟩
    · refine wp_iconst (pc := 24) dX2_isOver_24 (by decide) ?_
      refine wp_goto (pc := 25) 29 dX2_isOver_25 (by decide) ?_
      refine wp_zreturn (pc := 29) dX2_isOver_29 rfl (by omega) ?_
      exact ⟨_, rfl, by split <;> omega, rfl⟩
set_option maxHeartbeats 4000000 in
set_option maxRecDepth 100000 in
theorem c_oversWithin_60 {τ : Sto} {a b : Int} (hl : 0 ≤ τ 60 3 ∧ τ 60 3 ≤ 152) (ha : 0 ≤ a ∧ a ≤ min b (τ 60 3)) : CtI yX2_oversWithin cX2_oversWithin 5 (some .int) 1 [mR 60, mI a, mI b] τ (fun z σ' => z = sumI (fun k => if 0 ≤ τ 64 (a + k) ∧ τ 68 (a + k) < τ 69 (a + k) then 1 else 0) (min b (τ 60 3) - a) ∧ σ' = τ) := by
  refine ct_of rfl [some (mR 60), some (mI a), some (mI b), none, none] (Nat.le_of_ble_eq_true rfl) rfl (fun hσ => ?_)
  show Wp cX2_oversWithin RX2 (some .int) 1 0 [some (mR 60), some (mI a), some (mI b), none, none] [] _ _
  have lp : ∀ q, q ≤ min b (τ 60 3) → a ≤ q → Wp cX2_oversWithin RX2 (some .int) 1 5 [some (mR 60), some (mI a), some (mI b), some (mI (sumI (fun k => if 0 ≤ τ 64 (a + k) ∧ τ 68 (a + k) < τ 69 (a + k) then 1 else 0) (q - a))), some (mI q)] [] τ (fun v σ' => ∃ z, v = some (mI z) ∧ (fun z σ' => z = sumI (fun k => if 0 ≤ τ 64 (a + k) ∧ τ 68 (a + k) < τ 69 (a + k) then 1 else 0) (min b (τ 60 3) - a) ∧ σ' = τ) z σ') := by
    refine up_ind _ (fun q hq ih h0 => ?_)
    have hb := sumI_bd (f := fun k => if 0 ≤ τ 64 (a + k) ∧ τ 68 (a + k) < τ 69 (a + k) then 1 else 0) (n := q - a) (c := 1) (by omega) (fun k k0 k1 => by split <;> omega)
    have es := sumI_s (f := fun k => if 0 ≤ τ 64 (a + k) ∧ τ 68 (a + k) < τ 69 (a + k) then 1 else 0) (n := q - a) (by omega)
    simp only [show a + (q - a) = q by omega] at es
    refine wp_iload (pc := 5) dX2_oversWithin_5 rfl ?_
    refine wp_iload_n (pc := 7) dX2_oversWithin_7 rfl rfl ?_
    refine wp_icmp_ge (pc := 8) 38 dX2_oversWithin_8 (by decide) (fun c_8 => ?_) (fun c_8 => ?_)
    · have e : q = min b (τ 60 3) := by omega
      rw [e]
      refine wp_iload_n (pc := 38) dX2_oversWithin_38 rfl rfl ?_
      refine wp_ireturn (pc := 39) dX2_oversWithin_39 rfl ?_
      exact ⟨_, rfl, rfl, rfl⟩
    · refine wp_iload (pc := 11) dX2_oversWithin_11 rfl ?_
      refine wp_aload_n (pc := 13) dX2_oversWithin_13 rfl rfl ?_
      refine wp_getI (pc := 14) 3 dX2_oversWithin_14 fl_X2_55 rfl rfl ?_
      refine wp_icmp_ge (pc := 17) 38 dX2_oversWithin_17 (by decide) (fun c_17 => ?_) (fun c_17 => ?_)
      · have e : q = min b (τ 60 3) := by omega
        rw [e]
        refine wp_iload_n (pc := 38) dX2_oversWithin_38 rfl rfl ?_
        refine wp_ireturn (pc := 39) dX2_oversWithin_39 rfl ?_
        exact ⟨_, rfl, rfl, rfl⟩
      · refine wp_aload_n (pc := 20) dX2_oversWithin_20 rfl rfl ?_
        refine wp_iload (pc := 21) dX2_oversWithin_21 rfl ?_
        refine wp_cvI1 (pc := 23) dX2_oversWithin_23 mv_X2_137 (c_isOver_60 (by omega)) (Nat.le_of_ble_eq_true rfl) rfl (Nat.le_of_ble_eq_true rfl) (fun z_23 σ_23 h_23 => ?_)
        obtain ⟨z23, s23⟩ := h_23
        have s23 := s23.symm
        subst s23
        refine wp_if_eq (pc := 26) 32 dX2_oversWithin_26 (by decide) (fun c_26 => ?_) (fun c_26 => ?_)
        · refine wp_iinc (pc := 32) dX2_oversWithin_32 rfl rfl (by omega) ?_
          refine wp_goto (pc := 35) 5 dX2_oversWithin_35 (by decide) ?_
          have h2 := ih (by omega) (by omega)
          rw [show q + 1 - a = q - a + 1 by omega, es, ← z23] at h2
          first
            | (rw [c_26, Int.add_zero] at h2; exact h2)
            | (rw [show z_23 = 1 by split at z23 <;> omega] at h2; exact h2)
        · refine wp_iinc (pc := 29) dX2_oversWithin_29 rfl rfl (by omega) ?_
          refine wp_iinc (pc := 32) dX2_oversWithin_32 rfl rfl (by omega) ?_
          refine wp_goto (pc := 35) 5 dX2_oversWithin_35 (by decide) ?_
          have h2 := ih (by omega) (by omega)
          rw [show q + 1 - a = q - a + 1 by omega, es, ← z23] at h2
          first
            | (rw [c_26, Int.add_zero] at h2; exact h2)
            | (rw [show z_23 = 1 by split at z23 <;> omega] at h2; exact h2)
  refine wp_iconst (pc := 0) dX2_oversWithin_0 (by decide) ?_
  refine wp_istore_n (pc := 1) dX2_oversWithin_1 rfl (Nat.le_of_ble_eq_true rfl) rfl ?_
  refine wp_iload_n (pc := 2) dX2_oversWithin_2 rfl rfl ?_
  refine wp_istore (pc := 3) dX2_oversWithin_3 (Nat.le_of_ble_eq_true rfl) rfl ?_
  have h2 := lp a (by omega) (by omega)
  rw [show a - a = 0 by omega, sumI_0] at h2
  exact h2
set_option maxHeartbeats 4000000 in
set_option maxRecDepth 100000 in
theorem c_clashesWithin_60 {τ : Sto} {a b : Int} (hl : 0 ≤ τ 60 3 ∧ τ 60 3 ≤ 152) (ha : 0 ≤ a ∧ a ≤ min b (τ 60 3)) : CtI yX2_clashesWithin cX2_clashesWithin 5 (some .int) 0 [mR 60, mI a, mI b] τ (fun z σ' => z = sumI (fun k => if τ 70 (a + k) = 0 then 0 else 1) (min b (τ 60 3) - a) ∧ σ' = τ) := by
  refine ct_of rfl [some (mR 60), some (mI a), some (mI b), none, none] (Nat.le_of_ble_eq_true rfl) rfl (fun hσ => ?_)
  show Wp cX2_clashesWithin RX2 (some .int) 0 0 [some (mR 60), some (mI a), some (mI b), none, none] [] _ _
  have lp : ∀ q, q ≤ min b (τ 60 3) → a ≤ q → Wp cX2_clashesWithin RX2 (some .int) 0 5 [some (mR 60), some (mI a), some (mI b), some (mI (sumI (fun k => if τ 70 (a + k) = 0 then 0 else 1) (q - a))), some (mI q)] [] τ (fun v σ' => ∃ z, v = some (mI z) ∧ (fun z σ' => z = sumI (fun k => if τ 70 (a + k) = 0 then 0 else 1) (min b (τ 60 3) - a) ∧ σ' = τ) z σ') := by
    refine up_ind _ (fun q hq ih h0 => ?_)
    have hb := sumI_bd (f := fun k => if τ 70 (a + k) = 0 then 0 else 1) (n := q - a) (c := 1) (by omega) (fun k k0 k1 => by split <;> omega)
    have es := sumI_s (f := fun k => if τ 70 (a + k) = 0 then 0 else 1) (n := q - a) (by omega)
    simp only [show a + (q - a) = q by omega] at es
    refine wp_iload (pc := 5) dX2_clashesWithin_5 rfl ?_
    refine wp_iload_n (pc := 7) dX2_clashesWithin_7 rfl rfl ?_
    refine wp_icmp_ge (pc := 8) 39 dX2_clashesWithin_8 (by decide) (fun c_8 => ?_) (fun c_8 => ?_)
    · have e : q = min b (τ 60 3) := by omega
      rw [e]
      refine wp_iload_n (pc := 39) dX2_clashesWithin_39 rfl rfl ?_
      refine wp_ireturn (pc := 40) dX2_clashesWithin_40 rfl ?_
      exact ⟨_, rfl, rfl, rfl⟩
    · refine wp_iload (pc := 11) dX2_clashesWithin_11 rfl ?_
      refine wp_aload_n (pc := 13) dX2_clashesWithin_13 rfl rfl ?_
      refine wp_getI (pc := 14) 3 dX2_clashesWithin_14 fl_X2_55 rfl rfl ?_
      refine wp_icmp_ge (pc := 17) 39 dX2_clashesWithin_17 (by decide) (fun c_17 => ?_) (fun c_17 => ?_)
      · have e : q = min b (τ 60 3) := by omega
        rw [e]
        refine wp_iload_n (pc := 39) dX2_clashesWithin_39 rfl rfl ?_
        refine wp_ireturn (pc := 40) dX2_clashesWithin_40 rfl ?_
        exact ⟨_, rfl, rfl, rfl⟩
      · refine wp_aload_n (pc := 20) dX2_clashesWithin_20 rfl rfl ?_
        refine wp_getR (pc := 21) (q := 70) dX2_clashesWithin_21 fl_X2_39 rfl ?_
        refine wp_iload (pc := 24) dX2_clashesWithin_24 rfl ?_
        refine wp_zald (pc := 26) 152 dX2_clashesWithin_26 rfl (by omega) ?_
        refine wp_if_eq (pc := 27) 33 dX2_clashesWithin_27 (by decide) (fun c_27 => ?_) (fun c_27 => ?_)
        · refine wp_iinc (pc := 33) dX2_clashesWithin_33 rfl rfl (by omega) ?_
          refine wp_goto (pc := 36) 5 dX2_clashesWithin_36 (by decide) ?_
          have h2 := ih (by omega) (by omega)
          rw [show q + 1 - a = q - a + 1 by omega, es] at h2
          first
            | (rw [if_pos c_27, Int.add_zero] at h2; exact h2)
            | (rw [if_neg c_27] at h2; exact h2)
        · refine wp_iinc (pc := 30) dX2_clashesWithin_30 rfl rfl (by omega) ?_
          refine wp_iinc (pc := 33) dX2_clashesWithin_33 rfl rfl (by omega) ?_
          refine wp_goto (pc := 36) 5 dX2_clashesWithin_36 (by decide) ?_
          have h2 := ih (by omega) (by omega)
          rw [show q + 1 - a = q - a + 1 by omega, es] at h2
          first
            | (rw [if_pos c_27, Int.add_zero] at h2; exact h2)
            | (rw [if_neg c_27] at h2; exact h2)
  refine wp_iconst (pc := 0) dX2_clashesWithin_0 (by decide) ?_
  refine wp_istore_n (pc := 1) dX2_clashesWithin_1 rfl (Nat.le_of_ble_eq_true rfl) rfl ?_
  refine wp_iload_n (pc := 2) dX2_clashesWithin_2 rfl rfl ?_
  refine wp_istore (pc := 3) dX2_clashesWithin_3 (Nat.le_of_ble_eq_true rfl) rfl ?_
  have h2 := lp a (by omega) (by omega)
  rw [show a - a = 0 by omega, sumI_0] at h2
  exact h2

set_option maxHeartbeats 4000000 in
set_option maxRecDepth 100000 in
theorem c_emptyLines {τ : Sto} (hl : 0 ≤ τ 49 3 ∧ τ 49 3 ≤ 152) : CtI yX2_emptyLines cX2_emptyLines 3 (some .int) 0 [mR 49] τ (fun z σ' => z = sumI (fun l => if τ 53 l < 0 then 1 else 0) (τ 49 3) ∧ σ' = τ) := by
  refine ct_of rfl [some (mR 49), none, none] (Nat.le_of_ble_eq_true rfl) rfl (fun hσ => ?_)
  show Wp cX2_emptyLines RX2 (some .int) 0 0 [some (mR 49), none, none] [] _ _
  have lp : ∀ q, q ≤ τ 49 3 → 0 ≤ q → Wp cX2_emptyLines RX2 (some .int) 0 4 [some (mR 49), some (mI (sumI (fun l => if τ 53 l < 0 then 1 else 0) q)), some (mI q)] [] τ (fun v σ' => ∃ z, v = some (mI z) ∧ (fun z σ' => z = sumI (fun l => if τ 53 l < 0 then 1 else 0) (τ 49 3) ∧ σ' = τ) z σ') := by
    refine up_ind _ (fun q hq ih h0 => ?_)
    have hb := sumI_bd (f := fun l => if τ 53 l < 0 then 1 else 0) (n := q) (c := 1) h0 (fun k a b => by split <;> omega)
    refine wp_iload_n (pc := 4) dX2_emptyLines_4 rfl rfl ?_
    refine wp_aload_n (pc := 5) dX2_emptyLines_5 rfl rfl ?_
    refine wp_getI (pc := 6) 3 dX2_emptyLines_6 fl_X2_55 rfl rfl ?_
    refine wp_icmp_ge (pc := 9) 30 dX2_emptyLines_9 (by decide) (fun c_9 => ?_) (fun c_9 => ?_)
    · have e : q = τ 49 3 := by omega
      rw [e]
      refine wp_iload_n (pc := 30) dX2_emptyLines_30 rfl rfl ?_
      refine wp_ireturn (pc := 31) dX2_emptyLines_31 rfl ?_
      exact ⟨_, rfl, rfl, rfl⟩
    · refine wp_aload_n (pc := 12) dX2_emptyLines_12 rfl rfl ?_
      refine wp_getR (pc := 13) (q := 53) dX2_emptyLines_13 fl_X2_21 rfl ?_
      refine wp_iload_n (pc := 16) dX2_emptyLines_16 rfl rfl ?_
      refine wp_iald (pc := 17) 152 dX2_emptyLines_17 rfl (by omega) ?_
      refine wp_if_ge (pc := 18) 24 dX2_emptyLines_18 (by decide) (fun c_18 => ?_) (fun c_18 => ?_)
      · refine wp_iinc (pc := 24) dX2_emptyLines_24 rfl rfl (by omega) ?_
        refine wp_goto (pc := 27) 4 dX2_emptyLines_27 (by decide) ?_
        have h2 := ih (by omega) (by omega)
        rw [sumI_s h0] at h2
        first | (rw [if_pos (by omega)] at h2; exact h2) | (rw [if_neg (by omega), Int.add_zero] at h2; exact h2)
      · refine wp_iinc (pc := 21) dX2_emptyLines_21 rfl rfl (by omega) ?_
        refine wp_iinc (pc := 24) dX2_emptyLines_24 rfl rfl (by omega) ?_
        refine wp_goto (pc := 27) 4 dX2_emptyLines_27 (by decide) ?_
        have h2 := ih (by omega) (by omega)
        rw [sumI_s h0] at h2
        first | (rw [if_pos (by omega)] at h2; exact h2) | (rw [if_neg (by omega), Int.add_zero] at h2; exact h2)
  refine wp_iconst (pc := 0) dX2_emptyLines_0 (by decide) ?_
  refine wp_istore_n (pc := 1) dX2_emptyLines_1 rfl (Nat.le_of_ble_eq_true rfl) rfl ?_
  refine wp_iconst (pc := 2) dX2_emptyLines_2 (by decide) ?_
  refine wp_istore_n (pc := 3) dX2_emptyLines_3 rfl (Nat.le_of_ble_eq_true rfl) rfl ?_
  exact lp 0 (by omega) (by omega)
set_option maxHeartbeats 4000000 in
set_option maxRecDepth 100000 in
theorem c_firstClashWithin {τ : Sto} {a b : Int} (hl : τ 49 3 ≤ 152) (ha : 0 ≤ a ∧ a ≤ b ∧ b ≤ τ 49 3) : CtI yX2_firstClashWithin cX2_firstClashWithin 4 (some .int) 0 [mR 49, mI a, mI b] τ (fun z σ' => (z = -4 ∧ (∀ l, a ≤ l → l < b → τ 59 l = 0) ∨ (a ≤ z ∧ z < b ∧ ¬ τ 59 z = 0 ∧ ∀ l, a ≤ l → l < z → τ 59 l = 0)) ∧ σ' = τ) := by
  refine ct_of rfl [some (mR 49), some (mI a), some (mI b), none] (Nat.le_of_ble_eq_true rfl) rfl (fun hσ => ?_)
  show Wp cX2_firstClashWithin RX2 (some .int) 0 0 [some (mR 49), some (mI a), some (mI b), none] [] _ _
  have lp : ∀ q, q ≤ b → a ≤ q → (∀ l, a ≤ l → l < q → τ 59 l = 0) → Wp cX2_firstClashWithin RX2 (some .int) 0 2 [some (mR 49), some (mI a), some (mI b), some (mI q)] [] τ (fun v σ' => ∃ z, v = some (mI z) ∧ (fun z σ' => (z = -4 ∧ (∀ l, a ≤ l → l < b → τ 59 l = 0) ∨ (a ≤ z ∧ z < b ∧ ¬ τ 59 z = 0 ∧ ∀ l, a ≤ l → l < z → τ 59 l = 0)) ∧ σ' = τ) z σ') := by
    refine up_ind _ (fun q hq ih h0 hz => ?_)
    refine wp_iload_n (pc := 2) dX2_firstClashWithin_2 rfl rfl ?_
    refine wp_iload_n (pc := 3) dX2_firstClashWithin_3 rfl rfl ?_
    refine wp_icmp_ge (pc := 4) 32 dX2_firstClashWithin_4 (by decide) (fun c_4 => ?_) (fun c_4 => ?_)
    · refine wp_bipush (pc := 32) dX2_firstClashWithin_32 (by decide) (by decide) ?_
      refine wp_ireturn (pc := 34) dX2_firstClashWithin_34 rfl ?_
      exact ⟨_, rfl, Or.inl ⟨rfl, fun l l0 l1 => hz l l0 (by omega)⟩, rfl⟩
    · refine wp_iload_n (pc := 7) dX2_firstClashWithin_7 rfl rfl ?_
      refine wp_aload_n (pc := 8) dX2_firstClashWithin_8 rfl rfl ?_
      refine wp_getI (pc := 9) 3 dX2_firstClashWithin_9 fl_X2_55 rfl rfl ?_
      refine wp_icmp_ge (pc := 12) 32 dX2_firstClashWithin_12 (by decide) (fun c_12 => ?_) (fun c_12 => ?_)
      · refine wp_bipush (pc := 32) dX2_firstClashWithin_32 (by decide) (by decide) ?_
        refine wp_ireturn (pc := 34) dX2_firstClashWithin_34 rfl ?_
        exact ⟨_, rfl, Or.inl ⟨rfl, fun l l0 l1 => hz l l0 (by omega)⟩, rfl⟩
      · refine wp_aload_n (pc := 15) dX2_firstClashWithin_15 rfl rfl ?_
        refine wp_getR (pc := 16) (q := 59) dX2_firstClashWithin_16 fl_X2_39 rfl ?_
        refine wp_iload_n (pc := 19) dX2_firstClashWithin_19 rfl rfl ?_
        refine wp_zald (pc := 20) 152 dX2_firstClashWithin_20 rfl (by omega) ?_
        refine wp_if_eq (pc := 21) 26 dX2_firstClashWithin_21 (by decide) (fun c_21 => ?_) (fun c_21 => ?_)
        · refine wp_iinc (pc := 26) dX2_firstClashWithin_26 rfl rfl (by omega) ?_
          refine wp_goto (pc := 29) 2 dX2_firstClashWithin_29 (by decide) ?_
          refine ih (by omega) (by omega) (fun l l0 l1 => ?_)
          by_cases e : l = q
          · rw [e]; exact c_21
          · exact hz l l0 (by omega)
        · refine wp_iload_n (pc := 24) dX2_firstClashWithin_24 rfl rfl ?_
          refine wp_ireturn (pc := 25) dX2_firstClashWithin_25 rfl ?_
          exact ⟨_, rfl, Or.inr ⟨by omega, by omega, c_21, hz⟩, rfl⟩
  refine wp_iload_n (pc := 0) dX2_firstClashWithin_0 rfl rfl ?_
  refine wp_istore_n (pc := 1) dX2_firstClashWithin_1 rfl (Nat.le_of_ble_eq_true rfl) rfl ?_
  exact lp a (by omega) (by omega) (fun l l0 l1 => absurd l1 (by omega))
set_option maxHeartbeats 4000000 in
set_option maxRecDepth 100000 in
theorem c_slacksSquared {τ : Sto} {a b : Int} (hl : τ 49 3 ≤ 152) (ha : 0 ≤ a ∧ a ≤ b ∧ b ≤ τ 49 3) (hr : ∀ l, a ≤ l → l < b → 0 ≤ τ 53 l ∧ 0 ≤ τ 57 l ∧ τ 57 l ≤ 99 ∧ 0 ≤ τ 58 l) : CtI yX2_slacksSquared cX2_slacksSquared 6 (some .int) 1 [mR 49, mI a, mI b] τ (fun z σ' => z = sumI (fun k => if τ 57 (a + k) < τ 58 (a + k) then 0 else (τ 57 (a + k) - τ 58 (a + k)) * (τ 57 (a + k) - τ 58 (a + k))) (b - a) ∧ σ' = τ) := by
  refine ct_of rfl [some (mR 49), some (mI a), some (mI b), none, none, none] (Nat.le_of_ble_eq_true rfl) rfl (fun hσ => ?_)
  show Wp cX2_slacksSquared RX2 (some .int) 1 0 [some (mR 49), some (mI a), some (mI b), none, none, none] [] _ _
  have hq : ∀ l, a ≤ l → l < b → ¬ τ 57 l < τ 58 l → 0 ≤ (τ 57 l - τ 58 l) * (τ 57 l - τ 58 l) ∧ (τ 57 l - τ 58 l) * (τ 57 l - τ 58 l) ≤ 9801 := fun l l0 l1 hn => by have := hr l l0 l1; exact mulb (A := 99) (B := 99) (by omega) (by omega) (by omega) (by omega)
  have lp : ∀ q, q ≤ b → a ≤ q → ∀ l5 : Option MV, Wp cX2_slacksSquared RX2 (some .int) 1 5 [some (mR 49), some (mI a), some (mI b), some (mI (sumI (fun k => if τ 57 (a + k) < τ 58 (a + k) then 0 else (τ 57 (a + k) - τ 58 (a + k)) * (τ 57 (a + k) - τ 58 (a + k))) (q - a))), some (mI q), l5] [] τ (fun v σ' => ∃ z, v = some (mI z) ∧ (fun z σ' => z = sumI (fun k => if τ 57 (a + k) < τ 58 (a + k) then 0 else (τ 57 (a + k) - τ 58 (a + k)) * (τ 57 (a + k) - τ 58 (a + k))) (b - a) ∧ σ' = τ) z σ') := by
    refine up_ind _ (fun q hqb ih h0 l5 => ?_)
    have hb := sumI_bd (f := fun k => if τ 57 (a + k) < τ 58 (a + k) then 0 else (τ 57 (a + k) - τ 58 (a + k)) * (τ 57 (a + k) - τ 58 (a + k))) (n := q - a) (c := 9801) (by omega) (fun k k0 k1 => by
      by_cases hn : τ 57 (a + k) < τ 58 (a + k)
      · rw [if_pos hn]; omega
      · rw [if_neg hn]; exact hq (a + k) (by omega) (by omega) hn)
    have es := sumI_s (f := fun k => if τ 57 (a + k) < τ 58 (a + k) then 0 else (τ 57 (a + k) - τ 58 (a + k)) * (τ 57 (a + k) - τ 58 (a + k))) (n := q - a) (by omega)
    simp only [show a + (q - a) = q by omega] at es
    refine wp_iload (pc := 5) dX2_slacksSquared_5 rfl ?_
    refine wp_iload_n (pc := 7) dX2_slacksSquared_7 rfl rfl ?_
    refine wp_icmp_ge (pc := 8) 64 dX2_slacksSquared_8 (by decide) (fun c_8 => ?_) (fun c_8 => ?_)
    · have e : q = b := by omega
      subst e
      refine wp_iload_n (pc := 64) dX2_slacksSquared_64 rfl rfl ?_
      refine wp_ireturn (pc := 65) dX2_slacksSquared_65 rfl ?_
      exact ⟨_, rfl, rfl, rfl⟩
    · refine wp_iload (pc := 11) dX2_slacksSquared_11 rfl ?_
      refine wp_aload_n (pc := 13) dX2_slacksSquared_13 rfl rfl ?_
      refine wp_getI (pc := 14) 3 dX2_slacksSquared_14 fl_X2_55 rfl rfl ?_
      refine wp_icmp_ge (pc := 17) 64 dX2_slacksSquared_17 (by decide) (fun c_17 => ?_) (fun c_17 => ?_)
      · have e : q = b := by omega
        subst e
        refine wp_iload_n (pc := 64) dX2_slacksSquared_64 rfl rfl ?_
        refine wp_ireturn (pc := 65) dX2_slacksSquared_65 rfl ?_
        exact ⟨_, rfl, rfl, rfl⟩
      · have hrq := hr q (by omega) (by omega)
        refine wp_aload_n (pc := 20) dX2_slacksSquared_20 rfl rfl ?_
        refine wp_iload (pc := 21) dX2_slacksSquared_21 rfl ?_
        refine wp_cvI1 (pc := 23) dX2_slacksSquared_23 mv_X2_137 (c_isOver_49 (by omega)) (Nat.le_of_ble_eq_true rfl) rfl (Nat.le_of_ble_eq_true rfl) (fun z_23 σ_23 h_23 => ?_)
        obtain ⟨z23, s23⟩ := h_23
        have s23 := s23.symm
        subst s23
        refine wp_if_eq (pc := 26) 33 dX2_slacksSquared_26 (by decide) (fun c_26 => ?_) (fun c_26 => ?_)
        · have hn : ¬ τ 57 q < τ 58 q := by split at z23 <;> omega
          have hq2 := hq q (by omega) (by omega) hn
          refine wp_aload_n (pc := 33) dX2_slacksSquared_33 rfl rfl ?_
          refine wp_getR (pc := 34) (q := 57) dX2_slacksSquared_34 fl_X2_33 rfl ?_
          refine wp_iload (pc := 37) dX2_slacksSquared_37 rfl ?_
          refine wp_iald (pc := 39) 152 dX2_slacksSquared_39 rfl (by omega) ?_
          refine wp_aload_n (pc := 40) dX2_slacksSquared_40 rfl rfl ?_
          refine wp_getR (pc := 41) (q := 58) dX2_slacksSquared_41 fl_X2_36 rfl ?_
          refine wp_iload (pc := 44) dX2_slacksSquared_44 rfl ?_
          refine wp_iald (pc := 46) 152 dX2_slacksSquared_46 rfl (by omega) ?_
          refine wp_isub (pc := 47) dX2_slacksSquared_47 (by omega) ?_
          refine wp_istore (pc := 48) dX2_slacksSquared_48 (Nat.le_of_ble_eq_true rfl) rfl ?_
          refine wp_iload_n (pc := 50) dX2_slacksSquared_50 rfl rfl ?_
          refine wp_iload (pc := 51) dX2_slacksSquared_51 rfl ?_
          refine wp_iload (pc := 53) dX2_slacksSquared_53 rfl ?_
          refine wp_imul (pc := 55) dX2_slacksSquared_55 (by omega) ?_
          refine wp_iadd (pc := 56) dX2_slacksSquared_56 (by omega) ?_
          refine wp_istore_n (pc := 57) dX2_slacksSquared_57 rfl (Nat.le_of_ble_eq_true rfl) rfl ?_
          refine wp_iinc (pc := 58) dX2_slacksSquared_58 rfl rfl (by omega) ?_
          refine wp_goto (pc := 61) 5 dX2_slacksSquared_61 (by decide) ?_
          have h2 := ih (by omega) (by omega) l5
          have h3 := fun l5 => ih (by omega) (by omega) l5
          rw [show q + 1 - a = q - a + 1 by omega, es] at h3
          first
            | (rw [if_pos (by split at z23 <;> omega)] at h3; exact h3 _)
            | (rw [if_neg hn] at h3; exact h3 _)
        · refine wp_iconst (pc := 29) dX2_slacksSquared_29 (by decide) ?_
          refine wp_goto (pc := 30) 48 dX2_slacksSquared_30 (by decide) ?_
          refine wp_istore (pc := 48) dX2_slacksSquared_48 (Nat.le_of_ble_eq_true rfl) rfl ?_
          refine wp_iload_n (pc := 50) dX2_slacksSquared_50 rfl rfl ?_
          refine wp_iload (pc := 51) dX2_slacksSquared_51 rfl ?_
          refine wp_iload (pc := 53) dX2_slacksSquared_53 rfl ?_
          refine wp_imul (pc := 55) dX2_slacksSquared_55 (by omega) ?_
          refine wp_iadd (pc := 56) dX2_slacksSquared_56 (by omega) ?_
          refine wp_istore_n (pc := 57) dX2_slacksSquared_57 rfl (Nat.le_of_ble_eq_true rfl) rfl ?_
          refine wp_iinc (pc := 58) dX2_slacksSquared_58 rfl rfl (by omega) ?_
          refine wp_goto (pc := 61) 5 dX2_slacksSquared_61 (by decide) ?_
          have h2 := ih (by omega) (by omega) l5
          have h3 := fun l5 => ih (by omega) (by omega) l5
          rw [show q + 1 - a = q - a + 1 by omega, es] at h3
          first
            | (rw [if_pos (by split at z23 <;> omega)] at h3; exact h3 _)
            | (rw [if_neg hn] at h3; exact h3 _)
  refine wp_iconst (pc := 0) dX2_slacksSquared_0 (by decide) ?_
  refine wp_istore_n (pc := 1) dX2_slacksSquared_1 rfl (Nat.le_of_ble_eq_true rfl) rfl ?_
  refine wp_iload_n (pc := 2) dX2_slacksSquared_2 rfl rfl ?_
  refine wp_istore (pc := 3) dX2_slacksSquared_3 (Nat.le_of_ble_eq_true rfl) rfl ?_
  have h2 := lp a (by omega) (by omega) none
  rw [show a - a = 0 by omega, sumI_0] at h2
  exact h2
-- the line of a word
def isLn (D S : Sto) (p i z : Int) : Prop := LB D S p ≤ z ∧ z < LE D S p ∧ sumI (LC D S p) (z - LB D S p) ≤ i ∧ i < sumI (LC D S p) (z - LB D S p + 1)
set_option maxHeartbeats 4000000 in
set_option maxRecDepth 100000 in
theorem isLn_uniq {D S : Sto} (h : OKD D S) (hS : OKS S) {p i z z' : Int} (p0 : 0 ≤ p) (hp : p < D 0 0) (h1 : isLn D S p i z) (h2 : isLn D S p i z') : z = z' := by
  have hE := LE_eq D S p0
  obtain ⟨c1, -, -⟩ := LC_ok h hS p0 hp
  obtain ⟨a1, a2, a3, a4⟩ := h1
  obtain ⟨b1, b2, b3, b4⟩ := h2
  rcases Int.lt_trichotomy z z' with q | q | q
  · have := sumI_mono (f := LC D S p) (m := z - LB D S p + 1) (n := z' - LB D S p) (by omega) (by omega) (fun k k0 k1 => by have := c1 k k0 (by omega); omega)
    omega
  · exact q
  · have := sumI_mono (f := LC D S p) (m := z' - LB D S p + 1) (n := z - LB D S p) (by omega) (by omega) (fun k k0 k1 => by have := c1 k k0 (by omega); omega)
    omega
set_option maxHeartbeats 4000000 in
set_option maxRecDepth 100000 in
theorem c_lineWith {τ D S : Sto} {p i : Int} (hD : OKD D S) (hS : OKS S) (hO : LayOK τ 49 50 51 52 53 54 55 56 57 58 59 D S (D 0 0)) (hp : 0 ≤ p ∧ p < D 0 0) (hi : 0 ≤ i ∧ i < D 1 p) : CtI yX2_lineWith cX2_lineWith 4 (some .int) 0 [mR 49, mI p, mI i] τ (fun z σ' => isLn D S p i z ∧ σ' = τ) := by
  refine ct_of rfl [some (mR 49), some (mI p), some (mI i), none] (Nat.le_of_ble_eq_true rfl) rfl (fun hσ => ?_)
  show Wp cX2_lineWith RX2 (some .int) 0 0 [some (mR 49), some (mI p), some (mI i), none] [] _ _
  have h8 := hD.1.2
  have hb := LBb hD hp.1 hp.2
  have hE := LE_eq D S hp.1
  have e50 := (hO.2.1 p hp.1 hp.2).1
  have e51 := (hO.2.2.1 p hp.1 hp.2).1
  have hP := (hO.2.2.1 p hp.1 hp.2).2
  obtain ⟨c1, c2, c3⟩ := LC_ok hD hS hp.1 hp.2
  have h80 := hD.2.2.1
  have ht0 := fst_bd hD (p := p) hp.1 (by omega)
  have ht1 := fst_bd hD (p := p + 1) (by omega) (by omega)
  have ht2 := fst_s D hp.1
  have lp : ∀ q, q ≤ LE D S p → LB D S p ≤ q → sumI (LC D S p) (q - LB D S p) ≤ i → Wp cX2_lineWith RX2 (some .int) 0 7 [some (mR 49), some (mI p), some (mI i), some (mI q)] [] τ (fun v σ' => ∃ z, v = some (mI z) ∧ (fun z σ' => isLn D S p i z ∧ σ' = τ) z σ') := by
    refine up_ind _ (fun q hq ih h0 hz => ?_)
    refine wp_iload_n (pc := 7) dX2_lineWith_7 rfl rfl ?_
    refine wp_aload_n (pc := 8) dX2_lineWith_8 rfl rfl ?_
    refine wp_getR (pc := 9) (q := 51) dX2_lineWith_9 fl_X2_15 rfl ?_
    refine wp_iload_n (pc := 12) dX2_lineWith_12 rfl rfl ?_
    refine wp_iald (pc := 13) 8 dX2_lineWith_13 rfl (by omega) ?_
    rw [e51]
    refine wp_icmp_ge (pc := 14) 42 dX2_lineWith_14 (by decide) (fun c_14 => ?_) (fun c_14 => ?_)
    · exfalso
      have e : q = LE D S p := by omega
      rw [e, show LE D S p - LB D S p = LM D S p by omega, c2] at hz
      omega
    · have hPq := hP (q - LB D S p) (by omega) (by omega)
      rw [show LB D S p + (q - LB D S p) = q by omega] at hPq
      have cq := c3 (q - LB D S p) (by omega) (by omega)
      have cq1 := c3 (q - LB D S p + 1) (by omega) (by omega)
      have es := sumI_s (f := LC D S p) (n := q - LB D S p) (by omega)
      refine wp_iload_n (pc := 17) dX2_lineWith_17 rfl rfl ?_
      refine wp_aload_n (pc := 18) dX2_lineWith_18 rfl rfl ?_
      refine wp_getR (pc := 19) (q := 54) dX2_lineWith_19 fl_X2_24 rfl ?_
      refine wp_iload_n (pc := 22) dX2_lineWith_22 rfl rfl ?_
      refine wp_iald (pc := 23) 152 dX2_lineWith_23 rfl (by omega) ?_
      rw [hPq.2.1]
      refine wp_aload_n (pc := 24) dX2_lineWith_24 rfl rfl ?_
      refine wp_getR (pc := 25) (q := 55) dX2_lineWith_25 fl_X2_27 rfl ?_
      refine wp_iload_n (pc := 28) dX2_lineWith_28 rfl rfl ?_
      refine wp_iald (pc := 29) 152 dX2_lineWith_29 rfl (by omega) ?_
      rw [hPq.2.2.1]
      refine wp_iadd (pc := 30) dX2_lineWith_30 (by omega) ?_
      refine wp_icmp_ge (pc := 31) 36 dX2_lineWith_31 (by decide) (fun c_31 => ?_) (fun c_31 => ?_)
      · refine wp_iinc (pc := 36) dX2_lineWith_36 rfl rfl (by omega) ?_
        refine wp_goto (pc := 39) 7 dX2_lineWith_39 (by decide) ?_
        exact ih (by omega) (by omega) (by rw [show q + 1 - LB D S p = q - LB D S p + 1 by omega]; omega)
      · refine wp_iload_n (pc := 34) dX2_lineWith_34 rfl rfl ?_
        refine wp_ireturn (pc := 35) dX2_lineWith_35 rfl ?_
        exact ⟨_, rfl, ⟨h0, by omega, hz, by omega⟩, rfl⟩
  refine wp_aload_n (pc := 0) dX2_lineWith_0 rfl rfl ?_
  refine wp_getR (pc := 1) (q := 50) dX2_lineWith_1 fl_X2_9 rfl ?_
  refine wp_iload_n (pc := 4) dX2_lineWith_4 rfl rfl ?_
  refine wp_iald (pc := 5) 8 dX2_lineWith_5 rfl (by omega) ?_
  rw [e50]
  refine wp_istore_n (pc := 6) dX2_lineWith_6 rfl (Nat.le_of_ble_eq_true rfl) rfl ?_
  exact lp (LB D S p) (by omega) (by omega) (by rw [show LB D S p - LB D S p = 0 by omega, sumI_0]; omega)
noncomputable def plW (D S : Sto) (p i l : Int) : Int := indS D S (LB D S) p l + sumI (fun k => wdS D p (sumI (LC D S p) (l - LB D S p) + k)) (i - sumI (LC D S p) (l - LB D S p)) + (i - sumI (LC D S p) (l - LB D S p))
set_option maxHeartbeats 4000000 in
set_option maxRecDepth 100000 in
theorem c_placeOf {τ D S : Sto} {p i : Int} (hDe : DC τ = D) (hSe : SC τ = S) (hD : OKD D S) (hS : OKS S) (ht : τ 14 1 = tot D) (hO : LayOK τ 49 50 51 52 53 54 55 56 57 58 59 D S (D 0 0)) (hp : 0 ≤ p ∧ p < D 0 0) (hi : 0 ≤ i ∧ i < D 1 p) : CtI yX2_placeOf cX2_placeOf 6 (some .int) 2 [mR 49, mI p, mI i] τ (fun z σ' => (∃ l, isLn D S p i l ∧ z = plW D S p i l) ∧ σ' = τ) := by
  refine ct_of rfl [some (mR 49), some (mI p), some (mI i), none, none, none] (Nat.le_of_ble_eq_true rfl) rfl (fun hσ => ?_)
  show Wp cX2_placeOf RX2 (some .int) 2 0 [some (mR 49), some (mI p), some (mI i), none, none, none] [] _ _
  have hB : PgB τ := by subst hDe; subst hSe; exact PgB_of hD ht
  have h8 := hD.1.2
  have hb := LBb hD hp.1 hp.2
  have hE := LE_eq D S hp.1
  have hD00 : D 0 0 = τ 14 0 := by rw [← hDe]; rfl
  have hD1 : D 1 p = τ 16 p := by rw [← hDe]; rfl
  have hP := (hO.2.2.1 p hp.1 hp.2).2
  obtain ⟨c1, c2, c3⟩ := LC_ok hD hS hp.1 hp.2
  have h80 := hD.2.2.1
  have ht0 := fst_bd hD (p := p) hp.1 (by omega)
  have ht1 := fst_bd hD (p := p + 1) (by omega) (by omega)
  have ht2 := fst_s D hp.1
  have lp : ∀ l f, isLn D S p i l → f = sumI (LC D S p) (l - LB D S p) → 0 ≤ f → ∀ w, w ≤ i → f ≤ w → Wp cX2_placeOf RX2 (some .int) 2 30 [some (mR 49), some (mI p), some (mI i), some (mI l), some (mI (indS D S (LB D S) p l + sumI (fun k => wdS D p (f + k)) (w - f) + (w - f))), some (mI w)] [] τ (fun v σ' => ∃ z, v = some (mI z) ∧ (fun z σ' => (∃ l, isLn D S p i l ∧ z = plW D S p i l) ∧ σ' = τ) z σ') := by
    intro l f hl ef f0
    refine up_ind _ (fun w hw ih w0 => ?_)
    have hbs := sumI_bd (f := fun k => wdS D p (f + k)) (n := w - f) (c := 18) (by omega) (fun k k0 k1 => wdS_bd D p _)
    have es := sumI_s (f := fun k => wdS D p (f + k)) (n := w - f) (by omega)
    simp only [show f + (w - f) = w by omega] at es
    have hib := indS_bd hD hS (LB D S) l hp.1 hp.2
    have hc0 : w < D 1 p → 0 ≤ τ 15 (sumI (τ 16) p + w) := fun hw9 => by
      have := (hD.2.2.2.2.1 (fstS D p + w) (by omega) (by omega)).1
      rw [← hDe] at this
      exact this
    refine wp_iload (pc := 30) dX2_placeOf_30 rfl ?_
    refine wp_iload_n (pc := 32) dX2_placeOf_32 rfl rfl ?_
    refine wp_icmp_ge (pc := 33) 62 dX2_placeOf_33 (by decide) (fun c_33 => ?_) (fun c_33 => ?_)
    · have e : w = i := by omega
      subst e
      refine wp_iload (pc := 62) dX2_placeOf_62 rfl ?_
      refine wp_ireturn (pc := 64) dX2_placeOf_64 rfl ?_
      exact ⟨_, rfl, ⟨l, hl, by unfold plW; rw [← ef]⟩, rfl⟩
    · refine wp_iload (pc := 36) dX2_placeOf_36 rfl ?_
      refine wp_aload_n (pc := 38) dX2_placeOf_38 rfl rfl ?_
      refine wp_getR (pc := 39) (q := 14) dX2_placeOf_39 fl_X2_43 rfl ?_
      refine wp_iload_n (pc := 42) dX2_placeOf_42 rfl rfl ?_
      refine wp_iload (pc := 43) dX2_placeOf_43 rfl ?_
      refine wp_cvI2 (pc := 45) dX2_placeOf_45 mv_X2_143 (c_wordOf hB (by omega) (by omega)) (Nat.le_of_ble_eq_true rfl) rfl (Nat.le_of_ble_eq_true rfl) (fun z_45 σ_45 h_45 => ?_)
      obtain ⟨rfl, e_45⟩ := h_45; have e2_45 := e_45.symm; subst e2_45
      have hc1 := hc0 (by omega)
      refine wp_csI1 (pc := 48) dX2_placeOf_48 ms_X2_146 (c_widthOf (by omega)) (Nat.le_of_ble_eq_true rfl) (Nat.le_of_ble_eq_true rfl) (fun z_48 σ_48 h_48 => ?_)
      obtain ⟨rfl, e_48⟩ := h_48; have e2_48 := e_48.symm; subst e2_48
      have hwb := wid_bd (τ 15 (sumI (τ 16) p + w))
      refine wp_iconst (pc := 51) dX2_placeOf_51 (by decide) ?_
      refine wp_iadd (pc := 52) dX2_placeOf_52 (by omega) ?_
      refine wp_iadd (pc := 53) dX2_placeOf_53 (by omega) ?_
      refine wp_istore (pc := 54) dX2_placeOf_54 (Nat.le_of_ble_eq_true rfl) rfl ?_
      refine wp_iinc (pc := 56) dX2_placeOf_56 rfl rfl (by omega) ?_
      refine wp_goto (pc := 59) 30 dX2_placeOf_59 (by decide) ?_
      have h2 := ih (by omega) (by omega)
      rw [show w + 1 - f = w - f + 1 by omega, es, show wdS D p w = wid (τ 15 (sumI (τ 16) p + w)) by rw [← hDe]; rfl, show indS D S (LB D S) p l + (sumI (fun k => wdS D p (f + k)) (w - f) + wid (τ 15 (sumI (τ 16) p + w))) + (w - f + 1) = indS D S (LB D S) p l + sumI (fun k => wdS D p (f + k)) (w - f) + (w - f) + (wid (τ 15 (sumI (τ 16) p + w)) + 1) by omega] at h2
      exact h2
  refine wp_aload_n (pc := 0) dX2_placeOf_0 rfl rfl ?_
  refine wp_iload_n (pc := 1) dX2_placeOf_1 rfl rfl ?_
  refine wp_iload_n (pc := 2) dX2_placeOf_2 rfl rfl ?_
  refine wp_cvI2 (pc := 3) dX2_placeOf_3 mv_X2_140 (c_lineWith hD hS hO hp hi) (Nat.le_of_ble_eq_true rfl) rfl (Nat.le_of_ble_eq_true rfl) (fun z_3 σ_3 h_3 => ?_)
  obtain ⟨l3, e_3⟩ := h_3; have e2_3 := e_3.symm; subst e2_3
  have hPz := hP (z_3 - LB D S p) (by have := l3.1; omega) (by have := l3.2.1; omega)
  rw [show LB D S p + (z_3 - LB D S p) = z_3 by omega] at hPz
  have hz1 := l3.1
  have hz2 := l3.2.1
  have cq := c3 (z_3 - LB D S p) (by omega) (by omega)
  refine wp_istore_n (pc := 6) dX2_placeOf_6 rfl (Nat.le_of_ble_eq_true rfl) rfl ?_
  refine wp_iload_n (pc := 7) dX2_placeOf_7 rfl rfl ?_
  refine wp_if_ge (pc := 8) 14 dX2_placeOf_8 (by decide) (fun c_8 => ?_) (fun c_8 => ?_)
  · refine wp_aload_n (pc := 14) dX2_placeOf_14 rfl rfl ?_
    refine wp_getR (pc := 15) (q := 56) dX2_placeOf_15 fl_X2_30 rfl ?_
    refine wp_iload_n (pc := 18) dX2_placeOf_18 rfl rfl ?_
    refine wp_iald (pc := 19) 152 dX2_placeOf_19 rfl (by omega) ?_
    rw [hPz.2.2.2.1]
    refine wp_istore (pc := 20) dX2_placeOf_20 (Nat.le_of_ble_eq_true rfl) rfl ?_
    refine wp_aload_n (pc := 22) dX2_placeOf_22 rfl rfl ?_
    refine wp_getR (pc := 23) (q := 54) dX2_placeOf_23 fl_X2_24 rfl ?_
    refine wp_iload_n (pc := 26) dX2_placeOf_26 rfl rfl ?_
    refine wp_iald (pc := 27) 152 dX2_placeOf_27 rfl (by omega) ?_
    rw [hPz.2.1]
    refine wp_istore (pc := 28) dX2_placeOf_28 (Nat.le_of_ble_eq_true rfl) rfl ?_
    have h2 := lp z_3 _ l3 rfl cq.1 (sumI (LC D S p) (z_3 - LB D S p)) l3.2.2.1 (Int.le_refl _)
    rw [show sumI (LC D S p) (z_3 - LB D S p) - sumI (LC D S p) (z_3 - LB D S p) = 0 by omega, sumI_0, Int.add_zero, Int.add_zero] at h2
    exact h2
  · omega
