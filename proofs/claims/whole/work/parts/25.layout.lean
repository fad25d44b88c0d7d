def RK (τ : Sto) (c1 c3 : Nat) (D S : Sto) (p : Int) : Prop := ∀ q, 0 ≤ q → q < p → τ c1 q = LB D S q ∧ ∀ j, 0 ≤ j → j < 9 → τ c3 (q * 9 + j) = rch D S q j
def LPf (τ : Sto) (c4 c5 c6 c7 c8 c9 c10 : Nat) (D S : Sto) (p : Int) : Prop := ∀ t, 0 ≤ t → t < LM D S p → τ c4 (LB D S p + t) = p ∧ τ c5 (LB D S p + t) = sumI (LC D S p) t ∧ τ c6 (LB D S p + t) = LC D S p t ∧ τ c7 (LB D S p + t) = indS D S (LB D S) p (LB D S p + t) ∧ τ c8 (LB D S p + t) = rmS D S p t ∧ τ c9 (LB D S p + t) = us (wdS D p) (sumI (LC D S p) t) (LC D S p t) ∧ τ c10 (LB D S p + t) = clsS D S (LB D S) p (LB D S p + t)
def LayOK (τ : Sto) (L l1 l2 l3 l4 l5 l6 l7 l8 l9 l10 : Nat) (D S : Sto) (p : Int) : Prop := τ L 3 = LL D S p ∧ RK τ l1 l3 D S p ∧ (∀ q, 0 ≤ q → q < p → τ l2 q = LE D S q ∧ LPf τ l4 l5 l6 l7 l8 l9 l10 D S q) ∧ ∀ x, 0 ≤ x → x < LL D S p → (∀ q, 0 ≤ q → q < p → ¬ (LB D S q ≤ x ∧ x < LE D S q)) → τ l4 x = -4 ∧ τ l10 x = 0
set_option maxHeartbeats 4000000 in
set_option maxRecDepth 100000 in
theorem DC_frm {σ τ : Sto} {L : List Nat} (h : Frm L σ τ) (h1 : ∀ r ∈ L, 38 ≤ r) : DC τ = DC σ ∧ SC τ = SC σ := by
  have e : ∀ r, r < 38 → τ r = σ r := fun r hr => h r (fun q => by have := h1 r q; omega)
  constructor
  · funext k i
    simp only [DC, e 14 (by decide), e 15 (by decide), e 16 (by decide), e 17 (by decide), e 18 (by decide), e 19 (by decide)]
  · funext k i
    simp only [SC, e 2 (by decide), e 3 (by decide), e 4 (by decide), e 5 (by decide), e 6 (by decide), e 7 (by decide)]
set_option maxHeartbeats 4000000 in
set_option maxRecDepth 100000 in
theorem rch_neg {D S : Sto} {p j : Int} (h : j < 0) : rch D S p j = 0 := by unfold rch; rw [if_pos (by omega)]
set_option maxHeartbeats 4000000 in
set_option maxRecDepth 100000 in
theorem PgB_of {σ : Sto} (h : OKD (DC σ) (SC σ)) (ht : σ 14 1 = tot (DC σ)) : PgB σ := by
  have h1 : 0 ≤ σ 14 0 ∧ σ 14 0 ≤ 8 := h.1
  have h3 : tot (DC σ) ≤ 80 := h.2.2.1
  have h4 : ∀ q, 0 ≤ q → q < σ 14 0 → 1 ≤ σ 16 q := h.2.1
  have hb := fst_bd h (p := σ 14 0) h1.1 (Int.le_refl _)
  refine ⟨h1.1, h1.2, by omega, by omega, fun q q0 q1 => ⟨h4 q q0 q1, ?_⟩, ht.symm, fun w w0 w1 => ?_⟩
  · have h5 := fst_bd h (p := q) q0 (show q ≤ σ 14 0 by omega)
    have h6 := fst_bd h (p := q + 1) (by omega) (show q + 1 ≤ σ 14 0 by omega)
    have h7 : fstS (DC σ) (q + 1) = fstS (DC σ) q + σ 16 q := fst_s (DC σ) q0
    omega
  · exact (h.2.2.2.2.1 w w0 (by omega)).1
set_option maxHeartbeats 4000000 in
set_option maxRecDepth 100000 in
theorem c_reachAhead_49 {τ D S : Sto} {p l : Int} (hD : OKD D S) (hS : OKS S) (hp : 0 ≤ p ∧ p ≤ D 0 0) (hl : 0 ≤ l ∧ l ≤ 1000) (hR : RK τ 50 52 D S p) : CtI yX2_reachAhead cX2_reachAhead 6 (some .int) 0 [mR 49, mI p, mI l] τ (fun z σ' => z = rAh D S (LB D S) p l ∧ σ' = τ) := by
  refine ct_of rfl [some (mR 49), some (mI p), some (mI l), none, none, none] (Nat.le_of_ble_eq_true rfl) rfl (fun hσ => ?_)
  show Wp cX2_reachAhead RX2 (some .int) 0 0 [some (mR 49), some (mI p), some (mI l), none, none, none] [] _ _
  have h8 := hD.1.2
  have lp : ∀ q, q ≤ p → 0 ≤ q → ∀ l5 : Option MV, Wp cX2_reachAhead RX2 (some .int) 0 5 [some (mR 49), some (mI p), some (mI l), some (mI (rAh D S (LB D S) q l)), some (mI q), l5] [] τ (fun v σ' => ∃ z, v = some (mI z) ∧ (fun z σ' => z = rAh D S (LB D S) p l ∧ σ' = τ) z σ') := by
    refine up_ind p (fun q hq ih h0 l5 => ?_)
    have hb := rAh_bd hD hS (LB D S) (p := q) l (by omega)
    refine wp_iload (pc := 5) dX2_reachAhead_5 rfl ?_
    refine wp_iload_n (pc := 7) dX2_reachAhead_7 rfl rfl ?_
    refine wp_icmp_ge (pc := 8) 71 dX2_reachAhead_8 (by decide) (fun c_8 => ?_) (fun c_8 => ?_)
    · have e : q = p := by omega
      subst e
      refine wp_iload_n (pc := 71) dX2_reachAhead_71 rfl rfl ?_
      refine wp_ireturn (pc := 72) dX2_reachAhead_72 rfl ?_
      exact ⟨_, rfl, rfl, rfl⟩
    · have hR1 := hR q h0 (by omega)
      have hb1 := LBb hD (p := q) h0 (by omega)
      refine wp_iload_n (pc := 11) dX2_reachAhead_11 rfl rfl ?_
      refine wp_aload_n (pc := 12) dX2_reachAhead_12 rfl rfl ?_
      refine wp_getR (pc := 13) (q := 50) dX2_reachAhead_13 fl_X2_9 rfl ?_
      refine wp_iload (pc := 16) dX2_reachAhead_16 rfl ?_
      refine wp_iald (pc := 18) 8 dX2_reachAhead_18 rfl (by omega) ?_
      rw [hR1.1]
      refine wp_isub (pc := 19) dX2_reachAhead_19 (by omega) ?_
      refine wp_istore (pc := 20) dX2_reachAhead_20 (Nat.le_of_ble_eq_true rfl) rfl ?_
      refine wp_iload (pc := 22) dX2_reachAhead_22 rfl ?_
      refine wp_if_lt (pc := 24) 65 dX2_reachAhead_24 (by decide) (fun c_24 => ?_) (fun c_24 => ?_)
      · refine wp_iinc (pc := 65) dX2_reachAhead_65 rfl rfl (by omega) ?_
        refine wp_goto (pc := 68) 5 dX2_reachAhead_68 (by decide) ?_
        have h2 := ih (by omega) (by omega)
        have e1 : rAh D S (LB D S) (q + 1) l = max (rAh D S (LB D S) q l) (rch D S q (l - LB D S q)) := mxI_s h0
        have e2 : 9 ≤ l - LB D S q → rch D S q (l - LB D S q) = 0 := fun h => rch_far hD hS h0 (by omega) h
        have e3 : l - LB D S q < 0 → rch D S q (l - LB D S q) = 0 := rch_neg
        rw [e1] at h2
        first
          | (rw [show max (rAh D S (LB D S) q l) (rch D S q (l - LB D S q)) = rAh D S (LB D S) q l by omega] at h2; exact h2 _)
          | (rw [show max (rAh D S (LB D S) q l) (rch D S q (l - LB D S q)) = rch D S q (l - LB D S q) by omega] at h2; exact h2 _)
      · refine wp_iload (pc := 27) dX2_reachAhead_27 rfl ?_
        refine wp_bipush (pc := 29) dX2_reachAhead_29 (by decide) (by decide) ?_
        refine wp_icmp_ge (pc := 31) 65 dX2_reachAhead_31 (by decide) (fun c_31 => ?_) (fun c_31 => ?_)
        · refine wp_iinc (pc := 65) dX2_reachAhead_65 rfl rfl (by omega) ?_
          refine wp_goto (pc := 68) 5 dX2_reachAhead_68 (by decide) ?_
          have h2 := ih (by omega) (by omega)
          have e1 : rAh D S (LB D S) (q + 1) l = max (rAh D S (LB D S) q l) (rch D S q (l - LB D S q)) := mxI_s h0
          have e2 : 9 ≤ l - LB D S q → rch D S q (l - LB D S q) = 0 := fun h => rch_far hD hS h0 (by omega) h
          have e3 : l - LB D S q < 0 → rch D S q (l - LB D S q) = 0 := rch_neg
          rw [e1] at h2
          first
            | (rw [show max (rAh D S (LB D S) q l) (rch D S q (l - LB D S q)) = rAh D S (LB D S) q l by omega] at h2; exact h2 _)
            | (rw [show max (rAh D S (LB D S) q l) (rch D S q (l - LB D S q)) = rch D S q (l - LB D S q) by omega] at h2; exact h2 _)
        · have hR2 := hR1.2 (l - LB D S q) (by omega) (by omega)
          refine wp_aload_n (pc := 34) dX2_reachAhead_34 rfl rfl ?_
          refine wp_getR (pc := 35) (q := 52) dX2_reachAhead_35 fl_X2_18 rfl ?_
          refine wp_iload (pc := 38) dX2_reachAhead_38 rfl ?_
          refine wp_bipush (pc := 40) dX2_reachAhead_40 (by decide) (by decide) ?_
          refine wp_imul (pc := 42) dX2_reachAhead_42 (by omega) ?_
          refine wp_iload (pc := 43) dX2_reachAhead_43 rfl ?_
          refine wp_iadd (pc := 45) dX2_reachAhead_45 (by omega) ?_
          refine wp_iald (pc := 46) 72 dX2_reachAhead_46 rfl (by omega) ?_
          rw [hR2]
          refine wp_iload_n (pc := 47) dX2_reachAhead_47 rfl rfl ?_
          refine wp_icmp_le (pc := 48) 65 dX2_reachAhead_48 (by decide) (fun c_48 => ?_) (fun c_48 => ?_)
          · refine wp_iinc (pc := 65) dX2_reachAhead_65 rfl rfl (by omega) ?_
            refine wp_goto (pc := 68) 5 dX2_reachAhead_68 (by decide) ?_
            have h2 := ih (by omega) (by omega)
            have e1 : rAh D S (LB D S) (q + 1) l = max (rAh D S (LB D S) q l) (rch D S q (l - LB D S q)) := mxI_s h0
            have e2 : 9 ≤ l - LB D S q → rch D S q (l - LB D S q) = 0 := fun h => rch_far hD hS h0 (by omega) h
            have e3 : l - LB D S q < 0 → rch D S q (l - LB D S q) = 0 := rch_neg
            rw [e1] at h2
            first
              | (rw [show max (rAh D S (LB D S) q l) (rch D S q (l - LB D S q)) = rAh D S (LB D S) q l by omega] at h2; exact h2 _)
              | (rw [show max (rAh D S (LB D S) q l) (rch D S q (l - LB D S q)) = rch D S q (l - LB D S q) by omega] at h2; exact h2 _)
          · refine wp_aload_n (pc := 51) dX2_reachAhead_51 rfl rfl ?_
            refine wp_getR (pc := 52) (q := 52) dX2_reachAhead_52 fl_X2_18 rfl ?_
            refine wp_iload (pc := 55) dX2_reachAhead_55 rfl ?_
            refine wp_bipush (pc := 57) dX2_reachAhead_57 (by decide) (by decide) ?_
            refine wp_imul (pc := 59) dX2_reachAhead_59 (by omega) ?_
            refine wp_iload (pc := 60) dX2_reachAhead_60 rfl ?_
            refine wp_iadd (pc := 62) dX2_reachAhead_62 (by omega) ?_
            refine wp_iald (pc := 63) 72 dX2_reachAhead_63 rfl (by omega) ?_
            rw [hR2]
            refine wp_istore_n (pc := 64) dX2_reachAhead_64 rfl (Nat.le_of_ble_eq_true rfl) rfl ?_
            refine wp_iinc (pc := 65) dX2_reachAhead_65 rfl rfl (by omega) ?_
            refine wp_goto (pc := 68) 5 dX2_reachAhead_68 (by decide) ?_
            have h2 := ih (by omega) (by omega)
            have e1 : rAh D S (LB D S) (q + 1) l = max (rAh D S (LB D S) q l) (rch D S q (l - LB D S q)) := mxI_s h0
            have e2 : 9 ≤ l - LB D S q → rch D S q (l - LB D S q) = 0 := fun h => rch_far hD hS h0 (by omega) h
            have e3 : l - LB D S q < 0 → rch D S q (l - LB D S q) = 0 := rch_neg
            rw [e1] at h2
            first
              | (rw [show max (rAh D S (LB D S) q l) (rch D S q (l - LB D S q)) = rAh D S (LB D S) q l by omega] at h2; exact h2 _)
              | (rw [show max (rAh D S (LB D S) q l) (rch D S q (l - LB D S q)) = rch D S q (l - LB D S q) by omega] at h2; exact h2 _)
  refine wp_iconst (pc := 0) dX2_reachAhead_0 (by decide) ?_
  refine wp_istore_n (pc := 1) dX2_reachAhead_1 rfl (Nat.le_of_ble_eq_true rfl) rfl ?_
  refine wp_iconst (pc := 2) dX2_reachAhead_2 (by decide) ?_
  refine wp_istore (pc := 3) dX2_reachAhead_3 (Nat.le_of_ble_eq_true rfl) rfl ?_
  exact lp 0 (by omega) (by omega) none
set_option maxHeartbeats 4000000 in
set_option maxRecDepth 100000 in
theorem c_lastReachedAhead_49 {τ D S : Sto} {p : Int} (hD : OKD D S) (hS : OKS S) (hp : 0 ≤ p ∧ p ≤ D 0 0) (hR : RK τ 50 52 D S p) : CtI yX2_lastReachedAhead cX2_lastReachedAhead 5 (some .int) 1 [mR 49, mI p] τ (fun z σ' => z = pushS D S (LB D S) p - 1 ∧ σ' = τ) := by
  refine ct_of rfl [some (mR 49), some (mI p), none, none, none] (Nat.le_of_ble_eq_true rfl) rfl (fun hσ => ?_)
  show Wp cX2_lastReachedAhead RX2 (some .int) 1 0 [some (mR 49), some (mI p), none, none, none] [] _ _
  have h8 := hD.1.2
  have hpb : ∀ q, 0 ≤ q → q ≤ p → 0 ≤ pushS D S (LB D S) q ∧ pushS D S (LB D S) q ≤ 152 := fun q q0 q1 => pushS_bd (by decide) (fun x x0 x1 => by have := LBb hD (p := x) x0 (by omega); have := hD.2.1 x x0 (by omega); omega)
  have lp : ∀ q, q ≤ p → 0 ≤ q → ∀ l4 : Option MV, Wp cX2_lastReachedAhead RX2 (some .int) 1 4 [some (mR 49), some (mI p), some (mI (pushS D S (LB D S) q - 1)), some (mI q), l4] [] τ (fun v σ' => ∃ z, v = some (mI z) ∧ (fun z σ' => z = pushS D S (LB D S) p - 1 ∧ σ' = τ) z σ') := by
    refine up_ind p (fun q hq ih h0 l4 => ?_)
    have hb := hpb q h0 hq
    have lp2 : q < p → ∀ j, j ≤ 9 → 0 ≤ j → Wp cX2_lastReachedAhead RX2 (some .int) 1 12 [some (mR 49), some (mI p), some (mI (max (pushS D S (LB D S) q) (mxI (pshJ D S (LB D S) q) j) - 1)), some (mI q), some (mI j)] [] τ (fun v σ' => ∃ z, v = some (mI z) ∧ (fun z σ' => z = pushS D S (LB D S) p - 1 ∧ σ' = τ) z σ') := by
      intro hqp
      have hR1 := hR q h0 hqp
      have hb1 := LBb hD (p := q) h0 (by omega)
      refine up_ind 9 (fun j hj ih2 j0 => ?_)
      have hmb := mxI_bd (f := pshJ D S (LB D S) q) (n := j) (c := 152) (by decide) (fun k k0 k1 => by unfold pshJ; split <;> omega)
      have e1 : mxI (pshJ D S (LB D S) q) (j + 1) = max (mxI (pshJ D S (LB D S) q) j) (pshJ D S (LB D S) q j) := mxI_s j0
      refine wp_iload (pc := 12) dX2_lastReachedAhead_12 rfl ?_
      refine wp_bipush (pc := 14) dX2_lastReachedAhead_14 (by decide) (by decide) ?_
      refine wp_icmp_ge (pc := 16) 54 dX2_lastReachedAhead_16 (by decide) (fun c_16 => ?_) (fun c_16 => ?_)
      · refine wp_iinc (pc := 54) dX2_lastReachedAhead_54 rfl rfl (by omega) ?_
        refine wp_goto (pc := 57) 4 dX2_lastReachedAhead_57 (by decide) ?_
        have h2 := ih (by omega) (by omega)
        have e2 : pushS D S (LB D S) (q + 1) = max (pushS D S (LB D S) q) (mxI (pshJ D S (LB D S) q) 9) := mxI_s h0
        have e3 : j = 9 := by omega
        subst e3
        rw [e2] at h2
        exact h2 _
      · have hR2 := hR1.2 j j0 (by omega)
        refine wp_aload_n (pc := 19) dX2_lastReachedAhead_19 rfl rfl ?_
        refine wp_getR (pc := 20) (q := 52) dX2_lastReachedAhead_20 fl_X2_18 rfl ?_
        refine wp_iload_n (pc := 23) dX2_lastReachedAhead_23 rfl rfl ?_
        refine wp_bipush (pc := 24) dX2_lastReachedAhead_24 (by decide) (by decide) ?_
        refine wp_imul (pc := 26) dX2_lastReachedAhead_26 (by omega) ?_
        refine wp_iload (pc := 27) dX2_lastReachedAhead_27 rfl ?_
        refine wp_iadd (pc := 29) dX2_lastReachedAhead_29 (by omega) ?_
        refine wp_iald (pc := 30) 72 dX2_lastReachedAhead_30 rfl (by omega) ?_
        rw [hR2]
        refine wp_if_le (pc := 31) 48 dX2_lastReachedAhead_31 (by decide) (fun c_31 => ?_) (fun c_31 => ?_)
        · refine wp_iinc (pc := 48) dX2_lastReachedAhead_48 rfl rfl (by omega) ?_
          refine wp_goto (pc := 51) 12 dX2_lastReachedAhead_51 (by decide) ?_
          have h2 := ih2 (by omega) (by omega)
          rw [e1] at h2
          first
            | (have ep : pshJ D S (LB D S) q j = LB D S q + j + 1 := if_pos (by omega)
               rw [ep, show max (pushS D S (LB D S) q) (max (mxI (pshJ D S (LB D S) q) j) (LB D S q + j + 1)) - 1 = max (max (pushS D S (LB D S) q) (mxI (pshJ D S (LB D S) q) j) - 1) (LB D S q + j) by omega] at h2
               exact h2)
            | (have ep : pshJ D S (LB D S) q j = 0 := if_neg (by omega)
               rw [ep, show max (pushS D S (LB D S) q) (max (mxI (pshJ D S (LB D S) q) j) 0) - 1 = max (pushS D S (LB D S) q) (mxI (pshJ D S (LB D S) q) j) - 1 by omega] at h2
               exact h2)
        · refine wp_iload_n (pc := 34) dX2_lastReachedAhead_34 rfl rfl ?_
          refine wp_aload_n (pc := 35) dX2_lastReachedAhead_35 rfl rfl ?_
          refine wp_getR (pc := 36) (q := 50) dX2_lastReachedAhead_36 fl_X2_9 rfl ?_
          refine wp_iload_n (pc := 39) dX2_lastReachedAhead_39 rfl rfl ?_
          refine wp_iald (pc := 40) 8 dX2_lastReachedAhead_40 rfl (by omega) ?_
          rw [hR1.1]
          refine wp_iload (pc := 41) dX2_lastReachedAhead_41 rfl ?_
          refine wp_iadd (pc := 43) dX2_lastReachedAhead_43 (by omega) ?_
          refine wp_max (pc := 44) dX2_lastReachedAhead_44 mx_X2_97 (by decide) (Nat.le_of_ble_eq_true rfl) ?_
          refine wp_istore_n (pc := 47) dX2_lastReachedAhead_47 rfl (Nat.le_of_ble_eq_true rfl) rfl ?_
          refine wp_iinc (pc := 48) dX2_lastReachedAhead_48 rfl rfl (by omega) ?_
          refine wp_goto (pc := 51) 12 dX2_lastReachedAhead_51 (by decide) ?_
          have h2 := ih2 (by omega) (by omega)
          rw [e1] at h2
          first
            | (have ep : pshJ D S (LB D S) q j = LB D S q + j + 1 := if_pos (by omega)
               rw [ep, show max (pushS D S (LB D S) q) (max (mxI (pshJ D S (LB D S) q) j) (LB D S q + j + 1)) - 1 = max (max (pushS D S (LB D S) q) (mxI (pshJ D S (LB D S) q) j) - 1) (LB D S q + j) by omega] at h2
               exact h2)
            | (have ep : pshJ D S (LB D S) q j = 0 := if_neg (by omega)
               rw [ep, show max (pushS D S (LB D S) q) (max (mxI (pshJ D S (LB D S) q) j) 0) - 1 = max (pushS D S (LB D S) q) (mxI (pshJ D S (LB D S) q) j) - 1 by omega] at h2
               exact h2)
    refine wp_iload_n (pc := 4) dX2_lastReachedAhead_4 rfl rfl ?_
    refine wp_iload_n (pc := 5) dX2_lastReachedAhead_5 rfl rfl ?_
    refine wp_icmp_ge (pc := 6) 60 dX2_lastReachedAhead_6 (by decide) (fun c_6 => ?_) (fun c_6 => ?_)
    · have e : q = p := by omega
      subst e
      refine wp_iload_n (pc := 60) dX2_lastReachedAhead_60 rfl rfl ?_
      refine wp_ireturn (pc := 61) dX2_lastReachedAhead_61 rfl ?_
      exact ⟨_, rfl, rfl, rfl⟩
    · refine wp_iconst (pc := 9) dX2_lastReachedAhead_9 (by decide) ?_
      refine wp_istore (pc := 10) dX2_lastReachedAhead_10 (Nat.le_of_ble_eq_true rfl) rfl ?_
      have h2 := lp2 (by omega) 0 (by omega) (by omega)
      rw [mxI_0, show max (pushS D S (LB D S) q) 0 - 1 = pushS D S (LB D S) q - 1 by omega] at h2
      exact h2
  refine wp_iconst (pc := 0) dX2_lastReachedAhead_0 (by decide) ?_
  refine wp_istore_n (pc := 1) dX2_lastReachedAhead_1 rfl (Nat.le_of_ble_eq_true rfl) rfl ?_
  refine wp_iconst (pc := 2) dX2_lastReachedAhead_2 (by decide) ?_
  refine wp_istore_n (pc := 3) dX2_lastReachedAhead_3 rfl (Nat.le_of_ble_eq_true rfl) rfl ?_
  exact lp 0 (by omega) (by omega) none
set_option maxHeartbeats 4000000 in
set_option maxRecDepth 100000 in
theorem c_indentAt_49 {τ S : Sto} {p l : Int} (hD : OKD (DC τ) S) (hS : OKS S) (hp : 0 ≤ p ∧ p < τ 14 0) (hl : 0 ≤ l ∧ l ≤ 1000) (hR : RK τ 50 52 (DC τ) S (p + 1)) : CtI yX2_indentAt cX2_indentAt 4 (some .int) 1 [mR 49, mI p, mI l] τ (fun z σ' => z = indS (DC τ) S (LB (DC τ) S) p l ∧ σ' = τ) := by
  refine ct_of rfl [some (mR 49), some (mI p), some (mI l), none] (Nat.le_of_ble_eq_true rfl) rfl (fun hσ => ?_)
  show Wp cX2_indentAt RX2 (some .int) 1 0 [some (mR 49), some (mI p), some (mI l), none] [] _ _
  have h8 : τ 14 0 ≤ 8 := hD.1.2
  have hb1 := LBb hD (p := p) hp.1 hp.2
  have hR1 := hR p hp.1 (by omega)
  have hR0 : RK τ 50 52 (DC τ) S p := fun q q0 q1 => hR q q0 (by omega)
  refine wp_aload_n (pc := 0) dX2_indentAt_0 rfl rfl ?_
  refine wp_getR (pc := 1) (q := 14) dX2_indentAt_1 fl_X2_43 rfl ?_
  refine wp_iload_n (pc := 4) dX2_indentAt_4 rfl rfl ?_
  refine wp_cvI1 (pc := 5) dX2_indentAt_5 mv_X2_83 (c_hasShape (by omega)) (Nat.le_of_ble_eq_true rfl) rfl (Nat.le_of_ble_eq_true rfl) (fun z_5 σ_5 h_5 => ?_)
  obtain ⟨z5, s5⟩ := h_5
  have s5 := s5.symm
  subst s5
  refine wp_if_eq (pc := 8) 46 dX2_indentAt_8 (by decide) (fun c_8 => ?_) (fun c_8 => ?_)
  · refine wp_aload_n (pc := 46) dX2_indentAt_46 rfl rfl ?_
    refine wp_getR (pc := 47) (q := 14) dX2_indentAt_47 fl_X2_43 rfl ?_
    refine wp_getR (pc := 50) (q := 19) dX2_indentAt_50 fl_X2_80 rfl ?_
    refine wp_iconst (pc := 53) dX2_indentAt_53 (by decide) ?_
    refine wp_iald (pc := 54) 6 dX2_indentAt_54 rfl (by omega) ?_
    refine wp_iconst (pc := 55) dX2_indentAt_55 (by decide) ?_
    refine wp_icmp_ne (pc := 56) 68 dX2_indentAt_56 (by decide) (fun c_56 => ?_) (fun c_56 => ?_)
    · refine wp_iconst (pc := 68) dX2_indentAt_68 (by decide) ?_
      refine wp_ireturn (pc := 69) dX2_indentAt_69 rfl ?_
      refine ⟨_, rfl, ?_, rfl⟩
      show _ = if 0 ≤ τ 17 p then rch (DC τ) S p (l - LB (DC τ) S p) else if τ 19 5 = 2 then rAh (DC τ) S (LB (DC τ) S) p l else 0
      first
        | (rw [if_pos (by split at z5 <;> omega)]; exact hR2)
        | (rw [if_pos (by split at z5 <;> omega), rch_neg (by omega)])
        | (rw [if_pos (by split at z5 <;> omega), rch_far hD hS hp.1 hp.2 (by omega)])
        | (rw [if_neg (by split at z5 <;> omega), if_pos (by omega)])
        | (rw [if_neg (by split at z5 <;> omega), if_neg (by omega)])
    · refine wp_aload_n (pc := 59) dX2_indentAt_59 rfl rfl ?_
      refine wp_iload_n (pc := 60) dX2_indentAt_60 rfl rfl ?_
      refine wp_iload_n (pc := 61) dX2_indentAt_61 rfl rfl ?_
      refine wp_cvI2 (pc := 62) dX2_indentAt_62 mv_X2_134 (c_reachAhead_49 hD hS ⟨hp.1, show p ≤ τ 14 0 by omega⟩ (by omega) hR0) (Nat.le_of_ble_eq_true rfl) rfl (Nat.le_of_ble_eq_true rfl) (fun z_62 σ_62 h_62 => ?_)
      obtain ⟨rfl, e_62⟩ := h_62; have e2_62 := e_62.symm; subst e2_62
      refine wp_goto (pc := 65) 69 dX2_indentAt_65 (by decide) ?_
      refine wp_ireturn (pc := 69) dX2_indentAt_69 rfl ?_
      refine ⟨_, rfl, ?_, rfl⟩
      show _ = if 0 ≤ τ 17 p then rch (DC τ) S p (l - LB (DC τ) S p) else if τ 19 5 = 2 then rAh (DC τ) S (LB (DC τ) S) p l else 0
      first
        | (rw [if_pos (by split at z5 <;> omega)]; exact hR2)
        | (rw [if_pos (by split at z5 <;> omega), rch_neg (by omega)])
        | (rw [if_pos (by split at z5 <;> omega), rch_far hD hS hp.1 hp.2 (by omega)])
        | (rw [if_neg (by split at z5 <;> omega), if_pos (by omega)])
        | (rw [if_neg (by split at z5 <;> omega), if_neg (by omega)])
  · refine wp_iload_n (pc := 11) dX2_indentAt_11 rfl rfl ?_
    refine wp_aload_n (pc := 12) dX2_indentAt_12 rfl rfl ?_
    refine wp_getR (pc := 13) (q := 50) dX2_indentAt_13 fl_X2_9 rfl ?_
    refine wp_iload_n (pc := 16) dX2_indentAt_16 rfl rfl ?_
    refine wp_iald (pc := 17) 8 dX2_indentAt_17 rfl (by omega) ?_
    rw [hR1.1]
    refine wp_isub (pc := 18) dX2_indentAt_18 (by omega) ?_
    refine wp_istore_n (pc := 19) dX2_indentAt_19 rfl (Nat.le_of_ble_eq_true rfl) rfl ?_
    refine wp_iload_n (pc := 20) dX2_indentAt_20 rfl rfl ?_
    refine wp_if_lt (pc := 21) 44 dX2_indentAt_21 (by decide) (fun c_21 => ?_) (fun c_21 => ?_)
    · refine wp_iconst (pc := 44) dX2_indentAt_44 (by decide) ?_
      refine wp_ireturn (pc := 45) dX2_indentAt_45 rfl ?_
      refine ⟨_, rfl, ?_, rfl⟩
      show _ = if 0 ≤ τ 17 p then rch (DC τ) S p (l - LB (DC τ) S p) else if τ 19 5 = 2 then rAh (DC τ) S (LB (DC τ) S) p l else 0
      first
        | (rw [if_pos (by split at z5 <;> omega)]; exact hR2)
        | (rw [if_pos (by split at z5 <;> omega), rch_neg (by omega)])
        | (rw [if_pos (by split at z5 <;> omega), rch_far hD hS hp.1 hp.2 (by omega)])
        | (rw [if_neg (by split at z5 <;> omega), if_pos (by omega)])
        | (rw [if_neg (by split at z5 <;> omega), if_neg (by omega)])
    · refine wp_iload_n (pc := 24) dX2_indentAt_24 rfl rfl ?_
      refine wp_bipush (pc := 25) dX2_indentAt_25 (by decide) (by decide) ?_
      refine wp_icmp_ge (pc := 27) 44 dX2_indentAt_27 (by decide) (fun c_27 => ?_) (fun c_27 => ?_)
      · refine wp_iconst (pc := 44) dX2_indentAt_44 (by decide) ?_
        refine wp_ireturn (pc := 45) dX2_indentAt_45 rfl ?_
        refine ⟨_, rfl, ?_, rfl⟩
        show _ = if 0 ≤ τ 17 p then rch (DC τ) S p (l - LB (DC τ) S p) else if τ 19 5 = 2 then rAh (DC τ) S (LB (DC τ) S) p l else 0
        first
          | (rw [if_pos (by split at z5 <;> omega)]; exact hR2)
          | (rw [if_pos (by split at z5 <;> omega), rch_neg (by omega)])
          | (rw [if_pos (by split at z5 <;> omega), rch_far hD hS hp.1 hp.2 (by omega)])
          | (rw [if_neg (by split at z5 <;> omega), if_pos (by omega)])
          | (rw [if_neg (by split at z5 <;> omega), if_neg (by omega)])
      · have hR2 := hR1.2 (l - LB (DC τ) S p) (by omega) (by omega)
        refine wp_aload_n (pc := 30) dX2_indentAt_30 rfl rfl ?_
        refine wp_getR (pc := 31) (q := 52) dX2_indentAt_31 fl_X2_18 rfl ?_
        refine wp_iload_n (pc := 34) dX2_indentAt_34 rfl rfl ?_
        refine wp_bipush (pc := 35) dX2_indentAt_35 (by decide) (by decide) ?_
        refine wp_imul (pc := 37) dX2_indentAt_37 (by omega) ?_
        refine wp_iload_n (pc := 38) dX2_indentAt_38 rfl rfl ?_
        refine wp_iadd (pc := 39) dX2_indentAt_39 (by omega) ?_
        refine wp_iald (pc := 40) 72 dX2_indentAt_40 rfl (by omega) ?_
        refine wp_goto (pc := 41) 45 dX2_indentAt_41 (by decide) ?_
        refine wp_ireturn (pc := 45) dX2_indentAt_45 rfl ?_
        refine ⟨_, rfl, ?_, rfl⟩
        show _ = if 0 ≤ τ 17 p then rch (DC τ) S p (l - LB (DC τ) S p) else if τ 19 5 = 2 then rAh (DC τ) S (LB (DC τ) S) p l else 0
        first
          | (rw [if_pos (by split at z5 <;> omega)]; exact hR2)
          | (rw [if_pos (by split at z5 <;> omega), rch_neg (by omega)])
          | (rw [if_pos (by split at z5 <;> omega), rch_far hD hS hp.1 hp.2 (by omega)])
          | (rw [if_neg (by split at z5 <;> omega), if_pos (by omega)])
          | (rw [if_neg (by split at z5 <;> omega), if_neg (by omega)])
set_option maxHeartbeats 4000000 in
set_option maxRecDepth 100000 in
theorem c_drawReaches_49 {τ : Sto} {p : Int} (hD : OKD (DC τ) (SC τ)) (hS : OKS (SC τ)) (hp : 0 ≤ p ∧ p < τ 14 0) : CtV yX2_drawReaches cX2_drawReaches 3 none 1 [mR 49, mI p] τ (fun σ' => Frm [39, 40, 41, 42, 52] τ σ' ∧ (∀ j, 0 ≤ j → j < 9 → σ' 52 (p * 9 + j) = rch (DC τ) (SC τ) p j) ∧ ∀ x, x < p * 9 ∨ p * 9 + 9 ≤ x → σ' 52 x = τ 52 x) := by
  refine ct_of rfl [some (mR 49), some (mI p), none] (Nat.le_of_ble_eq_true rfl) rfl (fun hσ => ?_)
  show Wp cX2_drawReaches RX2 none 1 0 [some (mR 49), some (mI p), none] [] _ _
  have h8 : τ 14 0 ≤ 8 := hD.1.2
  have lp : ∀ j, j ≤ 9 → 0 ≤ j → ∀ υ : Sto, Frm [39, 40, 41, 42, 52] τ υ → drwn τ υ p → (∀ k, 0 ≤ k → k < j → υ 52 (p * 9 + k) = rch (DC τ) (SC τ) p k) → (∀ x, x < p * 9 ∨ p * 9 + 9 ≤ x → υ 52 x = τ 52 x) → Wp cX2_drawReaches RX2 none 1 10 [some (mR 49), some (mI p), some (mI j)] [] υ (fun v σ' => v = none ∧ (fun σ' => Frm [39, 40, 41, 42, 52] τ σ' ∧ (∀ j, 0 ≤ j → j < 9 → σ' 52 (p * 9 + j) = rch (DC τ) (SC τ) p j) ∧ ∀ x, x < p * 9 ∨ p * 9 + 9 ≤ x → σ' 52 x = τ 52 x) σ') := by
    refine up_ind 9 (fun j hj ih h0 υ hF hd hk ho => ?_)
    refine wp_iload_n (pc := 10) dX2_drawReaches_10 rfl rfl ?_
    refine wp_bipush (pc := 11) dX2_drawReaches_11 (by decide) (by decide) ?_
    refine wp_icmp_ge (pc := 13) 41 dX2_drawReaches_13 (by decide) (fun c_13 => ?_) (fun c_13 => ?_)
    · refine wp_return (pc := 41) dX2_drawReaches_41 rfl ?_
      exact ⟨rfl, hF, fun k k0 k1 => hk k k0 (by omega), ho⟩
    · refine wp_aload_n (pc := 16) dX2_drawReaches_16 rfl rfl ?_
      refine wp_getR (pc := 17) (q := 52) dX2_drawReaches_17 fl_X2_18 rfl ?_
      refine wp_iload_n (pc := 20) dX2_drawReaches_20 rfl rfl ?_
      refine wp_bipush (pc := 21) dX2_drawReaches_21 (by decide) (by decide) ?_
      refine wp_imul (pc := 23) dX2_drawReaches_23 (by omega) ?_
      refine wp_iload_n (pc := 24) dX2_drawReaches_24 rfl rfl ?_
      refine wp_iadd (pc := 25) dX2_drawReaches_25 (by omega) ?_
      refine wp_aload_n (pc := 26) dX2_drawReaches_26 rfl rfl ?_
      refine wp_getR (pc := 27) (q := 39) dX2_drawReaches_27 fl_X2_47 rfl ?_
      refine wp_iload_n (pc := 30) dX2_drawReaches_30 rfl rfl ?_
      refine wp_cvI1 (pc := 31) dX2_drawReaches_31 mv_X2_105 (c_reachAt (σ := τ) hD hS hp hd (hF 19 (by decide))) (Nat.le_of_ble_eq_true rfl) rfl (Nat.le_of_ble_eq_true rfl) (fun z_31 σ_31 h_31 => ?_)
      obtain ⟨rfl, e_31⟩ := h_31; have e2_31 := e_31.symm; subst e2_31
      refine wp_iast (pc := 34) 72 dX2_drawReaches_34 rfl (by omega) ?_
      refine wp_iinc (pc := 35) dX2_drawReaches_35 rfl rfl (by omega) ?_
      refine wp_goto (pc := 38) 10 dX2_drawReaches_38 (by decide) ?_
      refine ih (by omega) (by omega) _ (hF.up (by decide)) ?_ (fun k k0 k1 => ?_) (fun x hx => ?_)
      · unfold drwn at hd ⊢
        simp only [upd2_r (show (39 : Nat) ≠ 52 by decide), upd2_r (show (40 : Nat) ≠ 52 by decide), upd2_r (show (41 : Nat) ≠ 52 by decide), upd2_r (show (42 : Nat) ≠ 52 by decide)]
        exact hd
      · by_cases e : k = j
        · subst e; exact upd2_eq
        · rw [upd2_k (by omega)]; exact hk k k0 (by omega)
      · rw [upd2_k (by omega)]; exact ho x hx
  refine wp_aload_n (pc := 0) dX2_drawReaches_0 rfl rfl ?_
  refine wp_getR (pc := 1) (q := 39) dX2_drawReaches_1 fl_X2_47 rfl ?_
  refine wp_iload_n (pc := 4) dX2_drawReaches_4 rfl rfl ?_
  refine wp_cvV1 (pc := 5) dX2_drawReaches_5 mv_X2_100 (c_draw hD hS hp) (Nat.le_of_ble_eq_true rfl) rfl (Nat.le_of_ble_eq_true rfl) (fun σ_5 h_5 => ?_)
  obtain ⟨f5, d5⟩ := h_5
  refine wp_iconst (pc := 8) dX2_drawReaches_8 (by decide) ?_
  refine wp_istore_n (pc := 9) dX2_drawReaches_9 rfl (Nat.le_of_ble_eq_true rfl) rfl ?_
  exact lp 0 (by omega) (by omega) _ (f5.mono (by decide)) d5 (fun k k0 k1 => absurd k1 (by omega)) (fun x _ => by rw [f5 52 (by decide)])
set_option maxHeartbeats 4000000 in
set_option maxRecDepth 100000 in
theorem c_leaveEmpty_49 {τ S : Sto} {p : Int} (hD : OKD (DC τ) S) (hS : OKS S) (hp : 0 ≤ p ∧ p < τ 14 0) (hR : RK τ 50 52 (DC τ) S p) (hl : 0 ≤ τ 49 3 ∧ τ 49 3 ≤ 143) : CtV yX2_leaveEmpty cX2_leaveEmpty 5 none 2 [mR 49, mI p] τ (fun σ' => Frm [49, 53, 59] τ σ' ∧ σ' 49 3 = bgnS (DC τ) S (LB (DC τ) S) p (τ 49 3) ∧ (∀ x, σ' 53 x = if τ 49 3 ≤ x ∧ x < σ' 49 3 then -4 else τ 53 x) ∧ ∀ x, σ' 59 x = if τ 49 3 ≤ x ∧ x < σ' 49 3 then 0 else τ 59 x) := by
  refine ct_of rfl [some (mR 49), some (mI p), none, none, none] (Nat.le_of_ble_eq_true rfl) rfl (fun hσ => ?_)
  show Wp cX2_leaveEmpty RX2 none 2 0 [some (mR 49), some (mI p), none, none, none] [] _ _
  have h8 : τ 14 0 ≤ 8 := hD.1.2
  have h5 : 0 ≤ τ 19 5 ∧ τ 19 5 ≤ 2 := hD.2.2.2.2.2.2.2.2.2.2
  have hpb : 0 ≤ pushS (DC τ) S (LB (DC τ) S) p ∧ pushS (DC τ) S (LB (DC τ) S) p ≤ 152 := pushS_bd (by decide) (fun x x0 x1 => by have := LBb hD (p := x) x0 (show x < τ 14 0 by omega); have := hD.2.1 x x0 (show x < τ 14 0 by omega); omega)
  have eb : bgnS (DC τ) S (LB (DC τ) S) p (τ 49 3) = if τ 19 5 = 1 ∨ (τ 19 5 = 2 ∧ 0 ≤ τ 17 p) then max (τ 49 3) (pushS (DC τ) S (LB (DC τ) S) p) else τ 49 3 := rfl
  have lp : (τ 19 5 = 1 ∨ (τ 19 5 = 2 ∧ 0 ≤ τ 17 p)) → ∀ x, x ≤ max (τ 49 3) (pushS (DC τ) S (LB (DC τ) S) p) → τ 49 3 ≤ x → ∀ υ : Sto, Frm [49, 53, 59] τ υ → υ 49 = τ 49 → (∀ y, υ 53 y = if τ 49 3 ≤ y ∧ y < x then -4 else τ 53 y) → (∀ y, υ 59 y = if τ 49 3 ≤ y ∧ y < x then 0 else τ 59 y) → Wp cX2_leaveEmpty RX2 none 2 52 [some (mR 49), some (mI p), some (mI (τ 19 5)), some (mI (pushS (DC τ) S (LB (DC τ) S) p)), some (mI x)] [] υ (fun v σ' => v = none ∧ (fun σ' => Frm [49, 53, 59] τ σ' ∧ σ' 49 3 = bgnS (DC τ) S (LB (DC τ) S) p (τ 49 3) ∧ (∀ x, σ' 53 x = if τ 49 3 ≤ x ∧ x < σ' 49 3 then -4 else τ 53 x) ∧ ∀ x, σ' 59 x = if τ 49 3 ≤ x ∧ x < σ' 49 3 then 0 else τ 59 x) σ') := by
    intro hpush
    rw [if_pos hpush] at eb
    refine up_ind _ (fun x hx ih x0 υ hF eL e4 e10 => ?_)
    refine wp_iload (pc := 52) dX2_leaveEmpty_52 rfl ?_
    refine wp_iload_n (pc := 54) dX2_leaveEmpty_54 rfl rfl ?_
    refine wp_icmp_ge (pc := 55) 81 dX2_leaveEmpty_55 (by decide) (fun c_55 => ?_) (fun c_55 => ?_)
    · refine wp_aload_n (pc := 81) dX2_leaveEmpty_81 rfl rfl ?_
      refine wp_aload_n (pc := 82) dX2_leaveEmpty_82 rfl rfl ?_
      refine wp_getI (pc := 83) 3 dX2_leaveEmpty_83 fl_X2_55 rfl rfl ?_
      refine wp_iload_n (pc := 86) dX2_leaveEmpty_86 rfl rfl ?_
      rw [eL]
      refine wp_max (pc := 87) dX2_leaveEmpty_87 mx_X2_97 (by decide) (Nat.le_of_ble_eq_true rfl) ?_
      refine wp_putI (pc := 90) 3 dX2_leaveEmpty_90 fl_X2_55 ⟨rfl, rfl⟩ rfl rfl ?_
      refine wp_return (pc := 93) dX2_leaveEmpty_93 rfl ?_
      refine ⟨rfl, hF.up (by decide), by rw [upd2_eq, eb], fun y => ?_, fun y => ?_⟩
      · rw [upd2_eq, upd2_r (by decide), e4 y]
        by_cases hy : τ 49 3 ≤ y ∧ y < x
        · rw [if_pos hy, if_pos (by omega)]
        · rw [if_neg hy, if_neg (by omega)]
      · rw [upd2_eq, upd2_r (by decide), e10 y]
        by_cases hy : τ 49 3 ≤ y ∧ y < x
        · rw [if_pos hy, if_pos (by omega)]
        · rw [if_neg hy, if_neg (by omega)]
    · refine wp_aload_n (pc := 58) dX2_leaveEmpty_58 rfl rfl ?_
      refine wp_getR (pc := 59) (q := 53) dX2_leaveEmpty_59 fl_X2_21 rfl ?_
      refine wp_iload (pc := 62) dX2_leaveEmpty_62 rfl ?_
      refine wp_bipush (pc := 64) dX2_leaveEmpty_64 (by decide) (by decide) ?_
      refine wp_iast (pc := 66) 152 dX2_leaveEmpty_66 rfl (by omega) ?_
      refine wp_aload_n (pc := 67) dX2_leaveEmpty_67 rfl rfl ?_
      refine wp_getR (pc := 68) (q := 59) dX2_leaveEmpty_68 fl_X2_39 rfl ?_
      refine wp_iload (pc := 71) dX2_leaveEmpty_71 rfl ?_
      refine wp_iconst (pc := 73) dX2_leaveEmpty_73 (by decide) ?_
      refine wp_zast (pc := 74) 152 dX2_leaveEmpty_74 rfl (by omega) (by omega) ?_
      refine wp_iinc (pc := 75) dX2_leaveEmpty_75 rfl rfl (by omega) ?_
      refine wp_goto (pc := 78) 52 dX2_leaveEmpty_78 (by decide) ?_
      refine ih (by omega) (by omega) _ ((hF.up (by decide)).up (by decide)) ?_ (fun y => ?_) (fun y => ?_)
      · rw [upd2_out (by decide), upd2_out (by decide)]; exact eL
      · have h1 := e4 y
        clear e4 e10 ih hF hR hD hS
        grind [upd2]
      · have h1 := e10 y
        clear e4 e10 ih hF hR hD hS
        grind [upd2]
  refine wp_aload_n (pc := 0) dX2_leaveEmpty_0 rfl rfl ?_
  refine wp_getR (pc := 1) (q := 14) dX2_leaveEmpty_1 fl_X2_43 rfl ?_
  refine wp_getR (pc := 4) (q := 19) dX2_leaveEmpty_4 fl_X2_80 rfl ?_
  refine wp_iconst (pc := 7) dX2_leaveEmpty_7 (by decide) ?_
  refine wp_iald (pc := 8) 6 dX2_leaveEmpty_8 rfl (by omega) ?_
  refine wp_istore_n (pc := 9) dX2_leaveEmpty_9 rfl (Nat.le_of_ble_eq_true rfl) rfl ?_
  refine wp_iload_n (pc := 10) dX2_leaveEmpty_10 rfl rfl ?_
  refine wp_iconst (pc := 11) dX2_leaveEmpty_11 (by decide) ?_
  refine wp_icmp_eq (pc := 12) 32 dX2_leaveEmpty_12 (by decide) (fun c_12 => ?_) (fun c_12 => ?_)
  · refine wp_aload_n (pc := 32) dX2_leaveEmpty_32 rfl rfl ?_
    refine wp_iload_n (pc := 33) dX2_leaveEmpty_33 rfl rfl ?_
    refine wp_cvI1 (pc := 34) dX2_leaveEmpty_34 mv_X2_87 (c_lastReachedAhead_49 hD hS ⟨hp.1, show p ≤ τ 14 0 by omega⟩ hR) (Nat.le_of_ble_eq_true rfl) rfl (Nat.le_of_ble_eq_true rfl) (fun z_34 σ_34 h_34 => ?_)
    obtain ⟨rfl, e_34⟩ := h_34; have e2_34 := e_34.symm; subst e2_34
    refine wp_iconst (pc := 37) dX2_leaveEmpty_37 (by decide) ?_
    refine wp_iadd (pc := 38) dX2_leaveEmpty_38 (by omega) ?_
    refine wp_sipush (pc := 39) dX2_leaveEmpty_39 (by decide) (by decide) ?_
    refine wp_min (pc := 42) dX2_leaveEmpty_42 mx_X2_91 (by decide) (Nat.le_of_ble_eq_true rfl) ?_
    rw [show min (pushS (DC τ) S (LB (DC τ) S) p - 1 + 1) 152 = pushS (DC τ) S (LB (DC τ) S) p by omega]
    refine wp_istore_n (pc := 45) dX2_leaveEmpty_45 rfl (Nat.le_of_ble_eq_true rfl) rfl ?_
    refine wp_aload_n (pc := 46) dX2_leaveEmpty_46 rfl rfl ?_
    refine wp_getI (pc := 47) 3 dX2_leaveEmpty_47 fl_X2_55 rfl rfl ?_
    refine wp_istore (pc := 50) dX2_leaveEmpty_50 (Nat.le_of_ble_eq_true rfl) rfl ?_
    exact lp (by first | omega | (split at z25 <;> omega)) (τ 49 3) (by omega) (by omega) τ Frm.rf rfl (fun y => by rw [if_neg (by omega)]) (fun y => by rw [if_neg (by omega)])
  · refine wp_iload_n (pc := 15) dX2_leaveEmpty_15 rfl rfl ?_
    refine wp_iconst (pc := 16) dX2_leaveEmpty_16 (by decide) ?_
    refine wp_icmp_ne (pc := 17) 31 dX2_leaveEmpty_17 (by decide) (fun c_17 => ?_) (fun c_17 => ?_)
    · refine wp_return (pc := 31) dX2_leaveEmpty_31 rfl ?_
      refine ⟨rfl, Frm.rf, ?_, fun y => by rw [if_neg (by omega)], fun y => by rw [if_neg (by omega)]⟩
      rw [eb, if_neg (by first | omega | (split at z25 <;> omega))]
    · refine wp_aload_n (pc := 20) dX2_leaveEmpty_20 rfl rfl ?_
      refine wp_getR (pc := 21) (q := 14) dX2_leaveEmpty_21 fl_X2_43 rfl ?_
      refine wp_iload_n (pc := 24) dX2_leaveEmpty_24 rfl rfl ?_
      refine wp_cvI1 (pc := 25) dX2_leaveEmpty_25 mv_X2_83 (c_hasShape (by omega)) (Nat.le_of_ble_eq_true rfl) rfl (Nat.le_of_ble_eq_true rfl) (fun z_25 σ_25 h_25 => ?_)
      obtain ⟨z25, s25⟩ := h_25
      have s25 := s25.symm
      subst s25
      refine wp_if_ne (pc := 28) 32 dX2_leaveEmpty_28 (by decide) (fun c_28 => ?_) (fun c_28 => ?_)
      · refine wp_aload_n (pc := 32) dX2_leaveEmpty_32 rfl rfl ?_
        refine wp_iload_n (pc := 33) dX2_leaveEmpty_33 rfl rfl ?_
        refine wp_cvI1 (pc := 34) dX2_leaveEmpty_34 mv_X2_87 (c_lastReachedAhead_49 hD hS ⟨hp.1, show p ≤ τ 14 0 by omega⟩ hR) (Nat.le_of_ble_eq_true rfl) rfl (Nat.le_of_ble_eq_true rfl) (fun z_34 σ_34 h_34 => ?_)
        obtain ⟨rfl, e_34⟩ := h_34; have e2_34 := e_34.symm; subst e2_34
        refine wp_iconst (pc := 37) dX2_leaveEmpty_37 (by decide) ?_
        refine wp_iadd (pc := 38) dX2_leaveEmpty_38 (by omega) ?_
        refine wp_sipush (pc := 39) dX2_leaveEmpty_39 (by decide) (by decide) ?_
        refine wp_min (pc := 42) dX2_leaveEmpty_42 mx_X2_91 (by decide) (Nat.le_of_ble_eq_true rfl) ?_
        rw [show min (pushS (DC τ) S (LB (DC τ) S) p - 1 + 1) 152 = pushS (DC τ) S (LB (DC τ) S) p by omega]
        refine wp_istore_n (pc := 45) dX2_leaveEmpty_45 rfl (Nat.le_of_ble_eq_true rfl) rfl ?_
        refine wp_aload_n (pc := 46) dX2_leaveEmpty_46 rfl rfl ?_
        refine wp_getI (pc := 47) 3 dX2_leaveEmpty_47 fl_X2_55 rfl rfl ?_
        refine wp_istore (pc := 50) dX2_leaveEmpty_50 (Nat.le_of_ble_eq_true rfl) rfl ?_
        exact lp (by first | omega | (split at z25 <;> omega)) (τ 49 3) (by omega) (by omega) τ Frm.rf rfl (fun y => by rw [if_neg (by omega)]) (fun y => by rw [if_neg (by omega)])
      · refine wp_return (pc := 31) dX2_leaveEmpty_31 rfl ?_
        refine ⟨rfl, Frm.rf, ?_, fun y => by rw [if_neg (by omega)], fun y => by rw [if_neg (by omega)]⟩
        rw [eb, if_neg (by first | omega | (split at z25 <;> omega))]
set_option maxHeartbeats 4000000 in
set_option maxRecDepth 100000 in
theorem c_addLine_49 {τ D S : Sto} {p i c f n : Int} (hD : OKD D S) (hS : OKS S) (hp : 0 ≤ p ∧ p ≤ D 0 0) (hR : RK τ 50 52 D S p) (en : n = τ 49 3) (hl : 0 ≤ n ∧ n < 152) (hc : 1 ≤ c ∧ 0 ≤ f ∧ f + c ≤ 80) (hw : ∀ k, 0 ≤ k → k < c → 0 ≤ τ 44 (f + k) ∧ τ 44 (f + k) ≤ 18) (e5 : τ 19 5 = D 5 5) : CtV yX2_addLine cX2_addLine 7 none 1 [mR 49, mI p, mI i, mI c, mI f] τ (fun σ' => σ' = upd2 (upd2 (upd2 (upd2 (upd2 (upd2 τ 53 n p) 54 n i) 55 n c) 58 n (us (τ 44) f c)) 59 n (clsS D S (LB D S) p n)) 49 3 (n + 1)) := by
  refine ct_of rfl [some (mR 49), some (mI p), some (mI i), some (mI c), some (mI f), none, none] (Nat.le_of_ble_eq_true rfl) rfl (fun hσ => ?_)
  show Wp cX2_addLine RX2 none 1 0 [some (mR 49), some (mI p), some (mI i), some (mI c), some (mI f), none, none] [] _ _
  have h5 : 0 ≤ D 5 5 ∧ D 5 5 ≤ 2 := hD.2.2.2.2.2.2.2.2.2.2
  have hrb := rAh_bd hD hS (LB D S) (p := p) n hp.2
  have fin : ∀ (u w : Int), u = us (τ 44) f c → -1000 ≤ u → u ≤ 2000 → Wp cX2_addLine RX2 none 1 46 [some (mR 49), some (mI p), some (mI i), some (mI c), some (mI f), some (mI u), some (mI w)] [] τ (fun v σ' => v = none ∧ (fun σ' => σ' = upd2 (upd2 (upd2 (upd2 (upd2 (upd2 τ 53 n p) 54 n i) 55 n c) 58 n (us (τ 44) f c)) 59 n (clsS D S (LB D S) p n)) 49 3 (n + 1)) σ') := by
    intro u w eu _ _
    refine wp_aload_n (pc := 46) dX2_addLine_46 rfl rfl ?_
    refine wp_getR (pc := 47) (q := 53) dX2_addLine_47 fl_X2_21 rfl ?_
    refine wp_aload_n (pc := 50) dX2_addLine_50 rfl rfl ?_
    refine wp_getI (pc := 51) 3 dX2_addLine_51 fl_X2_55 rfl rfl ?_
    rw [← en]
    refine wp_iload_n (pc := 54) dX2_addLine_54 rfl rfl ?_
    refine wp_iast (pc := 55) 152 dX2_addLine_55 rfl (by omega) ?_
    refine wp_aload_n (pc := 56) dX2_addLine_56 rfl rfl ?_
    refine wp_getR (pc := 57) (q := 54) dX2_addLine_57 fl_X2_24 rfl ?_
    refine wp_aload_n (pc := 60) dX2_addLine_60 rfl rfl ?_
    refine wp_getI (pc := 61) 3 dX2_addLine_61 fl_X2_55 rfl rfl ?_
    rw [upd2_r (r := 53) (r' := 49) (by decide)]
    rw [← en]
    refine wp_iload_n (pc := 64) dX2_addLine_64 rfl rfl ?_
    refine wp_iast (pc := 65) 152 dX2_addLine_65 rfl (by omega) ?_
    refine wp_aload_n (pc := 66) dX2_addLine_66 rfl rfl ?_
    refine wp_getR (pc := 67) (q := 55) dX2_addLine_67 fl_X2_27 rfl ?_
    refine wp_aload_n (pc := 70) dX2_addLine_70 rfl rfl ?_
    refine wp_getI (pc := 71) 3 dX2_addLine_71 fl_X2_55 rfl rfl ?_
    rw [upd2_r (r := 54) (r' := 49) (by decide), upd2_r (r := 53) (r' := 49) (by decide)]
    rw [← en]
    refine wp_iload_n (pc := 74) dX2_addLine_74 rfl rfl ?_
    refine wp_iast (pc := 75) 152 dX2_addLine_75 rfl (by omega) ?_
    refine wp_aload_n (pc := 76) dX2_addLine_76 rfl rfl ?_
    refine wp_getR (pc := 77) (q := 58) dX2_addLine_77 fl_X2_36 rfl ?_
    refine wp_aload_n (pc := 80) dX2_addLine_80 rfl rfl ?_
    refine wp_getI (pc := 81) 3 dX2_addLine_81 fl_X2_55 rfl rfl ?_
    rw [upd2_r (r := 55) (r' := 49) (by decide), upd2_r (r := 54) (r' := 49) (by decide), upd2_r (r := 53) (r' := 49) (by decide)]
    rw [← en]
    refine wp_iload (pc := 84) dX2_addLine_84 rfl ?_
    refine wp_iast (pc := 86) 152 dX2_addLine_86 rfl (by omega) ?_
    refine wp_aload_n (pc := 87) dX2_addLine_87 rfl rfl ?_
    refine wp_getR (pc := 88) (q := 59) dX2_addLine_88 fl_X2_39 rfl ?_
    refine wp_aload_n (pc := 91) dX2_addLine_91 rfl rfl ?_
    refine wp_getI (pc := 92) 3 dX2_addLine_92 fl_X2_55 rfl rfl ?_
    rw [upd2_r (r := 58) (r' := 49) (by decide), upd2_r (r := 55) (r' := 49) (by decide), upd2_r (r := 54) (r' := 49) (by decide), upd2_r (r := 53) (r' := 49) (by decide)]
    rw [← en]
    refine wp_aload_n (pc := 95) dX2_addLine_95 rfl rfl ?_
    refine wp_getR (pc := 96) (q := 14) dX2_addLine_96 fl_X2_43 rfl ?_
    refine wp_getR (pc := 99) (q := 19) dX2_addLine_99 fl_X2_80 rfl ?_
    refine wp_iconst (pc := 102) dX2_addLine_102 (by decide) ?_
    refine wp_iald (pc := 103) 6 dX2_addLine_103 rfl (by omega) ?_
    rw [upd2_r (r := 58) (r' := 19) (by decide), upd2_r (r := 55) (r' := 19) (by decide), upd2_r (r := 54) (r' := 19) (by decide), upd2_r (r := 53) (r' := 19) (by decide)]
    rw [e5]
    refine wp_if_ne (pc := 104) 123 dX2_addLine_104 (by decide) (fun c_104 => ?_) (fun c_104 => ?_)
    · refine wp_iconst (pc := 123) dX2_addLine_123 (by decide) ?_
      refine wp_zast (pc := 124) 152 dX2_addLine_124 rfl (by omega) (by omega) ?_
      refine wp_aload_n (pc := 125) dX2_addLine_125 rfl rfl ?_
      refine wp_dup (pc := 126) dX2_addLine_126 (fun _ h => by cases h) ?_
      refine wp_getI (pc := 127) 3 dX2_addLine_127 fl_X2_55 rfl rfl ?_
      rw [upd2_r (r := 59) (r' := 49) (by decide), upd2_r (r := 58) (r' := 49) (by decide), upd2_r (r := 55) (r' := 49) (by decide), upd2_r (r := 54) (r' := 49) (by decide), upd2_r (r := 53) (r' := 49) (by decide)]
      rw [← en]
      refine wp_iconst (pc := 130) dX2_addLine_130 (by decide) ?_
      refine wp_iadd (pc := 131) dX2_addLine_131 (by omega) ?_
      refine wp_putI (pc := 132) 3 dX2_addLine_132 fl_X2_55 ⟨rfl, rfl⟩ rfl rfl ?_
      refine wp_return (pc := 135) dX2_addLine_135 rfl ?_
      refine ⟨rfl, ?_⟩
      rw [← eu]
      unfold clsS
      first | rw [if_pos (by omega)] | rw [if_neg (by omega)]
    · refine wp_aload_n (pc := 107) dX2_addLine_107 rfl rfl ?_
      refine wp_iload_n (pc := 108) dX2_addLine_108 rfl rfl ?_
      refine wp_aload_n (pc := 109) dX2_addLine_109 rfl rfl ?_
      refine wp_getI (pc := 110) 3 dX2_addLine_110 fl_X2_55 rfl rfl ?_
      rw [upd2_r (r := 58) (r' := 49) (by decide), upd2_r (r := 55) (r' := 49) (by decide), upd2_r (r := 54) (r' := 49) (by decide), upd2_r (r := 53) (r' := 49) (by decide)]
      rw [← en]
      refine wp_cvI2 (pc := 113) dX2_addLine_113 mv_X2_134 (c_reachAhead_49 (l := n) hD hS hp (by omega) (fun q q0 q1 => by simp only [upd2_r (show (50 : Nat) ≠ 53 by decide), upd2_r (show (50 : Nat) ≠ 54 by decide), upd2_r (show (50 : Nat) ≠ 55 by decide), upd2_r (show (50 : Nat) ≠ 58 by decide), upd2_r (show (52 : Nat) ≠ 53 by decide), upd2_r (show (52 : Nat) ≠ 54 by decide), upd2_r (show (52 : Nat) ≠ 55 by decide), upd2_r (show (52 : Nat) ≠ 58 by decide)]; exact hR q q0 q1)) (Nat.le_of_ble_eq_true rfl) rfl (Nat.le_of_ble_eq_true rfl) (fun z_113 σ_113 h_113 => ?_)
      obtain ⟨rfl, e_113⟩ := h_113; have e2_113 := e_113.symm; subst e2_113
      refine wp_if_le (pc := 116) 123 dX2_addLine_116 (by decide) (fun c_116 => ?_) (fun c_116 => ?_)
      · refine wp_iconst (pc := 123) dX2_addLine_123 (by decide) ?_
        refine wp_zast (pc := 124) 152 dX2_addLine_124 rfl (by omega) (by omega) ?_
        refine wp_aload_n (pc := 125) dX2_addLine_125 rfl rfl ?_
        refine wp_dup (pc := 126) dX2_addLine_126 (fun _ h => by cases h) ?_
        refine wp_getI (pc := 127) 3 dX2_addLine_127 fl_X2_55 rfl rfl ?_
        rw [upd2_r (r := 59) (r' := 49) (by decide), upd2_r (r := 58) (r' := 49) (by decide), upd2_r (r := 55) (r' := 49) (by decide), upd2_r (r := 54) (r' := 49) (by decide), upd2_r (r := 53) (r' := 49) (by decide)]
        rw [← en]
        refine wp_iconst (pc := 130) dX2_addLine_130 (by decide) ?_
        refine wp_iadd (pc := 131) dX2_addLine_131 (by omega) ?_
        refine wp_putI (pc := 132) 3 dX2_addLine_132 fl_X2_55 ⟨rfl, rfl⟩ rfl rfl ?_
        refine wp_return (pc := 135) dX2_addLine_135 rfl ?_
        refine ⟨rfl, ?_⟩
        rw [← eu]
        unfold clsS
        first | rw [if_pos (by omega)] | rw [if_neg (by omega)]
      · refine wp_iconst (pc := 119) dX2_addLine_119 (by decide) ?_
        refine wp_goto (pc := 120) 124 dX2_addLine_120 (by decide) ?_
        refine wp_zast (pc := 124) 152 dX2_addLine_124 rfl (by omega) (by omega) ?_
        refine wp_aload_n (pc := 125) dX2_addLine_125 rfl rfl ?_
        refine wp_dup (pc := 126) dX2_addLine_126 (fun _ h => by cases h) ?_
        refine wp_getI (pc := 127) 3 dX2_addLine_127 fl_X2_55 rfl rfl ?_
        rw [upd2_r (r := 59) (r' := 49) (by decide), upd2_r (r := 58) (r' := 49) (by decide), upd2_r (r := 55) (r' := 49) (by decide), upd2_r (r := 54) (r' := 49) (by decide), upd2_r (r := 53) (r' := 49) (by decide)]
        rw [← en]
        refine wp_iconst (pc := 130) dX2_addLine_130 (by decide) ?_
        refine wp_iadd (pc := 131) dX2_addLine_131 (by omega) ?_
        refine wp_putI (pc := 132) 3 dX2_addLine_132 fl_X2_55 ⟨rfl, rfl⟩ rfl rfl ?_
        refine wp_return (pc := 135) dX2_addLine_135 rfl ?_
        refine ⟨rfl, ?_⟩
        rw [← eu]
        unfold clsS
        first | rw [if_pos (by omega)] | rw [if_neg (by omega)]
  have eus0 : us (τ 44) f 0 = -1 := by unfold us; rw [sumI_0]; rfl
  have lp : ∀ w, w ≤ f + c → f ≤ w → 0 ≤ us (τ 44) f (w - f) + 1 → us (τ 44) f (w - f) ≤ 19 * (w - f) → ∀ u, u = us (τ 44) f (w - f) + (c - (w - f)) → Wp cX2_addLine RX2 none 1 9 [some (mR 49), some (mI p), some (mI i), some (mI c), some (mI f), some (mI u), some (mI w)] [] τ (fun v σ' => v = none ∧ (fun σ' => σ' = upd2 (upd2 (upd2 (upd2 (upd2 (upd2 τ 53 n p) 54 n i) 55 n c) 58 n (us (τ 44) f c)) 59 n (clsS D S (LB D S) p n)) 49 3 (n + 1)) σ') := by
    refine up_ind (f + c) (fun w hwc ih w0 hu0 hu1 u hu => ?_)
    have e1 := us_s (wd := τ 44) (s := f) (c := w - f) (by omega)
    rw [show w - f + 1 = w + 1 - f by omega, show f + (w - f) = w by omega] at e1
    refine wp_iload (pc := 9) dX2_addLine_9 rfl ?_
    refine wp_iload (pc := 11) dX2_addLine_11 rfl ?_
    refine wp_iload_n (pc := 13) dX2_addLine_13 rfl rfl ?_
    refine wp_iadd (pc := 14) dX2_addLine_14 (by omega) ?_
    refine wp_icmp_ge (pc := 15) 46 dX2_addLine_15 (by decide) (fun c_15 => ?_) (fun c_15 => ?_)
    · have e : w = f + c := by omega
      rw [e, show f + c - f = c by omega] at hu hu0 hu1
      exact fin u w (by omega) (by omega) (by omega)
    · refine wp_iload (pc := 18) dX2_addLine_18 rfl ?_
      refine wp_bipush (pc := 20) dX2_addLine_20 (by decide) (by decide) ?_
      refine wp_icmp_ge (pc := 22) 46 dX2_addLine_22 (by decide) (fun c_22 => ?_) (fun c_22 => ?_)
      · omega
      · refine wp_iload (pc := 25) dX2_addLine_25 rfl ?_
        refine wp_aload_n (pc := 27) dX2_addLine_27 rfl rfl ?_
        refine wp_getR (pc := 28) (q := 43) dX2_addLine_28 fl_X2_51 rfl ?_
        refine wp_getR (pc := 31) (q := 44) dX2_addLine_31 fl_X2_131 rfl ?_
        refine wp_iload (pc := 34) dX2_addLine_34 rfl ?_
        refine wp_iald (pc := 36) 80 dX2_addLine_36 rfl (by omega) ?_
        have h1 := hw (w - f) (by omega) (by omega)
        rw [show f + (w - f) = w by omega] at h1
        refine wp_iadd (pc := 37) dX2_addLine_37 (by omega) ?_
        refine wp_istore (pc := 38) dX2_addLine_38 (Nat.le_of_ble_eq_true rfl) rfl ?_
        refine wp_iinc (pc := 40) dX2_addLine_40 rfl rfl (by omega) ?_
        refine wp_goto (pc := 43) 9 dX2_addLine_43 (by decide) ?_
        exact ih (by omega) (by omega) (by omega) (by omega) _ (by omega)
  refine wp_iload_n (pc := 0) dX2_addLine_0 rfl rfl ?_
  refine wp_iconst (pc := 1) dX2_addLine_1 (by decide) ?_
  refine wp_isub (pc := 2) dX2_addLine_2 (by omega) ?_
  refine wp_istore (pc := 3) dX2_addLine_3 (Nat.le_of_ble_eq_true rfl) rfl ?_
  refine wp_iload (pc := 5) dX2_addLine_5 rfl ?_
  refine wp_istore (pc := 7) dX2_addLine_7 (Nat.le_of_ble_eq_true rfl) rfl ?_
  exact lp f (by omega) (by omega) (by rw [Int.sub_self, eus0]; omega) (by rw [Int.sub_self, eus0]; omega) _ (by rw [Int.sub_self, eus0]; omega)

set_option maxHeartbeats 4000000 in
set_option maxRecDepth 100000 in
theorem c_reachAhead_60 {τ D S : Sto} {p l : Int} (hD : OKD D S) (hS : OKS S) (hp : 0 ≤ p ∧ p ≤ D 0 0) (hl : 0 ≤ l ∧ l ≤ 1000) (hR : RK τ 61 63 D S p) : CtI yX2_reachAhead cX2_reachAhead 6 (some .int) 0 [mR 60, mI p, mI l] τ (fun z σ' => z = rAh D S (LB D S) p l ∧ σ' = τ) := by
  refine ct_of rfl [some (mR 60), some (mI p), some (mI l), none, none, none] (Nat.le_of_ble_eq_true rfl) rfl (fun hσ => ?_)
  show Wp cX2_reachAhead RX2 (some .int) 0 0 [some (mR 60), some (mI p), some (mI l), none, none, none] [] _ _
  have h8 := hD.1.2
  have lp : ∀ q, q ≤ p → 0 ≤ q → ∀ l5 : Option MV, Wp cX2_reachAhead RX2 (some .int) 0 5 [some (mR 60), some (mI p), some (mI l), some (mI (rAh D S (LB D S) q l)), some (mI q), l5] [] τ (fun v σ' => ∃ z, v = some (mI z) ∧ (fun z σ' => z = rAh D S (LB D S) p l ∧ σ' = τ) z σ') := by
    refine up_ind p (fun q hq ih h0 l5 => ?_)
    have hb := rAh_bd hD hS (LB D S) (p := q) l (by omega)
    refine wp_iload (pc := 5) dX2_reachAhead_5 rfl ?_
    refine wp_iload_n (pc := 7) dX2_reachAhead_7 rfl rfl ?_
    refine wp_icmp_ge (pc := 8) 71 dX2_reachAhead_8 (by decide) (fun c_8 => ?_) (fun c_8 => ?_)
    · have e : q = p := by omega
      subst e
      refine wp_iload_n (pc := 71) dX2_reachAhead_71 rfl rfl ?_
      refine wp_ireturn (pc := 72) dX2_reachAhead_72 rfl ?_
      exact ⟨_, rfl, rfl, rfl⟩
    · have hR1 := hR q h0 (by omega)
      have hb1 := LBb hD (p := q) h0 (by omega)
      refine wp_iload_n (pc := 11) dX2_reachAhead_11 rfl rfl ?_
      refine wp_aload_n (pc := 12) dX2_reachAhead_12 rfl rfl ?_
      refine wp_getR (pc := 13) (q := 61) dX2_reachAhead_13 fl_X2_9 rfl ?_
      refine wp_iload (pc := 16) dX2_reachAhead_16 rfl ?_
      refine wp_iald (pc := 18) 8 dX2_reachAhead_18 rfl (by omega) ?_
      rw [hR1.1]
      refine wp_isub (pc := 19) dX2_reachAhead_19 (by omega) ?_
      refine wp_istore (pc := 20) dX2_reachAhead_20 (Nat.le_of_ble_eq_true rfl) rfl ?_
      refine wp_iload (pc := 22) dX2_reachAhead_22 rfl ?_
      refine wp_if_lt (pc := 24) 65 dX2_reachAhead_24 (by decide) (fun c_24 => ?_) (fun c_24 => ?_)
      · refine wp_iinc (pc := 65) dX2_reachAhead_65 rfl rfl (by omega) ?_
        refine wp_goto (pc := 68) 5 dX2_reachAhead_68 (by decide) ?_
        have h2 := ih (by omega) (by omega)
        have e1 : rAh D S (LB D S) (q + 1) l = max (rAh D S (LB D S) q l) (rch D S q (l - LB D S q)) := mxI_s h0
        have e2 : 9 ≤ l - LB D S q → rch D S q (l - LB D S q) = 0 := fun h => rch_far hD hS h0 (by omega) h
        have e3 : l - LB D S q < 0 → rch D S q (l - LB D S q) = 0 := rch_neg
        rw [e1] at h2
        first
          | (rw [show max (rAh D S (LB D S) q l) (rch D S q (l - LB D S q)) = rAh D S (LB D S) q l by omega] at h2; exact h2 _)
          | (rw [show max (rAh D S (LB D S) q l) (rch D S q (l - LB D S q)) = rch D S q (l - LB D S q) by omega] at h2; exact h2 _)
      · refine wp_iload (pc := 27) dX2_reachAhead_27 rfl ?_
        refine wp_bipush (pc := 29) dX2_reachAhead_29 (by decide) (by decide) ?_
        refine wp_icmp_ge (pc := 31) 65 dX2_reachAhead_31 (by decide) (fun c_31 => ?_) (fun c_31 => ?_)
        · refine wp_iinc (pc := 65) dX2_reachAhead_65 rfl rfl (by omega) ?_
          refine wp_goto (pc := 68) 5 dX2_reachAhead_68 (by decide) ?_
          have h2 := ih (by omega) (by omega)
          have e1 : rAh D S (LB D S) (q + 1) l = max (rAh D S (LB D S) q l) (rch D S q (l - LB D S q)) := mxI_s h0
          have e2 : 9 ≤ l - LB D S q → rch D S q (l - LB D S q) = 0 := fun h => rch_far hD hS h0 (by omega) h
          have e3 : l - LB D S q < 0 → rch D S q (l - LB D S q) = 0 := rch_neg
          rw [e1] at h2
          first
            | (rw [show max (rAh D S (LB D S) q l) (rch D S q (l - LB D S q)) = rAh D S (LB D S) q l by omega] at h2; exact h2 _)
            | (rw [show max (rAh D S (LB D S) q l) (rch D S q (l - LB D S q)) = rch D S q (l - LB D S q) by omega] at h2; exact h2 _)
        · have hR2 := hR1.2 (l - LB D S q) (by omega) (by omega)
          refine wp_aload_n (pc := 34) dX2_reachAhead_34 rfl rfl ?_
          refine wp_getR (pc := 35) (q := 63) dX2_reachAhead_35 fl_X2_18 rfl ?_
          refine wp_iload (pc := 38) dX2_reachAhead_38 rfl ?_
          refine wp_bipush (pc := 40) dX2_reachAhead_40 (by decide) (by decide) ?_
          refine wp_imul (pc := 42) dX2_reachAhead_42 (by omega) ?_
          refine wp_iload (pc := 43) dX2_reachAhead_43 rfl ?_
          refine wp_iadd (pc := 45) dX2_reachAhead_45 (by omega) ?_
          refine wp_iald (pc := 46) 72 dX2_reachAhead_46 rfl (by omega) ?_
          rw [hR2]
          refine wp_iload_n (pc := 47) dX2_reachAhead_47 rfl rfl ?_
          refine wp_icmp_le (pc := 48) 65 dX2_reachAhead_48 (by decide) (fun c_48 => ?_) (fun c_48 => ?_)
          · refine wp_iinc (pc := 65) dX2_reachAhead_65 rfl rfl (by omega) ?_
            refine wp_goto (pc := 68) 5 dX2_reachAhead_68 (by decide) ?_
            have h2 := ih (by omega) (by omega)
            have e1 : rAh D S (LB D S) (q + 1) l = max (rAh D S (LB D S) q l) (rch D S q (l - LB D S q)) := mxI_s h0
            have e2 : 9 ≤ l - LB D S q → rch D S q (l - LB D S q) = 0 := fun h => rch_far hD hS h0 (by omega) h
            have e3 : l - LB D S q < 0 → rch D S q (l - LB D S q) = 0 := rch_neg
            rw [e1] at h2
            first
              | (rw [show max (rAh D S (LB D S) q l) (rch D S q (l - LB D S q)) = rAh D S (LB D S) q l by omega] at h2; exact h2 _)
              | (rw [show max (rAh D S (LB D S) q l) (rch D S q (l - LB D S q)) = rch D S q (l - LB D S q) by omega] at h2; exact h2 _)
          · refine wp_aload_n (pc := 51) dX2_reachAhead_51 rfl rfl ?_
            refine wp_getR (pc := 52) (q := 63) dX2_reachAhead_52 fl_X2_18 rfl ?_
            refine wp_iload (pc := 55) dX2_reachAhead_55 rfl ?_
            refine wp_bipush (pc := 57) dX2_reachAhead_57 (by decide) (by decide) ?_
            refine wp_imul (pc := 59) dX2_reachAhead_59 (by omega) ?_
            refine wp_iload (pc := 60) dX2_reachAhead_60 rfl ?_
            refine wp_iadd (pc := 62) dX2_reachAhead_62 (by omega) ?_
            refine wp_iald (pc := 63) 72 dX2_reachAhead_63 rfl (by omega) ?_
            rw [hR2]
            refine wp_istore_n (pc := 64) dX2_reachAhead_64 rfl (Nat.le_of_ble_eq_true rfl) rfl ?_
            refine wp_iinc (pc := 65) dX2_reachAhead_65 rfl rfl (by omega) ?_
            refine wp_goto (pc := 68) 5 dX2_reachAhead_68 (by decide) ?_
            have h2 := ih (by omega) (by omega)
            have e1 : rAh D S (LB D S) (q + 1) l = max (rAh D S (LB D S) q l) (rch D S q (l - LB D S q)) := mxI_s h0
            have e2 : 9 ≤ l - LB D S q → rch D S q (l - LB D S q) = 0 := fun h => rch_far hD hS h0 (by omega) h
            have e3 : l - LB D S q < 0 → rch D S q (l - LB D S q) = 0 := rch_neg
            rw [e1] at h2
            first
              | (rw [show max (rAh D S (LB D S) q l) (rch D S q (l - LB D S q)) = rAh D S (LB D S) q l by omega] at h2; exact h2 _)
              | (rw [show max (rAh D S (LB D S) q l) (rch D S q (l - LB D S q)) = rch D S q (l - LB D S q) by omega] at h2; exact h2 _)
  refine wp_iconst (pc := 0) dX2_reachAhead_0 (by decide) ?_
  refine wp_istore_n (pc := 1) dX2_reachAhead_1 rfl (Nat.le_of_ble_eq_true rfl) rfl ?_
  refine wp_iconst (pc := 2) dX2_reachAhead_2 (by decide) ?_
  refine wp_istore (pc := 3) dX2_reachAhead_3 (Nat.le_of_ble_eq_true rfl) rfl ?_
  exact lp 0 (by omega) (by omega) none
set_option maxHeartbeats 4000000 in
set_option maxRecDepth 100000 in
theorem c_lastReachedAhead_60 {τ D S : Sto} {p : Int} (hD : OKD D S) (hS : OKS S) (hp : 0 ≤ p ∧ p ≤ D 0 0) (hR : RK τ 61 63 D S p) : CtI yX2_lastReachedAhead cX2_lastReachedAhead 5 (some .int) 1 [mR 60, mI p] τ (fun z σ' => z = pushS D S (LB D S) p - 1 ∧ σ' = τ) := by
  refine ct_of rfl [some (mR 60), some (mI p), none, none, none] (Nat.le_of_ble_eq_true rfl) rfl (fun hσ => ?_)
  show Wp cX2_lastReachedAhead RX2 (some .int) 1 0 [some (mR 60), some (mI p), none, none, none] [] _ _
  have h8 := hD.1.2
  have hpb : ∀ q, 0 ≤ q → q ≤ p → 0 ≤ pushS D S (LB D S) q ∧ pushS D S (LB D S) q ≤ 152 := fun q q0 q1 => pushS_bd (by decide) (fun x x0 x1 => by have := LBb hD (p := x) x0 (by omega); have := hD.2.1 x x0 (by omega); omega)
  have lp : ∀ q, q ≤ p → 0 ≤ q → ∀ l4 : Option MV, Wp cX2_lastReachedAhead RX2 (some .int) 1 4 [some (mR 60), some (mI p), some (mI (pushS D S (LB D S) q - 1)), some (mI q), l4] [] τ (fun v σ' => ∃ z, v = some (mI z) ∧ (fun z σ' => z = pushS D S (LB D S) p - 1 ∧ σ' = τ) z σ') := by
    refine up_ind p (fun q hq ih h0 l4 => ?_)
    have hb := hpb q h0 hq
    have lp2 : q < p → ∀ j, j ≤ 9 → 0 ≤ j → Wp cX2_lastReachedAhead RX2 (some .int) 1 12 [some (mR 60), some (mI p), some (mI (max (pushS D S (LB D S) q) (mxI (pshJ D S (LB D S) q) j) - 1)), some (mI q), some (mI j)] [] τ (fun v σ' => ∃ z, v = some (mI z) ∧ (fun z σ' => z = pushS D S (LB D S) p - 1 ∧ σ' = τ) z σ') := by
      intro hqp
      have hR1 := hR q h0 hqp
      have hb1 := LBb hD (p := q) h0 (by omega)
      refine up_ind 9 (fun j hj ih2 j0 => ?_)
      have hmb := mxI_bd (f := pshJ D S (LB D S) q) (n := j) (c := 152) (by decide) (fun k k0 k1 => by unfold pshJ; split <;> omega)
      have e1 : mxI (pshJ D S (LB D S) q) (j + 1) = max (mxI (pshJ D S (LB D S) q) j) (pshJ D S (LB D S) q j) := mxI_s j0
      refine wp_iload (pc := 12) dX2_lastReachedAhead_12 rfl ?_
      refine wp_bipush (pc := 14) dX2_lastReachedAhead_14 (by decide) (by decide) ?_
      refine wp_icmp_ge (pc := 16) 54 dX2_lastReachedAhead_16 (by decide) (fun c_16 => ?_) (fun c_16 => ?_)
      · refine wp_iinc (pc := 54) dX2_lastReachedAhead_54 rfl rfl (by omega) ?_
        refine wp_goto (pc := 57) 4 dX2_lastReachedAhead_57 (by decide) ?_
        have h2 := ih (by omega) (by omega)
        have e2 : pushS D S (LB D S) (q + 1) = max (pushS D S (LB D S) q) (mxI (pshJ D S (LB D S) q) 9) := mxI_s h0
        have e3 : j = 9 := by omega
        subst e3
        rw [e2] at h2
        exact h2 _
      · have hR2 := hR1.2 j j0 (by omega)
        refine wp_aload_n (pc := 19) dX2_lastReachedAhead_19 rfl rfl ?_
        refine wp_getR (pc := 20) (q := 63) dX2_lastReachedAhead_20 fl_X2_18 rfl ?_
        refine wp_iload_n (pc := 23) dX2_lastReachedAhead_23 rfl rfl ?_
        refine wp_bipush (pc := 24) dX2_lastReachedAhead_24 (by decide) (by decide) ?_
        refine wp_imul (pc := 26) dX2_lastReachedAhead_26 (by omega) ?_
        refine wp_iload (pc := 27) dX2_lastReachedAhead_27 rfl ?_
        refine wp_iadd (pc := 29) dX2_lastReachedAhead_29 (by omega) ?_
        refine wp_iald (pc := 30) 72 dX2_lastReachedAhead_30 rfl (by omega) ?_
        rw [hR2]
        refine wp_if_le (pc := 31) 48 dX2_lastReachedAhead_31 (by decide) (fun c_31 => ?_) (fun c_31 => ?_)
        · refine wp_iinc (pc := 48) dX2_lastReachedAhead_48 rfl rfl (by omega) ?_
          refine wp_goto (pc := 51) 12 dX2_lastReachedAhead_51 (by decide) ?_
          have h2 := ih2 (by omega) (by omega)
          rw [e1] at h2
          first
            | (have ep : pshJ D S (LB D S) q j = LB D S q + j + 1 := if_pos (by omega)
               rw [ep, show max (pushS D S (LB D S) q) (max (mxI (pshJ D S (LB D S) q) j) (LB D S q + j + 1)) - 1 = max (max (pushS D S (LB D S) q) (mxI (pshJ D S (LB D S) q) j) - 1) (LB D S q + j) by omega] at h2
               exact h2)
            | (have ep : pshJ D S (LB D S) q j = 0 := if_neg (by omega)
               rw [ep, show max (pushS D S (LB D S) q) (max (mxI (pshJ D S (LB D S) q) j) 0) - 1 = max (pushS D S (LB D S) q) (mxI (pshJ D S (LB D S) q) j) - 1 by omega] at h2
               exact h2)
        · refine wp_iload_n (pc := 34) dX2_lastReachedAhead_34 rfl rfl ?_
          refine wp_aload_n (pc := 35) dX2_lastReachedAhead_35 rfl rfl ?_
          refine wp_getR (pc := 36) (q := 61) dX2_lastReachedAhead_36 fl_X2_9 rfl ?_
          refine wp_iload_n (pc := 39) dX2_lastReachedAhead_39 rfl rfl ?_
          refine wp_iald (pc := 40) 8 dX2_lastReachedAhead_40 rfl (by omega) ?_
          rw [hR1.1]
          refine wp_iload (pc := 41) dX2_lastReachedAhead_41 rfl ?_
          refine wp_iadd (pc := 43) dX2_lastReachedAhead_43 (by omega) ?_
          refine wp_max (pc := 44) dX2_lastReachedAhead_44 mx_X2_97 (by decide) (Nat.le_of_ble_eq_true rfl) ?_
          refine wp_istore_n (pc := 47) dX2_lastReachedAhead_47 rfl (Nat.le_of_ble_eq_true rfl) rfl ?_
          refine wp_iinc (pc := 48) dX2_lastReachedAhead_48 rfl rfl (by omega) ?_
          refine wp_goto (pc := 51) 12 dX2_lastReachedAhead_51 (by decide) ?_
          have h2 := ih2 (by omega) (by omega)
          rw [e1] at h2
          first
            | (have ep : pshJ D S (LB D S) q j = LB D S q + j + 1 := if_pos (by omega)
               rw [ep, show max (pushS D S (LB D S) q) (max (mxI (pshJ D S (LB D S) q) j) (LB D S q + j + 1)) - 1 = max (max (pushS D S (LB D S) q) (mxI (pshJ D S (LB D S) q) j) - 1) (LB D S q + j) by omega] at h2
               exact h2)
            | (have ep : pshJ D S (LB D S) q j = 0 := if_neg (by omega)
               rw [ep, show max (pushS D S (LB D S) q) (max (mxI (pshJ D S (LB D S) q) j) 0) - 1 = max (pushS D S (LB D S) q) (mxI (pshJ D S (LB D S) q) j) - 1 by omega] at h2
               exact h2)
    refine wp_iload_n (pc := 4) dX2_lastReachedAhead_4 rfl rfl ?_
    refine wp_iload_n (pc := 5) dX2_lastReachedAhead_5 rfl rfl ?_
    refine wp_icmp_ge (pc := 6) 60 dX2_lastReachedAhead_6 (by decide) (fun c_6 => ?_) (fun c_6 => ?_)
    · have e : q = p := by omega
      subst e
      refine wp_iload_n (pc := 60) dX2_lastReachedAhead_60 rfl rfl ?_
      refine wp_ireturn (pc := 61) dX2_lastReachedAhead_61 rfl ?_
      exact ⟨_, rfl, rfl, rfl⟩
    · refine wp_iconst (pc := 9) dX2_lastReachedAhead_9 (by decide) ?_
      refine wp_istore (pc := 10) dX2_lastReachedAhead_10 (Nat.le_of_ble_eq_true rfl) rfl ?_
      have h2 := lp2 (by omega) 0 (by omega) (by omega)
      rw [mxI_0, show max (pushS D S (LB D S) q) 0 - 1 = pushS D S (LB D S) q - 1 by omega] at h2
      exact h2
  refine wp_iconst (pc := 0) dX2_lastReachedAhead_0 (by decide) ?_
  refine wp_istore_n (pc := 1) dX2_lastReachedAhead_1 rfl (Nat.le_of_ble_eq_true rfl) rfl ?_
  refine wp_iconst (pc := 2) dX2_lastReachedAhead_2 (by decide) ?_
  refine wp_istore_n (pc := 3) dX2_lastReachedAhead_3 rfl (Nat.le_of_ble_eq_true rfl) rfl ?_
  exact lp 0 (by omega) (by omega) none
set_option maxHeartbeats 4000000 in
set_option maxRecDepth 100000 in
theorem c_indentAt_60 {τ S : Sto} {p l : Int} (hD : OKD (DC τ) S) (hS : OKS S) (hp : 0 ≤ p ∧ p < τ 14 0) (hl : 0 ≤ l ∧ l ≤ 1000) (hR : RK τ 61 63 (DC τ) S (p + 1)) : CtI yX2_indentAt cX2_indentAt 4 (some .int) 1 [mR 60, mI p, mI l] τ (fun z σ' => z = indS (DC τ) S (LB (DC τ) S) p l ∧ σ' = τ) := by
  refine ct_of rfl [some (mR 60), some (mI p), some (mI l), none] (Nat.le_of_ble_eq_true rfl) rfl (fun hσ => ?_)
  show Wp cX2_indentAt RX2 (some .int) 1 0 [some (mR 60), some (mI p), some (mI l), none] [] _ _
  have h8 : τ 14 0 ≤ 8 := hD.1.2
  have hb1 := LBb hD (p := p) hp.1 hp.2
  have hR1 := hR p hp.1 (by omega)
  have hR0 : RK τ 61 63 (DC τ) S p := fun q q0 q1 => hR q q0 (by omega)
  refine wp_aload_n (pc := 0) dX2_indentAt_0 rfl rfl ?_
  refine wp_getR (pc := 1) (q := 14) dX2_indentAt_1 fl_X2_43 rfl ?_
  refine wp_iload_n (pc := 4) dX2_indentAt_4 rfl rfl ?_
  refine wp_cvI1 (pc := 5) dX2_indentAt_5 mv_X2_83 (c_hasShape (by omega)) (Nat.le_of_ble_eq_true rfl) rfl (Nat.le_of_ble_eq_true rfl) (fun z_5 σ_5 h_5 => ?_)
  obtain ⟨z5, s5⟩ := h_5
  have s5 := s5.symm
  subst s5
  refine wp_if_eq (pc := 8) 46 dX2_indentAt_8 (by decide) (fun c_8 => ?_) (fun c_8 => ?_)
  · refine wp_aload_n (pc := 46) dX2_indentAt_46 rfl rfl ?_
    refine wp_getR (pc := 47) (q := 14) dX2_indentAt_47 fl_X2_43 rfl ?_
    refine wp_getR (pc := 50) (q := 19) dX2_indentAt_50 fl_X2_80 rfl ?_
    refine wp_iconst (pc := 53) dX2_indentAt_53 (by decide) ?_
    refine wp_iald (pc := 54) 6 dX2_indentAt_54 rfl (by omega) ?_
    refine wp_iconst (pc := 55) dX2_indentAt_55 (by decide) ?_
    refine wp_icmp_ne (pc := 56) 68 dX2_indentAt_56 (by decide) (fun c_56 => ?_) (fun c_56 => ?_)
    · refine wp_iconst (pc := 68) dX2_indentAt_68 (by decide) ?_
      refine wp_ireturn (pc := 69) dX2_indentAt_69 rfl ?_
      refine ⟨_, rfl, ?_, rfl⟩
      show _ = if 0 ≤ τ 17 p then rch (DC τ) S p (l - LB (DC τ) S p) else if τ 19 5 = 2 then rAh (DC τ) S (LB (DC τ) S) p l else 0
      first
        | (rw [if_pos (by split at z5 <;> omega)]; exact hR2)
        | (rw [if_pos (by split at z5 <;> omega), rch_neg (by omega)])
        | (rw [if_pos (by split at z5 <;> omega), rch_far hD hS hp.1 hp.2 (by omega)])
        | (rw [if_neg (by split at z5 <;> omega), if_pos (by omega)])
        | (rw [if_neg (by split at z5 <;> omega), if_neg (by omega)])
    · refine wp_aload_n (pc := 59) dX2_indentAt_59 rfl rfl ?_
      refine wp_iload_n (pc := 60) dX2_indentAt_60 rfl rfl ?_
      refine wp_iload_n (pc := 61) dX2_indentAt_61 rfl rfl ?_
      refine wp_cvI2 (pc := 62) dX2_indentAt_62 mv_X2_134 (c_reachAhead_60 hD hS ⟨hp.1, show p ≤ τ 14 0 by omega⟩ (by omega) hR0) (Nat.le_of_ble_eq_true rfl) rfl (Nat.le_of_ble_eq_true rfl) (fun z_62 σ_62 h_62 => ?_)
      obtain ⟨rfl, e_62⟩ := h_62; have e2_62 := e_62.symm; subst e2_62
      refine wp_goto (pc := 65) 69 dX2_indentAt_65 (by decide) ?_
      refine wp_ireturn (pc := 69) dX2_indentAt_69 rfl ?_
      refine ⟨_, rfl, ?_, rfl⟩
      show _ = if 0 ≤ τ 17 p then rch (DC τ) S p (l - LB (DC τ) S p) else if τ 19 5 = 2 then rAh (DC τ) S (LB (DC τ) S) p l else 0
      first
        | (rw [if_pos (by split at z5 <;> omega)]; exact hR2)
        | (rw [if_pos (by split at z5 <;> omega), rch_neg (by omega)])
        | (rw [if_pos (by split at z5 <;> omega), rch_far hD hS hp.1 hp.2 (by omega)])
        | (rw [if_neg (by split at z5 <;> omega), if_pos (by omega)])
        | (rw [if_neg (by split at z5 <;> omega), if_neg (by omega)])
  · refine wp_iload_n (pc := 11) dX2_indentAt_11 rfl rfl ?_
    refine wp_aload_n (pc := 12) dX2_indentAt_12 rfl rfl ?_
    refine wp_getR (pc := 13) (q := 61) dX2_indentAt_13 fl_X2_9 rfl ?_
    refine wp_iload_n (pc := 16) dX2_indentAt_16 rfl rfl ?_
    refine wp_iald (pc := 17) 8 dX2_indentAt_17 rfl (by omega) ?_
    rw [hR1.1]
    refine wp_isub (pc := 18) dX2_indentAt_18 (by omega) ?_
    refine wp_istore_n (pc := 19) dX2_indentAt_19 rfl (Nat.le_of_ble_eq_true rfl) rfl ?_
    refine wp_iload_n (pc := 20) dX2_indentAt_20 rfl rfl ?_
    refine wp_if_lt (pc := 21) 44 dX2_indentAt_21 (by decide) (fun c_21 => ?_) (fun c_21 => ?_)
    · refine wp_iconst (pc := 44) dX2_indentAt_44 (by decide) ?_
      refine wp_ireturn (pc := 45) dX2_indentAt_45 rfl ?_
      refine ⟨_, rfl, ?_, rfl⟩
      show _ = if 0 ≤ τ 17 p then rch (DC τ) S p (l - LB (DC τ) S p) else if τ 19 5 = 2 then rAh (DC τ) S (LB (DC τ) S) p l else 0
      first
        | (rw [if_pos (by split at z5 <;> omega)]; exact hR2)
        | (rw [if_pos (by split at z5 <;> omega), rch_neg (by omega)])
        | (rw [if_pos (by split at z5 <;> omega), rch_far hD hS hp.1 hp.2 (by omega)])
        | (rw [if_neg (by split at z5 <;> omega), if_pos (by omega)])
        | (rw [if_neg (by split at z5 <;> omega), if_neg (by omega)])
    · refine wp_iload_n (pc := 24) dX2_indentAt_24 rfl rfl ?_
      refine wp_bipush (pc := 25) dX2_indentAt_25 (by decide) (by decide) ?_
      refine wp_icmp_ge (pc := 27) 44 dX2_indentAt_27 (by decide) (fun c_27 => ?_) (fun c_27 => ?_)
      · refine wp_iconst (pc := 44) dX2_indentAt_44 (by decide) ?_
        refine wp_ireturn (pc := 45) dX2_indentAt_45 rfl ?_
        refine ⟨_, rfl, ?_, rfl⟩
        show _ = if 0 ≤ τ 17 p then rch (DC τ) S p (l - LB (DC τ) S p) else if τ 19 5 = 2 then rAh (DC τ) S (LB (DC τ) S) p l else 0
        first
          | (rw [if_pos (by split at z5 <;> omega)]; exact hR2)
          | (rw [if_pos (by split at z5 <;> omega), rch_neg (by omega)])
          | (rw [if_pos (by split at z5 <;> omega), rch_far hD hS hp.1 hp.2 (by omega)])
          | (rw [if_neg (by split at z5 <;> omega), if_pos (by omega)])
          | (rw [if_neg (by split at z5 <;> omega), if_neg (by omega)])
      · have hR2 := hR1.2 (l - LB (DC τ) S p) (by omega) (by omega)
        refine wp_aload_n (pc := 30) dX2_indentAt_30 rfl rfl ?_
        refine wp_getR (pc := 31) (q := 63) dX2_indentAt_31 fl_X2_18 rfl ?_
        refine wp_iload_n (pc := 34) dX2_indentAt_34 rfl rfl ?_
        refine wp_bipush (pc := 35) dX2_indentAt_35 (by decide) (by decide) ?_
        refine wp_imul (pc := 37) dX2_indentAt_37 (by omega) ?_
        refine wp_iload_n (pc := 38) dX2_indentAt_38 rfl rfl ?_
        refine wp_iadd (pc := 39) dX2_indentAt_39 (by omega) ?_
        refine wp_iald (pc := 40) 72 dX2_indentAt_40 rfl (by omega) ?_
        refine wp_goto (pc := 41) 45 dX2_indentAt_41 (by decide) ?_
        refine wp_ireturn (pc := 45) dX2_indentAt_45 rfl ?_
        refine ⟨_, rfl, ?_, rfl⟩
        show _ = if 0 ≤ τ 17 p then rch (DC τ) S p (l - LB (DC τ) S p) else if τ 19 5 = 2 then rAh (DC τ) S (LB (DC τ) S) p l else 0
        first
          | (rw [if_pos (by split at z5 <;> omega)]; exact hR2)
          | (rw [if_pos (by split at z5 <;> omega), rch_neg (by omega)])
          | (rw [if_pos (by split at z5 <;> omega), rch_far hD hS hp.1 hp.2 (by omega)])
          | (rw [if_neg (by split at z5 <;> omega), if_pos (by omega)])
          | (rw [if_neg (by split at z5 <;> omega), if_neg (by omega)])
set_option maxHeartbeats 4000000 in
set_option maxRecDepth 100000 in
theorem c_drawReaches_60 {τ : Sto} {p : Int} (hD : OKD (DC τ) (SC τ)) (hS : OKS (SC τ)) (hp : 0 ≤ p ∧ p < τ 14 0) : CtV yX2_drawReaches cX2_drawReaches 3 none 1 [mR 60, mI p] τ (fun σ' => Frm [39, 40, 41, 42, 63] τ σ' ∧ (∀ j, 0 ≤ j → j < 9 → σ' 63 (p * 9 + j) = rch (DC τ) (SC τ) p j) ∧ ∀ x, x < p * 9 ∨ p * 9 + 9 ≤ x → σ' 63 x = τ 63 x) := by
  refine ct_of rfl [some (mR 60), some (mI p), none] (Nat.le_of_ble_eq_true rfl) rfl (fun hσ => ?_)
  show Wp cX2_drawReaches RX2 none 1 0 [some (mR 60), some (mI p), none] [] _ _
  have h8 : τ 14 0 ≤ 8 := hD.1.2
  have lp : ∀ j, j ≤ 9 → 0 ≤ j → ∀ υ : Sto, Frm [39, 40, 41, 42, 63] τ υ → drwn τ υ p → (∀ k, 0 ≤ k → k < j → υ 63 (p * 9 + k) = rch (DC τ) (SC τ) p k) → (∀ x, x < p * 9 ∨ p * 9 + 9 ≤ x → υ 63 x = τ 63 x) → Wp cX2_drawReaches RX2 none 1 10 [some (mR 60), some (mI p), some (mI j)] [] υ (fun v σ' => v = none ∧ (fun σ' => Frm [39, 40, 41, 42, 63] τ σ' ∧ (∀ j, 0 ≤ j → j < 9 → σ' 63 (p * 9 + j) = rch (DC τ) (SC τ) p j) ∧ ∀ x, x < p * 9 ∨ p * 9 + 9 ≤ x → σ' 63 x = τ 63 x) σ') := by
    refine up_ind 9 (fun j hj ih h0 υ hF hd hk ho => ?_)
    refine wp_iload_n (pc := 10) dX2_drawReaches_10 rfl rfl ?_
    refine wp_bipush (pc := 11) dX2_drawReaches_11 (by decide) (by decide) ?_
    refine wp_icmp_ge (pc := 13) 41 dX2_drawReaches_13 (by decide) (fun c_13 => ?_) (fun c_13 => ?_)
    · refine wp_return (pc := 41) dX2_drawReaches_41 rfl ?_
      exact ⟨rfl, hF, fun k k0 k1 => hk k k0 (by omega), ho⟩
    · refine wp_aload_n (pc := 16) dX2_drawReaches_16 rfl rfl ?_
      refine wp_getR (pc := 17) (q := 63) dX2_drawReaches_17 fl_X2_18 rfl ?_
      refine wp_iload_n (pc := 20) dX2_drawReaches_20 rfl rfl ?_
      refine wp_bipush (pc := 21) dX2_drawReaches_21 (by decide) (by decide) ?_
      refine wp_imul (pc := 23) dX2_drawReaches_23 (by omega) ?_
      refine wp_iload_n (pc := 24) dX2_drawReaches_24 rfl rfl ?_
      refine wp_iadd (pc := 25) dX2_drawReaches_25 (by omega) ?_
      refine wp_aload_n (pc := 26) dX2_drawReaches_26 rfl rfl ?_
      refine wp_getR (pc := 27) (q := 39) dX2_drawReaches_27 fl_X2_47 rfl ?_
      refine wp_iload_n (pc := 30) dX2_drawReaches_30 rfl rfl ?_
      refine wp_cvI1 (pc := 31) dX2_drawReaches_31 mv_X2_105 (c_reachAt (σ := τ) hD hS hp hd (hF 19 (by decide))) (Nat.le_of_ble_eq_true rfl) rfl (Nat.le_of_ble_eq_true rfl) (fun z_31 σ_31 h_31 => ?_)
      obtain ⟨rfl, e_31⟩ := h_31; have e2_31 := e_31.symm; subst e2_31
      refine wp_iast (pc := 34) 72 dX2_drawReaches_34 rfl (by omega) ?_
      refine wp_iinc (pc := 35) dX2_drawReaches_35 rfl rfl (by omega) ?_
      refine wp_goto (pc := 38) 10 dX2_drawReaches_38 (by decide) ?_
      refine ih (by omega) (by omega) _ (hF.up (by decide)) ?_ (fun k k0 k1 => ?_) (fun x hx => ?_)
      · unfold drwn at hd ⊢
        simp only [upd2_r (show (39 : Nat) ≠ 63 by decide), upd2_r (show (40 : Nat) ≠ 63 by decide), upd2_r (show (41 : Nat) ≠ 63 by decide), upd2_r (show (42 : Nat) ≠ 63 by decide)]
        exact hd
      · by_cases e : k = j
        · subst e; exact upd2_eq
        · rw [upd2_k (by omega)]; exact hk k k0 (by omega)
      · rw [upd2_k (by omega)]; exact ho x hx
  refine wp_aload_n (pc := 0) dX2_drawReaches_0 rfl rfl ?_
  refine wp_getR (pc := 1) (q := 39) dX2_drawReaches_1 fl_X2_47 rfl ?_
  refine wp_iload_n (pc := 4) dX2_drawReaches_4 rfl rfl ?_
  refine wp_cvV1 (pc := 5) dX2_drawReaches_5 mv_X2_100 (c_draw hD hS hp) (Nat.le_of_ble_eq_true rfl) rfl (Nat.le_of_ble_eq_true rfl) (fun σ_5 h_5 => ?_)
  obtain ⟨f5, d5⟩ := h_5
  refine wp_iconst (pc := 8) dX2_drawReaches_8 (by decide) ?_
  refine wp_istore_n (pc := 9) dX2_drawReaches_9 rfl (Nat.le_of_ble_eq_true rfl) rfl ?_
  exact lp 0 (by omega) (by omega) _ (f5.mono (by decide)) d5 (fun k k0 k1 => absurd k1 (by omega)) (fun x _ => by rw [f5 63 (by decide)])
set_option maxHeartbeats 4000000 in
set_option maxRecDepth 100000 in
theorem c_leaveEmpty_60 {τ S : Sto} {p : Int} (hD : OKD (DC τ) S) (hS : OKS S) (hp : 0 ≤ p ∧ p < τ 14 0) (hR : RK τ 61 63 (DC τ) S p) (hl : 0 ≤ τ 60 3 ∧ τ 60 3 ≤ 143) : CtV yX2_leaveEmpty cX2_leaveEmpty 5 none 2 [mR 60, mI p] τ (fun σ' => Frm [60, 64, 70] τ σ' ∧ σ' 60 3 = bgnS (DC τ) S (LB (DC τ) S) p (τ 60 3) ∧ (∀ x, σ' 64 x = if τ 60 3 ≤ x ∧ x < σ' 60 3 then -4 else τ 64 x) ∧ ∀ x, σ' 70 x = if τ 60 3 ≤ x ∧ x < σ' 60 3 then 0 else τ 70 x) := by
  refine ct_of rfl [some (mR 60), some (mI p), none, none, none] (Nat.le_of_ble_eq_true rfl) rfl (fun hσ => ?_)
  show Wp cX2_leaveEmpty RX2 none 2 0 [some (mR 60), some (mI p), none, none, none] [] _ _
  have h8 : τ 14 0 ≤ 8 := hD.1.2
  have h5 : 0 ≤ τ 19 5 ∧ τ 19 5 ≤ 2 := hD.2.2.2.2.2.2.2.2.2.2
  have hpb : 0 ≤ pushS (DC τ) S (LB (DC τ) S) p ∧ pushS (DC τ) S (LB (DC τ) S) p ≤ 152 := pushS_bd (by decide) (fun x x0 x1 => by have := LBb hD (p := x) x0 (show x < τ 14 0 by omega); have := hD.2.1 x x0 (show x < τ 14 0 by omega); omega)
  have eb : bgnS (DC τ) S (LB (DC τ) S) p (τ 60 3) = if τ 19 5 = 1 ∨ (τ 19 5 = 2 ∧ 0 ≤ τ 17 p) then max (τ 60 3) (pushS (DC τ) S (LB (DC τ) S) p) else τ 60 3 := rfl
  have lp : (τ 19 5 = 1 ∨ (τ 19 5 = 2 ∧ 0 ≤ τ 17 p)) → ∀ x, x ≤ max (τ 60 3) (pushS (DC τ) S (LB (DC τ) S) p) → τ 60 3 ≤ x → ∀ υ : Sto, Frm [60, 64, 70] τ υ → υ 60 = τ 60 → (∀ y, υ 64 y = if τ 60 3 ≤ y ∧ y < x then -4 else τ 64 y) → (∀ y, υ 70 y = if τ 60 3 ≤ y ∧ y < x then 0 else τ 70 y) → Wp cX2_leaveEmpty RX2 none 2 52 [some (mR 60), some (mI p), some (mI (τ 19 5)), some (mI (pushS (DC τ) S (LB (DC τ) S) p)), some (mI x)] [] υ (fun v σ' => v = none ∧ (fun σ' => Frm [60, 64, 70] τ σ' ∧ σ' 60 3 = bgnS (DC τ) S (LB (DC τ) S) p (τ 60 3) ∧ (∀ x, σ' 64 x = if τ 60 3 ≤ x ∧ x < σ' 60 3 then -4 else τ 64 x) ∧ ∀ x, σ' 70 x = if τ 60 3 ≤ x ∧ x < σ' 60 3 then 0 else τ 70 x) σ') := by
    intro hpush
    rw [if_pos hpush] at eb
    refine up_ind _ (fun x hx ih x0 υ hF eL e4 e10 => ?_)
    refine wp_iload (pc := 52) dX2_leaveEmpty_52 rfl ?_
    refine wp_iload_n (pc := 54) dX2_leaveEmpty_54 rfl rfl ?_
    refine wp_icmp_ge (pc := 55) 81 dX2_leaveEmpty_55 (by decide) (fun c_55 => ?_) (fun c_55 => ?_)
    · refine wp_aload_n (pc := 81) dX2_leaveEmpty_81 rfl rfl ?_
      refine wp_aload_n (pc := 82) dX2_leaveEmpty_82 rfl rfl ?_
      refine wp_getI (pc := 83) 3 dX2_leaveEmpty_83 fl_X2_55 rfl rfl ?_
      refine wp_iload_n (pc := 86) dX2_leaveEmpty_86 rfl rfl ?_
      rw [eL]
      refine wp_max (pc := 87) dX2_leaveEmpty_87 mx_X2_97 (by decide) (Nat.le_of_ble_eq_true rfl) ?_
      refine wp_putI (pc := 90) 3 dX2_leaveEmpty_90 fl_X2_55 ⟨rfl, rfl⟩ rfl rfl ?_
      refine wp_return (pc := 93) dX2_leaveEmpty_93 rfl ?_
      refine ⟨rfl, hF.up (by decide), by rw [upd2_eq, eb], fun y => ?_, fun y => ?_⟩
      · rw [upd2_eq, upd2_r (by decide), e4 y]
        by_cases hy : τ 60 3 ≤ y ∧ y < x
        · rw [if_pos hy, if_pos (by omega)]
        · rw [if_neg hy, if_neg (by omega)]
      · rw [upd2_eq, upd2_r (by decide), e10 y]
        by_cases hy : τ 60 3 ≤ y ∧ y < x
        · rw [if_pos hy, if_pos (by omega)]
        · rw [if_neg hy, if_neg (by omega)]
    · refine wp_aload_n (pc := 58) dX2_leaveEmpty_58 rfl rfl ?_
      refine wp_getR (pc := 59) (q := 64) dX2_leaveEmpty_59 fl_X2_21 rfl ?_
      refine wp_iload (pc := 62) dX2_leaveEmpty_62 rfl ?_
      refine wp_bipush (pc := 64) dX2_leaveEmpty_64 (by decide) (by decide) ?_
      refine wp_iast (pc := 66) 152 dX2_leaveEmpty_66 rfl (by omega) ?_
      refine wp_aload_n (pc := 67) dX2_leaveEmpty_67 rfl rfl ?_
      refine wp_getR (pc := 68) (q := 70) dX2_leaveEmpty_68 fl_X2_39 rfl ?_
      refine wp_iload (pc := 71) dX2_leaveEmpty_71 rfl ?_
      refine wp_iconst (pc := 73) dX2_leaveEmpty_73 (by decide) ?_
      refine wp_zast (pc := 74) 152 dX2_leaveEmpty_74 rfl (by omega) (by omega) ?_
      refine wp_iinc (pc := 75) dX2_leaveEmpty_75 rfl rfl (by omega) ?_
      refine wp_goto (pc := 78) 52 dX2_leaveEmpty_78 (by decide) ?_
      refine ih (by omega) (by omega) _ ((hF.up (by decide)).up (by decide)) ?_ (fun y => ?_) (fun y => ?_)
      · rw [upd2_out (by decide), upd2_out (by decide)]; exact eL
      · have h1 := e4 y
        clear e4 e10 ih hF hR hD hS
        grind [upd2]
      · have h1 := e10 y
        clear e4 e10 ih hF hR hD hS
        grind [upd2]
  refine wp_aload_n (pc := 0) dX2_leaveEmpty_0 rfl rfl ?_
  refine wp_getR (pc := 1) (q := 14) dX2_leaveEmpty_1 fl_X2_43 rfl ?_
  refine wp_getR (pc := 4) (q := 19) dX2_leaveEmpty_4 fl_X2_80 rfl ?_
  refine wp_iconst (pc := 7) dX2_leaveEmpty_7 (by decide) ?_
  refine wp_iald (pc := 8) 6 dX2_leaveEmpty_8 rfl (by omega) ?_
  refine wp_istore_n (pc := 9) dX2_leaveEmpty_9 rfl (Nat.le_of_ble_eq_true rfl) rfl ?_
  refine wp_iload_n (pc := 10) dX2_leaveEmpty_10 rfl rfl ?_
  refine wp_iconst (pc := 11) dX2_leaveEmpty_11 (by decide) ?_
  refine wp_icmp_eq (pc := 12) 32 dX2_leaveEmpty_12 (by decide) (fun c_12 => ?_) (fun c_12 => ?_)
  · refine wp_aload_n (pc := 32) dX2_leaveEmpty_32 rfl rfl ?_
    refine wp_iload_n (pc := 33) dX2_leaveEmpty_33 rfl rfl ?_
    refine wp_cvI1 (pc := 34) dX2_leaveEmpty_34 mv_X2_87 (c_lastReachedAhead_60 hD hS ⟨hp.1, show p ≤ τ 14 0 by omega⟩ hR) (Nat.le_of_ble_eq_true rfl) rfl (Nat.le_of_ble_eq_true rfl) (fun z_34 σ_34 h_34 => ?_)
    obtain ⟨rfl, e_34⟩ := h_34; have e2_34 := e_34.symm; subst e2_34
    refine wp_iconst (pc := 37) dX2_leaveEmpty_37 (by decide) ?_
    refine wp_iadd (pc := 38) dX2_leaveEmpty_38 (by omega) ?_
    refine wp_sipush (pc := 39) dX2_leaveEmpty_39 (by decide) (by decide) ?_
    refine wp_min (pc := 42) dX2_leaveEmpty_42 mx_X2_91 (by decide) (Nat.le_of_ble_eq_true rfl) ?_
    rw [show min (pushS (DC τ) S (LB (DC τ) S) p - 1 + 1) 152 = pushS (DC τ) S (LB (DC τ) S) p by omega]
    refine wp_istore_n (pc := 45) dX2_leaveEmpty_45 rfl (Nat.le_of_ble_eq_true rfl) rfl ?_
    refine wp_aload_n (pc := 46) dX2_leaveEmpty_46 rfl rfl ?_
    refine wp_getI (pc := 47) 3 dX2_leaveEmpty_47 fl_X2_55 rfl rfl ?_
    refine wp_istore (pc := 50) dX2_leaveEmpty_50 (Nat.le_of_ble_eq_true rfl) rfl ?_
    exact lp (by first | omega | (split at z25 <;> omega)) (τ 60 3) (by omega) (by omega) τ Frm.rf rfl (fun y => by rw [if_neg (by omega)]) (fun y => by rw [if_neg (by omega)])
  · refine wp_iload_n (pc := 15) dX2_leaveEmpty_15 rfl rfl ?_
    refine wp_iconst (pc := 16) dX2_leaveEmpty_16 (by decide) ?_
    refine wp_icmp_ne (pc := 17) 31 dX2_leaveEmpty_17 (by decide) (fun c_17 => ?_) (fun c_17 => ?_)
    · refine wp_return (pc := 31) dX2_leaveEmpty_31 rfl ?_
      refine ⟨rfl, Frm.rf, ?_, fun y => by rw [if_neg (by omega)], fun y => by rw [if_neg (by omega)]⟩
      rw [eb, if_neg (by first | omega | (split at z25 <;> omega))]
    · refine wp_aload_n (pc := 20) dX2_leaveEmpty_20 rfl rfl ?_
      refine wp_getR (pc := 21) (q := 14) dX2_leaveEmpty_21 fl_X2_43 rfl ?_
      refine wp_iload_n (pc := 24) dX2_leaveEmpty_24 rfl rfl ?_
      refine wp_cvI1 (pc := 25) dX2_leaveEmpty_25 mv_X2_83 (c_hasShape (by omega)) (Nat.le_of_ble_eq_true rfl) rfl (Nat.le_of_ble_eq_true rfl) (fun z_25 σ_25 h_25 => ?_)
      obtain ⟨z25, s25⟩ := h_25
      have s25 := s25.symm
      subst s25
      refine wp_if_ne (pc := 28) 32 dX2_leaveEmpty_28 (by decide) (fun c_28 => ?_) (fun c_28 => ?_)
      · refine wp_aload_n (pc := 32) dX2_leaveEmpty_32 rfl rfl ?_
        refine wp_iload_n (pc := 33) dX2_leaveEmpty_33 rfl rfl ?_
        refine wp_cvI1 (pc := 34) dX2_leaveEmpty_34 mv_X2_87 (c_lastReachedAhead_60 hD hS ⟨hp.1, show p ≤ τ 14 0 by omega⟩ hR) (Nat.le_of_ble_eq_true rfl) rfl (Nat.le_of_ble_eq_true rfl) (fun z_34 σ_34 h_34 => ?_)
        obtain ⟨rfl, e_34⟩ := h_34; have e2_34 := e_34.symm; subst e2_34
        refine wp_iconst (pc := 37) dX2_leaveEmpty_37 (by decide) ?_
        refine wp_iadd (pc := 38) dX2_leaveEmpty_38 (by omega) ?_
        refine wp_sipush (pc := 39) dX2_leaveEmpty_39 (by decide) (by decide) ?_
        refine wp_min (pc := 42) dX2_leaveEmpty_42 mx_X2_91 (by decide) (Nat.le_of_ble_eq_true rfl) ?_
        rw [show min (pushS (DC τ) S (LB (DC τ) S) p - 1 + 1) 152 = pushS (DC τ) S (LB (DC τ) S) p by omega]
        refine wp_istore_n (pc := 45) dX2_leaveEmpty_45 rfl (Nat.le_of_ble_eq_true rfl) rfl ?_
        refine wp_aload_n (pc := 46) dX2_leaveEmpty_46 rfl rfl ?_
        refine wp_getI (pc := 47) 3 dX2_leaveEmpty_47 fl_X2_55 rfl rfl ?_
        refine wp_istore (pc := 50) dX2_leaveEmpty_50 (Nat.le_of_ble_eq_true rfl) rfl ?_
        exact lp (by first | omega | (split at z25 <;> omega)) (τ 60 3) (by omega) (by omega) τ Frm.rf rfl (fun y => by rw [if_neg (by omega)]) (fun y => by rw [if_neg (by omega)])
      · refine wp_return (pc := 31) dX2_leaveEmpty_31 rfl ?_
        refine ⟨rfl, Frm.rf, ?_, fun y => by rw [if_neg (by omega)], fun y => by rw [if_neg (by omega)]⟩
        rw [eb, if_neg (by first | omega | (split at z25 <;> omega))]
set_option maxHeartbeats 4000000 in
set_option maxRecDepth 100000 in
theorem c_addLine_60 {τ D S : Sto} {p i c f n : Int} (hD : OKD D S) (hS : OKS S) (hp : 0 ≤ p ∧ p ≤ D 0 0) (hR : RK τ 61 63 D S p) (en : n = τ 60 3) (hl : 0 ≤ n ∧ n < 152) (hc : 1 ≤ c ∧ 0 ≤ f ∧ f + c ≤ 80) (hw : ∀ k, 0 ≤ k → k < c → 0 ≤ τ 44 (f + k) ∧ τ 44 (f + k) ≤ 18) (e5 : τ 19 5 = D 5 5) : CtV yX2_addLine cX2_addLine 7 none 1 [mR 60, mI p, mI i, mI c, mI f] τ (fun σ' => σ' = upd2 (upd2 (upd2 (upd2 (upd2 (upd2 τ 64 n p) 65 n i) 66 n c) 69 n (us (τ 44) f c)) 70 n (clsS D S (LB D S) p n)) 60 3 (n + 1)) := by
  refine ct_of rfl [some (mR 60), some (mI p), some (mI i), some (mI c), some (mI f), none, none] (Nat.le_of_ble_eq_true rfl) rfl (fun hσ => ?_)
  show Wp cX2_addLine RX2 none 1 0 [some (mR 60), some (mI p), some (mI i), some (mI c), some (mI f), none, none] [] _ _
  have h5 : 0 ≤ D 5 5 ∧ D 5 5 ≤ 2 := hD.2.2.2.2.2.2.2.2.2.2
  have hrb := rAh_bd hD hS (LB D S) (p := p) n hp.2
  have fin : ∀ (u w : Int), u = us (τ 44) f c → -1000 ≤ u → u ≤ 2000 → Wp cX2_addLine RX2 none 1 46 [some (mR 60), some (mI p), some (mI i), some (mI c), some (mI f), some (mI u), some (mI w)] [] τ (fun v σ' => v = none ∧ (fun σ' => σ' = upd2 (upd2 (upd2 (upd2 (upd2 (upd2 τ 64 n p) 65 n i) 66 n c) 69 n (us (τ 44) f c)) 70 n (clsS D S (LB D S) p n)) 60 3 (n + 1)) σ') := by
    intro u w eu _ _
    refine wp_aload_n (pc := 46) dX2_addLine_46 rfl rfl ?_
    refine wp_getR (pc := 47) (q := 64) dX2_addLine_47 fl_X2_21 rfl ?_
    refine wp_aload_n (pc := 50) dX2_addLine_50 rfl rfl ?_
    refine wp_getI (pc := 51) 3 dX2_addLine_51 fl_X2_55 rfl rfl ?_
    rw [← en]
    refine wp_iload_n (pc := 54) dX2_addLine_54 rfl rfl ?_
    refine wp_iast (pc := 55) 152 dX2_addLine_55 rfl (by omega) ?_
    refine wp_aload_n (pc := 56) dX2_addLine_56 rfl rfl ?_
    refine wp_getR (pc := 57) (q := 65) dX2_addLine_57 fl_X2_24 rfl ?_
    refine wp_aload_n (pc := 60) dX2_addLine_60 rfl rfl ?_
    refine wp_getI (pc := 61) 3 dX2_addLine_61 fl_X2_55 rfl rfl ?_
    rw [upd2_r (r := 64) (r' := 60) (by decide)]
    rw [← en]
    refine wp_iload_n (pc := 64) dX2_addLine_64 rfl rfl ?_
    refine wp_iast (pc := 65) 152 dX2_addLine_65 rfl (by omega) ?_
    refine wp_aload_n (pc := 66) dX2_addLine_66 rfl rfl ?_
    refine wp_getR (pc := 67) (q := 66) dX2_addLine_67 fl_X2_27 rfl ?_
    refine wp_aload_n (pc := 70) dX2_addLine_70 rfl rfl ?_
    refine wp_getI (pc := 71) 3 dX2_addLine_71 fl_X2_55 rfl rfl ?_
    rw [upd2_r (r := 65) (r' := 60) (by decide), upd2_r (r := 64) (r' := 60) (by decide)]
    rw [← en]
    refine wp_iload_n (pc := 74) dX2_addLine_74 rfl rfl ?_
    refine wp_iast (pc := 75) 152 dX2_addLine_75 rfl (by omega) ?_
    refine wp_aload_n (pc := 76) dX2_addLine_76 rfl rfl ?_
    refine wp_getR (pc := 77) (q := 69) dX2_addLine_77 fl_X2_36 rfl ?_
    refine wp_aload_n (pc := 80) dX2_addLine_80 rfl rfl ?_
    refine wp_getI (pc := 81) 3 dX2_addLine_81 fl_X2_55 rfl rfl ?_
    rw [upd2_r (r := 66) (r' := 60) (by decide), upd2_r (r := 65) (r' := 60) (by decide), upd2_r (r := 64) (r' := 60) (by decide)]
    rw [← en]
    refine wp_iload (pc := 84) dX2_addLine_84 rfl ?_
    refine wp_iast (pc := 86) 152 dX2_addLine_86 rfl (by omega) ?_
    refine wp_aload_n (pc := 87) dX2_addLine_87 rfl rfl ?_
    refine wp_getR (pc := 88) (q := 70) dX2_addLine_88 fl_X2_39 rfl ?_
    refine wp_aload_n (pc := 91) dX2_addLine_91 rfl rfl ?_
    refine wp_getI (pc := 92) 3 dX2_addLine_92 fl_X2_55 rfl rfl ?_
    rw [upd2_r (r := 69) (r' := 60) (by decide), upd2_r (r := 66) (r' := 60) (by decide), upd2_r (r := 65) (r' := 60) (by decide), upd2_r (r := 64) (r' := 60) (by decide)]
    rw [← en]
    refine wp_aload_n (pc := 95) dX2_addLine_95 rfl rfl ?_
    refine wp_getR (pc := 96) (q := 14) dX2_addLine_96 fl_X2_43 rfl ?_
    refine wp_getR (pc := 99) (q := 19) dX2_addLine_99 fl_X2_80 rfl ?_
    refine wp_iconst (pc := 102) dX2_addLine_102 (by decide) ?_
    refine wp_iald (pc := 103) 6 dX2_addLine_103 rfl (by omega) ?_
    rw [upd2_r (r := 69) (r' := 19) (by decide), upd2_r (r := 66) (r' := 19) (by decide), upd2_r (r := 65) (r' := 19) (by decide), upd2_r (r := 64) (r' := 19) (by decide)]
    rw [e5]
    refine wp_if_ne (pc := 104) 123 dX2_addLine_104 (by decide) (fun c_104 => ?_) (fun c_104 => ?_)
    · refine wp_iconst (pc := 123) dX2_addLine_123 (by decide) ?_
      refine wp_zast (pc := 124) 152 dX2_addLine_124 rfl (by omega) (by omega) ?_
      refine wp_aload_n (pc := 125) dX2_addLine_125 rfl rfl ?_
      refine wp_dup (pc := 126) dX2_addLine_126 (fun _ h => by cases h) ?_
      refine wp_getI (pc := 127) 3 dX2_addLine_127 fl_X2_55 rfl rfl ?_
      rw [upd2_r (r := 70) (r' := 60) (by decide), upd2_r (r := 69) (r' := 60) (by decide), upd2_r (r := 66) (r' := 60) (by decide), upd2_r (r := 65) (r' := 60) (by decide), upd2_r (r := 64) (r' := 60) (by decide)]
      rw [← en]
      refine wp_iconst (pc := 130) dX2_addLine_130 (by decide) ?_
      refine wp_iadd (pc := 131) dX2_addLine_131 (by omega) ?_
      refine wp_putI (pc := 132) 3 dX2_addLine_132 fl_X2_55 ⟨rfl, rfl⟩ rfl rfl ?_
      refine wp_return (pc := 135) dX2_addLine_135 rfl ?_
      refine ⟨rfl, ?_⟩
      rw [← eu]
      unfold clsS
      first | rw [if_pos (by omega)] | rw [if_neg (by omega)]
    · refine wp_aload_n (pc := 107) dX2_addLine_107 rfl rfl ?_
      refine wp_iload_n (pc := 108) dX2_addLine_108 rfl rfl ?_
      refine wp_aload_n (pc := 109) dX2_addLine_109 rfl rfl ?_
      refine wp_getI (pc := 110) 3 dX2_addLine_110 fl_X2_55 rfl rfl ?_
      rw [upd2_r (r := 69) (r' := 60) (by decide), upd2_r (r := 66) (r' := 60) (by decide), upd2_r (r := 65) (r' := 60) (by decide), upd2_r (r := 64) (r' := 60) (by decide)]
      rw [← en]
      refine wp_cvI2 (pc := 113) dX2_addLine_113 mv_X2_134 (c_reachAhead_60 (l := n) hD hS hp (by omega) (fun q q0 q1 => by simp only [upd2_r (show (61 : Nat) ≠ 64 by decide), upd2_r (show (61 : Nat) ≠ 65 by decide), upd2_r (show (61 : Nat) ≠ 66 by decide), upd2_r (show (61 : Nat) ≠ 69 by decide), upd2_r (show (63 : Nat) ≠ 64 by decide), upd2_r (show (63 : Nat) ≠ 65 by decide), upd2_r (show (63 : Nat) ≠ 66 by decide), upd2_r (show (63 : Nat) ≠ 69 by decide)]; exact hR q q0 q1)) (Nat.le_of_ble_eq_true rfl) rfl (Nat.le_of_ble_eq_true rfl) (fun z_113 σ_113 h_113 => ?_)
      obtain ⟨rfl, e_113⟩ := h_113; have e2_113 := e_113.symm; subst e2_113
      refine wp_if_le (pc := 116) 123 dX2_addLine_116 (by decide) (fun c_116 => ?_) (fun c_116 => ?_)
      · refine wp_iconst (pc := 123) dX2_addLine_123 (by decide) ?_
        refine wp_zast (pc := 124) 152 dX2_addLine_124 rfl (by omega) (by omega) ?_
        refine wp_aload_n (pc := 125) dX2_addLine_125 rfl rfl ?_
        refine wp_dup (pc := 126) dX2_addLine_126 (fun _ h => by cases h) ?_
        refine wp_getI (pc := 127) 3 dX2_addLine_127 fl_X2_55 rfl rfl ?_
        rw [upd2_r (r := 70) (r' := 60) (by decide), upd2_r (r := 69) (r' := 60) (by decide), upd2_r (r := 66) (r' := 60) (by decide), upd2_r (r := 65) (r' := 60) (by decide), upd2_r (r := 64) (r' := 60) (by decide)]
        rw [← en]
        refine wp_iconst (pc := 130) dX2_addLine_130 (by decide) ?_
        refine wp_iadd (pc := 131) dX2_addLine_131 (by omega) ?_
        refine wp_putI (pc := 132) 3 dX2_addLine_132 fl_X2_55 ⟨rfl, rfl⟩ rfl rfl ?_
        refine wp_return (pc := 135) dX2_addLine_135 rfl ?_
        refine ⟨rfl, ?_⟩
        rw [← eu]
        unfold clsS
        first | rw [if_pos (by omega)] | rw [if_neg (by omega)]
      · refine wp_iconst (pc := 119) dX2_addLine_119 (by decide) ?_
        refine wp_goto (pc := 120) 124 dX2_addLine_120 (by decide) ?_
        refine wp_zast (pc := 124) 152 dX2_addLine_124 rfl (by omega) (by omega) ?_
        refine wp_aload_n (pc := 125) dX2_addLine_125 rfl rfl ?_
        refine wp_dup (pc := 126) dX2_addLine_126 (fun _ h => by cases h) ?_
        refine wp_getI (pc := 127) 3 dX2_addLine_127 fl_X2_55 rfl rfl ?_
        rw [upd2_r (r := 70) (r' := 60) (by decide), upd2_r (r := 69) (r' := 60) (by decide), upd2_r (r := 66) (r' := 60) (by decide), upd2_r (r := 65) (r' := 60) (by decide), upd2_r (r := 64) (r' := 60) (by decide)]
        rw [← en]
        refine wp_iconst (pc := 130) dX2_addLine_130 (by decide) ?_
        refine wp_iadd (pc := 131) dX2_addLine_131 (by omega) ?_
        refine wp_putI (pc := 132) 3 dX2_addLine_132 fl_X2_55 ⟨rfl, rfl⟩ rfl rfl ?_
        refine wp_return (pc := 135) dX2_addLine_135 rfl ?_
        refine ⟨rfl, ?_⟩
        rw [← eu]
        unfold clsS
        first | rw [if_pos (by omega)] | rw [if_neg (by omega)]
  have eus0 : us (τ 44) f 0 = -1 := by unfold us; rw [sumI_0]; rfl
  have lp : ∀ w, w ≤ f + c → f ≤ w → 0 ≤ us (τ 44) f (w - f) + 1 → us (τ 44) f (w - f) ≤ 19 * (w - f) → ∀ u, u = us (τ 44) f (w - f) + (c - (w - f)) → Wp cX2_addLine RX2 none 1 9 [some (mR 60), some (mI p), some (mI i), some (mI c), some (mI f), some (mI u), some (mI w)] [] τ (fun v σ' => v = none ∧ (fun σ' => σ' = upd2 (upd2 (upd2 (upd2 (upd2 (upd2 τ 64 n p) 65 n i) 66 n c) 69 n (us (τ 44) f c)) 70 n (clsS D S (LB D S) p n)) 60 3 (n + 1)) σ') := by
    refine up_ind (f + c) (fun w hwc ih w0 hu0 hu1 u hu => ?_)
    have e1 := us_s (wd := τ 44) (s := f) (c := w - f) (by omega)
    rw [show w - f + 1 = w + 1 - f by omega, show f + (w - f) = w by omega] at e1
    refine wp_iload (pc := 9) dX2_addLine_9 rfl ?_
    refine wp_iload (pc := 11) dX2_addLine_11 rfl ?_
    refine wp_iload_n (pc := 13) dX2_addLine_13 rfl rfl ?_
    refine wp_iadd (pc := 14) dX2_addLine_14 (by omega) ?_
    refine wp_icmp_ge (pc := 15) 46 dX2_addLine_15 (by decide) (fun c_15 => ?_) (fun c_15 => ?_)
    · have e : w = f + c := by omega
      rw [e, show f + c - f = c by omega] at hu hu0 hu1
      exact fin u w (by omega) (by omega) (by omega)
    · refine wp_iload (pc := 18) dX2_addLine_18 rfl ?_
      refine wp_bipush (pc := 20) dX2_addLine_20 (by decide) (by decide) ?_
      refine wp_icmp_ge (pc := 22) 46 dX2_addLine_22 (by decide) (fun c_22 => ?_) (fun c_22 => ?_)
      · omega
      · refine wp_iload (pc := 25) dX2_addLine_25 rfl ?_
        refine wp_aload_n (pc := 27) dX2_addLine_27 rfl rfl ?_
        refine wp_getR (pc := 28) (q := 43) dX2_addLine_28 fl_X2_51 rfl ?_
        refine wp_getR (pc := 31) (q := 44) dX2_addLine_31 fl_X2_131 rfl ?_
        refine wp_iload (pc := 34) dX2_addLine_34 rfl ?_
        refine wp_iald (pc := 36) 80 dX2_addLine_36 rfl (by omega) ?_
        have h1 := hw (w - f) (by omega) (by omega)
        rw [show f + (w - f) = w by omega] at h1
        refine wp_iadd (pc := 37) dX2_addLine_37 (by omega) ?_
        refine wp_istore (pc := 38) dX2_addLine_38 (Nat.le_of_ble_eq_true rfl) rfl ?_
        refine wp_iinc (pc := 40) dX2_addLine_40 rfl rfl (by omega) ?_
        refine wp_goto (pc := 43) 9 dX2_addLine_43 (by decide) ?_
        exact ih (by omega) (by omega) (by omega) (by omega) _ (by omega)
  refine wp_iload_n (pc := 0) dX2_addLine_0 rfl rfl ?_
  refine wp_iconst (pc := 1) dX2_addLine_1 (by decide) ?_
  refine wp_isub (pc := 2) dX2_addLine_2 (by omega) ?_
  refine wp_istore (pc := 3) dX2_addLine_3 (Nat.le_of_ble_eq_true rfl) rfl ?_
  refine wp_iload (pc := 5) dX2_addLine_5 rfl ?_
  refine wp_istore (pc := 7) dX2_addLine_7 (Nat.le_of_ble_eq_true rfl) rfl ?_
  exact lp f (by omega) (by omega) (by rw [Int.sub_self, eus0]; omega) (by rw [Int.sub_self, eus0]; omega) _ (by rw [Int.sub_self, eus0]; omega)

