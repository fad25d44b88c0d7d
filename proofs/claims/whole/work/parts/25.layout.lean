def RK (τ : Sto) (c1 c3 : Nat) (D S : Sto) (p : Int) : Prop := ∀ q, 0 ≤ q → q < p → τ c1 q = LB D S q ∧ ∀ j, 0 ≤ j → j < 9 → τ c3 (q * 9 + j) = rch D S q j
def LPf (τ : Sto) (c4 c5 c6 c7 c8 c9 c10 : Nat) (D S : Sto) (p : Int) : Prop := ∀ t, 0 ≤ t → t < LM D S p → τ c4 (LB D S p + t) = p ∧ τ c5 (LB D S p + t) = sumI (LC D S p) t ∧ τ c6 (LB D S p + t) = LC D S p t ∧ τ c7 (LB D S p + t) = indS D S (LB D S) p (LB D S p + t) ∧ τ c8 (LB D S p + t) = rmS D S p t ∧ τ c9 (LB D S p + t) = us (wdS D p) (sumI (LC D S p) t) (LC D S p t) ∧ τ c10 (LB D S p + t) = clsS D S (LB D S) p (LB D S p + t)
def LayOK (τ : Sto) (L l1 l2 l3 l4 l5 l6 l7 l8 l9 l10 : Nat) (D S : Sto) (p : Int) : Prop := τ L 3 = LL D S p ∧ RK τ l1 l3 D S p ∧ (∀ q, 0 ≤ q → q < p → τ l2 q = LE D S q ∧ LPf τ l4 l5 l6 l7 l8 l9 l10 D S q) ∧ ∀ x, 0 ≤ x → x < LL D S p → (∀ q, 0 ≤ q → q < p → ¬ (LB D S q ≤ x ∧ x < LE D S q)) → τ l4 x = -4 ∧ τ l10 x = 0
set_option maxHeartbeats 4000000 in
set_option maxRecDepth 100000 in
theorem DC_frm {σ τ : Sto} {L : List Nat} (h : Frm L σ τ) (h1 : ∀ r ∈ L, 38 ≤ r) : DC τ = DC σ ∧ SC τ = SC σ := by
  have e : ∀ r, r < 38 → τ r = σ r := fun r hr => h r (fun q => by have := h1 r q; omega)
  constructor
  · funext k i
    simp only [DC, e 14 (by decide), e 15 (by decide), e 16 (by decide), e 17 (by decide), e 18 (by decide), e 19 (by decide)]
  · funext k i
    simp only [SC, e 2 (by decide), e 3 (by decide), e 4 (by decide), e 5 (by decide), e 6 (by decide), e 7 (by decide)]
set_option maxHeartbeats 4000000 in
set_option maxRecDepth 100000 in
theorem rch_neg {D S : Sto} {p j : Int} (h : j < 0) : rch D S p j = 0 := by unfold rch; rw [if_pos (by omega)]
set_option maxHeartbeats 4000000 in
set_option maxRecDepth 100000 in
theorem PgB_of {σ : Sto} (h : OKD (DC σ) (SC σ)) (ht : σ 14 1 = tot (DC σ)) : PgB σ := by
  have h1 : 0 ≤ σ 14 0 ∧ σ 14 0 ≤ 8 := h.1
  have h3 : tot (DC σ) ≤ 80 := h.2.2.1
  have h4 : ∀ q, 0 ≤ q → q < σ 14 0 → 1 ≤ σ 16 q := h.2.1
  have hb := fst_bd h (p := σ 14 0) h1.1 (Int.le_refl _)
  refine ⟨h1.1, h1.2, by omega, by omega, fun q q0 q1 => ⟨h4 q q0 q1, ?_⟩, ht.symm, fun w w0 w1 => ?_⟩
  · have h5 := fst_bd h (p := q) q0 (show q ≤ σ 14 0 by omega)
    have h6 := fst_bd h (p := q + 1) (by omega) (show q + 1 ≤ σ 14 0 by omega)
    have h7 : fstS (DC σ) (q + 1) = fstS (DC σ) q + σ 16 q := fst_s (DC σ) q0
    omega
  · exact (h.2.2.2.2.1 w w0 (by omega)).1
set_option maxHeartbeats 4000000 in
set_option maxRecDepth 100000 in
theorem c_reachAhead_49 {τ D S : Sto} {p l : Int} (hD : OKD D S) (hS : OKS S) (hp : 0 ≤ p ∧ p ≤ D 0 0) (hl : 0 ≤ l ∧ l ≤ 1000) (hR : RK τ 50 52 D S p) : CtI yX2_reachAhead cX2_reachAhead 6 (some .int) 0 [mR 49, mI p, mI l] τ (fun z σ' => z = rAh D S (LB D S) p l ∧ σ' = τ) := by
  refine ct_of rfl [some (mR 49), some (mI p), some (mI l), none, none, none] (Nat.le_of_ble_eq_true rfl) rfl (fun hσ => ?_)
  show Wp cX2_reachAhead RX2 (some .int) 0 0 [some (mR 49), some (mI p), some (mI l), none, none, none] [] _ _
  have h8 := hD.1.2
  have lp : ∀ q, q ≤ p → 0 ≤ q → ∀ l5 : Option MV, Wp cX2_reachAhead RX2 (some .int) 0 5 [some (mR 49), some (mI p), some (mI l), some (mI (rAh D S (LB D S) q l)), some (mI q), l5] [] τ (fun v σ' => ∃ z, v = some (mI z) ∧ (fun z σ' => z = rAh D S (LB D S) p l ∧ σ' = τ) z σ') := by
    refine up_ind p (fun q hq ih h0 l5 => ?_)
    have hb := rAh_bd hD hS (LB D S) (p := q) l (by omega)
    refine wp_iload (pc := 5) dX2_reachAhead_5 rfl ?_
    refine wp_iload_n (pc := 7) dX2_reachAhead_7 rfl rfl ?_
    refine wp_icmp_ge (pc := 8) 71 dX2_reachAhead_8 (by decide) (fun c_8 => ?_) (fun c_8 => ?_)
    · have e : q = p := by omega
      subst e
      refine wp_iload_n (pc := 71) dX2_reachAhead_71 rfl rfl ?_
      refine wp_ireturn (pc := 72) dX2_reachAhead_72 rfl ?_
      exact ⟨_, rfl, rfl, rfl⟩
    · have hR1 := hR q h0 (by omega)
      have hb1 := LBb hD (p := q) h0 (by omega)
      refine wp_iload_n (pc := 11) dX2_reachAhead_11 rfl rfl ?_
      refine wp_aload_n (pc := 12) dX2_reachAhead_12 rfl rfl ?_
      refine wp_getR (pc := 13) (q := 50) dX2_reachAhead_13 fl_X2_9 rfl ?_
      refine wp_iload (pc := 16) dX2_reachAhead_16 rfl ?_
      refine wp_iald (pc := 18) 8 dX2_reachAhead_18 rfl (by omega) ?_
      rw [hR1.1]
      refine wp_isub (pc := 19) dX2_reachAhead_19 (by omega) ?_
      refine wp_istore (pc := 20) dX2_reachAhead_20 (Nat.le_of_ble_eq_true rfl) rfl ?_
      refine wp_iload (pc := 22) dX2_reachAhead_22 rfl ?_
      refine wp_if_lt (pc := 24) 65 dX2_reachAhead_24 (by decide) (fun c_24 => ?_) (fun c_24 => ?_)
      · refine wp_iinc (pc := 65) dX2_reachAhead_65 rfl rfl (by omega) ?_
        refine wp_goto (pc := 68) 5 dX2_reachAhead_68 (by decide) ?_
        have h2 := ih (by omega) (by omega)
        have e1 : rAh D S (LB D S) (q + 1) l = max (rAh D S (LB D S) q l) (rch D S q (l - LB D S q)) := mxI_s h0
        have e2 : 9 ≤ l - LB D S q → rch D S q (l - LB D S q) = 0 := fun h => rch_far hD hS h0 (by omega) h
        have e3 : l - LB D S q < 0 → rch D S q (l - LB D S q) = 0 := rch_neg
        rw [e1] at h2
        first
          | (rw [show max (rAh D S (LB D S) q l) (rch D S q (l - LB D S q)) = rAh D S (LB D S) q l by omega] at h2; exact h2 _)
          | (rw [show max (rAh D S (LB D S) q l) (rch D S q (l - LB D S q)) = rch D S q (l - LB D S q) by omega] at h2; exact h2 _)
      · refine wp_iload (pc := 27) dX2_reachAhead_27 rfl ?_
        refine wp_bipush (pc := 29) dX2_reachAhead_29 (by decide) (by decide) ?_
        refine wp_icmp_ge (pc := 31) 65 dX2_reachAhead_31 (by decide) (fun c_31 => ?_) (fun c_31 => ?_)
        · refine wp_iinc (pc := 65) dX2_reachAhead_65 rfl rfl (by omega) ?_
          refine wp_goto (pc := 68) 5 dX2_reachAhead_68 (by decide) ?_
          have h2 := ih (by omega) (by omega)
          have e1 : rAh D S (LB D S) (q + 1) l = max (rAh D S (LB D S) q l) (rch D S q (l - LB D S q)) := mxI_s h0
          have e2 : 9 ≤ l - LB D S q → rch D S q (l - LB D S q) = 0 := fun h => rch_far hD hS h0 (by omega) h
          have e3 : l - LB D S q < 0 → rch D S q (l - LB D S q) = 0 := rch_neg
          rw [e1] at h2
          first
            | (rw [show max (rAh D S (LB D S) q l) (rch D S q (l - LB D S q)) = rAh D S (LB D S) q l by omega] at h2; exact h2 _)
            | (rw [show max (rAh D S (LB D S) q l) (rch D S q (l - LB D S q)) = rch D S q (l - LB D S q) by omega] at h2; exact h2 _)
        · have hR2 := hR1.2 (l - LB D S q) (by omega) (by omega)
          refine wp_aload_n (pc := 34) dX2_reachAhead_34 rfl rfl ?_
          refine wp_getR (pc := 35) (q := 52) dX2_reachAhead_35 fl_X2_18 rfl ?_
          refine wp_iload (pc := 38) dX2_reachAhead_38 rfl ?_
          refine wp_bipush (pc := 40) dX2_reachAhead_40 (by decide) (by decide) ?_
          refine wp_imul (pc := 42) dX2_reachAhead_42 (by omega) ?_
          refine wp_iload (pc := 43) dX2_reachAhead_43 rfl ?_
          refine wp_iadd (pc := 45) dX2_reachAhead_45 (by omega) ?_
          refine wp_iald (pc := 46) 72 dX2_reachAhead_46 rfl (by omega) ?_
          rw [hR2]
          refine wp_iload_n (pc := 47) dX2_reachAhead_47 rfl rfl ?_
          refine wp_icmp_le (pc := 48) 65 dX2_reachAhead_48 (by decide) (fun c_48 => ?_) (fun c_48 => ?_)
          · refine wp_iinc (pc := 65) dX2_reachAhead_65 rfl rfl (by omega) ?_
            refine wp_goto (pc := 68) 5 dX2_reachAhead_68 (by decide) ?_
            have h2 := ih (by omega) (by omega)
            have e1 : rAh D S (LB D S) (q + 1) l = max (rAh D S (LB D S) q l) (rch D S q (l - LB D S q)) := mxI_s h0
            have e2 : 9 ≤ l - LB D S q → rch D S q (l - LB D S q) = 0 := fun h => rch_far hD hS h0 (by omega) h
            have e3 : l - LB D S q < 0 → rch D S q (l - LB D S q) = 0 := rch_neg
            rw [e1] at h2
            first
              | (rw [show max (rAh D S (LB D S) q l) (rch D S q (l - LB D S q)) = rAh D S (LB D S) q l by omega] at h2; exact h2 _)
              | (rw [show max (rAh D S (LB D S) q l) (rch D S q (l - LB D S q)) = rch D S q (l - LB D S q) by omega] at h2; exact h2 _)
          · refine wp_aload_n (pc := 51) dX2_reachAhead_51 rfl rfl ?_
            refine wp_getR (pc := 52) (q := 52) dX2_reachAhead_52 fl_X2_18 rfl ?_
            refine wp_iload (pc := 55) dX2_reachAhead_55 rfl ?_
            refine wp_bipush (pc := 57) dX2_reachAhead_57 (by decide) (by decide) ?_
            refine wp_imul (pc := 59) dX2_reachAhead_59 (by omega) ?_
            refine wp_iload (pc := 60) dX2_reachAhead_60 rfl ?_
            refine wp_iadd (pc := 62) dX2_reachAhead_62 (by omega) ?_
            refine wp_iald (pc := 63) 72 dX2_reachAhead_63 rfl (by omega) ?_
            rw [hR2]
            refine wp_istore_n (pc := 64) dX2_reachAhead_64 rfl (Nat.le_of_ble_eq_true rfl) rfl ?_
            refine wp_iinc (pc := 65) dX2_reachAhead_65 rfl rfl (by omega) ?_
            refine wp_goto (pc := 68) 5 dX2_reachAhead_68 (by decide) ?_
            have h2 := ih (by omega) (by omega)
            have e1 : rAh D S (LB D S) (q + 1) l = max (rAh D S (LB D S) q l) (rch D S q (l - LB D S q)) := mxI_s h0
            have e2 : 9 ≤ l - LB D S q → rch D S q (l - LB D S q) = 0 := fun h => rch_far hD hS h0 (by omega) h
            have e3 : l - LB D S q < 0 → rch D S q (l - LB D S q) = 0 := rch_neg
            rw [e1] at h2
            first
              | (rw [show max (rAh D S (LB D S) q l) (rch D S q (l - LB D S q)) = rAh D S (LB D S) q l by omega] at h2; exact h2 _)
              | (rw [show max (rAh D S (LB D S) q l) (rch D S q (l - LB D S q)) = rch D S q (l - LB D S q) by omega] at h2; exact h2 _)
  refine wp_iconst (pc := 0) dX2_reachAhead_0 (by decide) ?_
  refine wp_istore_n (pc := 1) dX2_reachAhead_1 rfl (Nat.le_of_ble_eq_true rfl) rfl ?_
  refine wp_iconst (pc := 2) dX2_reachAhead_2 (by decide) ?_
  refine wp_istore (pc := 3) dX2_reachAhead_3 (Nat.le_of_ble_eq_true rfl) rfl ?_
  exact lp 0 (by omega) (by omega) none
set_option maxHeartbeats 4000000 in
set_option maxRecDepth 100000 in
theorem c_lastReachedAhead_49 {τ D S : Sto} {p : Int} (hD : OKD D S) (hS : OKS S) (hp : 0 ≤ p ∧ p ≤ D 0 0) (hR : RK τ 50 52 D S p) : CtI yX2_lastReachedAhead cX2_lastReachedAhead 5 (some .int) 1 [mR 49, mI p] τ (fun z σ' => z = pushS D S (LB D S) p - 1 ∧ σ' = τ) := by
  refine ct_of rfl [some (mR 49), some (mI p), none, none, none] (Nat.le_of_ble_eq_true rfl) rfl (fun hσ => ?_)
  show Wp cX2_lastReachedAhead RX2 (some .int) 1 0 [some (mR 49), some (mI p), none, none, none] [] _ _
  have h8 := hD.1.2
  have hpb : ∀ q, 0 ≤ q → q ≤ p → 0 ≤ pushS D S (LB D S) q ∧ pushS D S (LB D S) q ≤ 152 := fun q q0 q1 => pushS_bd (by decide) (fun x x0 x1 => by have := LBb hD (p := x) x0 (by omega); have := hD.2.1 x x0 (by omega); omega)
  have lp : ∀ q, q ≤ p → 0 ≤ q → ∀ l4 : Option MV, Wp cX2_lastReachedAhead RX2 (some .int) 1 4 [some (mR 49), some (mI p), some (mI (pushS D S (LB D S) q - 1)), some (mI q), l4] [] τ (fun v σ' => ∃ z, v = some (mI z) ∧ (fun z σ' => z = pushS D S (LB D S) p - 1 ∧ σ' = τ) z σ') := by
    refine up_ind p (fun q hq ih h0 l4 => ?_)
    have hb := hpb q h0 hq
    have lp2 : q < p → ∀ j, j ≤ 9 → 0 ≤ j → Wp cX2_lastReachedAhead RX2 (some .int) 1 12 [some (mR 49), some (mI p), some (mI (max (pushS D S (LB D S) q) (mxI (pshJ D S (LB D S) q) j) - 1)), some (mI q), some (mI j)] [] τ (fun v σ' => ∃ z, v = some (mI z) ∧ (fun z σ' => z = pushS D S (LB D S) p - 1 ∧ σ' = τ) z σ') := by
      intro hqp
      have hR1 := hR q h0 hqp
      have hb1 := LBb hD (p := q) h0 (by omega)
      refine up_ind 9 (fun j hj ih2 j0 => ?_)
      have hmb := mxI_bd (f := pshJ D S (LB D S) q) (n := j) (c := 152) (by decide) (fun k k0 k1 => by unfold pshJ; split <;> omega)
      have e1 : mxI (pshJ D S (LB D S) q) (j + 1) = max (mxI (pshJ D S (LB D S) q) j) (pshJ D S (LB D S) q j) := mxI_s j0
      refine wp_iload (pc := 12) dX2_lastReachedAhead_12 rfl ?_
      refine wp_bipush (pc := 14) dX2_lastReachedAhead_14 (by decide) (by decide) ?_
      refine wp_icmp_ge (pc := 16) 54 dX2_lastReachedAhead_16 (by decide) (fun c_16 => ?_) (fun c_16 => ?_)
      · refine wp_iinc (pc := 54) dX2_lastReachedAhead_54 rfl rfl (by omega) ?_
        refine wp_goto (pc := 57) 4 dX2_lastReachedAhead_57 (by decide) ?_
        have h2 := ih (by omega) (by omega)
        have e2 : pushS D S (LB D S) (q + 1) = max (pushS D S (LB D S) q) (mxI (pshJ D S (LB D S) q) 9) := mxI_s h0
        have e3 : j = 9 := by omega
        subst e3
        rw [e2] at h2
        exact h2 _
      · have hR2 := hR1.2 j j0 (by omega)
        refine wp_aload_n (pc := 19) dX2_lastReachedAhead_19 rfl rfl ?_
        refine wp_getR (pc := 20) (q := 52) dX2_lastReachedAhead_20 fl_X2_18 rfl ?_
        refine wp_iload_n (pc := 23) dX2_lastReachedAhead_23 rfl rfl ?_
        refine wp_bipush (pc := 24) dX2_lastReachedAhead_24 (by decide) (by decide) ?_
        refine wp_imul (pc := 26) dX2_lastReachedAhead_26 (by omega) ?_
        refine wp_iload (pc := 27) dX2_lastReachedAhead_27 rfl ?_
        refine wp_iadd (pc := 29) dX2_lastReachedAhead_29 (by omega) ?_
        refine wp_iald (pc := 30) 72 dX2_lastReachedAhead_30 rfl (by omega) ?_
        rw [hR2]
        refine wp_if_le (pc := 31) 48 dX2_lastReachedAhead_31 (by decide) (fun c_31 => ?_) (fun c_31 => ?_)
        · refine wp_iinc (pc := 48) dX2_lastReachedAhead_48 rfl rfl (by omega) ?_
          refine wp_goto (pc := 51) 12 dX2_lastReachedAhead_51 (by decide) ?_
          have h2 := ih2 (by omega) (by omega)
          rw [e1] at h2
          first
            | (have ep : pshJ D S (LB D S) q j = LB D S q + j + 1 := if_pos (by omega)
               rw [ep, show max (pushS D S (LB D S) q) (max (mxI (pshJ D S (LB D S) q) j) (LB D S q + j + 1)) - 1 = max (max (pushS D S (LB D S) q) (mxI (pshJ D S (LB D S) q) j) - 1) (LB D S q + j) by omega] at h2
               exact h2)
            | (have ep : pshJ D S (LB D S) q j = 0 := if_neg (by omega)
               rw [ep, show max (pushS D S (LB D S) q) (max (mxI (pshJ D S (LB D S) q) j) 0) - 1 = max (pushS D S (LB D S) q) (mxI (pshJ D S (LB D S) q) j) - 1 by omega] at h2
               exact h2)
        · refine wp_iload_n (pc := 34) dX2_lastReachedAhead_34 rfl rfl ?_
          refine wp_aload_n (pc := 35) dX2_lastReachedAhead_35 rfl rfl ?_
          refine wp_getR (pc := 36) (q := 50) dX2_lastReachedAhead_36 fl_X2_9 rfl ?_
          refine wp_iload_n (pc := 39) dX2_lastReachedAhead_39 rfl rfl ?_
          refine wp_iald (pc := 40) 8 dX2_lastReachedAhead_40 rfl (by omega) ?_
          rw [hR1.1]
          refine wp_iload (pc := 41) dX2_lastReachedAhead_41 rfl ?_
          refine wp_iadd (pc := 43) dX2_lastReachedAhead_43 (by omega) ?_
          refine wp_max (pc := 44) dX2_lastReachedAhead_44 mx_X2_97 (by decide) (Nat.le_of_ble_eq_true rfl) ?_
          refine wp_istore_n (pc := 47) dX2_lastReachedAhead_47 rfl (Nat.le_of_ble_eq_true rfl) rfl ?_
          refine wp_iinc (pc := 48) dX2_lastReachedAhead_48 rfl rfl (by omega) ?_
          refine wp_goto (pc := 51) 12 dX2_lastReachedAhead_51 (by decide) ?_
          have h2 := ih2 (by omega) (by omega)
          rw [e1] at h2
          first
            | (have ep : pshJ D S (LB D S) q j = LB D S q + j + 1 := if_pos (by omega)
               rw [ep, show max (pushS D S (LB D S) q) (max (mxI (pshJ D S (LB D S) q) j) (LB D S q + j + 1)) - 1 = max (max (pushS D S (LB D S) q) (mxI (pshJ D S (LB D S) q) j) - 1) (LB D S q + j) by omega] at h2
               exact h2)
            | (have ep : pshJ D S (LB D S) q j = 0 := if_neg (by omega)
               rw [ep, show max (pushS D S (LB D S) q) (max (mxI (pshJ D S (LB D S) q) j) 0) - 1 = max (pushS D S (LB D S) q) (mxI (pshJ D S (LB D S) q) j) - 1 by omega] at h2
               exact h2)
    refine wp_iload_n (pc := 4) dX2_lastReachedAhead_4 rfl rfl ?_
    refine wp_iload_n (pc := 5) dX2_lastReachedAhead_5 rfl rfl ?_
    refine wp_icmp_ge (pc := 6) 60 dX2_lastReachedAhead_6 (by decide) (fun c_6 => ?_) (fun c_6 => ?_)
    · have e : q = p := by omega
      subst e
      refine wp_iload_n (pc := 60) dX2_lastReachedAhead_60 rfl rfl ?_
      refine wp_ireturn (pc := 61) dX2_lastReachedAhead_61 rfl ?_
      exact ⟨_, rfl, rfl, rfl⟩
    · refine wp_iconst (pc := 9) dX2_lastReachedAhead_9 (by decide) ?_
      refine wp_istore (pc := 10) dX2_lastReachedAhead_10 (Nat.le_of_ble_eq_true rfl) rfl ?_
      have h2 := lp2 (by omega) 0 (by omega) (by omega)
      rw [mxI_0, show max (pushS D S (LB D S) q) 0 - 1 = pushS D S (LB D S) q - 1 by omega] at h2
      exact h2
  refine wp_iconst (pc := 0) dX2_lastReachedAhead_0 (by decide) ?_
  refine wp_istore_n (pc := 1) dX2_lastReachedAhead_1 rfl (Nat.le_of_ble_eq_true rfl) rfl ?_
  refine wp_iconst (pc := 2) dX2_lastReachedAhead_2 (by decide) ?_
  refine wp_istore_n (pc := 3) dX2_lastReachedAhead_3 rfl (Nat.le_of_ble_eq_true rfl) rfl ?_
  exact lp 0 (by omega) (by omega) none
set_option maxHeartbeats 4000000 in
set_option maxRecDepth 100000 in
theorem c_indentAt_49 {τ S : Sto} {p l : Int} (hD : OKD (DC τ) S) (hS : OKS S) (hp : 0 ≤ p ∧ p < τ 14 0) (hl : 0 ≤ l ∧ l ≤ 1000) (hR : RK τ 50 52 (DC τ) S (p + 1)) : CtI yX2_indentAt cX2_indentAt 4 (some .int) 1 [mR 49, mI p, mI l] τ (fun z σ' => z = indS (DC τ) S (LB (DC τ) S) p l ∧ σ' = τ) := by
  refine ct_of rfl [some (mR 49), some (mI p), some (mI l), none] (Nat.le_of_ble_eq_true rfl) rfl (fun hσ => ?_)
  show Wp cX2_indentAt RX2 (some .int) 1 0 [some (mR 49), some (mI p), some (mI l), none] [] _ _
  have h8 : τ 14 0 ≤ 8 := hD.1.2
  have hb1 := LBb hD (p := p) hp.1 hp.2
  have hR1 := hR p hp.1 (by omega)
  have hR0 : RK τ 50 52 (DC τ) S p := fun q q0 q1 => hR q q0 (by omega)
  refine wp_aload_n (pc := 0) dX2_indentAt_0 rfl rfl ?_
  refine wp_getR (pc := 1) (q := 14) dX2_indentAt_1 fl_X2_43 rfl ?_
  refine wp_iload_n (pc := 4) dX2_indentAt_4 rfl rfl ?_
  refine wp_cvI1 (pc := 5) dX2_indentAt_5 mv_X2_83 (c_hasShape (by omega)) (Nat.le_of_ble_eq_true rfl) rfl (Nat.le_of_ble_eq_true rfl) (fun z_5 σ_5 h_5 => ?_)
  obtain ⟨z5, s5⟩ := h_5
  have s5 := s5.symm
  subst s5
  refine wp_if_eq (pc := 8) 46 dX2_indentAt_8 (by decide) (fun c_8 => ?_) (fun c_8 => ?_)
  · refine wp_aload_n (pc := 46) dX2_indentAt_46 rfl rfl ?_
    refine wp_getR (pc := 47) (q := 14) dX2_indentAt_47 fl_X2_43 rfl ?_
    refine wp_getR (pc := 50) (q := 19) dX2_indentAt_50 fl_X2_80 rfl ?_
    refine wp_iconst (pc := 53) dX2_indentAt_53 (by decide) ?_
    refine wp_iald (pc := 54) 6 dX2_indentAt_54 rfl (by omega) ?_
    refine wp_iconst (pc := 55) dX2_indentAt_55 (by decide) ?_
    refine wp_icmp_ne (pc := 56) 68 dX2_indentAt_56 (by decide) (fun c_56 => ?_) (fun c_56 => ?_)
    · refine wp_iconst (pc := 68) dX2_indentAt_68 (by decide) ?_
      refine wp_ireturn (pc := 69) dX2_indentAt_69 rfl ?_
      refine ⟨_, rfl, ?_, rfl⟩
      show _ = if 0 ≤ τ 17 p then rch (DC τ) S p (l - LB (DC τ) S p) else if τ 19 5 = 2 then rAh (DC τ) S (LB (DC τ) S) p l else 0
      first
        | (rw [if_pos (by split at z5 <;> omega)]; exact hR2)
        | (rw [if_pos (by split at z5 <;> omega), rch_neg (by omega)])
        | (rw [if_pos (by split at z5 <;> omega), rch_far hD hS hp.1 hp.2 (by omega)])
        | (rw [if_neg (by split at z5 <;> omega), if_pos (by omega)])
        | (rw [if_neg (by split at z5 <;> omega), if_neg (by omega)])
    · refine wp_aload_n (pc := 59) dX2_indentAt_59 rfl rfl ?_
      refine wp_iload_n (pc := 60) dX2_indentAt_60 rfl rfl ?_
      refine wp_iload_n (pc := 61) dX2_indentAt_61 rfl rfl ?_
      refine wp_cvI2 (pc := 62) dX2_indentAt_62 mv_X2_134 (c_reachAhead_49 hD hS ⟨hp.1, show p ≤ τ 14 0 by omega⟩ (by omega) hR0) (Nat.le_of_ble_eq_true rfl) rfl (Nat.le_of_ble_eq_true rfl) (fun z_62 σ_62 h_62 => ?_)
      obtain ⟨rfl, e_62⟩ := h_62; have e2_62 := e_62.symm; subst e2_62
      refine wp_goto (pc := 65) 69 dX2_indentAt_65 (by decide) ?_
      refine wp_ireturn (pc := 69) dX2_indentAt_69 rfl ?_
      refine ⟨_, rfl, ?_, rfl⟩
      show _ = if 0 ≤ τ 17 p then rch (DC τ) S p (l - LB (DC τ) S p) else if τ 19 5 = 2 then rAh (DC τ) S (LB (DC τ) S) p l else 0
      first
        | (rw [if_pos (by split at z5 <;> omega)]; exact hR2)
        | (rw [if_pos (by split at z5 <;> omega), rch_neg (by omega)])
        | (rw [if_pos (by split at z5 <;> omega), rch_far hD hS hp.1 hp.2 (by omega)])
        | (rw [if_neg (by split at z5 <;> omega), if_pos (by omega)])
        | (rw [if_neg (by split at z5 <;> omega), if_neg (by omega)])
  · refine wp_iload_n (pc := 11) dX2_indentAt_11 rfl rfl ?_
    refine wp_aload_n (pc := 12) dX2_indentAt_12 rfl rfl ?_
    refine wp_getR (pc := 13) (q := 50) dX2_indentAt_13 fl_X2_9 rfl ?_
    refine wp_iload_n (pc := 16) dX2_indentAt_16 rfl rfl ?_
    refine wp_iald (pc := 17) 8 dX2_indentAt_17 rfl (by omega) ?_
    rw [hR1.1]
    refine wp_isub (pc := 18) dX2_indentAt_18 (by omega) ?_
    refine wp_istore_n (pc := 19) dX2_indentAt_19 rfl (Nat.le_of_ble_eq_true rfl) rfl ?_
    refine wp_iload_n (pc := 20) dX2_indentAt_20 rfl rfl ?_
    refine wp_if_lt (pc := 21) 44 dX2_indentAt_21 (by decide) (fun c_21 => ?_) (fun c_21 => ?_)
    · refine wp_iconst (pc := 44) dX2_indentAt_44 (by decide) ?_
      refine wp_ireturn (pc := 45) dX2_indentAt_45 rfl ?_
      refine ⟨_, rfl, ?_, rfl⟩
      show _ = if 0 ≤ τ 17 p then rch (DC τ) S p (l - LB (DC τ) S p) else if τ 19 5 = 2 then rAh (DC τ) S (LB (DC τ) S) p l else 0
      first
        | (rw [if_pos (by split at z5 <;> omega)]; exact hR2)
        | (rw [if_pos (by split at z5 <;> omega), rch_neg (by omega)])
        | (rw [if_pos (by split at z5 <;> omega), rch_far hD hS hp.1 hp.2 (by omega)])
        | (rw [if_neg (by split at z5 <;> omega), if_pos (by omega)])
        | (rw [if_neg (by split at z5 <;> omega), if_neg (by omega)])
    · refine wp_iload_n (pc := 24) dX2_indentAt_24 rfl rfl ?_
      refine wp_bipush (pc := 25) dX2_indentAt_25 (by decide) (by decide) ?_
      refine wp_icmp_ge (pc := 27) 44 dX2_indentAt_27 (by decide) (fun c_27 => ?_) (fun c_27 => ?_)
      · refine wp_iconst (pc := 44) dX2_indentAt_44 (by decide) ?_
        refine wp_ireturn (pc := 45) dX2_indentAt_45 rfl ?_
        refine ⟨_, rfl, ?_, rfl⟩
        show _ = if 0 ≤ τ 17 p then rch (DC τ) S p (l - LB (DC τ) S p) else if τ 19 5 = 2 then rAh (DC τ) S (LB (DC τ) S) p l else 0
        first
          | (rw [if_pos (by split at z5 <;> omega)]; exact hR2)
          | (rw [if_pos (by split at z5 <;> omega), rch_neg (by omega)])
          | (rw [if_pos (by split at z5 <;> omega), rch_far hD hS hp.1 hp.2 (by omega)])
          | (rw [if_neg (by split at z5 <;> omega), if_pos (by omega)])
          | (rw [if_neg (by split at z5 <;> omega), if_neg (by omega)])
      · have hR2 := hR1.2 (l - LB (DC τ) S p) (by omega) (by omega)
        refine wp_aload_n (pc := 30) dX2_indentAt_30 rfl rfl ?_
        refine wp_getR (pc := 31) (q := 52) dX2_indentAt_31 fl_X2_18 rfl ?_
        refine wp_iload_n (pc := 34) dX2_indentAt_34 rfl rfl ?_
        refine wp_bipush (pc := 35) dX2_indentAt_35 (by decide) (by decide) ?_
        refine wp_imul (pc := 37) dX2_indentAt_37 (by omega) ?_
        refine wp_iload_n (pc := 38) dX2_indentAt_38 rfl rfl ?_
        refine wp_iadd (pc := 39) dX2_indentAt_39 (by omega) ?_
        refine wp_iald (pc := 40) 72 dX2_indentAt_40 rfl (by omega) ?_
        refine wp_goto (pc := 41) 45 dX2_indentAt_41 (by decide) ?_
        refine wp_ireturn (pc := 45) dX2_indentAt_45 rfl ?_
        refine ⟨_, rfl, ?_, rfl⟩
        show _ = if 0 ≤ τ 17 p then rch (DC τ) S p (l - LB (DC τ) S p) else if τ 19 5 = 2 then rAh (DC τ) S (LB (DC τ) S) p l else 0
        first
          | (rw [if_pos (by split at z5 <;> omega)]; exact hR2)
          | (rw [if_pos (by split at z5 <;> omega), rch_neg (by omega)])
          | (rw [if_pos (by split at z5 <;> omega), rch_far hD hS hp.1 hp.2 (by omega)])
          | (rw [if_neg (by split at z5 <;> omega), if_pos (by omega)])
          | (rw [if_neg (by split at z5 <;> omega), if_neg (by omega)])

