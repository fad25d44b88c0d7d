set_option maxHeartbeats 4000000 in
set_option maxRecDepth 100000 in
theorem c_layAll_49 {σ D S : Sto} (hDe : DC σ = D) (hSe : SC σ = S) (hD : OKD D S) (hS : OKS S) (ht : σ 14 1 = tot D) : CtV yX2_layAll cX2_layAll 2 none 3 [mR 49] σ (fun σ' => Frm [39, 40, 41, 42, 43, 44, 45, 46, 47, 48, 49, 50, 51, 52, 53, 54, 55, 56, 57, 58, 59] σ σ' ∧ LayOK σ' 49 50 51 52 53 54 55 56 57 58 59 D S (D 0 0)) := by
  refine ct_of rfl [some (mR 49), none] (Nat.le_of_ble_eq_true rfl) rfl (fun hσ => ?_)
  show Wp cX2_layAll RX2 none 3 0 [some (mR 49), none] [] _ _
  have hB : PgB σ := by subst hDe; subst hSe; exact PgB_of hD ht
  have hD00 : D 0 0 = σ 14 0 := by rw [← hDe]; rfl
  have h8 := hD.1
  have h80 := hD.2.2.1
  have ht0 := hB.2.2.1
  have hwc : ∀ w, 0 ≤ w → w < σ 14 1 → 0 ≤ σ 15 w := fun w w0 w1 => hB.2.2.2.2.2.2 w w0 w1
  have lp : ∀ p, p ≤ D 0 0 → 0 ≤ p → ∀ υ : Sto, Frm [39, 40, 41, 42, 43, 44, 45, 46, 47, 48, 49, 50, 51, 52, 53, 54, 55, 56, 57, 58, 59] σ υ → (∀ w, 0 ≤ w → w < tot D → υ 44 w = wid (σ 15 w)) → LayOK υ 49 50 51 52 53 54 55 56 57 58 59 D S p → Wp cX2_layAll RX2 none 3 18 [some (mR 49), some (mI p)] [] υ (fun v σ' => v = none ∧ (fun σ' => Frm [39, 40, 41, 42, 43, 44, 45, 46, 47, 48, 49, 50, 51, 52, 53, 54, 55, 56, 57, 58, 59] σ σ' ∧ LayOK σ' 49 50 51 52 53 54 55 56 57 58 59 D S (D 0 0)) σ') := by
    refine up_ind (D 0 0) (fun p hpc ih p0 υ hF hw hO => ?_)
    have t14 : υ 14 = σ 14 := hF 14 (by decide)
    obtain ⟨o1, o2, o3, o4⟩ := hO
    have eDC : DC υ = D := (DC_frm hF (by decide)).1.trans hDe
    have eSC : SC υ = S := (DC_frm hF (by decide)).2.trans hSe
    have hll := LLb hD p0 hpc
    refine wp_iload_n (pc := 18) dX2_layAll_18 rfl rfl ?_
    refine wp_aload_n (pc := 19) dX2_layAll_19 rfl rfl ?_
    refine wp_getR (pc := 20) (q := 14) dX2_layAll_20 fl_X2_43 rfl ?_
    refine wp_getI (pc := 23) 0 dX2_layAll_23 fl_X2_65 rfl rfl ?_
    rw [t14]
    refine wp_icmp_ge (pc := 26) 70 dX2_layAll_26 (by decide) (fun c_26 => ?_) (fun c_26 => ?_)
    · refine wp_return (pc := 70) dX2_layAll_70 rfl ?_
      have e : p = D 0 0 := by omega
      subst e
      exact ⟨rfl, hF, o1, o2, o3, o4⟩
    · have hpl : p < D 0 0 := by omega
      have hb1 := LBb hD p0 hpl
      have hLB := LB_eq D S p0
      refine wp_aload_n (pc := 29) dX2_layAll_29 rfl rfl ?_
      refine wp_iload_n (pc := 30) dX2_layAll_30 rfl rfl ?_
      refine wp_cvV1 (pc := 31) dX2_layAll_31 mv_X2_70 (c_leaveEmpty_49 (S := S) (by rw [eDC]; exact hD) hS (by rw [t14]; omega) (by rw [eDC]; exact o2) (by omega)) (Nat.le_of_ble_eq_true rfl) rfl (Nat.le_of_ble_eq_true rfl) (fun σ_31 h_31 => ?_)
      obtain ⟨f31, a1, a2, a3⟩ := h_31
      rw [eDC, o1, ← hLB] at a1
      rw [o1, a1] at a2 a3
      refine wp_aload_n (pc := 34) dX2_layAll_34 rfl rfl ?_
      refine wp_getR (pc := 35) (q := 50) dX2_layAll_35 fl_X2_9 rfl ?_
      refine wp_iload_n (pc := 38) dX2_layAll_38 rfl rfl ?_
      refine wp_aload_n (pc := 39) dX2_layAll_39 rfl rfl ?_
      refine wp_getI (pc := 40) 3 dX2_layAll_40 fl_X2_55 rfl rfl ?_
      rw [a1]
      have f43 : Frm [49, 50, 53, 59] υ (upd2 σ_31 50 p (LB D S p)) := (f31.mono (by decide)).up (by decide)
      have eD43 : DC (upd2 σ_31 50 p (LB D S p)) = D := (DC_frm f43 (by decide)).1.trans eDC
      have eS43 : SC (upd2 σ_31 50 p (LB D S p)) = S := (DC_frm f43 (by decide)).2.trans eSC
      refine wp_iast (pc := 43) 8 dX2_layAll_43 rfl (by omega) ?_
      refine wp_aload_n (pc := 44) dX2_layAll_44 rfl rfl ?_
      refine wp_iload_n (pc := 45) dX2_layAll_45 rfl rfl ?_
      refine wp_cvV1 (pc := 46) dX2_layAll_46 mv_X2_74 (c_drawReaches_49 (by rw [eD43, eS43]; exact hD) (by rw [eS43]; exact hS) (by rw [f43 14 (by decide), t14]; omega)) (Nat.le_of_ble_eq_true rfl) rfl (Nat.le_of_ble_eq_true rfl) (fun σ_46 h_46 => ?_)
      obtain ⟨f46, b1, b2⟩ := h_46
      rw [eD43, eS43] at b1
      have f46b : Frm [39, 40, 41, 42, 49, 50, 52, 53, 59] υ σ_46 := (f43.mono (by decide)).tr (f46.mono (by decide))
      have eD46 : DC σ_46 = D := (DC_frm f46b (by decide)).1.trans eDC
      have eS46 : SC σ_46 = S := (DC_frm f46b (by decide)).2.trans eSC
      have k1 : ∀ q, 0 ≤ q → q < p → σ_46 50 q = LB D S q := fun q q0 q1 => by rw [f46 50 (by decide), upd2_k (by omega), f31 50 (by decide)]; exact (o2 q q0 q1).1
      have k1p : σ_46 50 p = LB D S p := by rw [f46 50 (by decide), upd2_eq]
      have hR46 : RK σ_46 50 52 D S (p + 1) := by
        intro q q0 q1
        by_cases e : q = p
        · subst e
          exact ⟨k1p, b1⟩
        · refine ⟨k1 q q0 (by omega), fun j j0 j1 => ?_⟩
          rw [b2 _ (by omega), f43 52 (by decide)]
          exact (o2 q q0 (by omega)).2 j j0 j1
      refine wp_aload_n (pc := 49) dX2_layAll_49 rfl rfl ?_
      refine wp_iload_n (pc := 50) dX2_layAll_50 rfl rfl ?_
      refine wp_cvV1 (pc := 51) dX2_layAll_51 mv_X2_77 (c_layPar_49 eD46 eS46 hD hS (by rw [f46b 14 (by decide), t14]; exact ht) (by rw [f46b 14 (by decide), t14]; omega) hR46 (by rw [f46 49 (by decide), upd2_r (by decide)]; exact a1) (fun w w0 w1 => by rw [f46b 44 (by decide), f46b 15 (by decide), hF 15 (by decide)]; exact hw w w0 w1)) (Nat.le_of_ble_eq_true rfl) rfl (Nat.le_of_ble_eq_true rfl) (fun σ_51 h_51 => ?_)
      obtain ⟨f51, c1, c2, c3⟩ := h_51
      refine wp_aload_n (pc := 54) dX2_layAll_54 rfl rfl ?_
      refine wp_getR (pc := 55) (q := 51) dX2_layAll_55 fl_X2_15 rfl ?_
      refine wp_iload_n (pc := 58) dX2_layAll_58 rfl rfl ?_
      refine wp_aload_n (pc := 59) dX2_layAll_59 rfl rfl ?_
      refine wp_getI (pc := 60) 3 dX2_layAll_60 fl_X2_55 rfl rfl ?_
      rw [c1]
      refine wp_iast (pc := 63) 8 dX2_layAll_63 rfl (by omega) ?_
      refine wp_iinc (pc := 64) dX2_layAll_64 rfl rfl (by omega) ?_
      refine wp_goto (pc := 67) 18 dX2_layAll_67 (by decide) ?_
      have f51b : Frm [39, 40, 41, 42, 43, 45, 46, 47, 48, 49, 50, 52, 53, 54, 55, 56, 57, 58, 59] υ σ_51 := (f46b.mono (by decide)).tr (f51.mono (by decide))
      have g4 : ∀ x, σ_46 53 x = if LL D S p ≤ x ∧ x < LB D S p then -4 else υ 53 x := fun x => by rw [f46 53 (by decide), upd2_r (by decide)]; exact a2 x
      have g10 : ∀ x, σ_46 59 x = if LL D S p ≤ x ∧ x < LB D S p then 0 else υ 59 x := fun x => by rw [f46 59 (by decide), upd2_r (by decide)]; exact a3 x
      refine ih (by omega) (by omega) _ ((hF.tr (f51b.mono (by decide))).up (by decide)) (fun w w0 w1 => ?_) ⟨?_, fun q q0 q1 => ?_, fun q q0 q1 => ?_, fun x x0 x1 hx => ?_⟩
      · rw [upd2_r (by decide), f51b 44 (by decide)]; exact hw w w0 w1
      · rw [upd2_r (by decide), LL_s D S p0]; exact c1
      · have := hR46 q q0 q1
        refine ⟨?_, fun j j0 j1 => ?_⟩
        · rw [upd2_r (by decide), f51 50 (by decide)]; exact this.1
        · rw [upd2_r (by decide), f51 52 (by decide)]; exact this.2 j j0 j1
      · by_cases e : q = p
        · subst e
          refine ⟨upd2_eq, fun t t0 t1 => ?_⟩
          have := c2 t t0 t1
          simp only [upd2_r (show (53 : Nat) ≠ 51 by decide), upd2_r (show (54 : Nat) ≠ 51 by decide), upd2_r (show (55 : Nat) ≠ 51 by decide), upd2_r (show (56 : Nat) ≠ 51 by decide), upd2_r (show (57 : Nat) ≠ 51 by decide), upd2_r (show (58 : Nat) ≠ 51 by decide), upd2_r (show (59 : Nat) ≠ 51 by decide)]
          exact this
        · have hq := o3 q q0 (by omega)
          refine ⟨by rw [upd2_k e, f51b 51 (by decide)]; exact hq.1, fun t t0 t1 => ?_⟩
          have h1 := hq.2 t t0 t1
          have h2 := LE_LB hD q0 (show q < p by omega) hpl
          have h3 := LE_eq D S q0
          have h4 := c3 (LB D S q + t) (by omega)
          simp only [upd2_r (show (53 : Nat) ≠ 51 by decide), upd2_r (show (54 : Nat) ≠ 51 by decide), upd2_r (show (55 : Nat) ≠ 51 by decide), upd2_r (show (56 : Nat) ≠ 51 by decide), upd2_r (show (57 : Nat) ≠ 51 by decide), upd2_r (show (58 : Nat) ≠ 51 by decide), upd2_r (show (59 : Nat) ≠ 51 by decide)]
          rw [h4.1, h4.2.1, h4.2.2.1, h4.2.2.2.1, h4.2.2.2.2.1, h4.2.2.2.2.2.1, h4.2.2.2.2.2.2, g4, g10, if_neg (by omega), if_neg (by omega), f46b 54 (by decide), f46b 55 (by decide), f46b 56 (by decide), f46b 57 (by decide), f46b 58 (by decide)]
          exact h1
      · rw [LL_s D S p0] at x1
        have hxp := hx p p0 (by omega)
        have hxl : x < LB D S p := by omega
        have h4 := c3 x hxl
        rw [upd2_r (by decide), upd2_r (by decide), h4.1, h4.2.2.2.2.2.2, g4, g10]
        by_cases hxx : LL D S p ≤ x ∧ x < LB D S p
        · rw [if_pos hxx, if_pos hxx]; exact ⟨rfl, rfl⟩
        · rw [if_neg hxx, if_neg hxx]
          exact o4 x x0 (by omega) (fun q q0 q1 => hx q q0 (by omega))
  refine wp_aload_n (pc := 0) dX2_layAll_0 rfl rfl ?_
  refine wp_iconst (pc := 1) dX2_layAll_1 (by decide) ?_
  refine wp_putI (pc := 2) 3 dX2_layAll_2 fl_X2_55 ⟨rfl, rfl⟩ rfl rfl ?_
  refine wp_aload_n (pc := 5) dX2_layAll_5 rfl rfl ?_
  refine wp_getR (pc := 6) (q := 43) dX2_layAll_6 fl_X2_51 rfl ?_
  refine wp_aload_n (pc := 9) dX2_layAll_9 rfl rfl ?_
  refine wp_getR (pc := 10) (q := 14) dX2_layAll_10 fl_X2_43 rfl ?_
  refine wp_cvV1 (pc := 13) dX2_layAll_13 mv_X2_59 (c_measureWords (σ := upd2 σ 49 3 0) (by rw [upd2_r (by decide)]; omega) (fun w w0 w1 => by rw [upd2_r (by decide)] at w1 ⊢; exact hwc w w0 w1)) (Nat.le_of_ble_eq_true rfl) rfl (Nat.le_of_ble_eq_true rfl) (fun σ_13 h_13 => ?_)
  obtain ⟨f13, w13⟩ := h_13
  refine wp_iconst (pc := 16) dX2_layAll_16 (by decide) ?_
  refine wp_istore_n (pc := 17) dX2_layAll_17 rfl (Nat.le_of_ble_eq_true rfl) rfl ?_
  refine lp 0 (by omega) (by omega) σ_13 ((Frm.rf.up (r := 49) (k := 3) (v := 0) (by decide)).tr (f13.mono (by decide))) (fun w w0 w1 => ?_) ⟨?_, fun q q0 q1 => absurd q1 (by omega), fun q q0 q1 => absurd q1 (by omega), fun x x0 x1 => ?_⟩
  · have := w13 w w0 (by rw [upd2_r (by decide)]; omega)
    rw [this, upd2_r (by decide)]
  · rw [f13 49 (by decide), upd2_eq]; rfl
  · unfold LL at x1
    rw [if_pos rfl] at x1
    omega

set_option maxHeartbeats 4000000 in
set_option maxRecDepth 100000 in
theorem c_layAll_60 {σ D S : Sto} (hDe : DC σ = D) (hSe : SC σ = S) (hD : OKD D S) (hS : OKS S) (ht : σ 14 1 = tot D) : CtV yX2_layAll cX2_layAll 2 none 3 [mR 60] σ (fun σ' => Frm [39, 40, 41, 42, 43, 44, 45, 46, 47, 48, 60, 61, 62, 63, 64, 65, 66, 67, 68, 69, 70] σ σ' ∧ LayOK σ' 60 61 62 63 64 65 66 67 68 69 70 D S (D 0 0)) := by
  refine ct_of rfl [some (mR 60), none] (Nat.le_of_ble_eq_true rfl) rfl (fun hσ => ?_)
  show Wp cX2_layAll RX2 none 3 0 [some (mR 60), none] [] _ _
  have hB : PgB σ := by subst hDe; subst hSe; exact PgB_of hD ht
  have hD00 : D 0 0 = σ 14 0 := by rw [← hDe]; rfl
  have h8 := hD.1
  have h80 := hD.2.2.1
  have ht0 := hB.2.2.1
  have hwc : ∀ w, 0 ≤ w → w < σ 14 1 → 0 ≤ σ 15 w := fun w w0 w1 => hB.2.2.2.2.2.2 w w0 w1
  have lp : ∀ p, p ≤ D 0 0 → 0 ≤ p → ∀ υ : Sto, Frm [39, 40, 41, 42, 43, 44, 45, 46, 47, 48, 60, 61, 62, 63, 64, 65, 66, 67, 68, 69, 70] σ υ → (∀ w, 0 ≤ w → w < tot D → υ 44 w = wid (σ 15 w)) → LayOK υ 60 61 62 63 64 65 66 67 68 69 70 D S p → Wp cX2_layAll RX2 none 3 18 [some (mR 60), some (mI p)] [] υ (fun v σ' => v = none ∧ (fun σ' => Frm [39, 40, 41, 42, 43, 44, 45, 46, 47, 48, 60, 61, 62, 63, 64, 65, 66, 67, 68, 69, 70] σ σ' ∧ LayOK σ' 60 61 62 63 64 65 66 67 68 69 70 D S (D 0 0)) σ') := by
    refine up_ind (D 0 0) (fun p hpc ih p0 υ hF hw hO => ?_)
    have t14 : υ 14 = σ 14 := hF 14 (by decide)
    obtain ⟨o1, o2, o3, o4⟩ := hO
    have eDC : DC υ = D := (DC_frm hF (by decide)).1.trans hDe
    have eSC : SC υ = S := (DC_frm hF (by decide)).2.trans hSe
    have hll := LLb hD p0 hpc
    refine wp_iload_n (pc := 18) dX2_layAll_18 rfl rfl ?_
    refine wp_aload_n (pc := 19) dX2_layAll_19 rfl rfl ?_
    refine wp_getR (pc := 20) (q := 14) dX2_layAll_20 fl_X2_43 rfl ?_
    refine wp_getI (pc := 23) 0 dX2_layAll_23 fl_X2_65 rfl rfl ?_
    rw [t14]
    refine wp_icmp_ge (pc := 26) 70 dX2_layAll_26 (by decide) (fun c_26 => ?_) (fun c_26 => ?_)
    · refine wp_return (pc := 70) dX2_layAll_70 rfl ?_
      have e : p = D 0 0 := by omega
      subst e
      exact ⟨rfl, hF, o1, o2, o3, o4⟩
    · have hpl : p < D 0 0 := by omega
      have hb1 := LBb hD p0 hpl
      have hLB := LB_eq D S p0
      refine wp_aload_n (pc := 29) dX2_layAll_29 rfl rfl ?_
      refine wp_iload_n (pc := 30) dX2_layAll_30 rfl rfl ?_
      refine wp_cvV1 (pc := 31) dX2_layAll_31 mv_X2_70 (c_leaveEmpty_60 (S := S) (by rw [eDC]; exact hD) hS (by rw [t14]; omega) (by rw [eDC]; exact o2) (by omega)) (Nat.le_of_ble_eq_true rfl) rfl (Nat.le_of_ble_eq_true rfl) (fun σ_31 h_31 => ?_)
      obtain ⟨f31, a1, a2, a3⟩ := h_31
      rw [eDC, o1, ← hLB] at a1
      rw [o1, a1] at a2 a3
      refine wp_aload_n (pc := 34) dX2_layAll_34 rfl rfl ?_
      refine wp_getR (pc := 35) (q := 61) dX2_layAll_35 fl_X2_9 rfl ?_
      refine wp_iload_n (pc := 38) dX2_layAll_38 rfl rfl ?_
      refine wp_aload_n (pc := 39) dX2_layAll_39 rfl rfl ?_
      refine wp_getI (pc := 40) 3 dX2_layAll_40 fl_X2_55 rfl rfl ?_
      rw [a1]
      have f43 : Frm [60, 61, 64, 70] υ (upd2 σ_31 61 p (LB D S p)) := (f31.mono (by decide)).up (by decide)
      have eD43 : DC (upd2 σ_31 61 p (LB D S p)) = D := (DC_frm f43 (by decide)).1.trans eDC
      have eS43 : SC (upd2 σ_31 61 p (LB D S p)) = S := (DC_frm f43 (by decide)).2.trans eSC
      refine wp_iast (pc := 43) 8 dX2_layAll_43 rfl (by omega) ?_
      refine wp_aload_n (pc := 44) dX2_layAll_44 rfl rfl ?_
      refine wp_iload_n (pc := 45) dX2_layAll_45 rfl rfl ?_
      refine wp_cvV1 (pc := 46) dX2_layAll_46 mv_X2_74 (c_drawReaches_60 (by rw [eD43, eS43]; exact hD) (by rw [eS43]; exact hS) (by rw [f43 14 (by decide), t14]; omega)) (Nat.le_of_ble_eq_true rfl) rfl (Nat.le_of_ble_eq_true rfl) (fun σ_46 h_46 => ?_)
      obtain ⟨f46, b1, b2⟩ := h_46
      rw [eD43, eS43] at b1
      have f46b : Frm [39, 40, 41, 42, 60, 61, 63, 64, 70] υ σ_46 := (f43.mono (by decide)).tr (f46.mono (by decide))
      have eD46 : DC σ_46 = D := (DC_frm f46b (by decide)).1.trans eDC
      have eS46 : SC σ_46 = S := (DC_frm f46b (by decide)).2.trans eSC
      have k1 : ∀ q, 0 ≤ q → q < p → σ_46 61 q = LB D S q := fun q q0 q1 => by rw [f46 61 (by decide), upd2_k (by omega), f31 61 (by decide)]; exact (o2 q q0 q1).1
      have k1p : σ_46 61 p = LB D S p := by rw [f46 61 (by decide), upd2_eq]
      have hR46 : RK σ_46 61 63 D S (p + 1) := by
        intro q q0 q1
        by_cases e : q = p
        · subst e
          exact ⟨k1p, b1⟩
        · refine ⟨k1 q q0 (by omega), fun j j0 j1 => ?_⟩
          rw [b2 _ (by omega), f43 63 (by decide)]
          exact (o2 q q0 (by omega)).2 j j0 j1
      refine wp_aload_n (pc := 49) dX2_layAll_49 rfl rfl ?_
      refine wp_iload_n (pc := 50) dX2_layAll_50 rfl rfl ?_
      refine wp_cvV1 (pc := 51) dX2_layAll_51 mv_X2_77 (c_layPar_60 eD46 eS46 hD hS (by rw [f46b 14 (by decide), t14]; exact ht) (by rw [f46b 14 (by decide), t14]; omega) hR46 (by rw [f46 60 (by decide), upd2_r (by decide)]; exact a1) (fun w w0 w1 => by rw [f46b 44 (by decide), f46b 15 (by decide), hF 15 (by decide)]; exact hw w w0 w1)) (Nat.le_of_ble_eq_true rfl) rfl (Nat.le_of_ble_eq_true rfl) (fun σ_51 h_51 => ?_)
      obtain ⟨f51, c1, c2, c3⟩ := h_51
      refine wp_aload_n (pc := 54) dX2_layAll_54 rfl rfl ?_
      refine wp_getR (pc := 55) (q := 62) dX2_layAll_55 fl_X2_15 rfl ?_
      refine wp_iload_n (pc := 58) dX2_layAll_58 rfl rfl ?_
      refine wp_aload_n (pc := 59) dX2_layAll_59 rfl rfl ?_
      refine wp_getI (pc := 60) 3 dX2_layAll_60 fl_X2_55 rfl rfl ?_
      rw [c1]
      refine wp_iast (pc := 63) 8 dX2_layAll_63 rfl (by omega) ?_
      refine wp_iinc (pc := 64) dX2_layAll_64 rfl rfl (by omega) ?_
      refine wp_goto (pc := 67) 18 dX2_layAll_67 (by decide) ?_
      have f51b : Frm [39, 40, 41, 42, 43, 45, 46, 47, 48, 60, 61, 63, 64, 65, 66, 67, 68, 69, 70] υ σ_51 := (f46b.mono (by decide)).tr (f51.mono (by decide))
      have g4 : ∀ x, σ_46 64 x = if LL D S p ≤ x ∧ x < LB D S p then -4 else υ 64 x := fun x => by rw [f46 64 (by decide), upd2_r (by decide)]; exact a2 x
      have g10 : ∀ x, σ_46 70 x = if LL D S p ≤ x ∧ x < LB D S p then 0 else υ 70 x := fun x => by rw [f46 70 (by decide), upd2_r (by decide)]; exact a3 x
      refine ih (by omega) (by omega) _ ((hF.tr (f51b.mono (by decide))).up (by decide)) (fun w w0 w1 => ?_) ⟨?_, fun q q0 q1 => ?_, fun q q0 q1 => ?_, fun x x0 x1 hx => ?_⟩
      · rw [upd2_r (by decide), f51b 44 (by decide)]; exact hw w w0 w1
      · rw [upd2_r (by decide), LL_s D S p0]; exact c1
      · have := hR46 q q0 q1
        refine ⟨?_, fun j j0 j1 => ?_⟩
        · rw [upd2_r (by decide), f51 61 (by decide)]; exact this.1
        · rw [upd2_r (by decide), f51 63 (by decide)]; exact this.2 j j0 j1
      · by_cases e : q = p
        · subst e
          refine ⟨upd2_eq, fun t t0 t1 => ?_⟩
          have := c2 t t0 t1
          simp only [upd2_r (show (64 : Nat) ≠ 62 by decide), upd2_r (show (65 : Nat) ≠ 62 by decide), upd2_r (show (66 : Nat) ≠ 62 by decide), upd2_r (show (67 : Nat) ≠ 62 by decide), upd2_r (show (68 : Nat) ≠ 62 by decide), upd2_r (show (69 : Nat) ≠ 62 by decide), upd2_r (show (70 : Nat) ≠ 62 by decide)]
          exact this
        · have hq := o3 q q0 (by omega)
          refine ⟨by rw [upd2_k e, f51b 62 (by decide)]; exact hq.1, fun t t0 t1 => ?_⟩
          have h1 := hq.2 t t0 t1
          have h2 := LE_LB hD q0 (show q < p by omega) hpl
          have h3 := LE_eq D S q0
          have h4 := c3 (LB D S q + t) (by omega)
          simp only [upd2_r (show (64 : Nat) ≠ 62 by decide), upd2_r (show (65 : Nat) ≠ 62 by decide), upd2_r (show (66 : Nat) ≠ 62 by decide), upd2_r (show (67 : Nat) ≠ 62 by decide), upd2_r (show (68 : Nat) ≠ 62 by decide), upd2_r (show (69 : Nat) ≠ 62 by decide), upd2_r (show (70 : Nat) ≠ 62 by decide)]
          rw [h4.1, h4.2.1, h4.2.2.1, h4.2.2.2.1, h4.2.2.2.2.1, h4.2.2.2.2.2.1, h4.2.2.2.2.2.2, g4, g10, if_neg (by omega), if_neg (by omega), f46b 65 (by decide), f46b 66 (by decide), f46b 67 (by decide), f46b 68 (by decide), f46b 69 (by decide)]
          exact h1
      · rw [LL_s D S p0] at x1
        have hxp := hx p p0 (by omega)
        have hxl : x < LB D S p := by omega
        have h4 := c3 x hxl
        rw [upd2_r (by decide), upd2_r (by decide), h4.1, h4.2.2.2.2.2.2, g4, g10]
        by_cases hxx : LL D S p ≤ x ∧ x < LB D S p
        · rw [if_pos hxx, if_pos hxx]; exact ⟨rfl, rfl⟩
        · rw [if_neg hxx, if_neg hxx]
          exact o4 x x0 (by omega) (fun q q0 q1 => hx q q0 (by omega))
  refine wp_aload_n (pc := 0) dX2_layAll_0 rfl rfl ?_
  refine wp_iconst (pc := 1) dX2_layAll_1 (by decide) ?_
  refine wp_putI (pc := 2) 3 dX2_layAll_2 fl_X2_55 ⟨rfl, rfl⟩ rfl rfl ?_
  refine wp_aload_n (pc := 5) dX2_layAll_5 rfl rfl ?_
  refine wp_getR (pc := 6) (q := 43) dX2_layAll_6 fl_X2_51 rfl ?_
  refine wp_aload_n (pc := 9) dX2_layAll_9 rfl rfl ?_
  refine wp_getR (pc := 10) (q := 14) dX2_layAll_10 fl_X2_43 rfl ?_
  refine wp_cvV1 (pc := 13) dX2_layAll_13 mv_X2_59 (c_measureWords (σ := upd2 σ 60 3 0) (by rw [upd2_r (by decide)]; omega) (fun w w0 w1 => by rw [upd2_r (by decide)] at w1 ⊢; exact hwc w w0 w1)) (Nat.le_of_ble_eq_true rfl) rfl (Nat.le_of_ble_eq_true rfl) (fun σ_13 h_13 => ?_)
  obtain ⟨f13, w13⟩ := h_13
  refine wp_iconst (pc := 16) dX2_layAll_16 (by decide) ?_
  refine wp_istore_n (pc := 17) dX2_layAll_17 rfl (Nat.le_of_ble_eq_true rfl) rfl ?_
  refine lp 0 (by omega) (by omega) σ_13 ((Frm.rf.up (r := 60) (k := 3) (v := 0) (by decide)).tr (f13.mono (by decide))) (fun w w0 w1 => ?_) ⟨?_, fun q q0 q1 => absurd q1 (by omega), fun q q0 q1 => absurd q1 (by omega), fun x x0 x1 => ?_⟩
  · have := w13 w w0 (by rw [upd2_r (by decide)]; omega)
    rw [this, upd2_r (by decide)]
  · rw [f13 60 (by decide), upd2_eq]; rfl
  · unfold LL at x1
    rw [if_pos rfl] at x1
    omega

