set_option maxHeartbeats 4000000 in
set_option maxRecDepth 100000 in
theorem c_keep_0 {σ D S : Sto} {k : Int} (hC : CI σ D S) (hK : 0 ≤ σ 0 14 ∧ σ 0 14 ≤ 1) (hk : k = 0) : CtI yX6_keep cX6_keep 3 (some .int) 3 [mR 0, mI k] σ (fun z σ' => z = σ 0 14 ∧ σ' 0 14 = 1 ∧ CI σ' D S ∧ Same (DI σ' 26 27 28 29 30 31) D ∧ ∀ r j, r ∉ [26, 27, 28, 29, 30, 31] → ¬ (r = 0 ∧ j = 14) → σ' r j = σ r j) := by
  refine ct_of rfl [some (mR 0), some (mI k), none] (Nat.le_of_ble_eq_true rfl) rfl (fun hσ => ?_)
  show Wp cX6_keep RX6 (some .int) 3 0 [some (mR 0), some (mI k), none] [] _ _
  have fin : ∀ τ : Sto, (Frm [26, 27, 28, 29, 30, 31] σ τ ∧ τ 26 0 = σ 14 0 ∧ τ 26 1 = σ 14 1 ∧ (∀ k, 0 ≤ k → k < 80 → τ 27 k = σ 15 k) ∧ (∀ k, 0 ≤ k → k < 8 → τ 28 k = σ 16 k ∧ τ 29 k = σ 17 k ∧ τ 30 k = σ 18 k) ∧ ∀ k, 0 ≤ k → k < 6 → τ 31 k = σ 19 k) → ∀ l2, l2 = σ 0 14 → Wp cX6_keep RX6 (some .int) 3 37 [some (mR 0), some (mI k), some (mI l2)] [] τ (fun v σ' => ∃ z, v = some (mI z) ∧ (fun z σ' => z = σ 0 14 ∧ σ' 0 14 = 1 ∧ CI σ' D S ∧ Same (DI σ' 26 27 28 29 30 31) D ∧ ∀ r j, r ∉ [26, 27, 28, 29, 30, 31] → ¬ (r = 0 ∧ j = 14) → σ' r j = σ r j) z σ') := by
    intro τ hτ l2 hl2
    obtain ⟨f34, t1, t2, t3, t4, t5⟩ := hτ
    obtain ⟨n1, n2, n3, n4, n5, n6, n7⟩ := hC.n
    have e : ∀ r j, r ∉ [26, 27, 28, 29, 30, 31] → ¬ (r = 0 ∧ j = 14) → upd2 τ 0 14 1 r j = σ r j := fun r j hr hj => by
      rw [upd2_ne (fun w => hj w), f34 r hr]
    have er : ∀ r, r ∉ [26, 27, 28, 29, 30, 31] → r ≠ 0 → upd2 τ 0 14 1 r = σ r := fun r hr h0 => funext fun j => e r j hr (fun w => h0 w.1)
    have ei : Same (DI (upd2 τ 0 14 1) 26 27 28 29 30 31) D := by
      refine ⟨?_, fun p p0 p1 => ⟨?_, ?_, ?_⟩, fun w w0 w1 => ?_, fun s s0 s1 => ?_⟩
      · rw [n1]; show upd2 τ 0 14 1 26 0 = _; rw [upd2_r (by decide)]; exact t1
      · rw [(n5 p).1]; show upd2 τ 0 14 1 28 p = _; rw [upd2_r (by decide)]; exact (t4 p p0 p1).1
      · rw [(n5 p).2.1]; show upd2 τ 0 14 1 29 p = _; rw [upd2_r (by decide)]; exact (t4 p p0 p1).2.1
      · rw [(n5 p).2.2.1]; show upd2 τ 0 14 1 30 p = _; rw [upd2_r (by decide)]; exact (t4 p p0 p1).2.2
      · rw [(n5 w).2.2.2.1]; show upd2 τ 0 14 1 27 w = _; rw [upd2_r (by decide)]; exact t3 w w0 w1
      · rw [(n5 s).2.2.2.2]; show upd2 τ 0 14 1 31 s = _; rw [upd2_r (by decide)]; exact t5 s s0 s1
    have so := ei.ok hC.2.2.1
    have hCI : CI (upd2 τ 0 14 1) D S := by
      obtain ⟨h1, h2, h3, h4, h5, h6, h7, h8, h9, h10⟩ := hC
      have e0 : ∀ j, j ≠ 14 → upd2 τ 0 14 1 0 j = σ 0 j := fun j hj => e 0 j (by decide) (fun w => hj w.2)
      have d1 : DC (upd2 τ 0 14 1) = D := by
        rw [← h1]
        funext kk i
        simp only [DC, er 14 (by decide) (by decide), er 15 (by decide) (by decide), er 16 (by decide) (by decide), er 17 (by decide) (by decide), er 18 (by decide) (by decide), er 19 (by decide) (by decide)]
      have d2 : SC (upd2 τ 0 14 1) = S := by
        rw [← h2]
        funext kk i
        simp only [SC, er 2 (by decide) (by decide), er 3 (by decide) (by decide), er 4 (by decide) (by decide), er 5 (by decide) (by decide), er 6 (by decide) (by decide), er 7 (by decide) (by decide)]
      have eo : DI (upd2 τ 0 14 1) 32 33 34 35 36 37 = DI σ 32 33 34 35 36 37 := by
        funext kk i
        simp only [DI, er 32 (by decide) (by decide), er 33 (by decide) (by decide), er 34 (by decide) (by decide), er 35 (by decide) (by decide), er 36 (by decide) (by decide), er 37 (by decide) (by decide)]
      have hm : upd2 τ 0 14 1 26 1 = tot (DI (upd2 τ 0 14 1) 26 27 28 29 30 31) := by
        rw [so.2, ← h5, upd2_r (by decide)]; exact t2
      have hl : upd2 τ 0 14 1 0 11 = 0 → Lay49 (upd2 τ 0 14 1) D S := fun q => by
        rw [e0 11 (by decide)] at q
        exact lay_keep (h8 q) ((f34.mono (M := [0, 26, 27, 28, 29, 30, 31]) (by decide)).up (by decide)) (by decide)
      have hA : ¬ upd2 τ 0 14 1 0 14 = 0 → OKD (DI (upd2 τ 0 14 1) 26 27 28 29 30 31) S ∧ upd2 τ 0 14 1 26 1 = tot (DI (upd2 τ 0 14 1) 26 27 28 29 30 31) := fun _ => ⟨so.1, hm⟩
      have hB : ¬ upd2 τ 0 14 1 0 15 = 0 → OKD (DI (upd2 τ 0 14 1) 32 33 34 35 36 37) S ∧ upd2 τ 0 14 1 32 1 = tot (DI (upd2 τ 0 14 1) 32 33 34 35 36 37) := by
        rw [eo, e0 15 (by decide), er 32 (by decide) (by decide)]
        exact h10
      refine ⟨d1, d2, h3, h4, ?_, ?_, ?_, hl, hA,hB⟩
      · rw [er 14 (by decide) (by decide)]; exact h5
      · rw [e0 1 (by decide)]; exact h6
      · rw [e0 1 (by decide), er 1 (by decide) (by decide)]; exact h7
    refine wp_iload_n (pc := 37) dX6_keep_37 rfl rfl ?_
    refine wp_if_ne (pc := 38) 49 dX6_keep_38 (by decide) (fun c_38 => ?_) (fun c_38 => ?_)
    · omega
    · refine wp_aload_n (pc := 41) dX6_keep_41 rfl rfl ?_
      refine wp_iconst (pc := 42) dX6_keep_42 (by decide) ?_
      refine wp_putZ (pc := 43) 14 dX6_keep_43 fl_X6_102 ⟨rfl, rfl⟩ rfl rfl (by omega) ?_
      refine wp_goto (pc := 46) 54 dX6_keep_46 (by decide) ?_
      refine wp_iload_n (pc := 54) dX6_keep_54 rfl rfl ?_
      refine wp_ireturn (pc := 55) dX6_keep_55 rfl ?_
      exact ⟨_, rfl, hl2, upd2_eq, hCI, ei, e⟩
  refine wp_iload_n (pc := 0) dX6_keep_0 rfl rfl ?_
  refine wp_if_lt (pc := 1) 9 dX6_keep_1 (by decide) (fun c_1 => ?_) (fun c_1 => ?_)
  · omega
  · refine wp_iload_n (pc := 4) dX6_keep_4 rfl rfl ?_
    refine wp_iconst (pc := 5) dX6_keep_5 (by decide) ?_
    refine wp_icmp_lt (pc := 6) 11 dX6_keep_6 (by decide) (fun c_6 => ?_) (fun c_6 => ?_)
    · refine wp_aload_n (pc := 11) dX6_keep_11 rfl rfl ?_
      refine wp_iload_n (pc := 12) dX6_keep_12 rfl rfl ?_
      refine wp_cvI1 (pc := 13) dX6_keep_13 mv_X6_272 (c_isKept_0 hK hk) (Nat.le_of_ble_eq_true rfl) rfl (Nat.le_of_ble_eq_true rfl) (fun z_13 σ_13 h_13 => ?_)
      obtain ⟨rfl, e_13⟩ := h_13; have e2_13 := e_13.symm; subst e2_13
      refine wp_if_eq (pc := 16) 23 dX6_keep_16 (by decide) (fun c_16 => ?_) (fun c_16 => ?_)
      · refine wp_iconst (pc := 23) dX6_keep_23 (by decide) ?_
        refine wp_istore_n (pc := 24) dX6_keep_24 rfl (Nat.le_of_ble_eq_true rfl) rfl ?_
        refine wp_aload_n (pc := 25) dX6_keep_25 rfl rfl ?_
        refine wp_iload_n (pc := 26) dX6_keep_26 rfl rfl ?_
        refine wp_cvR1 (pc := 27) dX6_keep_27 mv_X6_275 (c_imageOf_0 hk) (Nat.le_of_ble_eq_true rfl) rfl (Nat.le_of_ble_eq_true rfl) (fun z_27 σ_27 h_27 => ?_)
        obtain ⟨rfl, e_27⟩ := h_27; have e2_27 := e_27.symm; subst e2_27
        refine wp_aload_n (pc := 30) dX6_keep_30 rfl rfl ?_
        refine wp_getR (pc := 31) (q := 14) dX6_keep_31 fl_X6_23 rfl ?_
        refine wp_cvV1 (pc := 34) dX6_keep_34 mv_X6_100 (c_copyFrom_26_14) (Nat.le_of_ble_eq_true rfl) rfl (Nat.le_of_ble_eq_true rfl) (fun σ_34 h_34 => ?_)
        exact fin _ h_34 _ (by omega)
      · refine wp_iconst (pc := 19) dX6_keep_19 (by decide) ?_
        refine wp_goto (pc := 20) 24 dX6_keep_20 (by decide) ?_
        refine wp_istore_n (pc := 24) dX6_keep_24 rfl (Nat.le_of_ble_eq_true rfl) rfl ?_
        refine wp_aload_n (pc := 25) dX6_keep_25 rfl rfl ?_
        refine wp_iload_n (pc := 26) dX6_keep_26 rfl rfl ?_
        refine wp_cvR1 (pc := 27) dX6_keep_27 mv_X6_275 (c_imageOf_0 hk) (Nat.le_of_ble_eq_true rfl) rfl (Nat.le_of_ble_eq_true rfl) (fun z_27 σ_27 h_27 => ?_)
        obtain ⟨rfl, e_27⟩ := h_27; have e2_27 := e_27.symm; subst e2_27
        refine wp_aload_n (pc := 30) dX6_keep_30 rfl rfl ?_
        refine wp_getR (pc := 31) (q := 14) dX6_keep_31 fl_X6_23 rfl ?_
        refine wp_cvV1 (pc := 34) dX6_keep_34 mv_X6_100 (c_copyFrom_26_14) (Nat.le_of_ble_eq_true rfl) rfl (Nat.le_of_ble_eq_true rfl) (fun σ_34 h_34 => ?_)
        exact fin _ h_34 _ (by omega)
    · omega
set_option maxHeartbeats 4000000 in
set_option maxRecDepth 100000 in
theorem c_back_0 {σ D S : Sto} {k : Int} (hC : CI σ D S) (hK : 0 ≤ σ 0 14 ∧ σ 0 14 ≤ 1) (hk : k = 0) : CtI yX6_back cX6_back 2 (some .int) 3 [mR 0, mI k] σ (fun z σ' => (σ 0 14 = 0 ∧ z = -2 ∧ σ' = σ) ∨ (σ 0 14 = 1 ∧ ∃ D', z = D' 0 0 ∧ CI σ' D' S ∧ Same D' (DI σ 26 27 28 29 30 31) ∧ Kp [14, 15, 16, 17, 18, 19] σ σ')) := by
  refine ct_of rfl [some (mR 0), some (mI k)] (Nat.le_of_ble_eq_true rfl) rfl (fun hσ => ?_)
  show Wp cX6_back RX6 (some .int) 3 0 [some (mR 0), some (mI k)] [] _ _
  refine wp_iload_n (pc := 0) dX6_back_0 rfl rfl ?_
  refine wp_if_lt (pc := 1) 9 dX6_back_1 (by decide) (fun c_1 => ?_) (fun c_1 => ?_)
  · omega
  · refine wp_iload_n (pc := 4) dX6_back_4 rfl rfl ?_
    refine wp_iconst (pc := 5) dX6_back_5 (by decide) ?_
    refine wp_icmp_lt (pc := 6) 11 dX6_back_6 (by decide) (fun c_6 => ?_) (fun c_6 => ?_)
    · refine wp_aload_n (pc := 11) dX6_back_11 rfl rfl ?_
      refine wp_iload_n (pc := 12) dX6_back_12 rfl rfl ?_
      refine wp_cvI1 (pc := 13) dX6_back_13 mv_X6_272 (c_isKept_0 hK hk) (Nat.le_of_ble_eq_true rfl) rfl (Nat.le_of_ble_eq_true rfl) (fun z_13 σ_13 h_13 => ?_)
      obtain ⟨rfl, e_13⟩ := h_13; have e2_13 := e_13.symm; subst e2_13
      refine wp_if_ne (pc := 16) 22 dX6_back_16 (by decide) (fun c_16 => ?_) (fun c_16 => ?_)
      · refine wp_aload_n (pc := 22) dX6_back_22 rfl rfl ?_
        refine wp_getR (pc := 23) (q := 14) dX6_back_23 fl_X6_23 rfl ?_
        refine wp_aload_n (pc := 26) dX6_back_26 rfl rfl ?_
        refine wp_iload_n (pc := 27) dX6_back_27 rfl rfl ?_
        refine wp_cvR1 (pc := 28) dX6_back_28 mv_X6_275 (c_imageOf_0 hk) (Nat.le_of_ble_eq_true rfl) rfl (Nat.le_of_ble_eq_true rfl) (fun z_28 σ_28 h_28 => ?_)
        obtain ⟨rfl, e_28⟩ := h_28; have e2_28 := e_28.symm; subst e2_28
        refine wp_cvV1 (pc := 31) dX6_back_31 mv_X6_100 (c_copyFrom_14_26) (Nat.le_of_ble_eq_true rfl) rfl (Nat.le_of_ble_eq_true rfl) (fun σ_31 h_31 => ?_)
        obtain ⟨f31, t1, t2, t3, t4, t5⟩ := h_31
        refine wp_aload_n (pc := 34) dX6_back_34 rfl rfl ?_
        refine wp_iconst (pc := 35) dX6_back_35 (by decide) ?_
        refine wp_putZ (pc := 36) 11 dX6_back_36 fl_X6_70 ⟨rfl, rfl⟩ rfl rfl (by omega) ?_
        refine wp_aload_n (pc := 39) dX6_back_39 rfl rfl ?_
        refine wp_getR (pc := 40) (q := 14) dX6_back_40 fl_X6_23 rfl ?_
        refine wp_getI (pc := 43) 0 dX6_back_43 fl_X6_115 rfl rfl ?_
        rw [upd2_r (r := 0) (r' := 14) (by decide)]
        refine wp_ireturn (pc := 46) dX6_back_46 rfl ?_
        have hk9 : Kp [14, 15, 16, 17, 18, 19] σ (upd2 σ_31 0 11 1) := (Kp.of f31 (fun r q => Or.inl q)).st
        have ei : Same (DC (upd2 σ_31 0 11 1)) (DI σ 26 27 28 29 30 31) := by
          rw [DC_st]
          exact ⟨t1, fun p p0 p1 => t4 p p0 p1, t3, t5⟩
        have ho := hC.2.2.2.2.2.2.2.2.1 (by omega)
        have so := ei.ok ho.1
        refine ⟨_, rfl, Or.inr ⟨by omega, _, rfl, hC.upd hk9 (by rw [upd2_eq]; decide) rfl so.1 ?_, ei, hk9⟩⟩
        rw [so.2, ← ho.2, upd2_r (by decide)]
        exact t2
      · refine wp_bipush (pc := 19) dX6_back_19 (by decide) (by decide) ?_
        refine wp_ireturn (pc := 21) dX6_back_21 rfl ?_
        exact ⟨_, rfl, Or.inl ⟨by omega, rfl, rfl⟩⟩
    · omega

set_option maxHeartbeats 4000000 in
set_option maxRecDepth 100000 in
theorem c_keep_1 {σ D S : Sto} {k : Int} (hC : CI σ D S) (hK : 0 ≤ σ 0 15 ∧ σ 0 15 ≤ 1) (hk : k = 1) : CtI yX6_keep cX6_keep 3 (some .int) 3 [mR 0, mI k] σ (fun z σ' => z = σ 0 15 ∧ σ' 0 15 = 1 ∧ CI σ' D S ∧ Same (DI σ' 32 33 34 35 36 37) D ∧ ∀ r j, r ∉ [32, 33, 34, 35, 36, 37] → ¬ (r = 0 ∧ j = 15) → σ' r j = σ r j) := by
  refine ct_of rfl [some (mR 0), some (mI k), none] (Nat.le_of_ble_eq_true rfl) rfl (fun hσ => ?_)
  show Wp cX6_keep RX6 (some .int) 3 0 [some (mR 0), some (mI k), none] [] _ _
  have fin : ∀ τ : Sto, (Frm [32, 33, 34, 35, 36, 37] σ τ ∧ τ 32 0 = σ 14 0 ∧ τ 32 1 = σ 14 1 ∧ (∀ k, 0 ≤ k → k < 80 → τ 33 k = σ 15 k) ∧ (∀ k, 0 ≤ k → k < 8 → τ 34 k = σ 16 k ∧ τ 35 k = σ 17 k ∧ τ 36 k = σ 18 k) ∧ ∀ k, 0 ≤ k → k < 6 → τ 37 k = σ 19 k) → ∀ l2, l2 = σ 0 15 → Wp cX6_keep RX6 (some .int) 3 37 [some (mR 0), some (mI k), some (mI l2)] [] τ (fun v σ' => ∃ z, v = some (mI z) ∧ (fun z σ' => z = σ 0 15 ∧ σ' 0 15 = 1 ∧ CI σ' D S ∧ Same (DI σ' 32 33 34 35 36 37) D ∧ ∀ r j, r ∉ [32, 33, 34, 35, 36, 37] → ¬ (r = 0 ∧ j = 15) → σ' r j = σ r j) z σ') := by
    intro τ hτ l2 hl2
    obtain ⟨f34, t1, t2, t3, t4, t5⟩ := hτ
    obtain ⟨n1, n2, n3, n4, n5, n6, n7⟩ := hC.n
    have e : ∀ r j, r ∉ [32, 33, 34, 35, 36, 37] → ¬ (r = 0 ∧ j = 15) → upd2 τ 0 15 1 r j = σ r j := fun r j hr hj => by
      rw [upd2_ne (fun w => hj w), f34 r hr]
    have er : ∀ r, r ∉ [32, 33, 34, 35, 36, 37] → r ≠ 0 → upd2 τ 0 15 1 r = σ r := fun r hr h0 => funext fun j => e r j hr (fun w => h0 w.1)
    have ei : Same (DI (upd2 τ 0 15 1) 32 33 34 35 36 37) D := by
      refine ⟨?_, fun p p0 p1 => ⟨?_, ?_, ?_⟩, fun w w0 w1 => ?_, fun s s0 s1 => ?_⟩
      · rw [n1]; show upd2 τ 0 15 1 32 0 = _; rw [upd2_r (by decide)]; exact t1
      · rw [(n5 p).1]; show upd2 τ 0 15 1 34 p = _; rw [upd2_r (by decide)]; exact (t4 p p0 p1).1
      · rw [(n5 p).2.1]; show upd2 τ 0 15 1 35 p = _; rw [upd2_r (by decide)]; exact (t4 p p0 p1).2.1
      · rw [(n5 p).2.2.1]; show upd2 τ 0 15 1 36 p = _; rw [upd2_r (by decide)]; exact (t4 p p0 p1).2.2
      · rw [(n5 w).2.2.2.1]; show upd2 τ 0 15 1 33 w = _; rw [upd2_r (by decide)]; exact t3 w w0 w1
      · rw [(n5 s).2.2.2.2]; show upd2 τ 0 15 1 37 s = _; rw [upd2_r (by decide)]; exact t5 s s0 s1
    have so := ei.ok hC.2.2.1
    have hCI : CI (upd2 τ 0 15 1) D S := by
      obtain ⟨h1, h2, h3, h4, h5, h6, h7, h8, h9, h10⟩ := hC
      have e0 : ∀ j, j ≠ 15 → upd2 τ 0 15 1 0 j = σ 0 j := fun j hj => e 0 j (by decide) (fun w => hj w.2)
      have d1 : DC (upd2 τ 0 15 1) = D := by
        rw [← h1]
        funext kk i
        simp only [DC, er 14 (by decide) (by decide), er 15 (by decide) (by decide), er 16 (by decide) (by decide), er 17 (by decide) (by decide), er 18 (by decide) (by decide), er 19 (by decide) (by decide)]
      have d2 : SC (upd2 τ 0 15 1) = S := by
        rw [← h2]
        funext kk i
        simp only [SC, er 2 (by decide) (by decide), er 3 (by decide) (by decide), er 4 (by decide) (by decide), er 5 (by decide) (by decide), er 6 (by decide) (by decide), er 7 (by decide) (by decide)]
      have eo : DI (upd2 τ 0 15 1) 26 27 28 29 30 31 = DI σ 26 27 28 29 30 31 := by
        funext kk i
        simp only [DI, er 26 (by decide) (by decide), er 27 (by decide) (by decide), er 28 (by decide) (by decide), er 29 (by decide) (by decide), er 30 (by decide) (by decide), er 31 (by decide) (by decide)]
      have hm : upd2 τ 0 15 1 32 1 = tot (DI (upd2 τ 0 15 1) 32 33 34 35 36 37) := by
        rw [so.2, ← h5, upd2_r (by decide)]; exact t2
      have hl : upd2 τ 0 15 1 0 11 = 0 → Lay49 (upd2 τ 0 15 1) D S := fun q => by
        rw [e0 11 (by decide)] at q
        exact lay_keep (h8 q) ((f34.mono (M := [0, 32, 33, 34, 35, 36, 37]) (by decide)).up (by decide)) (by decide)
      have hA : ¬ upd2 τ 0 15 1 0 15 = 0 → OKD (DI (upd2 τ 0 15 1) 32 33 34 35 36 37) S ∧ upd2 τ 0 15 1 32 1 = tot (DI (upd2 τ 0 15 1) 32 33 34 35 36 37) := fun _ => ⟨so.1, hm⟩
      have hB : ¬ upd2 τ 0 15 1 0 14 = 0 → OKD (DI (upd2 τ 0 15 1) 26 27 28 29 30 31) S ∧ upd2 τ 0 15 1 26 1 = tot (DI (upd2 τ 0 15 1) 26 27 28 29 30 31) := by
        rw [eo, e0 14 (by decide), er 26 (by decide) (by decide)]
        exact h9
      refine ⟨d1, d2, h3, h4, ?_, ?_, ?_, hl, hB,hA⟩
      · rw [er 14 (by decide) (by decide)]; exact h5
      · rw [e0 1 (by decide)]; exact h6
      · rw [e0 1 (by decide), er 1 (by decide) (by decide)]; exact h7
    refine wp_iload_n (pc := 37) dX6_keep_37 rfl rfl ?_
    refine wp_if_ne (pc := 38) 49 dX6_keep_38 (by decide) (fun c_38 => ?_) (fun c_38 => ?_)
    · refine wp_aload_n (pc := 49) dX6_keep_49 rfl rfl ?_
      refine wp_iconst (pc := 50) dX6_keep_50 (by decide) ?_
      refine wp_putZ (pc := 51) 15 dX6_keep_51 fl_X6_105 ⟨rfl, rfl⟩ rfl rfl (by omega) ?_
      refine wp_iload_n (pc := 54) dX6_keep_54 rfl rfl ?_
      refine wp_ireturn (pc := 55) dX6_keep_55 rfl ?_
      exact ⟨_, rfl, hl2, upd2_eq, hCI, ei, e⟩
    · omega
  refine wp_iload_n (pc := 0) dX6_keep_0 rfl rfl ?_
  refine wp_if_lt (pc := 1) 9 dX6_keep_1 (by decide) (fun c_1 => ?_) (fun c_1 => ?_)
  · omega
  · refine wp_iload_n (pc := 4) dX6_keep_4 rfl rfl ?_
    refine wp_iconst (pc := 5) dX6_keep_5 (by decide) ?_
    refine wp_icmp_lt (pc := 6) 11 dX6_keep_6 (by decide) (fun c_6 => ?_) (fun c_6 => ?_)
    · refine wp_aload_n (pc := 11) dX6_keep_11 rfl rfl ?_
      refine wp_iload_n (pc := 12) dX6_keep_12 rfl rfl ?_
      refine wp_cvI1 (pc := 13) dX6_keep_13 mv_X6_272 (c_isKept_1 hK hk) (Nat.le_of_ble_eq_true rfl) rfl (Nat.le_of_ble_eq_true rfl) (fun z_13 σ_13 h_13 => ?_)
      obtain ⟨rfl, e_13⟩ := h_13; have e2_13 := e_13.symm; subst e2_13
      refine wp_if_eq (pc := 16) 23 dX6_keep_16 (by decide) (fun c_16 => ?_) (fun c_16 => ?_)
      · refine wp_iconst (pc := 23) dX6_keep_23 (by decide) ?_
        refine wp_istore_n (pc := 24) dX6_keep_24 rfl (Nat.le_of_ble_eq_true rfl) rfl ?_
        refine wp_aload_n (pc := 25) dX6_keep_25 rfl rfl ?_
        refine wp_iload_n (pc := 26) dX6_keep_26 rfl rfl ?_
        refine wp_cvR1 (pc := 27) dX6_keep_27 mv_X6_275 (c_imageOf_1 hk) (Nat.le_of_ble_eq_true rfl) rfl (Nat.le_of_ble_eq_true rfl) (fun z_27 σ_27 h_27 => ?_)
        obtain ⟨rfl, e_27⟩ := h_27; have e2_27 := e_27.symm; subst e2_27
        refine wp_aload_n (pc := 30) dX6_keep_30 rfl rfl ?_
        refine wp_getR (pc := 31) (q := 14) dX6_keep_31 fl_X6_23 rfl ?_
        refine wp_cvV1 (pc := 34) dX6_keep_34 mv_X6_100 (c_copyFrom_32_14) (Nat.le_of_ble_eq_true rfl) rfl (Nat.le_of_ble_eq_true rfl) (fun σ_34 h_34 => ?_)
        exact fin _ h_34 _ (by omega)
      · refine wp_iconst (pc := 19) dX6_keep_19 (by decide) ?_
        refine wp_goto (pc := 20) 24 dX6_keep_20 (by decide) ?_
        refine wp_istore_n (pc := 24) dX6_keep_24 rfl (Nat.le_of_ble_eq_true rfl) rfl ?_
        refine wp_aload_n (pc := 25) dX6_keep_25 rfl rfl ?_
        refine wp_iload_n (pc := 26) dX6_keep_26 rfl rfl ?_
        refine wp_cvR1 (pc := 27) dX6_keep_27 mv_X6_275 (c_imageOf_1 hk) (Nat.le_of_ble_eq_true rfl) rfl (Nat.le_of_ble_eq_true rfl) (fun z_27 σ_27 h_27 => ?_)
        obtain ⟨rfl, e_27⟩ := h_27; have e2_27 := e_27.symm; subst e2_27
        refine wp_aload_n (pc := 30) dX6_keep_30 rfl rfl ?_
        refine wp_getR (pc := 31) (q := 14) dX6_keep_31 fl_X6_23 rfl ?_
        refine wp_cvV1 (pc := 34) dX6_keep_34 mv_X6_100 (c_copyFrom_32_14) (Nat.le_of_ble_eq_true rfl) rfl (Nat.le_of_ble_eq_true rfl) (fun σ_34 h_34 => ?_)
        exact fin _ h_34 _ (by omega)
    · omega
set_option maxHeartbeats 4000000 in
set_option maxRecDepth 100000 in
theorem c_back_1 {σ D S : Sto} {k : Int} (hC : CI σ D S) (hK : 0 ≤ σ 0 15 ∧ σ 0 15 ≤ 1) (hk : k = 1) : CtI yX6_back cX6_back 2 (some .int) 3 [mR 0, mI k] σ (fun z σ' => (σ 0 15 = 0 ∧ z = -2 ∧ σ' = σ) ∨ (σ 0 15 = 1 ∧ ∃ D', z = D' 0 0 ∧ CI σ' D' S ∧ Same D' (DI σ 32 33 34 35 36 37) ∧ Kp [14, 15, 16, 17, 18, 19] σ σ')) := by
  refine ct_of rfl [some (mR 0), some (mI k)] (Nat.le_of_ble_eq_true rfl) rfl (fun hσ => ?_)
  show Wp cX6_back RX6 (some .int) 3 0 [some (mR 0), some (mI k)] [] _ _
  refine wp_iload_n (pc := 0) dX6_back_0 rfl rfl ?_
  refine wp_if_lt (pc := 1) 9 dX6_back_1 (by decide) (fun c_1 => ?_) (fun c_1 => ?_)
  · omega
  · refine wp_iload_n (pc := 4) dX6_back_4 rfl rfl ?_
    refine wp_iconst (pc := 5) dX6_back_5 (by decide) ?_
    refine wp_icmp_lt (pc := 6) 11 dX6_back_6 (by decide) (fun c_6 => ?_) (fun c_6 => ?_)
    · refine wp_aload_n (pc := 11) dX6_back_11 rfl rfl ?_
      refine wp_iload_n (pc := 12) dX6_back_12 rfl rfl ?_
      refine wp_cvI1 (pc := 13) dX6_back_13 mv_X6_272 (c_isKept_1 hK hk) (Nat.le_of_ble_eq_true rfl) rfl (Nat.le_of_ble_eq_true rfl) (fun z_13 σ_13 h_13 => ?_)
      obtain ⟨rfl, e_13⟩ := h_13; have e2_13 := e_13.symm; subst e2_13
      refine wp_if_ne (pc := 16) 22 dX6_back_16 (by decide) (fun c_16 => ?_) (fun c_16 => ?_)
      · refine wp_aload_n (pc := 22) dX6_back_22 rfl rfl ?_
        refine wp_getR (pc := 23) (q := 14) dX6_back_23 fl_X6_23 rfl ?_
        refine wp_aload_n (pc := 26) dX6_back_26 rfl rfl ?_
        refine wp_iload_n (pc := 27) dX6_back_27 rfl rfl ?_
        refine wp_cvR1 (pc := 28) dX6_back_28 mv_X6_275 (c_imageOf_1 hk) (Nat.le_of_ble_eq_true rfl) rfl (Nat.le_of_ble_eq_true rfl) (fun z_28 σ_28 h_28 => ?_)
        obtain ⟨rfl, e_28⟩ := h_28; have e2_28 := e_28.symm; subst e2_28
        refine wp_cvV1 (pc := 31) dX6_back_31 mv_X6_100 (c_copyFrom_14_32) (Nat.le_of_ble_eq_true rfl) rfl (Nat.le_of_ble_eq_true rfl) (fun σ_31 h_31 => ?_)
        obtain ⟨f31, t1, t2, t3, t4, t5⟩ := h_31
        refine wp_aload_n (pc := 34) dX6_back_34 rfl rfl ?_
        refine wp_iconst (pc := 35) dX6_back_35 (by decide) ?_
        refine wp_putZ (pc := 36) 11 dX6_back_36 fl_X6_70 ⟨rfl, rfl⟩ rfl rfl (by omega) ?_
        refine wp_aload_n (pc := 39) dX6_back_39 rfl rfl ?_
        refine wp_getR (pc := 40) (q := 14) dX6_back_40 fl_X6_23 rfl ?_
        refine wp_getI (pc := 43) 0 dX6_back_43 fl_X6_115 rfl rfl ?_
        rw [upd2_r (r := 0) (r' := 14) (by decide)]
        refine wp_ireturn (pc := 46) dX6_back_46 rfl ?_
        have hk9 : Kp [14, 15, 16, 17, 18, 19] σ (upd2 σ_31 0 11 1) := (Kp.of f31 (fun r q => Or.inl q)).st
        have ei : Same (DC (upd2 σ_31 0 11 1)) (DI σ 32 33 34 35 36 37) := by
          rw [DC_st]
          exact ⟨t1, fun p p0 p1 => t4 p p0 p1, t3, t5⟩
        have ho := hC.2.2.2.2.2.2.2.2.2 (by omega)
        have so := ei.ok ho.1
        refine ⟨_, rfl, Or.inr ⟨by omega, _, rfl, hC.upd hk9 (by rw [upd2_eq]; decide) rfl so.1 ?_, ei, hk9⟩⟩
        rw [so.2, ← ho.2, upd2_r (by decide)]
        exact t2
      · refine wp_bipush (pc := 19) dX6_back_19 (by decide) (by decide) ?_
        refine wp_ireturn (pc := 21) dX6_back_21 rfl ?_
        exact ⟨_, rfl, Or.inl ⟨by omega, rfl, rfl⟩⟩
    · omega

set_option maxHeartbeats 4000000 in
set_option maxRecDepth 100000 in
theorem c_keep_x {σ : Sto} {k : Int} (hk : k < 0 ∨ 2 ≤ k) : CtI yX6_keep cX6_keep 3 (some .int) 3 [mR 0, mI k] σ (fun z σ' => z = -1 ∧ σ' = σ) := by
  refine ct_of rfl [some (mR 0), some (mI k), none] (Nat.le_of_ble_eq_true rfl) rfl (fun hσ => ?_)
  show Wp cX6_keep RX6 (some .int) 3 0 [some (mR 0), some (mI k), none] [] _ _
  refine wp_iload_n (pc := 0) dX6_keep_0 rfl rfl ?_
  refine wp_if_lt (pc := 1) 9 dX6_keep_1 (by decide) (fun c_1 => ?_) (fun c_1 => ?_)
  · refine wp_iconst (pc := 9) dX6_keep_9 (by decide) ?_
    refine wp_ireturn (pc := 10) dX6_keep_10 rfl ?_
    exact ⟨_, rfl, rfl, rfl⟩
  · refine wp_iload_n (pc := 4) dX6_keep_4 rfl rfl ?_
    refine wp_iconst (pc := 5) dX6_keep_5 (by decide) ?_
    refine wp_icmp_lt (pc := 6) 11 dX6_keep_6 (by decide) (fun c_6 => ?_) (fun c_6 => ?_)
    · omega
    · refine wp_iconst (pc := 9) dX6_keep_9 (by decide) ?_
      refine wp_ireturn (pc := 10) dX6_keep_10 rfl ?_
      exact ⟨_, rfl, rfl, rfl⟩
set_option maxHeartbeats 4000000 in
set_option maxRecDepth 100000 in
theorem c_back_x {σ : Sto} {k : Int} (hk : k < 0 ∨ 2 ≤ k) : CtI yX6_back cX6_back 2 (some .int) 3 [mR 0, mI k] σ (fun z σ' => z = -1 ∧ σ' = σ) := by
  refine ct_of rfl [some (mR 0), some (mI k)] (Nat.le_of_ble_eq_true rfl) rfl (fun hσ => ?_)
  show Wp cX6_back RX6 (some .int) 3 0 [some (mR 0), some (mI k)] [] _ _
  refine wp_iload_n (pc := 0) dX6_back_0 rfl rfl ?_
  refine wp_if_lt (pc := 1) 9 dX6_back_1 (by decide) (fun c_1 => ?_) (fun c_1 => ?_)
  · refine wp_iconst (pc := 9) dX6_back_9 (by decide) ?_
    refine wp_ireturn (pc := 10) dX6_back_10 rfl ?_
    exact ⟨_, rfl, rfl, rfl⟩
  · refine wp_iload_n (pc := 4) dX6_back_4 rfl rfl ?_
    refine wp_iconst (pc := 5) dX6_back_5 (by decide) ?_
    refine wp_icmp_lt (pc := 6) 11 dX6_back_6 (by decide) (fun c_6 => ?_) (fun c_6 => ?_)
    · omega
    · refine wp_iconst (pc := 9) dX6_back_9 (by decide) ?_
      refine wp_ireturn (pc := 10) dX6_back_10 rfl ?_
      exact ⟨_, rfl, rfl, rfl⟩
