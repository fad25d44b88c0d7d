set_option maxHeartbeats 4000000 in
set_option maxRecDepth 100000 in
theorem c_withSign {σ : Sto} {w : Int} (hn : 0 ≤ σ 8 0 ∧ σ 8 0 ≤ 6) : CtI yX5_withSign cX5_withSign 3 (some .int) 0 [mR 8, mI w] σ (fun z σ' => z = fnd (σ 9) (σ 8 0) w ∧ σ' = σ) := by
  refine ct_of rfl [some (mR 8), some (mI w), none] (Nat.le_of_ble_eq_true rfl) rfl (fun hσ => ?_)
  show Wp cX5_withSign RX5 (some .int) 0 0 [some (mR 8), some (mI w), none] [] _ _
  have lp : ∀ q, q ≤ σ 8 0 → 0 ≤ q → (∀ k, 0 ≤ k → k < q → σ 9 k ≠ w) → Wp cX5_withSign RX5 (some .int) 0 2 [some (mR 8), some (mI w), some (mI q)] [] σ (fun v σ' => ∃ z, v = some (mI z) ∧ (fun z σ' => z = fnd (σ 9) (σ 8 0) w ∧ σ' = σ) z σ') := by
    refine up_ind (σ 8 0) (fun q hq ih h0 hk => ?_)
    refine wp_iload_n (pc := 2) dX5_withSign_2 rfl rfl ?_
    refine wp_aload_n (pc := 3) dX5_withSign_3 rfl rfl ?_
    refine wp_getI (pc := 4) 0 dX5_withSign_4 fl_X5_27 rfl rfl ?_
    refine wp_icmp_ge (pc := 7) 28 dX5_withSign_7 (by decide) (fun c_7 => ?_) (fun c_7 => ?_)
    · refine wp_bipush (pc := 28) dX5_withSign_28 (by decide) (by decide) ?_
      refine wp_ireturn (pc := 30) dX5_withSign_30 rfl ?_
      exact ⟨_, rfl, (fnd_none (fun k h1 h2 => hk k h1 (by omega))).symm, rfl⟩
    · refine wp_aload_n (pc := 10) dX5_withSign_10 rfl rfl ?_
      refine wp_getR (pc := 11) (q := 9) dX5_withSign_11 fl_X5_9 rfl ?_
      refine wp_iload_n (pc := 14) dX5_withSign_14 rfl rfl ?_
      refine wp_iald (pc := 15) 6 dX5_withSign_15 rfl (by omega) ?_
      refine wp_iload_n (pc := 16) dX5_withSign_16 rfl rfl ?_
      refine wp_icmp_ne (pc := 17) 22 dX5_withSign_17 (by decide) (fun c_17 => ?_) (fun c_17 => ?_)
      · refine wp_iinc (pc := 22) dX5_withSign_22 rfl rfl (by omega) ?_
        refine wp_goto (pc := 25) 2 dX5_withSign_25 (by decide) ?_
        refine ih (by omega) (by omega) (fun k h1 h2 => ?_)
        by_cases e : k = q
        · rw [e]; exact c_17
        · exact hk k h1 (by omega)
      · refine wp_iload_n (pc := 20) dX5_withSign_20 rfl rfl ?_
        refine wp_ireturn (pc := 21) dX5_withSign_21 rfl ?_
        exact ⟨_, rfl, (fnd_hit h0 (by omega) hk c_17).symm, rfl⟩
  refine wp_iconst (pc := 0) dX5_withSign_0 (by decide) ?_
  refine wp_istore_n (pc := 1) dX5_withSign_1 rfl (Nat.le_of_ble_eq_true rfl) rfl ?_
  exact lp 0 (by omega) (by omega) (fun k h1 h2 => absurd h2 (by omega))
set_option maxHeartbeats 4000000 in
set_option maxRecDepth 100000 in
theorem c_addShape {σ : Sto} {s h : Int} (hn : 0 ≤ σ 8 0 ∧ σ 8 0 < 6) : CtV yX5_addShape cX5_addShape 3 none 0 [mR 8, mI s, mI h] σ (fun σ' => σ' = upd2 (upd2 (upd2 (upd2 σ 9 (σ 8 0) s) 10 (σ 8 0) h) 11 (σ 8 0) 0) 8 0 (σ 8 0 + 1)) := by
  refine ct_of rfl [some (mR 8), some (mI s), some (mI h)] (Nat.le_of_ble_eq_true rfl) rfl (fun hσ => ?_)
  show Wp cX5_addShape RX5 none 0 0 [some (mR 8), some (mI s), some (mI h)] [] _ _
  refine wp_aload_n (pc := 0) dX5_addShape_0 rfl rfl ?_
  refine wp_getI (pc := 1) 0 dX5_addShape_1 fl_X5_27 rfl rfl ?_
  refine wp_bipush (pc := 4) dX5_addShape_4 (by decide) (by decide) ?_
  refine wp_icmp_ge (pc := 6) 49 dX5_addShape_6 (by decide) (fun c_6 => ?_) (fun c_6 => ?_)
  · omega
  · refine wp_aload_n (pc := 9) dX5_addShape_9 rfl rfl ?_
    refine wp_getR (pc := 10) (q := 9) dX5_addShape_10 fl_X5_9 rfl ?_
    refine wp_aload_n (pc := 13) dX5_addShape_13 rfl rfl ?_
    refine wp_getI (pc := 14) 0 dX5_addShape_14 fl_X5_27 rfl rfl ?_
    refine wp_iload_n (pc := 17) dX5_addShape_17 rfl rfl ?_
    refine wp_iast (pc := 18) 6 dX5_addShape_18 rfl (by omega) ?_
    refine wp_aload_n (pc := 19) dX5_addShape_19 rfl rfl ?_
    refine wp_getR (pc := 20) (q := 10) dX5_addShape_20 fl_X5_15 rfl ?_
    refine wp_aload_n (pc := 23) dX5_addShape_23 rfl rfl ?_
    refine wp_getI (pc := 24) 0 dX5_addShape_24 fl_X5_27 rfl rfl ?_
    rw [upd2_r (r := 9) (r' := 8) (by decide)]
    refine wp_iload_n (pc := 27) dX5_addShape_27 rfl rfl ?_
    refine wp_iast (pc := 28) 6 dX5_addShape_28 rfl (by omega) ?_
    refine wp_aload_n (pc := 29) dX5_addShape_29 rfl rfl ?_
    refine wp_getR (pc := 30) (q := 11) dX5_addShape_30 fl_X5_18 rfl ?_
    refine wp_aload_n (pc := 33) dX5_addShape_33 rfl rfl ?_
    refine wp_getI (pc := 34) 0 dX5_addShape_34 fl_X5_27 rfl rfl ?_
    rw [upd2_r (r := 10) (r' := 8) (by decide), upd2_r (r := 9) (r' := 8) (by decide)]
    refine wp_iconst (pc := 37) dX5_addShape_37 (by decide) ?_
    refine wp_iast (pc := 38) 6 dX5_addShape_38 rfl (by omega) ?_
    refine wp_aload_n (pc := 39) dX5_addShape_39 rfl rfl ?_
    refine wp_dup (pc := 40) dX5_addShape_40 (fun _ h => by cases h) ?_
    refine wp_getI (pc := 41) 0 dX5_addShape_41 fl_X5_27 rfl rfl ?_
    rw [upd2_r (r := 11) (r' := 8) (by decide), upd2_r (r := 10) (r' := 8) (by decide), upd2_r (r := 9) (r' := 8) (by decide)]
    refine wp_iconst (pc := 44) dX5_addShape_44 (by decide) ?_
    refine wp_iadd (pc := 45) dX5_addShape_45 (by omega) ?_
    refine wp_putI (pc := 46) 0 dX5_addShape_46 fl_X5_27 ⟨rfl, rfl⟩ rfl rfl ?_
    refine wp_return (pc := 49) dX5_addShape_49 rfl ?_
    exact ⟨rfl, rfl⟩
set_option maxHeartbeats 4000000 in
set_option maxRecDepth 100000 in
theorem c_addStep {σ : Sto} {s h : Int} (hn : 0 < σ 8 0 ∧ σ 8 0 ≤ 6) (hs : 0 ≤ σ 11 (σ 8 0 - 1) ∧ σ 11 (σ 8 0 - 1) < 8) : CtV yX5_addStep cX5_addStep 5 none 0 [mR 8, mI s, mI h] σ (fun σ' => σ' = upd2 (upd2 (upd2 σ 12 ((σ 8 0 - 1) * 8 + σ 11 (σ 8 0 - 1)) s) 13 ((σ 8 0 - 1) * 8 + σ 11 (σ 8 0 - 1)) h) 11 (σ 8 0 - 1) (σ 11 (σ 8 0 - 1) + 1)) := by
  refine ct_of rfl [some (mR 8), some (mI s), some (mI h), none, none] (Nat.le_of_ble_eq_true rfl) rfl (fun hσ => ?_)
  show Wp cX5_addStep RX5 none 0 0 [some (mR 8), some (mI s), some (mI h), none, none] [] _ _
  refine wp_aload_n (pc := 0) dX5_addStep_0 rfl rfl ?_
  refine wp_getI (pc := 1) 0 dX5_addStep_1 fl_X5_27 rfl rfl ?_
  refine wp_iconst (pc := 4) dX5_addStep_4 (by decide) ?_
  refine wp_isub (pc := 5) dX5_addStep_5 (by omega) ?_
  refine wp_istore_n (pc := 6) dX5_addStep_6 rfl (Nat.le_of_ble_eq_true rfl) rfl ?_
  refine wp_iload_n (pc := 7) dX5_addStep_7 rfl rfl ?_
  refine wp_if_lt (pc := 8) 61 dX5_addStep_8 (by decide) (fun c_8 => ?_) (fun c_8 => ?_)
  · omega
  · refine wp_aload_n (pc := 11) dX5_addStep_11 rfl rfl ?_
    refine wp_getR (pc := 12) (q := 11) dX5_addStep_12 fl_X5_18 rfl ?_
    refine wp_iload_n (pc := 15) dX5_addStep_15 rfl rfl ?_
    refine wp_iald (pc := 16) 6 dX5_addStep_16 rfl (by omega) ?_
    refine wp_bipush (pc := 17) dX5_addStep_17 (by decide) (by decide) ?_
    refine wp_icmp_ge (pc := 19) 61 dX5_addStep_19 (by decide) (fun c_19 => ?_) (fun c_19 => ?_)
    · omega
    · refine wp_iload_n (pc := 22) dX5_addStep_22 rfl rfl ?_
      refine wp_bipush (pc := 23) dX5_addStep_23 (by decide) (by decide) ?_
      refine wp_imul (pc := 25) dX5_addStep_25 (by omega) ?_
      refine wp_aload_n (pc := 26) dX5_addStep_26 rfl rfl ?_
      refine wp_getR (pc := 27) (q := 11) dX5_addStep_27 fl_X5_18 rfl ?_
      refine wp_iload_n (pc := 30) dX5_addStep_30 rfl rfl ?_
      refine wp_iald (pc := 31) 6 dX5_addStep_31 rfl (by omega) ?_
      refine wp_iadd (pc := 32) dX5_addStep_32 (by omega) ?_
      refine wp_istore (pc := 33) dX5_addStep_33 (Nat.le_of_ble_eq_true rfl) rfl ?_
      refine wp_aload_n (pc := 35) dX5_addStep_35 rfl rfl ?_
      refine wp_getR (pc := 36) (q := 12) dX5_addStep_36 fl_X5_21 rfl ?_
      refine wp_iload (pc := 39) dX5_addStep_39 rfl ?_
      refine wp_iload_n (pc := 41) dX5_addStep_41 rfl rfl ?_
      refine wp_iast (pc := 42) 48 dX5_addStep_42 rfl (by omega) ?_
      refine wp_aload_n (pc := 43) dX5_addStep_43 rfl rfl ?_
      refine wp_getR (pc := 44) (q := 13) dX5_addStep_44 fl_X5_24 rfl ?_
      refine wp_iload (pc := 47) dX5_addStep_47 rfl ?_
      refine wp_iload_n (pc := 49) dX5_addStep_49 rfl rfl ?_
      refine wp_iast (pc := 50) 48 dX5_addStep_50 rfl (by omega) ?_
      refine wp_aload_n (pc := 51) dX5_addStep_51 rfl rfl ?_
      refine wp_getR (pc := 52) (q := 11) dX5_addStep_52 fl_X5_18 rfl ?_
      refine wp_iload_n (pc := 55) dX5_addStep_55 rfl rfl ?_
      refine wp_dup2 (pc := 56) dX5_addStep_56 (fun _ h => by cases h) (fun _ h => by cases h) ?_
      refine wp_iald (pc := 57) 6 dX5_addStep_57 rfl (by omega) ?_
      rw [upd2_r (r := 13) (r' := 11) (by decide), upd2_r (r := 12) (r' := 11) (by decide)]
      refine wp_iconst (pc := 58) dX5_addStep_58 (by decide) ?_
      refine wp_iadd (pc := 59) dX5_addStep_59 (by omega) ?_
      refine wp_iast (pc := 60) 6 dX5_addStep_60 rfl (by omega) ?_
      refine wp_return (pc := 61) dX5_addStep_61 rfl ?_
      exact ⟨rfl, rfl⟩
set_option maxHeartbeats 4000000 in
set_option maxRecDepth 100000 in
theorem c_depthOf {σ : Sto} {g i : Int} (hn : 0 ≤ g ∧ g < 6 ∧ 0 ≤ i ∧ i < 8) : CtI yX5_depthOf cX5_depthOf 3 (some .int) 0 [mR 2, mI g, mI i] σ (fun z σ' => z = σ 6 (g * 8 + i) ∧ σ' = σ) := by
  refine ct_of rfl [some (mR 2), some (mI g), some (mI i)] (Nat.le_of_ble_eq_true rfl) rfl (fun hσ => ?_)
  show Wp cX5_depthOf RX5 (some .int) 0 0 [some (mR 2), some (mI g), some (mI i)] [] _ _
  refine wp_aload_n (pc := 0) dX5_depthOf_0 rfl rfl ?_
  refine wp_getR (pc := 1) (q := 6) dX5_depthOf_1 fl_X5_21 rfl ?_
  refine wp_iload_n (pc := 4) dX5_depthOf_4 rfl rfl ?_
  refine wp_bipush (pc := 5) dX5_depthOf_5 (by decide) (by decide) ?_
  refine wp_imul (pc := 7) dX5_depthOf_7 (by omega) ?_
  refine wp_iload_n (pc := 8) dX5_depthOf_8 rfl rfl ?_
  refine wp_iadd (pc := 9) dX5_depthOf_9 (by omega) ?_
  refine wp_iald (pc := 10) 48 dX5_depthOf_10 rfl (by omega) ?_
  refine wp_ireturn (pc := 11) dX5_depthOf_11 rfl ?_
  exact ⟨_, rfl, rfl, rfl⟩
set_option maxHeartbeats 4000000 in
set_option maxRecDepth 100000 in
theorem c_extentOf {σ : Sto} {g i : Int} (hn : 0 ≤ g ∧ g < 6 ∧ 0 ≤ i ∧ i < 8) : CtI yX5_extentOf cX5_extentOf 3 (some .int) 0 [mR 2, mI g, mI i] σ (fun z σ' => z = σ 7 (g * 8 + i) ∧ σ' = σ) := by
  refine ct_of rfl [some (mR 2), some (mI g), some (mI i)] (Nat.le_of_ble_eq_true rfl) rfl (fun hσ => ?_)
  show Wp cX5_extentOf RX5 (some .int) 0 0 [some (mR 2), some (mI g), some (mI i)] [] _ _
  refine wp_aload_n (pc := 0) dX5_extentOf_0 rfl rfl ?_
  refine wp_getR (pc := 1) (q := 7) dX5_extentOf_1 fl_X5_24 rfl ?_
  refine wp_iload_n (pc := 4) dX5_extentOf_4 rfl rfl ?_
  refine wp_bipush (pc := 5) dX5_extentOf_5 (by decide) (by decide) ?_
  refine wp_imul (pc := 7) dX5_extentOf_7 (by omega) ?_
  refine wp_iload_n (pc := 8) dX5_extentOf_8 rfl rfl ?_
  refine wp_iadd (pc := 9) dX5_extentOf_9 (by omega) ?_
  refine wp_iald (pc := 10) 48 dX5_extentOf_10 rfl (by omega) ?_
  refine wp_ireturn (pc := 11) dX5_extentOf_11 rfl ?_
  exact ⟨_, rfl, rfl, rfl⟩
set_option maxHeartbeats 4000000 in
set_option maxRecDepth 100000 in
theorem c_greatestExtent {σ : Sto} {g : Int} (hg : 0 ≤ g ∧ g < 6) (hn : 0 ≤ σ 5 g ∧ σ 5 g ≤ 8) : CtI yX5_greatestExtent cX5_greatestExtent 4 (some .int) 1 [mR 2, mI g] σ (fun z σ' => z = mxI (fun i => σ 7 (g * 8 + i)) (σ 5 g) ∧ σ' = σ) := by
  refine ct_of rfl [some (mR 2), some (mI g), none, none] (Nat.le_of_ble_eq_true rfl) rfl (fun hσ => ?_)
  show Wp cX5_greatestExtent RX5 (some .int) 1 0 [some (mR 2), some (mI g), none, none] [] _ _
  have lp : ∀ q, q ≤ σ 5 g → 0 ≤ q → Wp cX5_greatestExtent RX5 (some .int) 1 4 [some (mR 2), some (mI g), some (mI (mxI (fun i => σ 7 (g * 8 + i)) q)), some (mI q)] [] σ (fun v σ' => ∃ z, v = some (mI z) ∧ (fun z σ' => z = mxI (fun i => σ 7 (g * 8 + i)) (σ 5 g) ∧ σ' = σ) z σ') := by
    refine up_ind (σ 5 g) (fun q hq ih h0 => ?_)
    refine wp_iload_n (pc := 4) dX5_greatestExtent_4 rfl rfl ?_
    refine wp_aload_n (pc := 5) dX5_greatestExtent_5 rfl rfl ?_
    refine wp_getR (pc := 6) (q := 5) dX5_greatestExtent_6 fl_X5_18 rfl ?_
    refine wp_iload_n (pc := 9) dX5_greatestExtent_9 rfl rfl ?_
    refine wp_iald (pc := 10) 6 dX5_greatestExtent_10 rfl (by omega) ?_
    refine wp_icmp_ge (pc := 11) 31 dX5_greatestExtent_11 (by decide) (fun c_11 => ?_) (fun c_11 => ?_)
    · have e : q = σ 5 g := by omega
      rw [e]
      refine wp_iload_n (pc := 31) dX5_greatestExtent_31 rfl rfl ?_
      refine wp_ireturn (pc := 32) dX5_greatestExtent_32 rfl ?_
      exact ⟨_, rfl, rfl, rfl⟩
    · refine wp_iload_n (pc := 14) dX5_greatestExtent_14 rfl rfl ?_
      refine wp_aload_n (pc := 15) dX5_greatestExtent_15 rfl rfl ?_
      refine wp_iload_n (pc := 16) dX5_greatestExtent_16 rfl rfl ?_
      refine wp_iload_n (pc := 17) dX5_greatestExtent_17 rfl rfl ?_
      refine wp_cvI2 (pc := 18) dX5_greatestExtent_18 mv_X5_37 (c_extentOf (by omega)) (Nat.le_of_ble_eq_true rfl) rfl (Nat.le_of_ble_eq_true rfl) (fun z_18 σ_18 h_18 => ?_)
      obtain ⟨rfl, e_18⟩ := h_18; have e2_18 := e_18.symm; subst e2_18
      refine wp_max (pc := 21) dX5_greatestExtent_21 mx_X5_41 (by decide) (Nat.le_of_ble_eq_true rfl) ?_
      refine wp_istore_n (pc := 24) dX5_greatestExtent_24 rfl (Nat.le_of_ble_eq_true rfl) rfl ?_
      refine wp_iinc (pc := 25) dX5_greatestExtent_25 rfl rfl (by omega) ?_
      refine wp_goto (pc := 28) 4 dX5_greatestExtent_28 (by decide) ?_
      have h2 := ih (by omega) (by omega)
      rw [mxI_s h0] at h2
      exact h2
  refine wp_iconst (pc := 0) dX5_greatestExtent_0 (by decide) ?_
  refine wp_istore_n (pc := 1) dX5_greatestExtent_1 rfl (Nat.le_of_ble_eq_true rfl) rfl ?_
  refine wp_iconst (pc := 2) dX5_greatestExtent_2 (by decide) ?_
  refine wp_istore_n (pc := 3) dX5_greatestExtent_3 rfl (Nat.le_of_ble_eq_true rfl) rfl ?_
  exact lp 0 (by omega) (by omega)
