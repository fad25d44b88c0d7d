set_option maxHeartbeats 4000000 in
set_option maxRecDepth 100000 in
theorem m_keep {σ : Sto} {k : Int} (hz : ∀ j, 0 ≤ j → j < 2 → σ 77 j = 0 ∨ σ 77 j = 1) : CtI yX7_keep cX7_keep 4 (some .int) 1 [mR 71, mI k] σ (fun z σ' => ((k < 0 ∨ 1 < k) ∧ z = -1 ∧ σ' = σ) ∨ ((0 ≤ k ∧ k ≤ 1) ∧ z = σ 77 k ∧ Frm [76, 77] σ σ' ∧ σ' 77 k = 1 ∧ (∀ j, j ≠ k → σ' 77 j = σ 77 j) ∧ (∀ c, 0 ≤ c → c < 591 → σ' 76 (591 * k + c) = σ 72 c) ∧ ∀ x, (x < 591 * k ∨ 591 * k + 591 ≤ x) → σ' 76 x = σ 76 x)) := by
  refine ct_of rfl [some (mR 71), some (mI k), none, none] (Nat.le_of_ble_eq_true rfl) rfl (fun hσ => ?_)
  show Wp cX7_keep RX7 (some .int) 1 0 [some (mR 71), some (mI k), none, none] [] _ _
  have lp : (0 ≤ k ∧ k ≤ 1) → ∀ v : Int, v = σ 77 k → ∀ c, c ≤ 591 → 0 ≤ c → ∀ τ : Sto, Frm [76] σ τ → (∀ x, 0 ≤ x → x < c → τ 76 (591 * k + x) = σ 72 x) → (∀ x, (x < 591 * k ∨ 591 * k + 591 ≤ x) → τ 76 x = σ 76 x) → Wp cX7_keep RX7 (some .int) 1 29 [some (mR 71), some (mI k), some (mI v), some (mI c)] [] τ (fun v σ' => ∃ z, v = some (mI z) ∧ (fun z σ' => ((k < 0 ∨ 1 < k) ∧ z = -1 ∧ σ' = σ) ∨ ((0 ≤ k ∧ k ≤ 1) ∧ z = σ 77 k ∧ Frm [76, 77] σ σ' ∧ σ' 77 k = 1 ∧ (∀ j, j ≠ k → σ' 77 j = σ 77 j) ∧ (∀ c, 0 ≤ c → c < 591 → σ' 76 (591 * k + c) = σ 72 c) ∧ ∀ x, (x < 591 * k ∨ 591 * k + 591 ≤ x) → σ' 76 x = σ 76 x)) z σ') := by
    intro hk v hv
    refine up_ind _ (fun c hc ih c0 τ hF hin hout => ?_)
    have e72 : τ 72 = σ 72 := hF 72 (by decide)
    refine wp_iload_n (pc := 29) dX7_keep_29 rfl rfl ?_
    refine wp_sipush (pc := 30) dX7_keep_30 (by decide) (by decide) ?_
    refine wp_icmp_ge (pc := 33) 60 dX7_keep_33 (by decide) (fun c_33 => ?_) (fun c_33 => ?_)
    · refine wp_aload_n (pc := 60) dX7_keep_60 rfl rfl ?_
      refine wp_getR (pc := 61) (q := 77) dX7_keep_61 fl_X7_25 rfl ?_
      refine wp_iload_n (pc := 64) dX7_keep_64 rfl rfl ?_
      refine wp_iconst (pc := 65) dX7_keep_65 (by decide) ?_
      refine wp_zast (pc := 66) 2 dX7_keep_66 rfl (by omega) (by omega) ?_
      refine wp_iload_n (pc := 67) dX7_keep_67 rfl rfl ?_
      refine wp_ireturn (pc := 68) dX7_keep_68 rfl ?_
      refine ⟨_, rfl, Or.inr ⟨hk, hv, (hF.mono (by decide)).up (by decide), upd2_eq, fun j hj => by rw [upd2_k hj, hF 77 (by decide)], fun c c0 c1 => by rw [upd2_r (by decide)]; exact hin c c0 (by omega), fun x hx => by rw [upd2_r (by decide)]; exact hout x hx⟩⟩
    · refine wp_aload_n (pc := 36) dX7_keep_36 rfl rfl ?_
      refine wp_getR (pc := 37) (q := 76) dX7_keep_37 fl_X7_22 rfl ?_
      refine wp_sipush (pc := 40) dX7_keep_40 (by decide) (by decide) ?_
      refine wp_iload_n (pc := 43) dX7_keep_43 rfl rfl ?_
      refine wp_imul (pc := 44) dX7_keep_44 (by omega) ?_
      refine wp_iload_n (pc := 45) dX7_keep_45 rfl rfl ?_
      refine wp_iadd (pc := 46) dX7_keep_46 (by omega) ?_
      refine wp_aload_n (pc := 47) dX7_keep_47 rfl rfl ?_
      refine wp_getR (pc := 48) (q := 72) dX7_keep_48 fl_X7_7 rfl ?_
      refine wp_iload_n (pc := 51) dX7_keep_51 rfl rfl ?_
      refine wp_iald (pc := 52) 591 dX7_keep_52 rfl (by omega) ?_
      rw [e72]
      refine wp_iast (pc := 53) 1182 dX7_keep_53 rfl (by omega) ?_
      refine wp_iinc (pc := 54) dX7_keep_54 rfl rfl (by omega) ?_
      refine wp_goto (pc := 57) 29 dX7_keep_57 (by decide) ?_
      refine ih (by omega) (by omega) _ (hF.up (by decide)) (fun x x0 x1 => ?_) (fun x hx => by rw [upd2_k (by omega)]; exact hout x hx)
      by_cases e : x = c
      · rw [e, upd2_eq]
      · rw [upd2_k (by omega)]; exact hin x x0 (by omega)
  refine wp_iload_n (pc := 0) dX7_keep_0 rfl rfl ?_
  refine wp_i2l (pc := 1) dX7_keep_1 ?_
  refine wp_lconst (pc := 2) (z := 0) dX7_keep_2 (by decide) (by decide) ?_
  refine wp_lconst (pc := 3) (z := 1) dX7_keep_3 (by decide) (by decide) ?_
  refine wp_csI3 (pc := 4) dX7_keep_4 ms_X7_73 m_in (Nat.le_of_ble_eq_true rfl) (Nat.le_of_ble_eq_true rfl) (fun z_4 σ_4 h_4 => ?_)
  obtain ⟨y_4, e_4⟩ := h_4; have e2_4 := e_4.symm; subst e2_4
  refine wp_if_ne (pc := 7) 12 dX7_keep_7 (by decide) (fun c_7 => ?_) (fun c_7 => ?_)
  · have hzk := hz k (by omega) (by omega)
    refine wp_aload_n (pc := 12) dX7_keep_12 rfl rfl ?_
    refine wp_getR (pc := 13) (q := 77) dX7_keep_13 fl_X7_25 rfl ?_
    refine wp_iload_n (pc := 16) dX7_keep_16 rfl rfl ?_
    refine wp_zald (pc := 17) 2 dX7_keep_17 rfl (by omega) ?_
    refine wp_if_eq (pc := 18) 25 dX7_keep_18 (by decide) (fun c_18 => ?_) (fun c_18 => ?_)
    · refine wp_iconst (pc := 25) dX7_keep_25 (by decide) ?_
      refine wp_istore_n (pc := 26) dX7_keep_26 rfl (Nat.le_of_ble_eq_true rfl) rfl ?_
      refine wp_iconst (pc := 27) dX7_keep_27 (by decide) ?_
      refine wp_istore_n (pc := 28) dX7_keep_28 rfl (Nat.le_of_ble_eq_true rfl) rfl ?_
      exact lp (by omega) _ (by omega) 0 (by decide) (by decide) σ Frm.rf (fun x x0 x1 => by omega) (fun x _ => rfl)
    · refine wp_iconst (pc := 21) dX7_keep_21 (by decide) ?_
      refine wp_goto (pc := 22) 26 dX7_keep_22 (by decide) ?_
      refine wp_istore_n (pc := 26) dX7_keep_26 rfl (Nat.le_of_ble_eq_true rfl) rfl ?_
      refine wp_iconst (pc := 27) dX7_keep_27 (by decide) ?_
      refine wp_istore_n (pc := 28) dX7_keep_28 rfl (Nat.le_of_ble_eq_true rfl) rfl ?_
      exact lp (by omega) _ (by omega) 0 (by decide) (by decide) σ Frm.rf (fun x x0 x1 => by omega) (fun x _ => rfl)
  · refine wp_iconst (pc := 10) dX7_keep_10 (by decide) ?_
    refine wp_ireturn (pc := 11) dX7_keep_11 rfl ?_
    exact ⟨_, rfl, Or.inl ⟨by omega, rfl, rfl⟩⟩
set_option maxHeartbeats 4000000 in
set_option maxRecDepth 100000 in
theorem m_back {σ : Sto} {k : Int} (hz : ∀ j, 0 ≤ j → j < 2 → σ 77 j = 0 ∨ σ 77 j = 1) : CtI yX7_back cX7_back 3 (some .int) 1 [mR 71, mI k] σ (fun z σ' => ((k < 0 ∨ 1 < k) ∧ z = -1 ∧ σ' = σ) ∨ ((0 ≤ k ∧ k ≤ 1) ∧ σ 77 k = 0 ∧ z = -2 ∧ σ' = σ) ∨ ((0 ≤ k ∧ k ≤ 1) ∧ σ 77 k = 1 ∧ z = σ 76 (591 * k) ∧ Frm [72] σ σ' ∧ ∀ c, 0 ≤ c → c < 591 → σ' 72 c = σ 76 (591 * k + c))) := by
  refine ct_of rfl [some (mR 71), some (mI k), none] (Nat.le_of_ble_eq_true rfl) rfl (fun hσ => ?_)
  show Wp cX7_back RX7 (some .int) 1 0 [some (mR 71), some (mI k), none] [] _ _
  have lp : (0 ≤ k ∧ k ≤ 1) → σ 77 k = 1 → ∀ c, c ≤ 591 → 0 ≤ c → ∀ τ : Sto, Frm [72] σ τ → (∀ x, 0 ≤ x → x < c → τ 72 x = σ 76 (591 * k + x)) → Wp cX7_back RX7 (some .int) 1 26 [some (mR 71), some (mI k), some (mI c)] [] τ (fun v σ' => ∃ z, v = some (mI z) ∧ (fun z σ' => ((k < 0 ∨ 1 < k) ∧ z = -1 ∧ σ' = σ) ∨ ((0 ≤ k ∧ k ≤ 1) ∧ σ 77 k = 0 ∧ z = -2 ∧ σ' = σ) ∨ ((0 ≤ k ∧ k ≤ 1) ∧ σ 77 k = 1 ∧ z = σ 76 (591 * k) ∧ Frm [72] σ σ' ∧ ∀ c, 0 ≤ c → c < 591 → σ' 72 c = σ 76 (591 * k + c))) z σ') := by
    intro hk h1
    refine up_ind _ (fun c hc ih c0 τ hF hin => ?_)
    have e76 : τ 76 = σ 76 := hF 76 (by decide)
    refine wp_iload_n (pc := 26) dX7_back_26 rfl rfl ?_
    refine wp_sipush (pc := 27) dX7_back_27 (by decide) (by decide) ?_
    refine wp_icmp_ge (pc := 30) 57 dX7_back_30 (by decide) (fun c_30 => ?_) (fun c_30 => ?_)
    · refine wp_aload_n (pc := 57) dX7_back_57 rfl rfl ?_
      refine wp_getR (pc := 58) (q := 72) dX7_back_58 fl_X7_7 rfl ?_
      refine wp_iconst (pc := 61) dX7_back_61 (by decide) ?_
      refine wp_iald (pc := 62) 591 dX7_back_62 rfl (by omega) ?_
      refine wp_ireturn (pc := 63) dX7_back_63 rfl ?_
      refine ⟨_, rfl, Or.inr (Or.inr ⟨hk, h1, ?_, hF, fun x x0 x1 => hin x x0 (by omega)⟩)⟩
      rw [hin 0 (by decide) (by omega), Int.add_zero]
    · refine wp_aload_n (pc := 33) dX7_back_33 rfl rfl ?_
      refine wp_getR (pc := 34) (q := 72) dX7_back_34 fl_X7_7 rfl ?_
      refine wp_iload_n (pc := 37) dX7_back_37 rfl rfl ?_
      refine wp_aload_n (pc := 38) dX7_back_38 rfl rfl ?_
      refine wp_getR (pc := 39) (q := 76) dX7_back_39 fl_X7_22 rfl ?_
      refine wp_sipush (pc := 42) dX7_back_42 (by decide) (by decide) ?_
      refine wp_iload_n (pc := 45) dX7_back_45 rfl rfl ?_
      refine wp_imul (pc := 46) dX7_back_46 (by omega) ?_
      refine wp_iload_n (pc := 47) dX7_back_47 rfl rfl ?_
      refine wp_iadd (pc := 48) dX7_back_48 (by omega) ?_
      refine wp_iald (pc := 49) 1182 dX7_back_49 rfl (by omega) ?_
      rw [e76]
      refine wp_iast (pc := 50) 591 dX7_back_50 rfl (by omega) ?_
      refine wp_iinc (pc := 51) dX7_back_51 rfl rfl (by omega) ?_
      refine wp_goto (pc := 54) 26 dX7_back_54 (by decide) ?_
      refine ih (by omega) (by omega) _ (hF.up (by decide)) (fun x x0 x1 => ?_)
      by_cases e : x = c
      · rw [e, upd2_eq]
      · rw [upd2_k (by omega)]; exact hin x x0 (by omega)
  refine wp_iload_n (pc := 0) dX7_back_0 rfl rfl ?_
  refine wp_i2l (pc := 1) dX7_back_1 ?_
  refine wp_lconst (pc := 2) (z := 0) dX7_back_2 (by decide) (by decide) ?_
  refine wp_lconst (pc := 3) (z := 1) dX7_back_3 (by decide) (by decide) ?_
  refine wp_csI3 (pc := 4) dX7_back_4 ms_X7_73 m_in (Nat.le_of_ble_eq_true rfl) (Nat.le_of_ble_eq_true rfl) (fun z_4 σ_4 h_4 => ?_)
  obtain ⟨y_4, e_4⟩ := h_4; have e2_4 := e_4.symm; subst e2_4
  refine wp_if_ne (pc := 7) 12 dX7_back_7 (by decide) (fun c_7 => ?_) (fun c_7 => ?_)
  · have hzk := hz k (by omega) (by omega)
    refine wp_aload_n (pc := 12) dX7_back_12 rfl rfl ?_
    refine wp_getR (pc := 13) (q := 77) dX7_back_13 fl_X7_25 rfl ?_
    refine wp_iload_n (pc := 16) dX7_back_16 rfl rfl ?_
    refine wp_zald (pc := 17) 2 dX7_back_17 rfl (by omega) ?_
    refine wp_if_ne (pc := 18) 24 dX7_back_18 (by decide) (fun c_18 => ?_) (fun c_18 => ?_)
    · refine wp_iconst (pc := 24) dX7_back_24 (by decide) ?_
      refine wp_istore_n (pc := 25) dX7_back_25 rfl (Nat.le_of_ble_eq_true rfl) rfl ?_
      exact lp (by omega) (by omega) 0 (by decide) (by decide) σ Frm.rf (fun x x0 x1 => by omega)
    · refine wp_bipush (pc := 21) dX7_back_21 (by decide) (by decide) ?_
      refine wp_ireturn (pc := 23) dX7_back_23 rfl ?_
      exact ⟨_, rfl, Or.inr (Or.inl ⟨by omega, by omega, rfl, rfl⟩)⟩
  · refine wp_iconst (pc := 10) dX7_back_10 (by decide) ?_
    refine wp_ireturn (pc := 11) dX7_back_11 rfl ?_
    exact ⟨_, rfl, Or.inl ⟨by omega, rfl, rfl⟩⟩
set_option maxHeartbeats 4000000 in
set_option maxRecDepth 100000 in
theorem m_feed {σ : Sto} {c : Int} (ht : 0 ≤ σ 71 9 ∧ σ 71 9 ≤ 400) : CtI yX7_feed cX7_feed 2 (some .int) 1 [mR 71, mI c] σ (fun z σ' => if c < 0 ∨ 127 < c then z = -1 ∧ σ' = σ else if 400 ≤ σ 71 9 then z = -3 ∧ σ' = σ else z = σ 71 9 + 1 ∧ σ' = upd2 (upd2 σ 78 (σ 71 9) c) 71 9 (σ 71 9 + 1)) := by
  refine ct_of rfl [some (mR 71), some (mI c)] (Nat.le_of_ble_eq_true rfl) rfl (fun hσ => ?_)
  show Wp cX7_feed RX7 (some .int) 1 0 [some (mR 71), some (mI c)] [] _ _
  refine wp_iload_n (pc := 0) dX7_feed_0 rfl rfl ?_
  refine wp_i2l (pc := 1) dX7_feed_1 ?_
  refine wp_lconst (pc := 2) (z := 0) dX7_feed_2 (by decide) (by decide) ?_
  refine wp_ldc2 (pc := 3) (z := 127) dX7_feed_3 kc_X7_71 (by decide) (by decide) ?_
  refine wp_csI3 (pc := 6) dX7_feed_6 ms_X7_73 m_in (Nat.le_of_ble_eq_true rfl) (Nat.le_of_ble_eq_true rfl) (fun z_6 σ_6 h_6 => ?_)
  obtain ⟨y_6, e_6⟩ := h_6; have e2_6 := e_6.symm; subst e2_6
  refine wp_if_ne (pc := 9) 14 dX7_feed_9 (by decide) (fun c_9 => ?_) (fun c_9 => ?_)
  · refine wp_aload_n (pc := 14) dX7_feed_14 rfl rfl ?_
    refine wp_getI (pc := 15) 9 dX7_feed_15 fl_X7_77 rfl rfl ?_
    refine wp_sipush (pc := 18) dX7_feed_18 (by decide) (by decide) ?_
    refine wp_icmp_ne (pc := 21) 27 dX7_feed_21 (by decide) (fun c_21 => ?_) (fun c_21 => ?_)
    · refine wp_aload_n (pc := 27) dX7_feed_27 rfl rfl ?_
      refine wp_getR (pc := 28) (q := 78) dX7_feed_28 fl_X7_29 rfl ?_
      refine wp_aload_n (pc := 31) dX7_feed_31 rfl rfl ?_
      refine wp_getI (pc := 32) 9 dX7_feed_32 fl_X7_77 rfl rfl ?_
      refine wp_iload_n (pc := 35) dX7_feed_35 rfl rfl ?_
      refine wp_iast (pc := 36) 400 dX7_feed_36 rfl (by omega) ?_
      refine wp_aload_n (pc := 37) dX7_feed_37 rfl rfl ?_
      refine wp_dup (pc := 38) dX7_feed_38 (fun _ h => by cases h) ?_
      refine wp_getI (pc := 39) 9 dX7_feed_39 fl_X7_77 rfl rfl ?_
      rw [upd2_r (r := 78) (r' := 71) (by decide)]
      refine wp_iconst (pc := 42) dX7_feed_42 (by decide) ?_
      refine wp_iadd (pc := 43) dX7_feed_43 (by omega) ?_
      refine wp_putI (pc := 44) 9 dX7_feed_44 fl_X7_77 ⟨rfl, rfl⟩ rfl rfl ?_
      refine wp_aload_n (pc := 47) dX7_feed_47 rfl rfl ?_
      refine wp_getI (pc := 48) 9 dX7_feed_48 fl_X7_77 rfl rfl ?_
      rw [upd2_eq (r := 71) (k := 9)]
      refine wp_ireturn (pc := 51) dX7_feed_51 rfl ?_
      refine ⟨_, rfl, ?_⟩
      show ite _ _ _
      first
        | (rw [if_pos (by omega)]; exact ⟨rfl, rfl⟩)
        | (rw [if_neg (by omega), if_pos (by omega)]; exact ⟨rfl, rfl⟩)
        | (rw [if_neg (by omega), if_neg (by omega)]; exact ⟨rfl, rfl⟩)
    · refine wp_bipush (pc := 24) dX7_feed_24 (by decide) (by decide) ?_
      refine wp_ireturn (pc := 26) dX7_feed_26 rfl ?_
      refine ⟨_, rfl, ?_⟩
      show ite _ _ _
      first
        | (rw [if_pos (by omega)]; exact ⟨rfl, rfl⟩)
        | (rw [if_neg (by omega), if_pos (by omega)]; exact ⟨rfl, rfl⟩)
        | (rw [if_neg (by omega), if_neg (by omega)]; exact ⟨rfl, rfl⟩)
  · refine wp_iconst (pc := 12) dX7_feed_12 (by decide) ?_
    refine wp_ireturn (pc := 13) dX7_feed_13 rfl ?_
    refine ⟨_, rfl, ?_⟩
    show ite _ _ _
    first
      | (rw [if_pos (by omega)]; exact ⟨rfl, rfl⟩)
      | (rw [if_neg (by omega), if_pos (by omega)]; exact ⟨rfl, rfl⟩)
      | (rw [if_neg (by omega), if_neg (by omega)]; exact ⟨rfl, rfl⟩)
set_option maxHeartbeats 4000000 in
set_option maxRecDepth 100000 in
theorem m_end {σ : Sto} {n : Int} : CtI yX7_end cX7_end 3 (some .int) 1 [mR 71, mI n] σ (fun z σ' => if n < 0 ∨ σ 71 9 < n then z = -1 ∧ σ' = σ else z = σ 71 9 ∧ σ' = upd2 σ 71 9 n) := by
  refine ct_of rfl [some (mR 71), some (mI n), none] (Nat.le_of_ble_eq_true rfl) rfl (fun hσ => ?_)
  show Wp cX7_end RX7 (some .int) 1 0 [some (mR 71), some (mI n), none] [] _ _
  refine wp_iload_n (pc := 0) dX7_end_0 rfl rfl ?_
  refine wp_i2l (pc := 1) dX7_end_1 ?_
  refine wp_lconst (pc := 2) (z := 0) dX7_end_2 (by decide) (by decide) ?_
  refine wp_aload_n (pc := 3) dX7_end_3 rfl rfl ?_
  refine wp_getI (pc := 4) 9 dX7_end_4 fl_X7_77 rfl rfl ?_
  refine wp_i2l (pc := 7) dX7_end_7 ?_
  refine wp_csI3 (pc := 8) dX7_end_8 ms_X7_73 m_in (Nat.le_of_ble_eq_true rfl) (Nat.le_of_ble_eq_true rfl) (fun z_8 σ_8 h_8 => ?_)
  obtain ⟨y_8, e_8⟩ := h_8; have e2_8 := e_8.symm; subst e2_8
  refine wp_if_ne (pc := 11) 16 dX7_end_11 (by decide) (fun c_11 => ?_) (fun c_11 => ?_)
  · refine wp_aload_n (pc := 16) dX7_end_16 rfl rfl ?_
    refine wp_getI (pc := 17) 9 dX7_end_17 fl_X7_77 rfl rfl ?_
    refine wp_istore_n (pc := 20) dX7_end_20 rfl (Nat.le_of_ble_eq_true rfl) rfl ?_
    refine wp_aload_n (pc := 21) dX7_end_21 rfl rfl ?_
    refine wp_iload_n (pc := 22) dX7_end_22 rfl rfl ?_
    refine wp_putI (pc := 23) 9 dX7_end_23 fl_X7_77 ⟨rfl, rfl⟩ rfl rfl ?_
    refine wp_iload_n (pc := 26) dX7_end_26 rfl rfl ?_
    refine wp_ireturn (pc := 27) dX7_end_27 rfl ?_
    refine ⟨_, rfl, ?_⟩
    show ite _ _ _
    first
      | (rw [if_pos (by omega)]; exact ⟨rfl, rfl⟩)
      | (rw [if_neg (by omega)]; exact ⟨rfl, rfl⟩)
  · refine wp_iconst (pc := 14) dX7_end_14 (by decide) ?_
    refine wp_ireturn (pc := 15) dX7_end_15 rfl ?_
    refine ⟨_, rfl, ?_⟩
    show ite _ _ _
    first
      | (rw [if_pos (by omega)]; exact ⟨rfl, rfl⟩)
      | (rw [if_neg (by omega)]; exact ⟨rfl, rfl⟩)
set_option maxHeartbeats 4000000 in
set_option maxRecDepth 100000 in
theorem m_fault {σ : Sto} : CtI yX7_fault cX7_fault 1 (some .int) 0 [mR 71] σ (fun z σ' => z = σ 71 10 ∧ σ' = σ) := by
  refine ct_of rfl [some (mR 71)] (Nat.le_of_ble_eq_true rfl) rfl (fun hσ => ?_)
  show Wp cX7_fault RX7 (some .int) 0 0 [some (mR 71)] [] _ _
  refine wp_aload_n (pc := 0) dX7_fault_0 rfl rfl ?_
  refine wp_getI (pc := 1) 10 dX7_fault_1 fl_X7_81 rfl rfl ?_
  refine wp_ireturn (pc := 4) dX7_fault_4 rfl ?_
  exact ⟨_, rfl, rfl, rfl⟩
