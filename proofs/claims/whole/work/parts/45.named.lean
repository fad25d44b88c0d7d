def nmd (σ : Sto) (k : Nat) : Prop := σ 38 7 = ((strLn.getD k 0 : Nat) : Int) ∧ ∀ x, 0 ≤ x → x < σ 38 7 → σ 1 (σ 38 6 + x) = strC k x
set_option maxHeartbeats 4000000 in
set_option maxRecDepth 100000 in
theorem c_isNamed_0 {σ : Sto} (h6 : 0 ≤ σ 38 6) (h7 : 0 ≤ σ 38 7) (hl : σ 38 6 + σ 38 7 ≤ 400) : CtI yX4_isNamed cX4_isNamed 3 (some .boolean) 5 [mR 38, mR 2000] σ (fun z σ' => ((z = 1 ∧ nmd σ 0) ∨ (z = 0 ∧ ¬ nmd σ 0)) ∧ σ' = σ) := by
  refine ct_of rfl [some (mR 38), some (mR 2000), none] (Nat.le_of_ble_eq_true rfl) rfl (fun hσ => ?_)
  show Wp cX4_isNamed RX4 (some .boolean) 5 0 [some (mR 38), some (mR 2000), none] [] _ _
  have hL : ((strLn.getD 0 0 : Nat) : Int) = 3 := rfl
  have lp : ∀ j, j ≤ 3 → 0 ≤ j → σ 38 7 = 3 → (∀ x, 0 ≤ x → x < j → σ 1 (σ 38 6 + x) = strC 0 x) → Wp cX4_isNamed RX4 (some .boolean) 5 15 [some (mR 38), some (mR 2000), some (mI j)] [] σ (fun v σ' => ∃ z, v = some (mI z) ∧ (fun z σ' => ((z = 1 ∧ nmd σ 0) ∨ (z = 0 ∧ ¬ nmd σ 0)) ∧ σ' = σ) z σ') := by
    refine up_ind 3 (fun j hj ih j0 hz hx => ?_)
    refine wp_iload_n (pc := 15) dX4_isNamed_15 rfl rfl ?_
    refine wp_aload_n (pc := 16) dX4_isNamed_16 rfl rfl ?_
    refine wp_getI (pc := 17) 7 dX4_isNamed_17 fl_X4_110 rfl rfl ?_
    refine wp_icmp_ge (pc := 20) 50 dX4_isNamed_20 (by decide) (fun c_20 => ?_) (fun c_20 => ?_)
    · refine wp_iconst (pc := 50) dX4_isNamed_50 (by decide) ?_
      refine wp_zreturn (pc := 51) dX4_isNamed_51 rfl (by omega) ?_
      exact ⟨_, rfl, Or.inl ⟨rfl, by omega, fun x x0 x1 => hx x x0 (by omega)⟩, rfl⟩
    · refine wp_aload_n (pc := 23) dX4_isNamed_23 rfl rfl ?_
      refine wp_getR (pc := 24) (q := 1) dX4_isNamed_24 fl_X4_9 rfl ?_
      refine wp_aload_n (pc := 27) dX4_isNamed_27 rfl rfl ?_
      refine wp_getI (pc := 28) 6 dX4_isNamed_28 fl_X4_62 rfl rfl ?_
      refine wp_iload_n (pc := 31) dX4_isNamed_31 rfl rfl ?_
      refine wp_iadd (pc := 32) dX4_isNamed_32 (by omega) ?_
      refine wp_bald (pc := 33) 400 dX4_isNamed_33 rfl (by omega) ?_
      refine wp_aload_n (pc := 34) dX4_isNamed_34 rfl rfl ?_
      refine wp_iload_n (pc := 35) dX4_isNamed_35 rfl rfl ?_
      refine wp_strcharAt (pc := 36) (k := 0) (by decide) rfl dX4_isNamed_36 (by omega) (Nat.le_of_ble_eq_true rfl) (Nat.le_of_ble_eq_true rfl) ?_
      refine wp_icmp_eq (pc := 39) 44 dX4_isNamed_39 (by decide) (fun c_39 => ?_) (fun c_39 => ?_)
      · refine wp_iinc (pc := 44) dX4_isNamed_44 rfl rfl (by omega) ?_
        refine wp_goto (pc := 47) 15 dX4_isNamed_47 (by decide) ?_
        refine ih (by omega) (by omega) hz (fun x x0 x1 => ?_)
        by_cases e : x = j
        · rw [e]; exact c_39
        · exact hx x x0 (by omega)
      · refine wp_iconst (pc := 42) dX4_isNamed_42 (by decide) ?_
        refine wp_zreturn (pc := 43) dX4_isNamed_43 rfl (by omega) ?_
        refine ⟨_, rfl, Or.inr ⟨rfl, fun q => ?_⟩, rfl⟩
        exact c_39 (q.2 j (by omega) (by omega))
  refine wp_aload_n (pc := 0) dX4_isNamed_0 rfl rfl ?_
  refine wp_getI (pc := 1) 7 dX4_isNamed_1 fl_X4_110 rfl rfl ?_
  refine wp_aload_n (pc := 4) dX4_isNamed_4 rfl rfl ?_
  refine wp_strlength (pc := 5) (k := 0) (by decide) rfl dX4_isNamed_5 (Nat.le_of_ble_eq_true rfl) (Nat.le_of_ble_eq_true rfl) ?_
  refine wp_icmp_eq (pc := 8) 13 dX4_isNamed_8 (by decide) (fun c_8 => ?_) (fun c_8 => ?_)
  · refine wp_iconst (pc := 13) dX4_isNamed_13 (by decide) ?_
    refine wp_istore_n (pc := 14) dX4_isNamed_14 rfl (Nat.le_of_ble_eq_true rfl) rfl ?_
    exact lp 0 (by decide) (by decide) (by omega) (fun x x0 x1 => absurd x1 (by omega))
  · refine wp_iconst (pc := 11) dX4_isNamed_11 (by decide) ?_
    refine wp_zreturn (pc := 12) dX4_isNamed_12 rfl (by omega) ?_
    refine ⟨_, rfl, Or.inr ⟨rfl, fun q => c_8 ?_⟩, rfl⟩
    have := q.1
    omega

set_option maxHeartbeats 4000000 in
set_option maxRecDepth 100000 in
theorem c_isNamed_1 {σ : Sto} (h6 : 0 ≤ σ 38 6) (h7 : 0 ≤ σ 38 7) (hl : σ 38 6 + σ 38 7 ≤ 400) : CtI yX4_isNamed cX4_isNamed 3 (some .boolean) 5 [mR 38, mR 2001] σ (fun z σ' => ((z = 1 ∧ nmd σ 1) ∨ (z = 0 ∧ ¬ nmd σ 1)) ∧ σ' = σ) := by
  refine ct_of rfl [some (mR 38), some (mR 2001), none] (Nat.le_of_ble_eq_true rfl) rfl (fun hσ => ?_)
  show Wp cX4_isNamed RX4 (some .boolean) 5 0 [some (mR 38), some (mR 2001), none] [] _ _
  have hL : ((strLn.getD 1 0 : Nat) : Int) = 5 := rfl
  have lp : ∀ j, j ≤ 5 → 0 ≤ j → σ 38 7 = 5 → (∀ x, 0 ≤ x → x < j → σ 1 (σ 38 6 + x) = strC 1 x) → Wp cX4_isNamed RX4 (some .boolean) 5 15 [some (mR 38), some (mR 2001), some (mI j)] [] σ (fun v σ' => ∃ z, v = some (mI z) ∧ (fun z σ' => ((z = 1 ∧ nmd σ 1) ∨ (z = 0 ∧ ¬ nmd σ 1)) ∧ σ' = σ) z σ') := by
    refine up_ind 5 (fun j hj ih j0 hz hx => ?_)
    refine wp_iload_n (pc := 15) dX4_isNamed_15 rfl rfl ?_
    refine wp_aload_n (pc := 16) dX4_isNamed_16 rfl rfl ?_
    refine wp_getI (pc := 17) 7 dX4_isNamed_17 fl_X4_110 rfl rfl ?_
    refine wp_icmp_ge (pc := 20) 50 dX4_isNamed_20 (by decide) (fun c_20 => ?_) (fun c_20 => ?_)
    · refine wp_iconst (pc := 50) dX4_isNamed_50 (by decide) ?_
      refine wp_zreturn (pc := 51) dX4_isNamed_51 rfl (by omega) ?_
      exact ⟨_, rfl, Or.inl ⟨rfl, by omega, fun x x0 x1 => hx x x0 (by omega)⟩, rfl⟩
    · refine wp_aload_n (pc := 23) dX4_isNamed_23 rfl rfl ?_
      refine wp_getR (pc := 24) (q := 1) dX4_isNamed_24 fl_X4_9 rfl ?_
      refine wp_aload_n (pc := 27) dX4_isNamed_27 rfl rfl ?_
      refine wp_getI (pc := 28) 6 dX4_isNamed_28 fl_X4_62 rfl rfl ?_
      refine wp_iload_n (pc := 31) dX4_isNamed_31 rfl rfl ?_
      refine wp_iadd (pc := 32) dX4_isNamed_32 (by omega) ?_
      refine wp_bald (pc := 33) 400 dX4_isNamed_33 rfl (by omega) ?_
      refine wp_aload_n (pc := 34) dX4_isNamed_34 rfl rfl ?_
      refine wp_iload_n (pc := 35) dX4_isNamed_35 rfl rfl ?_
      refine wp_strcharAt (pc := 36) (k := 1) (by decide) rfl dX4_isNamed_36 (by omega) (Nat.le_of_ble_eq_true rfl) (Nat.le_of_ble_eq_true rfl) ?_
      refine wp_icmp_eq (pc := 39) 44 dX4_isNamed_39 (by decide) (fun c_39 => ?_) (fun c_39 => ?_)
      · refine wp_iinc (pc := 44) dX4_isNamed_44 rfl rfl (by omega) ?_
        refine wp_goto (pc := 47) 15 dX4_isNamed_47 (by decide) ?_
        refine ih (by omega) (by omega) hz (fun x x0 x1 => ?_)
        by_cases e : x = j
        · rw [e]; exact c_39
        · exact hx x x0 (by omega)
      · refine wp_iconst (pc := 42) dX4_isNamed_42 (by decide) ?_
        refine wp_zreturn (pc := 43) dX4_isNamed_43 rfl (by omega) ?_
        refine ⟨_, rfl, Or.inr ⟨rfl, fun q => ?_⟩, rfl⟩
        exact c_39 (q.2 j (by omega) (by omega))
  refine wp_aload_n (pc := 0) dX4_isNamed_0 rfl rfl ?_
  refine wp_getI (pc := 1) 7 dX4_isNamed_1 fl_X4_110 rfl rfl ?_
  refine wp_aload_n (pc := 4) dX4_isNamed_4 rfl rfl ?_
  refine wp_strlength (pc := 5) (k := 1) (by decide) rfl dX4_isNamed_5 (Nat.le_of_ble_eq_true rfl) (Nat.le_of_ble_eq_true rfl) ?_
  refine wp_icmp_eq (pc := 8) 13 dX4_isNamed_8 (by decide) (fun c_8 => ?_) (fun c_8 => ?_)
  · refine wp_iconst (pc := 13) dX4_isNamed_13 (by decide) ?_
    refine wp_istore_n (pc := 14) dX4_isNamed_14 rfl (Nat.le_of_ble_eq_true rfl) rfl ?_
    exact lp 0 (by decide) (by decide) (by omega) (fun x x0 x1 => absurd x1 (by omega))
  · refine wp_iconst (pc := 11) dX4_isNamed_11 (by decide) ?_
    refine wp_zreturn (pc := 12) dX4_isNamed_12 rfl (by omega) ?_
    refine ⟨_, rfl, Or.inr ⟨rfl, fun q => c_8 ?_⟩, rfl⟩
    have := q.1
    omega

set_option maxHeartbeats 4000000 in
set_option maxRecDepth 100000 in
theorem c_isNamed_2 {σ : Sto} (h6 : 0 ≤ σ 38 6) (h7 : 0 ≤ σ 38 7) (hl : σ 38 6 + σ 38 7 ≤ 400) : CtI yX4_isNamed cX4_isNamed 3 (some .boolean) 5 [mR 38, mR 2002] σ (fun z σ' => ((z = 1 ∧ nmd σ 2) ∨ (z = 0 ∧ ¬ nmd σ 2)) ∧ σ' = σ) := by
  refine ct_of rfl [some (mR 38), some (mR 2002), none] (Nat.le_of_ble_eq_true rfl) rfl (fun hσ => ?_)
  show Wp cX4_isNamed RX4 (some .boolean) 5 0 [some (mR 38), some (mR 2002), none] [] _ _
  have hL : ((strLn.getD 2 0 : Nat) : Int) = 3 := rfl
  have lp : ∀ j, j ≤ 3 → 0 ≤ j → σ 38 7 = 3 → (∀ x, 0 ≤ x → x < j → σ 1 (σ 38 6 + x) = strC 2 x) → Wp cX4_isNamed RX4 (some .boolean) 5 15 [some (mR 38), some (mR 2002), some (mI j)] [] σ (fun v σ' => ∃ z, v = some (mI z) ∧ (fun z σ' => ((z = 1 ∧ nmd σ 2) ∨ (z = 0 ∧ ¬ nmd σ 2)) ∧ σ' = σ) z σ') := by
    refine up_ind 3 (fun j hj ih j0 hz hx => ?_)
    refine wp_iload_n (pc := 15) dX4_isNamed_15 rfl rfl ?_
    refine wp_aload_n (pc := 16) dX4_isNamed_16 rfl rfl ?_
    refine wp_getI (pc := 17) 7 dX4_isNamed_17 fl_X4_110 rfl rfl ?_
    refine wp_icmp_ge (pc := 20) 50 dX4_isNamed_20 (by decide) (fun c_20 => ?_) (fun c_20 => ?_)
    · refine wp_iconst (pc := 50) dX4_isNamed_50 (by decide) ?_
      refine wp_zreturn (pc := 51) dX4_isNamed_51 rfl (by omega) ?_
      exact ⟨_, rfl, Or.inl ⟨rfl, by omega, fun x x0 x1 => hx x x0 (by omega)⟩, rfl⟩
    · refine wp_aload_n (pc := 23) dX4_isNamed_23 rfl rfl ?_
      refine wp_getR (pc := 24) (q := 1) dX4_isNamed_24 fl_X4_9 rfl ?_
      refine wp_aload_n (pc := 27) dX4_isNamed_27 rfl rfl ?_
      refine wp_getI (pc := 28) 6 dX4_isNamed_28 fl_X4_62 rfl rfl ?_
      refine wp_iload_n (pc := 31) dX4_isNamed_31 rfl rfl ?_
      refine wp_iadd (pc := 32) dX4_isNamed_32 (by omega) ?_
      refine wp_bald (pc := 33) 400 dX4_isNamed_33 rfl (by omega) ?_
      refine wp_aload_n (pc := 34) dX4_isNamed_34 rfl rfl ?_
      refine wp_iload_n (pc := 35) dX4_isNamed_35 rfl rfl ?_
      refine wp_strcharAt (pc := 36) (k := 2) (by decide) rfl dX4_isNamed_36 (by omega) (Nat.le_of_ble_eq_true rfl) (Nat.le_of_ble_eq_true rfl) ?_
      refine wp_icmp_eq (pc := 39) 44 dX4_isNamed_39 (by decide) (fun c_39 => ?_) (fun c_39 => ?_)
      · refine wp_iinc (pc := 44) dX4_isNamed_44 rfl rfl (by omega) ?_
        refine wp_goto (pc := 47) 15 dX4_isNamed_47 (by decide) ?_
        refine ih (by omega) (by omega) hz (fun x x0 x1 => ?_)
        by_cases e : x = j
        · rw [e]; exact c_39
        · exact hx x x0 (by omega)
      · refine wp_iconst (pc := 42) dX4_isNamed_42 (by decide) ?_
        refine wp_zreturn (pc := 43) dX4_isNamed_43 rfl (by omega) ?_
        refine ⟨_, rfl, Or.inr ⟨rfl, fun q => ?_⟩, rfl⟩
        exact c_39 (q.2 j (by omega) (by omega))
  refine wp_aload_n (pc := 0) dX4_isNamed_0 rfl rfl ?_
  refine wp_getI (pc := 1) 7 dX4_isNamed_1 fl_X4_110 rfl rfl ?_
  refine wp_aload_n (pc := 4) dX4_isNamed_4 rfl rfl ?_
  refine wp_strlength (pc := 5) (k := 2) (by decide) rfl dX4_isNamed_5 (Nat.le_of_ble_eq_true rfl) (Nat.le_of_ble_eq_true rfl) ?_
  refine wp_icmp_eq (pc := 8) 13 dX4_isNamed_8 (by decide) (fun c_8 => ?_) (fun c_8 => ?_)
  · refine wp_iconst (pc := 13) dX4_isNamed_13 (by decide) ?_
    refine wp_istore_n (pc := 14) dX4_isNamed_14 rfl (Nat.le_of_ble_eq_true rfl) rfl ?_
    exact lp 0 (by decide) (by decide) (by omega) (fun x x0 x1 => absurd x1 (by omega))
  · refine wp_iconst (pc := 11) dX4_isNamed_11 (by decide) ?_
    refine wp_zreturn (pc := 12) dX4_isNamed_12 rfl (by omega) ?_
    refine ⟨_, rfl, Or.inr ⟨rfl, fun q => c_8 ?_⟩, rfl⟩
    have := q.1
    omega

set_option maxHeartbeats 4000000 in
set_option maxRecDepth 100000 in
theorem c_isNamed_3 {σ : Sto} (h6 : 0 ≤ σ 38 6) (h7 : 0 ≤ σ 38 7) (hl : σ 38 6 + σ 38 7 ≤ 400) : CtI yX4_isNamed cX4_isNamed 3 (some .boolean) 5 [mR 38, mR 2003] σ (fun z σ' => ((z = 1 ∧ nmd σ 3) ∨ (z = 0 ∧ ¬ nmd σ 3)) ∧ σ' = σ) := by
  refine ct_of rfl [some (mR 38), some (mR 2003), none] (Nat.le_of_ble_eq_true rfl) rfl (fun hσ => ?_)
  show Wp cX4_isNamed RX4 (some .boolean) 5 0 [some (mR 38), some (mR 2003), none] [] _ _
  have hL : ((strLn.getD 3 0 : Nat) : Int) = 7 := rfl
  have lp : ∀ j, j ≤ 7 → 0 ≤ j → σ 38 7 = 7 → (∀ x, 0 ≤ x → x < j → σ 1 (σ 38 6 + x) = strC 3 x) → Wp cX4_isNamed RX4 (some .boolean) 5 15 [some (mR 38), some (mR 2003), some (mI j)] [] σ (fun v σ' => ∃ z, v = some (mI z) ∧ (fun z σ' => ((z = 1 ∧ nmd σ 3) ∨ (z = 0 ∧ ¬ nmd σ 3)) ∧ σ' = σ) z σ') := by
    refine up_ind 7 (fun j hj ih j0 hz hx => ?_)
    refine wp_iload_n (pc := 15) dX4_isNamed_15 rfl rfl ?_
    refine wp_aload_n (pc := 16) dX4_isNamed_16 rfl rfl ?_
    refine wp_getI (pc := 17) 7 dX4_isNamed_17 fl_X4_110 rfl rfl ?_
    refine wp_icmp_ge (pc := 20) 50 dX4_isNamed_20 (by decide) (fun c_20 => ?_) (fun c_20 => ?_)
    · refine wp_iconst (pc := 50) dX4_isNamed_50 (by decide) ?_
      refine wp_zreturn (pc := 51) dX4_isNamed_51 rfl (by omega) ?_
      exact ⟨_, rfl, Or.inl ⟨rfl, by omega, fun x x0 x1 => hx x x0 (by omega)⟩, rfl⟩
    · refine wp_aload_n (pc := 23) dX4_isNamed_23 rfl rfl ?_
      refine wp_getR (pc := 24) (q := 1) dX4_isNamed_24 fl_X4_9 rfl ?_
      refine wp_aload_n (pc := 27) dX4_isNamed_27 rfl rfl ?_
      refine wp_getI (pc := 28) 6 dX4_isNamed_28 fl_X4_62 rfl rfl ?_
      refine wp_iload_n (pc := 31) dX4_isNamed_31 rfl rfl ?_
      refine wp_iadd (pc := 32) dX4_isNamed_32 (by omega) ?_
      refine wp_bald (pc := 33) 400 dX4_isNamed_33 rfl (by omega) ?_
      refine wp_aload_n (pc := 34) dX4_isNamed_34 rfl rfl ?_
      refine wp_iload_n (pc := 35) dX4_isNamed_35 rfl rfl ?_
      refine wp_strcharAt (pc := 36) (k := 3) (by decide) rfl dX4_isNamed_36 (by omega) (Nat.le_of_ble_eq_true rfl) (Nat.le_of_ble_eq_true rfl) ?_
      refine wp_icmp_eq (pc := 39) 44 dX4_isNamed_39 (by decide) (fun c_39 => ?_) (fun c_39 => ?_)
      · refine wp_iinc (pc := 44) dX4_isNamed_44 rfl rfl (by omega) ?_
        refine wp_goto (pc := 47) 15 dX4_isNamed_47 (by decide) ?_
        refine ih (by omega) (by omega) hz (fun x x0 x1 => ?_)
        by_cases e : x = j
        · rw [e]; exact c_39
        · exact hx x x0 (by omega)
      · refine wp_iconst (pc := 42) dX4_isNamed_42 (by decide) ?_
        refine wp_zreturn (pc := 43) dX4_isNamed_43 rfl (by omega) ?_
        refine ⟨_, rfl, Or.inr ⟨rfl, fun q => ?_⟩, rfl⟩
        exact c_39 (q.2 j (by omega) (by omega))
  refine wp_aload_n (pc := 0) dX4_isNamed_0 rfl rfl ?_
  refine wp_getI (pc := 1) 7 dX4_isNamed_1 fl_X4_110 rfl rfl ?_
  refine wp_aload_n (pc := 4) dX4_isNamed_4 rfl rfl ?_
  refine wp_strlength (pc := 5) (k := 3) (by decide) rfl dX4_isNamed_5 (Nat.le_of_ble_eq_true rfl) (Nat.le_of_ble_eq_true rfl) ?_
  refine wp_icmp_eq (pc := 8) 13 dX4_isNamed_8 (by decide) (fun c_8 => ?_) (fun c_8 => ?_)
  · refine wp_iconst (pc := 13) dX4_isNamed_13 (by decide) ?_
    refine wp_istore_n (pc := 14) dX4_isNamed_14 rfl (Nat.le_of_ble_eq_true rfl) rfl ?_
    exact lp 0 (by decide) (by decide) (by omega) (fun x x0 x1 => absurd x1 (by omega))
  · refine wp_iconst (pc := 11) dX4_isNamed_11 (by decide) ?_
    refine wp_zreturn (pc := 12) dX4_isNamed_12 rfl (by omega) ?_
    refine ⟨_, rfl, Or.inr ⟨rfl, fun q => c_8 ?_⟩, rfl⟩
    have := q.1
    omega

set_option maxHeartbeats 4000000 in
set_option maxRecDepth 100000 in
theorem c_isNamed_4 {σ : Sto} (h6 : 0 ≤ σ 38 6) (h7 : 0 ≤ σ 38 7) (hl : σ 38 6 + σ 38 7 ≤ 400) : CtI yX4_isNamed cX4_isNamed 3 (some .boolean) 5 [mR 38, mR 2004] σ (fun z σ' => ((z = 1 ∧ nmd σ 4) ∨ (z = 0 ∧ ¬ nmd σ 4)) ∧ σ' = σ) := by
  refine ct_of rfl [some (mR 38), some (mR 2004), none] (Nat.le_of_ble_eq_true rfl) rfl (fun hσ => ?_)
  show Wp cX4_isNamed RX4 (some .boolean) 5 0 [some (mR 38), some (mR 2004), none] [] _ _
  have hL : ((strLn.getD 4 0 : Nat) : Int) = 7 := rfl
  have lp : ∀ j, j ≤ 7 → 0 ≤ j → σ 38 7 = 7 → (∀ x, 0 ≤ x → x < j → σ 1 (σ 38 6 + x) = strC 4 x) → Wp cX4_isNamed RX4 (some .boolean) 5 15 [some (mR 38), some (mR 2004), some (mI j)] [] σ (fun v σ' => ∃ z, v = some (mI z) ∧ (fun z σ' => ((z = 1 ∧ nmd σ 4) ∨ (z = 0 ∧ ¬ nmd σ 4)) ∧ σ' = σ) z σ') := by
    refine up_ind 7 (fun j hj ih j0 hz hx => ?_)
    refine wp_iload_n (pc := 15) dX4_isNamed_15 rfl rfl ?_
    refine wp_aload_n (pc := 16) dX4_isNamed_16 rfl rfl ?_
    refine wp_getI (pc := 17) 7 dX4_isNamed_17 fl_X4_110 rfl rfl ?_
    refine wp_icmp_ge (pc := 20) 50 dX4_isNamed_20 (by decide) (fun c_20 => ?_) (fun c_20 => ?_)
    · refine wp_iconst (pc := 50) dX4_isNamed_50 (by decide) ?_
      refine wp_zreturn (pc := 51) dX4_isNamed_51 rfl (by omega) ?_
      exact ⟨_, rfl, Or.inl ⟨rfl, by omega, fun x x0 x1 => hx x x0 (by omega)⟩, rfl⟩
    · refine wp_aload_n (pc := 23) dX4_isNamed_23 rfl rfl ?_
      refine wp_getR (pc := 24) (q := 1) dX4_isNamed_24 fl_X4_9 rfl ?_
      refine wp_aload_n (pc := 27) dX4_isNamed_27 rfl rfl ?_
      refine wp_getI (pc := 28) 6 dX4_isNamed_28 fl_X4_62 rfl rfl ?_
      refine wp_iload_n (pc := 31) dX4_isNamed_31 rfl rfl ?_
      refine wp_iadd (pc := 32) dX4_isNamed_32 (by omega) ?_
      refine wp_bald (pc := 33) 400 dX4_isNamed_33 rfl (by omega) ?_
      refine wp_aload_n (pc := 34) dX4_isNamed_34 rfl rfl ?_
      refine wp_iload_n (pc := 35) dX4_isNamed_35 rfl rfl ?_
      refine wp_strcharAt (pc := 36) (k := 4) (by decide) rfl dX4_isNamed_36 (by omega) (Nat.le_of_ble_eq_true rfl) (Nat.le_of_ble_eq_true rfl) ?_
      refine wp_icmp_eq (pc := 39) 44 dX4_isNamed_39 (by decide) (fun c_39 => ?_) (fun c_39 => ?_)
      · refine wp_iinc (pc := 44) dX4_isNamed_44 rfl rfl (by omega) ?_
        refine wp_goto (pc := 47) 15 dX4_isNamed_47 (by decide) ?_
        refine ih (by omega) (by omega) hz (fun x x0 x1 => ?_)
        by_cases e : x = j
        · rw [e]; exact c_39
        · exact hx x x0 (by omega)
      · refine wp_iconst (pc := 42) dX4_isNamed_42 (by decide) ?_
        refine wp_zreturn (pc := 43) dX4_isNamed_43 rfl (by omega) ?_
        refine ⟨_, rfl, Or.inr ⟨rfl, fun q => ?_⟩, rfl⟩
        exact c_39 (q.2 j (by omega) (by omega))
  refine wp_aload_n (pc := 0) dX4_isNamed_0 rfl rfl ?_
  refine wp_getI (pc := 1) 7 dX4_isNamed_1 fl_X4_110 rfl rfl ?_
  refine wp_aload_n (pc := 4) dX4_isNamed_4 rfl rfl ?_
  refine wp_strlength (pc := 5) (k := 4) (by decide) rfl dX4_isNamed_5 (Nat.le_of_ble_eq_true rfl) (Nat.le_of_ble_eq_true rfl) ?_
  refine wp_icmp_eq (pc := 8) 13 dX4_isNamed_8 (by decide) (fun c_8 => ?_) (fun c_8 => ?_)
  · refine wp_iconst (pc := 13) dX4_isNamed_13 (by decide) ?_
    refine wp_istore_n (pc := 14) dX4_isNamed_14 rfl (Nat.le_of_ble_eq_true rfl) rfl ?_
    exact lp 0 (by decide) (by decide) (by omega) (fun x x0 x1 => absurd x1 (by omega))
  · refine wp_iconst (pc := 11) dX4_isNamed_11 (by decide) ?_
    refine wp_zreturn (pc := 12) dX4_isNamed_12 rfl (by omega) ?_
    refine ⟨_, rfl, Or.inr ⟨rfl, fun q => c_8 ?_⟩, rfl⟩
    have := q.1
    omega

set_option maxHeartbeats 4000000 in
set_option maxRecDepth 100000 in
theorem c_isNamed_5 {σ : Sto} (h6 : 0 ≤ σ 38 6) (h7 : 0 ≤ σ 38 7) (hl : σ 38 6 + σ 38 7 ≤ 400) : CtI yX4_isNamed cX4_isNamed 3 (some .boolean) 5 [mR 38, mR 2005] σ (fun z σ' => ((z = 1 ∧ nmd σ 5) ∨ (z = 0 ∧ ¬ nmd σ 5)) ∧ σ' = σ) := by
  refine ct_of rfl [some (mR 38), some (mR 2005), none] (Nat.le_of_ble_eq_true rfl) rfl (fun hσ => ?_)
  show Wp cX4_isNamed RX4 (some .boolean) 5 0 [some (mR 38), some (mR 2005), none] [] _ _
  have hL : ((strLn.getD 5 0 : Nat) : Int) = 3 := rfl
  have lp : ∀ j, j ≤ 3 → 0 ≤ j → σ 38 7 = 3 → (∀ x, 0 ≤ x → x < j → σ 1 (σ 38 6 + x) = strC 5 x) → Wp cX4_isNamed RX4 (some .boolean) 5 15 [some (mR 38), some (mR 2005), some (mI j)] [] σ (fun v σ' => ∃ z, v = some (mI z) ∧ (fun z σ' => ((z = 1 ∧ nmd σ 5) ∨ (z = 0 ∧ ¬ nmd σ 5)) ∧ σ' = σ) z σ') := by
    refine up_ind 3 (fun j hj ih j0 hz hx => ?_)
    refine wp_iload_n (pc := 15) dX4_isNamed_15 rfl rfl ?_
    refine wp_aload_n (pc := 16) dX4_isNamed_16 rfl rfl ?_
    refine wp_getI (pc := 17) 7 dX4_isNamed_17 fl_X4_110 rfl rfl ?_
    refine wp_icmp_ge (pc := 20) 50 dX4_isNamed_20 (by decide) (fun c_20 => ?_) (fun c_20 => ?_)
    · refine wp_iconst (pc := 50) dX4_isNamed_50 (by decide) ?_
      refine wp_zreturn (pc := 51) dX4_isNamed_51 rfl (by omega) ?_
      exact ⟨_, rfl, Or.inl ⟨rfl, by omega, fun x x0 x1 => hx x x0 (by omega)⟩, rfl⟩
    · refine wp_aload_n (pc := 23) dX4_isNamed_23 rfl rfl ?_
      refine wp_getR (pc := 24) (q := 1) dX4_isNamed_24 fl_X4_9 rfl ?_
      refine wp_aload_n (pc := 27) dX4_isNamed_27 rfl rfl ?_
      refine wp_getI (pc := 28) 6 dX4_isNamed_28 fl_X4_62 rfl rfl ?_
      refine wp_iload_n (pc := 31) dX4_isNamed_31 rfl rfl ?_
      refine wp_iadd (pc := 32) dX4_isNamed_32 (by omega) ?_
      refine wp_bald (pc := 33) 400 dX4_isNamed_33 rfl (by omega) ?_
      refine wp_aload_n (pc := 34) dX4_isNamed_34 rfl rfl ?_
      refine wp_iload_n (pc := 35) dX4_isNamed_35 rfl rfl ?_
      refine wp_strcharAt (pc := 36) (k := 5) (by decide) rfl dX4_isNamed_36 (by omega) (Nat.le_of_ble_eq_true rfl) (Nat.le_of_ble_eq_true rfl) ?_
      refine wp_icmp_eq (pc := 39) 44 dX4_isNamed_39 (by decide) (fun c_39 => ?_) (fun c_39 => ?_)
      · refine wp_iinc (pc := 44) dX4_isNamed_44 rfl rfl (by omega) ?_
        refine wp_goto (pc := 47) 15 dX4_isNamed_47 (by decide) ?_
        refine ih (by omega) (by omega) hz (fun x x0 x1 => ?_)
        by_cases e : x = j
        · rw [e]; exact c_39
        · exact hx x x0 (by omega)
      · refine wp_iconst (pc := 42) dX4_isNamed_42 (by decide) ?_
        refine wp_zreturn (pc := 43) dX4_isNamed_43 rfl (by omega) ?_
        refine ⟨_, rfl, Or.inr ⟨rfl, fun q => ?_⟩, rfl⟩
        exact c_39 (q.2 j (by omega) (by omega))
  refine wp_aload_n (pc := 0) dX4_isNamed_0 rfl rfl ?_
  refine wp_getI (pc := 1) 7 dX4_isNamed_1 fl_X4_110 rfl rfl ?_
  refine wp_aload_n (pc := 4) dX4_isNamed_4 rfl rfl ?_
  refine wp_strlength (pc := 5) (k := 5) (by decide) rfl dX4_isNamed_5 (Nat.le_of_ble_eq_true rfl) (Nat.le_of_ble_eq_true rfl) ?_
  refine wp_icmp_eq (pc := 8) 13 dX4_isNamed_8 (by decide) (fun c_8 => ?_) (fun c_8 => ?_)
  · refine wp_iconst (pc := 13) dX4_isNamed_13 (by decide) ?_
    refine wp_istore_n (pc := 14) dX4_isNamed_14 rfl (Nat.le_of_ble_eq_true rfl) rfl ?_
    exact lp 0 (by decide) (by decide) (by omega) (fun x x0 x1 => absurd x1 (by omega))
  · refine wp_iconst (pc := 11) dX4_isNamed_11 (by decide) ?_
    refine wp_zreturn (pc := 12) dX4_isNamed_12 rfl (by omega) ?_
    refine ⟨_, rfl, Or.inr ⟨rfl, fun q => c_8 ?_⟩, rfl⟩
    have := q.1
    omega

set_option maxHeartbeats 4000000 in
set_option maxRecDepth 100000 in
theorem c_isNamed_6 {σ : Sto} (h6 : 0 ≤ σ 38 6) (h7 : 0 ≤ σ 38 7) (hl : σ 38 6 + σ 38 7 ≤ 400) : CtI yX4_isNamed cX4_isNamed 3 (some .boolean) 5 [mR 38, mR 2006] σ (fun z σ' => ((z = 1 ∧ nmd σ 6) ∨ (z = 0 ∧ ¬ nmd σ 6)) ∧ σ' = σ) := by
  refine ct_of rfl [some (mR 38), some (mR 2006), none] (Nat.le_of_ble_eq_true rfl) rfl (fun hσ => ?_)
  show Wp cX4_isNamed RX4 (some .boolean) 5 0 [some (mR 38), some (mR 2006), none] [] _ _
  have hL : ((strLn.getD 6 0 : Nat) : Int) = 3 := rfl
  have lp : ∀ j, j ≤ 3 → 0 ≤ j → σ 38 7 = 3 → (∀ x, 0 ≤ x → x < j → σ 1 (σ 38 6 + x) = strC 6 x) → Wp cX4_isNamed RX4 (some .boolean) 5 15 [some (mR 38), some (mR 2006), some (mI j)] [] σ (fun v σ' => ∃ z, v = some (mI z) ∧ (fun z σ' => ((z = 1 ∧ nmd σ 6) ∨ (z = 0 ∧ ¬ nmd σ 6)) ∧ σ' = σ) z σ') := by
    refine up_ind 3 (fun j hj ih j0 hz hx => ?_)
    refine wp_iload_n (pc := 15) dX4_isNamed_15 rfl rfl ?_
    refine wp_aload_n (pc := 16) dX4_isNamed_16 rfl rfl ?_
    refine wp_getI (pc := 17) 7 dX4_isNamed_17 fl_X4_110 rfl rfl ?_
    refine wp_icmp_ge (pc := 20) 50 dX4_isNamed_20 (by decide) (fun c_20 => ?_) (fun c_20 => ?_)
    · refine wp_iconst (pc := 50) dX4_isNamed_50 (by decide) ?_
      refine wp_zreturn (pc := 51) dX4_isNamed_51 rfl (by omega) ?_
      exact ⟨_, rfl, Or.inl ⟨rfl, by omega, fun x x0 x1 => hx x x0 (by omega)⟩, rfl⟩
    · refine wp_aload_n (pc := 23) dX4_isNamed_23 rfl rfl ?_
      refine wp_getR (pc := 24) (q := 1) dX4_isNamed_24 fl_X4_9 rfl ?_
      refine wp_aload_n (pc := 27) dX4_isNamed_27 rfl rfl ?_
      refine wp_getI (pc := 28) 6 dX4_isNamed_28 fl_X4_62 rfl rfl ?_
      refine wp_iload_n (pc := 31) dX4_isNamed_31 rfl rfl ?_
      refine wp_iadd (pc := 32) dX4_isNamed_32 (by omega) ?_
      refine wp_bald (pc := 33) 400 dX4_isNamed_33 rfl (by omega) ?_
      refine wp_aload_n (pc := 34) dX4_isNamed_34 rfl rfl ?_
      refine wp_iload_n (pc := 35) dX4_isNamed_35 rfl rfl ?_
      refine wp_strcharAt (pc := 36) (k := 6) (by decide) rfl dX4_isNamed_36 (by omega) (Nat.le_of_ble_eq_true rfl) (Nat.le_of_ble_eq_true rfl) ?_
      refine wp_icmp_eq (pc := 39) 44 dX4_isNamed_39 (by decide) (fun c_39 => ?_) (fun c_39 => ?_)
      · refine wp_iinc (pc := 44) dX4_isNamed_44 rfl rfl (by omega) ?_
        refine wp_goto (pc := 47) 15 dX4_isNamed_47 (by decide) ?_
        refine ih (by omega) (by omega) hz (fun x x0 x1 => ?_)
        by_cases e : x = j
        · rw [e]; exact c_39
        · exact hx x x0 (by omega)
      · refine wp_iconst (pc := 42) dX4_isNamed_42 (by decide) ?_
        refine wp_zreturn (pc := 43) dX4_isNamed_43 rfl (by omega) ?_
        refine ⟨_, rfl, Or.inr ⟨rfl, fun q => ?_⟩, rfl⟩
        exact c_39 (q.2 j (by omega) (by omega))
  refine wp_aload_n (pc := 0) dX4_isNamed_0 rfl rfl ?_
  refine wp_getI (pc := 1) 7 dX4_isNamed_1 fl_X4_110 rfl rfl ?_
  refine wp_aload_n (pc := 4) dX4_isNamed_4 rfl rfl ?_
  refine wp_strlength (pc := 5) (k := 6) (by decide) rfl dX4_isNamed_5 (Nat.le_of_ble_eq_true rfl) (Nat.le_of_ble_eq_true rfl) ?_
  refine wp_icmp_eq (pc := 8) 13 dX4_isNamed_8 (by decide) (fun c_8 => ?_) (fun c_8 => ?_)
  · refine wp_iconst (pc := 13) dX4_isNamed_13 (by decide) ?_
    refine wp_istore_n (pc := 14) dX4_isNamed_14 rfl (Nat.le_of_ble_eq_true rfl) rfl ?_
    exact lp 0 (by decide) (by decide) (by omega) (fun x x0 x1 => absurd x1 (by omega))
  · refine wp_iconst (pc := 11) dX4_isNamed_11 (by decide) ?_
    refine wp_zreturn (pc := 12) dX4_isNamed_12 rfl (by omega) ?_
    refine ⟨_, rfl, Or.inr ⟨rfl, fun q => c_8 ?_⟩, rfl⟩
    have := q.1
    omega

set_option maxHeartbeats 4000000 in
set_option maxRecDepth 100000 in
theorem c_isNamed_7 {σ : Sto} (h6 : 0 ≤ σ 38 6) (h7 : 0 ≤ σ 38 7) (hl : σ 38 6 + σ 38 7 ≤ 400) : CtI yX4_isNamed cX4_isNamed 3 (some .boolean) 5 [mR 38, mR 2007] σ (fun z σ' => ((z = 1 ∧ nmd σ 7) ∨ (z = 0 ∧ ¬ nmd σ 7)) ∧ σ' = σ) := by
  refine ct_of rfl [some (mR 38), some (mR 2007), none] (Nat.le_of_ble_eq_true rfl) rfl (fun hσ => ?_)
  show Wp cX4_isNamed RX4 (some .boolean) 5 0 [some (mR 38), some (mR 2007), none] [] _ _
  have hL : ((strLn.getD 7 0 : Nat) : Int) = 4 := rfl
  have lp : ∀ j, j ≤ 4 → 0 ≤ j → σ 38 7 = 4 → (∀ x, 0 ≤ x → x < j → σ 1 (σ 38 6 + x) = strC 7 x) → Wp cX4_isNamed RX4 (some .boolean) 5 15 [some (mR 38), some (mR 2007), some (mI j)] [] σ (fun v σ' => ∃ z, v = some (mI z) ∧ (fun z σ' => ((z = 1 ∧ nmd σ 7) ∨ (z = 0 ∧ ¬ nmd σ 7)) ∧ σ' = σ) z σ') := by
    refine up_ind 4 (fun j hj ih j0 hz hx => ?_)
    refine wp_iload_n (pc := 15) dX4_isNamed_15 rfl rfl ?_
    refine wp_aload_n (pc := 16) dX4_isNamed_16 rfl rfl ?_
    refine wp_getI (pc := 17) 7 dX4_isNamed_17 fl_X4_110 rfl rfl ?_
    refine wp_icmp_ge (pc := 20) 50 dX4_isNamed_20 (by decide) (fun c_20 => ?_) (fun c_20 => ?_)
    · refine wp_iconst (pc := 50) dX4_isNamed_50 (by decide) ?_
      refine wp_zreturn (pc := 51) dX4_isNamed_51 rfl (by omega) ?_
      exact ⟨_, rfl, Or.inl ⟨rfl, by omega, fun x x0 x1 => hx x x0 (by omega)⟩, rfl⟩
    · refine wp_aload_n (pc := 23) dX4_isNamed_23 rfl rfl ?_
      refine wp_getR (pc := 24) (q := 1) dX4_isNamed_24 fl_X4_9 rfl ?_
      refine wp_aload_n (pc := 27) dX4_isNamed_27 rfl rfl ?_
      refine wp_getI (pc := 28) 6 dX4_isNamed_28 fl_X4_62 rfl rfl ?_
      refine wp_iload_n (pc := 31) dX4_isNamed_31 rfl rfl ?_
      refine wp_iadd (pc := 32) dX4_isNamed_32 (by omega) ?_
      refine wp_bald (pc := 33) 400 dX4_isNamed_33 rfl (by omega) ?_
      refine wp_aload_n (pc := 34) dX4_isNamed_34 rfl rfl ?_
      refine wp_iload_n (pc := 35) dX4_isNamed_35 rfl rfl ?_
      refine wp_strcharAt (pc := 36) (k := 7) (by decide) rfl dX4_isNamed_36 (by omega) (Nat.le_of_ble_eq_true rfl) (Nat.le_of_ble_eq_true rfl) ?_
      refine wp_icmp_eq (pc := 39) 44 dX4_isNamed_39 (by decide) (fun c_39 => ?_) (fun c_39 => ?_)
      · refine wp_iinc (pc := 44) dX4_isNamed_44 rfl rfl (by omega) ?_
        refine wp_goto (pc := 47) 15 dX4_isNamed_47 (by decide) ?_
        refine ih (by omega) (by omega) hz (fun x x0 x1 => ?_)
        by_cases e : x = j
        · rw [e]; exact c_39
        · exact hx x x0 (by omega)
      · refine wp_iconst (pc := 42) dX4_isNamed_42 (by decide) ?_
        refine wp_zreturn (pc := 43) dX4_isNamed_43 rfl (by omega) ?_
        refine ⟨_, rfl, Or.inr ⟨rfl, fun q => ?_⟩, rfl⟩
        exact c_39 (q.2 j (by omega) (by omega))
  refine wp_aload_n (pc := 0) dX4_isNamed_0 rfl rfl ?_
  refine wp_getI (pc := 1) 7 dX4_isNamed_1 fl_X4_110 rfl rfl ?_
  refine wp_aload_n (pc := 4) dX4_isNamed_4 rfl rfl ?_
  refine wp_strlength (pc := 5) (k := 7) (by decide) rfl dX4_isNamed_5 (Nat.le_of_ble_eq_true rfl) (Nat.le_of_ble_eq_true rfl) ?_
  refine wp_icmp_eq (pc := 8) 13 dX4_isNamed_8 (by decide) (fun c_8 => ?_) (fun c_8 => ?_)
  · refine wp_iconst (pc := 13) dX4_isNamed_13 (by decide) ?_
    refine wp_istore_n (pc := 14) dX4_isNamed_14 rfl (Nat.le_of_ble_eq_true rfl) rfl ?_
    exact lp 0 (by decide) (by decide) (by omega) (fun x x0 x1 => absurd x1 (by omega))
  · refine wp_iconst (pc := 11) dX4_isNamed_11 (by decide) ?_
    refine wp_zreturn (pc := 12) dX4_isNamed_12 rfl (by omega) ?_
    refine ⟨_, rfl, Or.inr ⟨rfl, fun q => c_8 ?_⟩, rfl⟩
    have := q.1
    omega

set_option maxHeartbeats 4000000 in
set_option maxRecDepth 100000 in
theorem c_isNamed_8 {σ : Sto} (h6 : 0 ≤ σ 38 6) (h7 : 0 ≤ σ 38 7) (hl : σ 38 6 + σ 38 7 ≤ 400) : CtI yX4_isNamed cX4_isNamed 3 (some .boolean) 5 [mR 38, mR 2008] σ (fun z σ' => ((z = 1 ∧ nmd σ 8) ∨ (z = 0 ∧ ¬ nmd σ 8)) ∧ σ' = σ) := by
  refine ct_of rfl [some (mR 38), some (mR 2008), none] (Nat.le_of_ble_eq_true rfl) rfl (fun hσ => ?_)
  show Wp cX4_isNamed RX4 (some .boolean) 5 0 [some (mR 38), some (mR 2008), none] [] _ _
  have hL : ((strLn.getD 8 0 : Nat) : Int) = 6 := rfl
  have lp : ∀ j, j ≤ 6 → 0 ≤ j → σ 38 7 = 6 → (∀ x, 0 ≤ x → x < j → σ 1 (σ 38 6 + x) = strC 8 x) → Wp cX4_isNamed RX4 (some .boolean) 5 15 [some (mR 38), some (mR 2008), some (mI j)] [] σ (fun v σ' => ∃ z, v = some (mI z) ∧ (fun z σ' => ((z = 1 ∧ nmd σ 8) ∨ (z = 0 ∧ ¬ nmd σ 8)) ∧ σ' = σ) z σ') := by
    refine up_ind 6 (fun j hj ih j0 hz hx => ?_)
    refine wp_iload_n (pc := 15) dX4_isNamed_15 rfl rfl ?_
    refine wp_aload_n (pc := 16) dX4_isNamed_16 rfl rfl ?_
    refine wp_getI (pc := 17) 7 dX4_isNamed_17 fl_X4_110 rfl rfl ?_
    refine wp_icmp_ge (pc := 20) 50 dX4_isNamed_20 (by decide) (fun c_20 => ?_) (fun c_20 => ?_)
    · refine wp_iconst (pc := 50) dX4_isNamed_50 (by decide) ?_
      refine wp_zreturn (pc := 51) dX4_isNamed_51 rfl (by omega) ?_
      exact ⟨_, rfl, Or.inl ⟨rfl, by omega, fun x x0 x1 => hx x x0 (by omega)⟩, rfl⟩
    · refine wp_aload_n (pc := 23) dX4_isNamed_23 rfl rfl ?_
      refine wp_getR (pc := 24) (q := 1) dX4_isNamed_24 fl_X4_9 rfl ?_
      refine wp_aload_n (pc := 27) dX4_isNamed_27 rfl rfl ?_
      refine wp_getI (pc := 28) 6 dX4_isNamed_28 fl_X4_62 rfl rfl ?_
      refine wp_iload_n (pc := 31) dX4_isNamed_31 rfl rfl ?_
      refine wp_iadd (pc := 32) dX4_isNamed_32 (by omega) ?_
      refine wp_bald (pc := 33) 400 dX4_isNamed_33 rfl (by omega) ?_
      refine wp_aload_n (pc := 34) dX4_isNamed_34 rfl rfl ?_
      refine wp_iload_n (pc := 35) dX4_isNamed_35 rfl rfl ?_
      refine wp_strcharAt (pc := 36) (k := 8) (by decide) rfl dX4_isNamed_36 (by omega) (Nat.le_of_ble_eq_true rfl) (Nat.le_of_ble_eq_true rfl) ?_
      refine wp_icmp_eq (pc := 39) 44 dX4_isNamed_39 (by decide) (fun c_39 => ?_) (fun c_39 => ?_)
      · refine wp_iinc (pc := 44) dX4_isNamed_44 rfl rfl (by omega) ?_
        refine wp_goto (pc := 47) 15 dX4_isNamed_47 (by decide) ?_
        refine ih (by omega) (by omega) hz (fun x x0 x1 => ?_)
        by_cases e : x = j
        · rw [e]; exact c_39
        · exact hx x x0 (by omega)
      · refine wp_iconst (pc := 42) dX4_isNamed_42 (by decide) ?_
        refine wp_zreturn (pc := 43) dX4_isNamed_43 rfl (by omega) ?_
        refine ⟨_, rfl, Or.inr ⟨rfl, fun q => ?_⟩, rfl⟩
        exact c_39 (q.2 j (by omega) (by omega))
  refine wp_aload_n (pc := 0) dX4_isNamed_0 rfl rfl ?_
  refine wp_getI (pc := 1) 7 dX4_isNamed_1 fl_X4_110 rfl rfl ?_
  refine wp_aload_n (pc := 4) dX4_isNamed_4 rfl rfl ?_
  refine wp_strlength (pc := 5) (k := 8) (by decide) rfl dX4_isNamed_5 (Nat.le_of_ble_eq_true rfl) (Nat.le_of_ble_eq_true rfl) ?_
  refine wp_icmp_eq (pc := 8) 13 dX4_isNamed_8 (by decide) (fun c_8 => ?_) (fun c_8 => ?_)
  · refine wp_iconst (pc := 13) dX4_isNamed_13 (by decide) ?_
    refine wp_istore_n (pc := 14) dX4_isNamed_14 rfl (Nat.le_of_ble_eq_true rfl) rfl ?_
    exact lp 0 (by decide) (by decide) (by omega) (fun x x0 x1 => absurd x1 (by omega))
  · refine wp_iconst (pc := 11) dX4_isNamed_11 (by decide) ?_
    refine wp_zreturn (pc := 12) dX4_isNamed_12 rfl (by omega) ?_
    refine ⟨_, rfl, Or.inr ⟨rfl, fun q => c_8 ?_⟩, rfl⟩
    have := q.1
    omega

