set_option maxHeartbeats 4000000 in
set_option maxRecDepth 100000 in
theorem c_empty {σ : Sto} : CtV yX3_empty cX3_empty 1 none 0 [mR 20] σ (fun σ' => σ' = upd2 (upd2 σ 20 0 0) 20 1 0) := by
  refine ct_of rfl [some (mR 20)] (Nat.le_of_ble_eq_true rfl) rfl (fun hσ => ?_)
  show Wp cX3_empty RX3 none 0 0 [some (mR 20)] [] _ _
  refine wp_aload_n (pc := 0) dX3_empty_0 rfl rfl ?_
  refine wp_iconst (pc := 1) dX3_empty_1 (by decide) ?_
  refine wp_putI (pc := 2) 0 dX3_empty_2 fl_X3_35 ⟨rfl, rfl⟩ rfl rfl ?_
  refine wp_aload_n (pc := 5) dX3_empty_5 rfl rfl ?_
  refine wp_iconst (pc := 6) dX3_empty_6 (by decide) ?_
  refine wp_putI (pc := 7) 1 dX3_empty_7 fl_X3_39 ⟨rfl, rfl⟩ rfl rfl ?_
  refine wp_return (pc := 10) dX3_empty_10 rfl ?_
  exact ⟨rfl, rfl⟩
set_option maxHeartbeats 4000000 in
set_option maxRecDepth 100000 in
theorem c_addPar {σ : Sto} {g n : Int} (hn : 0 ≤ σ 20 0 ∧ σ 20 0 < 8) : CtV yX3_addPar cX3_addPar 3 none 0 [mR 20, mI g, mI n] σ (fun σ' => σ' = upd2 (upd2 (upd2 (upd2 σ 22 (σ 20 0) 0) 23 (σ 20 0) g) 24 (σ 20 0) n) 20 0 (σ 20 0 + 1)) := by
  refine ct_of rfl [some (mR 20), some (mI g), some (mI n)] (Nat.le_of_ble_eq_true rfl) rfl (fun hσ => ?_)
  show Wp cX3_addPar RX3 none 0 0 [some (mR 20), some (mI g), some (mI n)] [] _ _
  refine wp_aload_n (pc := 0) dX3_addPar_0 rfl rfl ?_
  refine wp_getI (pc := 1) 0 dX3_addPar_1 fl_X3_35 rfl rfl ?_
  refine wp_bipush (pc := 4) dX3_addPar_4 (by decide) (by decide) ?_
  refine wp_icmp_ge (pc := 6) 49 dX3_addPar_6 (by decide) (fun c_6 => ?_) (fun c_6 => ?_)
  · omega
  · refine wp_aload_n (pc := 9) dX3_addPar_9 rfl rfl ?_
    refine wp_getR (pc := 10) (q := 22) dX3_addPar_10 fl_X3_15 rfl ?_
    refine wp_aload_n (pc := 13) dX3_addPar_13 rfl rfl ?_
    refine wp_getI (pc := 14) 0 dX3_addPar_14 fl_X3_35 rfl rfl ?_
    refine wp_iconst (pc := 17) dX3_addPar_17 (by decide) ?_
    refine wp_iast (pc := 18) 8 dX3_addPar_18 rfl (by omega) ?_
    refine wp_aload_n (pc := 19) dX3_addPar_19 rfl rfl ?_
    refine wp_getR (pc := 20) (q := 23) dX3_addPar_20 fl_X3_18 rfl ?_
    refine wp_aload_n (pc := 23) dX3_addPar_23 rfl rfl ?_
    refine wp_getI (pc := 24) 0 dX3_addPar_24 fl_X3_35 rfl rfl ?_
    rw [upd2_r (r := 22) (r' := 20) (by decide)]
    refine wp_iload_n (pc := 27) dX3_addPar_27 rfl rfl ?_
    refine wp_iast (pc := 28) 8 dX3_addPar_28 rfl (by omega) ?_
    refine wp_aload_n (pc := 29) dX3_addPar_29 rfl rfl ?_
    refine wp_getR (pc := 30) (q := 24) dX3_addPar_30 fl_X3_21 rfl ?_
    refine wp_aload_n (pc := 33) dX3_addPar_33 rfl rfl ?_
    refine wp_getI (pc := 34) 0 dX3_addPar_34 fl_X3_35 rfl rfl ?_
    rw [upd2_r (r := 23) (r' := 20) (by decide), upd2_r (r := 22) (r' := 20) (by decide)]
    refine wp_iload_n (pc := 37) dX3_addPar_37 rfl rfl ?_
    refine wp_iast (pc := 38) 8 dX3_addPar_38 rfl (by omega) ?_
    refine wp_aload_n (pc := 39) dX3_addPar_39 rfl rfl ?_
    refine wp_dup (pc := 40) dX3_addPar_40 (fun _ h => by cases h) ?_
    refine wp_getI (pc := 41) 0 dX3_addPar_41 fl_X3_35 rfl rfl ?_
    rw [upd2_r (r := 24) (r' := 20) (by decide), upd2_r (r := 23) (r' := 20) (by decide), upd2_r (r := 22) (r' := 20) (by decide)]
    refine wp_iconst (pc := 44) dX3_addPar_44 (by decide) ?_
    refine wp_iadd (pc := 45) dX3_addPar_45 (by omega) ?_
    refine wp_putI (pc := 46) 0 dX3_addPar_46 fl_X3_35 ⟨rfl, rfl⟩ rfl rfl ?_
    refine wp_return (pc := 49) dX3_addPar_49 rfl ?_
    exact ⟨rfl, rfl⟩
set_option maxHeartbeats 4000000 in
set_option maxRecDepth 100000 in
theorem c_addWord {σ : Sto} {c : Int} (hn : 0 < σ 20 0 ∧ σ 20 0 ≤ 8) (ht : 0 ≤ σ 20 1 ∧ σ 20 1 < 80) (hs : 0 ≤ σ 22 (σ 20 0 - 1) ∧ σ 22 (σ 20 0 - 1) ≤ 80) : CtV yX3_addWord cX3_addWord 2 none 0 [mR 20, mI c] σ (fun σ' => σ' = upd2 (upd2 (upd2 σ 21 (σ 20 1) c) 20 1 (σ 20 1 + 1)) 22 (σ 20 0 - 1) (σ 22 (σ 20 0 - 1) + 1)) := by
  refine ct_of rfl [some (mR 20), some (mI c)] (Nat.le_of_ble_eq_true rfl) rfl (fun hσ => ?_)
  show Wp cX3_addWord RX3 none 0 0 [some (mR 20), some (mI c)] [] _ _
  refine wp_aload_n (pc := 0) dX3_addWord_0 rfl rfl ?_
  refine wp_getI (pc := 1) 0 dX3_addWord_1 fl_X3_35 rfl rfl ?_
  refine wp_if_le (pc := 4) 51 dX3_addWord_4 (by decide) (fun c_4 => ?_) (fun c_4 => ?_)
  · omega
  · refine wp_aload_n (pc := 7) dX3_addWord_7 rfl rfl ?_
    refine wp_getI (pc := 8) 1 dX3_addWord_8 fl_X3_39 rfl rfl ?_
    refine wp_bipush (pc := 11) dX3_addWord_11 (by decide) (by decide) ?_
    refine wp_icmp_ge (pc := 13) 51 dX3_addWord_13 (by decide) (fun c_13 => ?_) (fun c_13 => ?_)
    · omega
    · refine wp_aload_n (pc := 16) dX3_addWord_16 rfl rfl ?_
      refine wp_getR (pc := 17) (q := 21) dX3_addWord_17 fl_X3_9 rfl ?_
      refine wp_aload_n (pc := 20) dX3_addWord_20 rfl rfl ?_
      refine wp_getI (pc := 21) 1 dX3_addWord_21 fl_X3_39 rfl rfl ?_
      refine wp_iload_n (pc := 24) dX3_addWord_24 rfl rfl ?_
      refine wp_iast (pc := 25) 80 dX3_addWord_25 rfl (by omega) ?_
      refine wp_aload_n (pc := 26) dX3_addWord_26 rfl rfl ?_
      refine wp_dup (pc := 27) dX3_addWord_27 (fun _ h => by cases h) ?_
      refine wp_getI (pc := 28) 1 dX3_addWord_28 fl_X3_39 rfl rfl ?_
      rw [upd2_r (r := 21) (r' := 20) (by decide)]
      refine wp_iconst (pc := 31) dX3_addWord_31 (by decide) ?_
      refine wp_iadd (pc := 32) dX3_addWord_32 (by omega) ?_
      refine wp_putI (pc := 33) 1 dX3_addWord_33 fl_X3_39 ⟨rfl, rfl⟩ rfl rfl ?_
      refine wp_aload_n (pc := 36) dX3_addWord_36 rfl rfl ?_
      refine wp_getR (pc := 37) (q := 22) dX3_addWord_37 fl_X3_15 rfl ?_
      refine wp_aload_n (pc := 40) dX3_addWord_40 rfl rfl ?_
      refine wp_getI (pc := 41) 0 dX3_addWord_41 fl_X3_35 rfl rfl ?_
      rw [upd2_k (r := 20) (k := 1) (k' := 0) (by decide), upd2_r (r := 21) (r' := 20) (by decide)]
      refine wp_iconst (pc := 44) dX3_addWord_44 (by decide) ?_
      refine wp_isub (pc := 45) dX3_addWord_45 (by omega) ?_
      refine wp_dup2 (pc := 46) dX3_addWord_46 (fun _ h => by cases h) (fun _ h => by cases h) ?_
      refine wp_iald (pc := 47) 8 dX3_addWord_47 rfl (by omega) ?_
      rw [upd2_r (r := 20) (r' := 22) (by decide), upd2_r (r := 21) (r' := 22) (by decide)]
      refine wp_iconst (pc := 48) dX3_addWord_48 (by decide) ?_
      refine wp_iadd (pc := 49) dX3_addWord_49 (by omega) ?_
      refine wp_iast (pc := 50) 8 dX3_addWord_50 rfl (by omega) ?_
      refine wp_return (pc := 51) dX3_addWord_51 rfl ?_
      exact ⟨rfl, rfl⟩
set_option maxHeartbeats 4000000 in
set_option maxRecDepth 100000 in
theorem c_takeSettings_14_20 {σ : Sto} : CtV yX3_takeSettings cX3_takeSettings 2 none 1 [mR 14, mR 20] σ (fun σ' => σ' = cpy2 σ 25 19 0 0 6) := by
  refine ct_of rfl [some (mR 14), some (mR 20)] (Nat.le_of_ble_eq_true rfl) rfl (fun hσ => ?_)
  show Wp cX3_takeSettings RX3 none 1 0 [some (mR 14), some (mR 20)] [] _ _
  refine wp_aload_n (pc := 0) dX3_takeSettings_0 rfl rfl ?_
  refine wp_getR (pc := 1) (q := 25) dX3_takeSettings_1 fl_X3_32 rfl ?_
  refine wp_iconst (pc := 4) dX3_takeSettings_4 (by decide) ?_
  refine wp_aload_n (pc := 5) dX3_takeSettings_5 rfl rfl ?_
  refine wp_getR (pc := 6) (q := 19) dX3_takeSettings_6 fl_X3_32 rfl ?_
  refine wp_iconst (pc := 9) dX3_takeSettings_9 (by decide) ?_
  refine wp_bipush (pc := 10) dX3_takeSettings_10 (by decide) (by decide) ?_
  refine wp_copy (pc := 12) 6 6 dX3_takeSettings_12 cp_X3_42 rfl rfl (by omega) (by omega) (by omega) (by omega) (by omega) (by decide) (Nat.le_of_ble_eq_true rfl) ?_
  refine wp_return (pc := 15) dX3_takeSettings_15 rfl ?_
  exact ⟨rfl, rfl⟩
set_option maxHeartbeats 4000000 in
set_option maxRecDepth 100000 in
theorem c_copyFrom_14_20 {σ : Sto} : CtV yX3_copyFrom cX3_copyFrom 2 none 2 [mR 14, mR 20] σ (fun σ' => Frm [14, 15, 16, 17, 18, 19] σ σ' ∧ σ' 14 0 = σ 20 0 ∧ σ' 14 1 = σ 20 1 ∧ (∀ k, 0 ≤ k → k < 80 → σ' 15 k = σ 21 k) ∧ (∀ k, 0 ≤ k → k < 8 → σ' 16 k = σ 22 k ∧ σ' 17 k = σ 23 k ∧ σ' 18 k = σ 24 k) ∧ ∀ k, 0 ≤ k → k < 6 → σ' 19 k = σ 25 k) := by
  refine ct_of rfl [some (mR 14), some (mR 20)] (Nat.le_of_ble_eq_true rfl) rfl (fun hσ => ?_)
  show Wp cX3_copyFrom RX3 none 2 0 [some (mR 14), some (mR 20)] [] _ _
  refine wp_aload_n (pc := 0) dX3_copyFrom_0 rfl rfl ?_
  refine wp_aload_n (pc := 1) dX3_copyFrom_1 rfl rfl ?_
  refine wp_getI (pc := 2) 0 dX3_copyFrom_2 fl_X3_35 rfl rfl ?_
  refine wp_putI (pc := 5) 0 dX3_copyFrom_5 fl_X3_35 ⟨rfl, rfl⟩ rfl rfl ?_
  refine wp_aload_n (pc := 8) dX3_copyFrom_8 rfl rfl ?_
  refine wp_aload_n (pc := 9) dX3_copyFrom_9 rfl rfl ?_
  refine wp_getI (pc := 10) 1 dX3_copyFrom_10 fl_X3_39 rfl rfl ?_
  rw [upd2_r (r := 14) (r' := 20) (by decide)]
  refine wp_putI (pc := 13) 1 dX3_copyFrom_13 fl_X3_39 ⟨rfl, rfl⟩ rfl rfl ?_
  refine wp_aload_n (pc := 16) dX3_copyFrom_16 rfl rfl ?_
  refine wp_getR (pc := 17) (q := 21) dX3_copyFrom_17 fl_X3_9 rfl ?_
  refine wp_iconst (pc := 20) dX3_copyFrom_20 (by decide) ?_
  refine wp_aload_n (pc := 21) dX3_copyFrom_21 rfl rfl ?_
  refine wp_getR (pc := 22) (q := 15) dX3_copyFrom_22 fl_X3_9 rfl ?_
  refine wp_iconst (pc := 25) dX3_copyFrom_25 (by decide) ?_
  refine wp_bipush (pc := 26) dX3_copyFrom_26 (by decide) (by decide) ?_
  refine wp_copy (pc := 28) 80 80 dX3_copyFrom_28 cp_X3_42 rfl rfl (by omega) (by omega) (by omega) (by omega) (by omega) (by decide) (Nat.le_of_ble_eq_true rfl) ?_
  refine wp_aload_n (pc := 31) dX3_copyFrom_31 rfl rfl ?_
  refine wp_getR (pc := 32) (q := 22) dX3_copyFrom_32 fl_X3_15 rfl ?_
  refine wp_iconst (pc := 35) dX3_copyFrom_35 (by decide) ?_
  refine wp_aload_n (pc := 36) dX3_copyFrom_36 rfl rfl ?_
  refine wp_getR (pc := 37) (q := 16) dX3_copyFrom_37 fl_X3_15 rfl ?_
  refine wp_iconst (pc := 40) dX3_copyFrom_40 (by decide) ?_
  refine wp_bipush (pc := 41) dX3_copyFrom_41 (by decide) (by decide) ?_
  refine wp_copy (pc := 43) 8 8 dX3_copyFrom_43 cp_X3_42 rfl rfl (by omega) (by omega) (by omega) (by omega) (by omega) (by decide) (Nat.le_of_ble_eq_true rfl) ?_
  refine wp_aload_n (pc := 46) dX3_copyFrom_46 rfl rfl ?_
  refine wp_getR (pc := 47) (q := 23) dX3_copyFrom_47 fl_X3_18 rfl ?_
  refine wp_iconst (pc := 50) dX3_copyFrom_50 (by decide) ?_
  refine wp_aload_n (pc := 51) dX3_copyFrom_51 rfl rfl ?_
  refine wp_getR (pc := 52) (q := 17) dX3_copyFrom_52 fl_X3_18 rfl ?_
  refine wp_iconst (pc := 55) dX3_copyFrom_55 (by decide) ?_
  refine wp_bipush (pc := 56) dX3_copyFrom_56 (by decide) (by decide) ?_
  refine wp_copy (pc := 58) 8 8 dX3_copyFrom_58 cp_X3_42 rfl rfl (by omega) (by omega) (by omega) (by omega) (by omega) (by decide) (Nat.le_of_ble_eq_true rfl) ?_
  refine wp_aload_n (pc := 61) dX3_copyFrom_61 rfl rfl ?_
  refine wp_getR (pc := 62) (q := 24) dX3_copyFrom_62 fl_X3_21 rfl ?_
  refine wp_iconst (pc := 65) dX3_copyFrom_65 (by decide) ?_
  refine wp_aload_n (pc := 66) dX3_copyFrom_66 rfl rfl ?_
  refine wp_getR (pc := 67) (q := 18) dX3_copyFrom_67 fl_X3_21 rfl ?_
  refine wp_iconst (pc := 70) dX3_copyFrom_70 (by decide) ?_
  refine wp_bipush (pc := 71) dX3_copyFrom_71 (by decide) (by decide) ?_
  refine wp_copy (pc := 73) 8 8 dX3_copyFrom_73 cp_X3_42 rfl rfl (by omega) (by omega) (by omega) (by omega) (by omega) (by decide) (Nat.le_of_ble_eq_true rfl) ?_
  refine wp_aload_n (pc := 76) dX3_copyFrom_76 rfl rfl ?_
  refine wp_aload_n (pc := 77) dX3_copyFrom_77 rfl rfl ?_
  refine wp_cvV1 (pc := 78) dX3_copyFrom_78 mv_X3_48 c_takeSettings_14_20 (Nat.le_of_ble_eq_true rfl) rfl (Nat.le_of_ble_eq_true rfl) (fun σ_78 h_78 => ?_)
  subst h_78
  refine wp_return (pc := 81) dX3_copyFrom_81 rfl ?_
  refine ⟨rfl, (((((Frm.rf.up (by decide)).up (by decide)).cp (by decide)).cp (by decide)).cp (by decide)).cp (by decide) |>.cp (by decide), ?_, ?_, fun k h0 h1 => ?_, fun k h0 h1 => ⟨?_, ?_, ?_⟩, fun k h0 h1 => ?_⟩
  · simp [cpy2, upd2]
  · simp [cpy2, upd2]
  · simp [cpy2, upd2, h0, h1]
  · simp [cpy2, upd2, h0, h1]
  · simp [cpy2, upd2, h0, h1]
  · simp [cpy2, upd2, h0, h1]
  · simp [cpy2, upd2, h0, h1]

set_option maxHeartbeats 4000000 in
set_option maxRecDepth 100000 in
theorem c_takeSettings_26_14 {σ : Sto} : CtV yX3_takeSettings cX3_takeSettings 2 none 1 [mR 26, mR 14] σ (fun σ' => σ' = cpy2 σ 19 31 0 0 6) := by
  refine ct_of rfl [some (mR 26), some (mR 14)] (Nat.le_of_ble_eq_true rfl) rfl (fun hσ => ?_)
  show Wp cX3_takeSettings RX3 none 1 0 [some (mR 26), some (mR 14)] [] _ _
  refine wp_aload_n (pc := 0) dX3_takeSettings_0 rfl rfl ?_
  refine wp_getR (pc := 1) (q := 19) dX3_takeSettings_1 fl_X3_32 rfl ?_
  refine wp_iconst (pc := 4) dX3_takeSettings_4 (by decide) ?_
  refine wp_aload_n (pc := 5) dX3_takeSettings_5 rfl rfl ?_
  refine wp_getR (pc := 6) (q := 31) dX3_takeSettings_6 fl_X3_32 rfl ?_
  refine wp_iconst (pc := 9) dX3_takeSettings_9 (by decide) ?_
  refine wp_bipush (pc := 10) dX3_takeSettings_10 (by decide) (by decide) ?_
  refine wp_copy (pc := 12) 6 6 dX3_takeSettings_12 cp_X3_42 rfl rfl (by omega) (by omega) (by omega) (by omega) (by omega) (by decide) (Nat.le_of_ble_eq_true rfl) ?_
  refine wp_return (pc := 15) dX3_takeSettings_15 rfl ?_
  exact ⟨rfl, rfl⟩
set_option maxHeartbeats 4000000 in
set_option maxRecDepth 100000 in
theorem c_copyFrom_26_14 {σ : Sto} : CtV yX3_copyFrom cX3_copyFrom 2 none 2 [mR 26, mR 14] σ (fun σ' => Frm [26, 27, 28, 29, 30, 31] σ σ' ∧ σ' 26 0 = σ 14 0 ∧ σ' 26 1 = σ 14 1 ∧ (∀ k, 0 ≤ k → k < 80 → σ' 27 k = σ 15 k) ∧ (∀ k, 0 ≤ k → k < 8 → σ' 28 k = σ 16 k ∧ σ' 29 k = σ 17 k ∧ σ' 30 k = σ 18 k) ∧ ∀ k, 0 ≤ k → k < 6 → σ' 31 k = σ 19 k) := by
  refine ct_of rfl [some (mR 26), some (mR 14)] (Nat.le_of_ble_eq_true rfl) rfl (fun hσ => ?_)
  show Wp cX3_copyFrom RX3 none 2 0 [some (mR 26), some (mR 14)] [] _ _
  refine wp_aload_n (pc := 0) dX3_copyFrom_0 rfl rfl ?_
  refine wp_aload_n (pc := 1) dX3_copyFrom_1 rfl rfl ?_
  refine wp_getI (pc := 2) 0 dX3_copyFrom_2 fl_X3_35 rfl rfl ?_
  refine wp_putI (pc := 5) 0 dX3_copyFrom_5 fl_X3_35 ⟨rfl, rfl⟩ rfl rfl ?_
  refine wp_aload_n (pc := 8) dX3_copyFrom_8 rfl rfl ?_
  refine wp_aload_n (pc := 9) dX3_copyFrom_9 rfl rfl ?_
  refine wp_getI (pc := 10) 1 dX3_copyFrom_10 fl_X3_39 rfl rfl ?_
  rw [upd2_r (r := 26) (r' := 14) (by decide)]
  refine wp_putI (pc := 13) 1 dX3_copyFrom_13 fl_X3_39 ⟨rfl, rfl⟩ rfl rfl ?_
  refine wp_aload_n (pc := 16) dX3_copyFrom_16 rfl rfl ?_
  refine wp_getR (pc := 17) (q := 15) dX3_copyFrom_17 fl_X3_9 rfl ?_
  refine wp_iconst (pc := 20) dX3_copyFrom_20 (by decide) ?_
  refine wp_aload_n (pc := 21) dX3_copyFrom_21 rfl rfl ?_
  refine wp_getR (pc := 22) (q := 27) dX3_copyFrom_22 fl_X3_9 rfl ?_
  refine wp_iconst (pc := 25) dX3_copyFrom_25 (by decide) ?_
  refine wp_bipush (pc := 26) dX3_copyFrom_26 (by decide) (by decide) ?_
  refine wp_copy (pc := 28) 80 80 dX3_copyFrom_28 cp_X3_42 rfl rfl (by omega) (by omega) (by omega) (by omega) (by omega) (by decide) (Nat.le_of_ble_eq_true rfl) ?_
  refine wp_aload_n (pc := 31) dX3_copyFrom_31 rfl rfl ?_
  refine wp_getR (pc := 32) (q := 16) dX3_copyFrom_32 fl_X3_15 rfl ?_
  refine wp_iconst (pc := 35) dX3_copyFrom_35 (by decide) ?_
  refine wp_aload_n (pc := 36) dX3_copyFrom_36 rfl rfl ?_
  refine wp_getR (pc := 37) (q := 28) dX3_copyFrom_37 fl_X3_15 rfl ?_
  refine wp_iconst (pc := 40) dX3_copyFrom_40 (by decide) ?_
  refine wp_bipush (pc := 41) dX3_copyFrom_41 (by decide) (by decide) ?_
  refine wp_copy (pc := 43) 8 8 dX3_copyFrom_43 cp_X3_42 rfl rfl (by omega) (by omega) (by omega) (by omega) (by omega) (by decide) (Nat.le_of_ble_eq_true rfl) ?_
  refine wp_aload_n (pc := 46) dX3_copyFrom_46 rfl rfl ?_
  refine wp_getR (pc := 47) (q := 17) dX3_copyFrom_47 fl_X3_18 rfl ?_
  refine wp_iconst (pc := 50) dX3_copyFrom_50 (by decide) ?_
  refine wp_aload_n (pc := 51) dX3_copyFrom_51 rfl rfl ?_
  refine wp_getR (pc := 52) (q := 29) dX3_copyFrom_52 fl_X3_18 rfl ?_
  refine wp_iconst (pc := 55) dX3_copyFrom_55 (by decide) ?_
  refine wp_bipush (pc := 56) dX3_copyFrom_56 (by decide) (by decide) ?_
  refine wp_copy (pc := 58) 8 8 dX3_copyFrom_58 cp_X3_42 rfl rfl (by omega) (by omega) (by omega) (by omega) (by omega) (by decide) (Nat.le_of_ble_eq_true rfl) ?_
  refine wp_aload_n (pc := 61) dX3_copyFrom_61 rfl rfl ?_
  refine wp_getR (pc := 62) (q := 18) dX3_copyFrom_62 fl_X3_21 rfl ?_
  refine wp_iconst (pc := 65) dX3_copyFrom_65 (by decide) ?_
  refine wp_aload_n (pc := 66) dX3_copyFrom_66 rfl rfl ?_
  refine wp_getR (pc := 67) (q := 30) dX3_copyFrom_67 fl_X3_21 rfl ?_
  refine wp_iconst (pc := 70) dX3_copyFrom_70 (by decide) ?_
  refine wp_bipush (pc := 71) dX3_copyFrom_71 (by decide) (by decide) ?_
  refine wp_copy (pc := 73) 8 8 dX3_copyFrom_73 cp_X3_42 rfl rfl (by omega) (by omega) (by omega) (by omega) (by omega) (by decide) (Nat.le_of_ble_eq_true rfl) ?_
  refine wp_aload_n (pc := 76) dX3_copyFrom_76 rfl rfl ?_
  refine wp_aload_n (pc := 77) dX3_copyFrom_77 rfl rfl ?_
  refine wp_cvV1 (pc := 78) dX3_copyFrom_78 mv_X3_48 c_takeSettings_26_14 (Nat.le_of_ble_eq_true rfl) rfl (Nat.le_of_ble_eq_true rfl) (fun σ_78 h_78 => ?_)
  subst h_78
  refine wp_return (pc := 81) dX3_copyFrom_81 rfl ?_
  refine ⟨rfl, (((((Frm.rf.up (by decide)).up (by decide)).cp (by decide)).cp (by decide)).cp (by decide)).cp (by decide) |>.cp (by decide), ?_, ?_, fun k h0 h1 => ?_, fun k h0 h1 => ⟨?_, ?_, ?_⟩, fun k h0 h1 => ?_⟩
  · simp [cpy2, upd2]
  · simp [cpy2, upd2]
  · simp [cpy2, upd2, h0, h1]
  · simp [cpy2, upd2, h0, h1]
  · simp [cpy2, upd2, h0, h1]
  · simp [cpy2, upd2, h0, h1]
  · simp [cpy2, upd2, h0, h1]

set_option maxHeartbeats 4000000 in
set_option maxRecDepth 100000 in
theorem c_takeSettings_32_14 {σ : Sto} : CtV yX3_takeSettings cX3_takeSettings 2 none 1 [mR 32, mR 14] σ (fun σ' => σ' = cpy2 σ 19 37 0 0 6) := by
  refine ct_of rfl [some (mR 32), some (mR 14)] (Nat.le_of_ble_eq_true rfl) rfl (fun hσ => ?_)
  show Wp cX3_takeSettings RX3 none 1 0 [some (mR 32), some (mR 14)] [] _ _
  refine wp_aload_n (pc := 0) dX3_takeSettings_0 rfl rfl ?_
  refine wp_getR (pc := 1) (q := 19) dX3_takeSettings_1 fl_X3_32 rfl ?_
  refine wp_iconst (pc := 4) dX3_takeSettings_4 (by decide) ?_
  refine wp_aload_n (pc := 5) dX3_takeSettings_5 rfl rfl ?_
  refine wp_getR (pc := 6) (q := 37) dX3_takeSettings_6 fl_X3_32 rfl ?_
  refine wp_iconst (pc := 9) dX3_takeSettings_9 (by decide) ?_
  refine wp_bipush (pc := 10) dX3_takeSettings_10 (by decide) (by decide) ?_
  refine wp_copy (pc := 12) 6 6 dX3_takeSettings_12 cp_X3_42 rfl rfl (by omega) (by omega) (by omega) (by omega) (by omega) (by decide) (Nat.le_of_ble_eq_true rfl) ?_
  refine wp_return (pc := 15) dX3_takeSettings_15 rfl ?_
  exact ⟨rfl, rfl⟩
set_option maxHeartbeats 4000000 in
set_option maxRecDepth 100000 in
theorem c_copyFrom_32_14 {σ : Sto} : CtV yX3_copyFrom cX3_copyFrom 2 none 2 [mR 32, mR 14] σ (fun σ' => Frm [32, 33, 34, 35, 36, 37] σ σ' ∧ σ' 32 0 = σ 14 0 ∧ σ' 32 1 = σ 14 1 ∧ (∀ k, 0 ≤ k → k < 80 → σ' 33 k = σ 15 k) ∧ (∀ k, 0 ≤ k → k < 8 → σ' 34 k = σ 16 k ∧ σ' 35 k = σ 17 k ∧ σ' 36 k = σ 18 k) ∧ ∀ k, 0 ≤ k → k < 6 → σ' 37 k = σ 19 k) := by
  refine ct_of rfl [some (mR 32), some (mR 14)] (Nat.le_of_ble_eq_true rfl) rfl (fun hσ => ?_)
  show Wp cX3_copyFrom RX3 none 2 0 [some (mR 32), some (mR 14)] [] _ _
  refine wp_aload_n (pc := 0) dX3_copyFrom_0 rfl rfl ?_
  refine wp_aload_n (pc := 1) dX3_copyFrom_1 rfl rfl ?_
  refine wp_getI (pc := 2) 0 dX3_copyFrom_2 fl_X3_35 rfl rfl ?_
  refine wp_putI (pc := 5) 0 dX3_copyFrom_5 fl_X3_35 ⟨rfl, rfl⟩ rfl rfl ?_
  refine wp_aload_n (pc := 8) dX3_copyFrom_8 rfl rfl ?_
  refine wp_aload_n (pc := 9) dX3_copyFrom_9 rfl rfl ?_
  refine wp_getI (pc := 10) 1 dX3_copyFrom_10 fl_X3_39 rfl rfl ?_
  rw [upd2_r (r := 32) (r' := 14) (by decide)]
  refine wp_putI (pc := 13) 1 dX3_copyFrom_13 fl_X3_39 ⟨rfl, rfl⟩ rfl rfl ?_
  refine wp_aload_n (pc := 16) dX3_copyFrom_16 rfl rfl ?_
  refine wp_getR (pc := 17) (q := 15) dX3_copyFrom_17 fl_X3_9 rfl ?_
  refine wp_iconst (pc := 20) dX3_copyFrom_20 (by decide) ?_
  refine wp_aload_n (pc := 21) dX3_copyFrom_21 rfl rfl ?_
  refine wp_getR (pc := 22) (q := 33) dX3_copyFrom_22 fl_X3_9 rfl ?_
  refine wp_iconst (pc := 25) dX3_copyFrom_25 (by decide) ?_
  refine wp_bipush (pc := 26) dX3_copyFrom_26 (by decide) (by decide) ?_
  refine wp_copy (pc := 28) 80 80 dX3_copyFrom_28 cp_X3_42 rfl rfl (by omega) (by omega) (by omega) (by omega) (by omega) (by decide) (Nat.le_of_ble_eq_true rfl) ?_
  refine wp_aload_n (pc := 31) dX3_copyFrom_31 rfl rfl ?_
  refine wp_getR (pc := 32) (q := 16) dX3_copyFrom_32 fl_X3_15 rfl ?_
  refine wp_iconst (pc := 35) dX3_copyFrom_35 (by decide) ?_
  refine wp_aload_n (pc := 36) dX3_copyFrom_36 rfl rfl ?_
  refine wp_getR (pc := 37) (q := 34) dX3_copyFrom_37 fl_X3_15 rfl ?_
  refine wp_iconst (pc := 40) dX3_copyFrom_40 (by decide) ?_
  refine wp_bipush (pc := 41) dX3_copyFrom_41 (by decide) (by decide) ?_
  refine wp_copy (pc := 43) 8 8 dX3_copyFrom_43 cp_X3_42 rfl rfl (by omega) (by omega) (by omega) (by omega) (by omega) (by decide) (Nat.le_of_ble_eq_true rfl) ?_
  refine wp_aload_n (pc := 46) dX3_copyFrom_46 rfl rfl ?_
  refine wp_getR (pc := 47) (q := 17) dX3_copyFrom_47 fl_X3_18 rfl ?_
  refine wp_iconst (pc := 50) dX3_copyFrom_50 (by decide) ?_
  refine wp_aload_n (pc := 51) dX3_copyFrom_51 rfl rfl ?_
  refine wp_getR (pc := 52) (q := 35) dX3_copyFrom_52 fl_X3_18 rfl ?_
  refine wp_iconst (pc := 55) dX3_copyFrom_55 (by decide) ?_
  refine wp_bipush (pc := 56) dX3_copyFrom_56 (by decide) (by decide) ?_
  refine wp_copy (pc := 58) 8 8 dX3_copyFrom_58 cp_X3_42 rfl rfl (by omega) (by omega) (by omega) (by omega) (by omega) (by decide) (Nat.le_of_ble_eq_true rfl) ?_
  refine wp_aload_n (pc := 61) dX3_copyFrom_61 rfl rfl ?_
  refine wp_getR (pc := 62) (q := 18) dX3_copyFrom_62 fl_X3_21 rfl ?_
  refine wp_iconst (pc := 65) dX3_copyFrom_65 (by decide) ?_
  refine wp_aload_n (pc := 66) dX3_copyFrom_66 rfl rfl ?_
  refine wp_getR (pc := 67) (q := 36) dX3_copyFrom_67 fl_X3_21 rfl ?_
  refine wp_iconst (pc := 70) dX3_copyFrom_70 (by decide) ?_
  refine wp_bipush (pc := 71) dX3_copyFrom_71 (by decide) (by decide) ?_
  refine wp_copy (pc := 73) 8 8 dX3_copyFrom_73 cp_X3_42 rfl rfl (by omega) (by omega) (by omega) (by omega) (by omega) (by decide) (Nat.le_of_ble_eq_true rfl) ?_
  refine wp_aload_n (pc := 76) dX3_copyFrom_76 rfl rfl ?_
  refine wp_aload_n (pc := 77) dX3_copyFrom_77 rfl rfl ?_
  refine wp_cvV1 (pc := 78) dX3_copyFrom_78 mv_X3_48 c_takeSettings_32_14 (Nat.le_of_ble_eq_true rfl) rfl (Nat.le_of_ble_eq_true rfl) (fun σ_78 h_78 => ?_)
  subst h_78
  refine wp_return (pc := 81) dX3_copyFrom_81 rfl ?_
  refine ⟨rfl, (((((Frm.rf.up (by decide)).up (by decide)).cp (by decide)).cp (by decide)).cp (by decide)).cp (by decide) |>.cp (by decide), ?_, ?_, fun k h0 h1 => ?_, fun k h0 h1 => ⟨?_, ?_, ?_⟩, fun k h0 h1 => ?_⟩
  · simp [cpy2, upd2]
  · simp [cpy2, upd2]
  · simp [cpy2, upd2, h0, h1]
  · simp [cpy2, upd2, h0, h1]
  · simp [cpy2, upd2, h0, h1]
  · simp [cpy2, upd2, h0, h1]
  · simp [cpy2, upd2, h0, h1]

set_option maxHeartbeats 4000000 in
set_option maxRecDepth 100000 in
theorem c_takeSettings_14_26 {σ : Sto} : CtV yX3_takeSettings cX3_takeSettings 2 none 1 [mR 14, mR 26] σ (fun σ' => σ' = cpy2 σ 31 19 0 0 6) := by
  refine ct_of rfl [some (mR 14), some (mR 26)] (Nat.le_of_ble_eq_true rfl) rfl (fun hσ => ?_)
  show Wp cX3_takeSettings RX3 none 1 0 [some (mR 14), some (mR 26)] [] _ _
  refine wp_aload_n (pc := 0) dX3_takeSettings_0 rfl rfl ?_
  refine wp_getR (pc := 1) (q := 31) dX3_takeSettings_1 fl_X3_32 rfl ?_
  refine wp_iconst (pc := 4) dX3_takeSettings_4 (by decide) ?_
  refine wp_aload_n (pc := 5) dX3_takeSettings_5 rfl rfl ?_
  refine wp_getR (pc := 6) (q := 19) dX3_takeSettings_6 fl_X3_32 rfl ?_
  refine wp_iconst (pc := 9) dX3_takeSettings_9 (by decide) ?_
  refine wp_bipush (pc := 10) dX3_takeSettings_10 (by decide) (by decide) ?_
  refine wp_copy (pc := 12) 6 6 dX3_takeSettings_12 cp_X3_42 rfl rfl (by omega) (by omega) (by omega) (by omega) (by omega) (by decide) (Nat.le_of_ble_eq_true rfl) ?_
  refine wp_return (pc := 15) dX3_takeSettings_15 rfl ?_
  exact ⟨rfl, rfl⟩
set_option maxHeartbeats 4000000 in
set_option maxRecDepth 100000 in
theorem c_copyFrom_14_26 {σ : Sto} : CtV yX3_copyFrom cX3_copyFrom 2 none 2 [mR 14, mR 26] σ (fun σ' => Frm [14, 15, 16, 17, 18, 19] σ σ' ∧ σ' 14 0 = σ 26 0 ∧ σ' 14 1 = σ 26 1 ∧ (∀ k, 0 ≤ k → k < 80 → σ' 15 k = σ 27 k) ∧ (∀ k, 0 ≤ k → k < 8 → σ' 16 k = σ 28 k ∧ σ' 17 k = σ 29 k ∧ σ' 18 k = σ 30 k) ∧ ∀ k, 0 ≤ k → k < 6 → σ' 19 k = σ 31 k) := by
  refine ct_of rfl [some (mR 14), some (mR 26)] (Nat.le_of_ble_eq_true rfl) rfl (fun hσ => ?_)
  show Wp cX3_copyFrom RX3 none 2 0 [some (mR 14), some (mR 26)] [] _ _
  refine wp_aload_n (pc := 0) dX3_copyFrom_0 rfl rfl ?_
  refine wp_aload_n (pc := 1) dX3_copyFrom_1 rfl rfl ?_
  refine wp_getI (pc := 2) 0 dX3_copyFrom_2 fl_X3_35 rfl rfl ?_
  refine wp_putI (pc := 5) 0 dX3_copyFrom_5 fl_X3_35 ⟨rfl, rfl⟩ rfl rfl ?_
  refine wp_aload_n (pc := 8) dX3_copyFrom_8 rfl rfl ?_
  refine wp_aload_n (pc := 9) dX3_copyFrom_9 rfl rfl ?_
  refine wp_getI (pc := 10) 1 dX3_copyFrom_10 fl_X3_39 rfl rfl ?_
  rw [upd2_r (r := 14) (r' := 26) (by decide)]
  refine wp_putI (pc := 13) 1 dX3_copyFrom_13 fl_X3_39 ⟨rfl, rfl⟩ rfl rfl ?_
  refine wp_aload_n (pc := 16) dX3_copyFrom_16 rfl rfl ?_
  refine wp_getR (pc := 17) (q := 27) dX3_copyFrom_17 fl_X3_9 rfl ?_
  refine wp_iconst (pc := 20) dX3_copyFrom_20 (by decide) ?_
  refine wp_aload_n (pc := 21) dX3_copyFrom_21 rfl rfl ?_
  refine wp_getR (pc := 22) (q := 15) dX3_copyFrom_22 fl_X3_9 rfl ?_
  refine wp_iconst (pc := 25) dX3_copyFrom_25 (by decide) ?_
  refine wp_bipush (pc := 26) dX3_copyFrom_26 (by decide) (by decide) ?_
  refine wp_copy (pc := 28) 80 80 dX3_copyFrom_28 cp_X3_42 rfl rfl (by omega) (by omega) (by omega) (by omega) (by omega) (by decide) (Nat.le_of_ble_eq_true rfl) ?_
  refine wp_aload_n (pc := 31) dX3_copyFrom_31 rfl rfl ?_
  refine wp_getR (pc := 32) (q := 28) dX3_copyFrom_32 fl_X3_15 rfl ?_
  refine wp_iconst (pc := 35) dX3_copyFrom_35 (by decide) ?_
  refine wp_aload_n (pc := 36) dX3_copyFrom_36 rfl rfl ?_
  refine wp_getR (pc := 37) (q := 16) dX3_copyFrom_37 fl_X3_15 rfl ?_
  refine wp_iconst (pc := 40) dX3_copyFrom_40 (by decide) ?_
  refine wp_bipush (pc := 41) dX3_copyFrom_41 (by decide) (by decide) ?_
  refine wp_copy (pc := 43) 8 8 dX3_copyFrom_43 cp_X3_42 rfl rfl (by omega) (by omega) (by omega) (by omega) (by omega) (by decide) (Nat.le_of_ble_eq_true rfl) ?_
  refine wp_aload_n (pc := 46) dX3_copyFrom_46 rfl rfl ?_
  refine wp_getR (pc := 47) (q := 29) dX3_copyFrom_47 fl_X3_18 rfl ?_
  refine wp_iconst (pc := 50) dX3_copyFrom_50 (by decide) ?_
  refine wp_aload_n (pc := 51) dX3_copyFrom_51 rfl rfl ?_
  refine wp_getR (pc := 52) (q := 17) dX3_copyFrom_52 fl_X3_18 rfl ?_
  refine wp_iconst (pc := 55) dX3_copyFrom_55 (by decide) ?_
  refine wp_bipush (pc := 56) dX3_copyFrom_56 (by decide) (by decide) ?_
  refine wp_copy (pc := 58) 8 8 dX3_copyFrom_58 cp_X3_42 rfl rfl (by omega) (by omega) (by omega) (by omega) (by omega) (by decide) (Nat.le_of_ble_eq_true rfl) ?_
  refine wp_aload_n (pc := 61) dX3_copyFrom_61 rfl rfl ?_
  refine wp_getR (pc := 62) (q := 30) dX3_copyFrom_62 fl_X3_21 rfl ?_
  refine wp_iconst (pc := 65) dX3_copyFrom_65 (by decide) ?_
  refine wp_aload_n (pc := 66) dX3_copyFrom_66 rfl rfl ?_
  refine wp_getR (pc := 67) (q := 18) dX3_copyFrom_67 fl_X3_21 rfl ?_
  refine wp_iconst (pc := 70) dX3_copyFrom_70 (by decide) ?_
  refine wp_bipush (pc := 71) dX3_copyFrom_71 (by decide) (by decide) ?_
  refine wp_copy (pc := 73) 8 8 dX3_copyFrom_73 cp_X3_42 rfl rfl (by omega) (by omega) (by omega) (by omega) (by omega) (by decide) (Nat.le_of_ble_eq_true rfl) ?_
  refine wp_aload_n (pc := 76) dX3_copyFrom_76 rfl rfl ?_
  refine wp_aload_n (pc := 77) dX3_copyFrom_77 rfl rfl ?_
  refine wp_cvV1 (pc := 78) dX3_copyFrom_78 mv_X3_48 c_takeSettings_14_26 (Nat.le_of_ble_eq_true rfl) rfl (Nat.le_of_ble_eq_true rfl) (fun σ_78 h_78 => ?_)
  subst h_78
  refine wp_return (pc := 81) dX3_copyFrom_81 rfl ?_
  refine ⟨rfl, (((((Frm.rf.up (by decide)).up (by decide)).cp (by decide)).cp (by decide)).cp (by decide)).cp (by decide) |>.cp (by decide), ?_, ?_, fun k h0 h1 => ?_, fun k h0 h1 => ⟨?_, ?_, ?_⟩, fun k h0 h1 => ?_⟩
  · simp [cpy2, upd2]
  · simp [cpy2, upd2]
  · simp [cpy2, upd2, h0, h1]
  · simp [cpy2, upd2, h0, h1]
  · simp [cpy2, upd2, h0, h1]
  · simp [cpy2, upd2, h0, h1]
  · simp [cpy2, upd2, h0, h1]

set_option maxHeartbeats 4000000 in
set_option maxRecDepth 100000 in
theorem c_takeSettings_14_32 {σ : Sto} : CtV yX3_takeSettings cX3_takeSettings 2 none 1 [mR 14, mR 32] σ (fun σ' => σ' = cpy2 σ 37 19 0 0 6) := by
  refine ct_of rfl [some (mR 14), some (mR 32)] (Nat.le_of_ble_eq_true rfl) rfl (fun hσ => ?_)
  show Wp cX3_takeSettings RX3 none 1 0 [some (mR 14), some (mR 32)] [] _ _
  refine wp_aload_n (pc := 0) dX3_takeSettings_0 rfl rfl ?_
  refine wp_getR (pc := 1) (q := 37) dX3_takeSettings_1 fl_X3_32 rfl ?_
  refine wp_iconst (pc := 4) dX3_takeSettings_4 (by decide) ?_
  refine wp_aload_n (pc := 5) dX3_takeSettings_5 rfl rfl ?_
  refine wp_getR (pc := 6) (q := 19) dX3_takeSettings_6 fl_X3_32 rfl ?_
  refine wp_iconst (pc := 9) dX3_takeSettings_9 (by decide) ?_
  refine wp_bipush (pc := 10) dX3_takeSettings_10 (by decide) (by decide) ?_
  refine wp_copy (pc := 12) 6 6 dX3_takeSettings_12 cp_X3_42 rfl rfl (by omega) (by omega) (by omega) (by omega) (by omega) (by decide) (Nat.le_of_ble_eq_true rfl) ?_
  refine wp_return (pc := 15) dX3_takeSettings_15 rfl ?_
  exact ⟨rfl, rfl⟩
set_option maxHeartbeats 4000000 in
set_option maxRecDepth 100000 in
theorem c_copyFrom_14_32 {σ : Sto} : CtV yX3_copyFrom cX3_copyFrom 2 none 2 [mR 14, mR 32] σ (fun σ' => Frm [14, 15, 16, 17, 18, 19] σ σ' ∧ σ' 14 0 = σ 32 0 ∧ σ' 14 1 = σ 32 1 ∧ (∀ k, 0 ≤ k → k < 80 → σ' 15 k = σ 33 k) ∧ (∀ k, 0 ≤ k → k < 8 → σ' 16 k = σ 34 k ∧ σ' 17 k = σ 35 k ∧ σ' 18 k = σ 36 k) ∧ ∀ k, 0 ≤ k → k < 6 → σ' 19 k = σ 37 k) := by
  refine ct_of rfl [some (mR 14), some (mR 32)] (Nat.le_of_ble_eq_true rfl) rfl (fun hσ => ?_)
  show Wp cX3_copyFrom RX3 none 2 0 [some (mR 14), some (mR 32)] [] _ _
  refine wp_aload_n (pc := 0) dX3_copyFrom_0 rfl rfl ?_
  refine wp_aload_n (pc := 1) dX3_copyFrom_1 rfl rfl ?_
  refine wp_getI (pc := 2) 0 dX3_copyFrom_2 fl_X3_35 rfl rfl ?_
  refine wp_putI (pc := 5) 0 dX3_copyFrom_5 fl_X3_35 ⟨rfl, rfl⟩ rfl rfl ?_
  refine wp_aload_n (pc := 8) dX3_copyFrom_8 rfl rfl ?_
  refine wp_aload_n (pc := 9) dX3_copyFrom_9 rfl rfl ?_
  refine wp_getI (pc := 10) 1 dX3_copyFrom_10 fl_X3_39 rfl rfl ?_
  rw [upd2_r (r := 14) (r' := 32) (by decide)]
  refine wp_putI (pc := 13) 1 dX3_copyFrom_13 fl_X3_39 ⟨rfl, rfl⟩ rfl rfl ?_
  refine wp_aload_n (pc := 16) dX3_copyFrom_16 rfl rfl ?_
  refine wp_getR (pc := 17) (q := 33) dX3_copyFrom_17 fl_X3_9 rfl ?_
  refine wp_iconst (pc := 20) dX3_copyFrom_20 (by decide) ?_
  refine wp_aload_n (pc := 21) dX3_copyFrom_21 rfl rfl ?_
  refine wp_getR (pc := 22) (q := 15) dX3_copyFrom_22 fl_X3_9 rfl ?_
  refine wp_iconst (pc := 25) dX3_copyFrom_25 (by decide) ?_
  refine wp_bipush (pc := 26) dX3_copyFrom_26 (by decide) (by decide) ?_
  refine wp_copy (pc := 28) 80 80 dX3_copyFrom_28 cp_X3_42 rfl rfl (by omega) (by omega) (by omega) (by omega) (by omega) (by decide) (Nat.le_of_ble_eq_true rfl) ?_
  refine wp_aload_n (pc := 31) dX3_copyFrom_31 rfl rfl ?_
  refine wp_getR (pc := 32) (q := 34) dX3_copyFrom_32 fl_X3_15 rfl ?_
  refine wp_iconst (pc := 35) dX3_copyFrom_35 (by decide) ?_
  refine wp_aload_n (pc := 36) dX3_copyFrom_36 rfl rfl ?_
  refine wp_getR (pc := 37) (q := 16) dX3_copyFrom_37 fl_X3_15 rfl ?_
  refine wp_iconst (pc := 40) dX3_copyFrom_40 (by decide) ?_
  refine wp_bipush (pc := 41) dX3_copyFrom_41 (by decide) (by decide) ?_
  refine wp_copy (pc := 43) 8 8 dX3_copyFrom_43 cp_X3_42 rfl rfl (by omega) (by omega) (by omega) (by omega) (by omega) (by decide) (Nat.le_of_ble_eq_true rfl) ?_
  refine wp_aload_n (pc := 46) dX3_copyFrom_46 rfl rfl ?_
  refine wp_getR (pc := 47) (q := 35) dX3_copyFrom_47 fl_X3_18 rfl ?_
  refine wp_iconst (pc := 50) dX3_copyFrom_50 (by decide) ?_
  refine wp_aload_n (pc := 51) dX3_copyFrom_51 rfl rfl ?_
  refine wp_getR (pc := 52) (q := 17) dX3_copyFrom_52 fl_X3_18 rfl ?_
  refine wp_iconst (pc := 55) dX3_copyFrom_55 (by decide) ?_
  refine wp_bipush (pc := 56) dX3_copyFrom_56 (by decide) (by decide) ?_
  refine wp_copy (pc := 58) 8 8 dX3_copyFrom_58 cp_X3_42 rfl rfl (by omega) (by omega) (by omega) (by omega) (by omega) (by decide) (Nat.le_of_ble_eq_true rfl) ?_
  refine wp_aload_n (pc := 61) dX3_copyFrom_61 rfl rfl ?_
  refine wp_getR (pc := 62) (q := 36) dX3_copyFrom_62 fl_X3_21 rfl ?_
  refine wp_iconst (pc := 65) dX3_copyFrom_65 (by decide) ?_
  refine wp_aload_n (pc := 66) dX3_copyFrom_66 rfl rfl ?_
  refine wp_getR (pc := 67) (q := 18) dX3_copyFrom_67 fl_X3_21 rfl ?_
  refine wp_iconst (pc := 70) dX3_copyFrom_70 (by decide) ?_
  refine wp_bipush (pc := 71) dX3_copyFrom_71 (by decide) (by decide) ?_
  refine wp_copy (pc := 73) 8 8 dX3_copyFrom_73 cp_X3_42 rfl rfl (by omega) (by omega) (by omega) (by omega) (by omega) (by decide) (Nat.le_of_ble_eq_true rfl) ?_
  refine wp_aload_n (pc := 76) dX3_copyFrom_76 rfl rfl ?_
  refine wp_aload_n (pc := 77) dX3_copyFrom_77 rfl rfl ?_
  refine wp_cvV1 (pc := 78) dX3_copyFrom_78 mv_X3_48 c_takeSettings_14_32 (Nat.le_of_ble_eq_true rfl) rfl (Nat.le_of_ble_eq_true rfl) (fun σ_78 h_78 => ?_)
  subst h_78
  refine wp_return (pc := 81) dX3_copyFrom_81 rfl ?_
  refine ⟨rfl, (((((Frm.rf.up (by decide)).up (by decide)).cp (by decide)).cp (by decide)).cp (by decide)).cp (by decide) |>.cp (by decide), ?_, ?_, fun k h0 h1 => ?_, fun k h0 h1 => ⟨?_, ?_, ?_⟩, fun k h0 h1 => ?_⟩
  · simp [cpy2, upd2]
  · simp [cpy2, upd2]
  · simp [cpy2, upd2, h0, h1]
  · simp [cpy2, upd2, h0, h1]
  · simp [cpy2, upd2, h0, h1]
  · simp [cpy2, upd2, h0, h1]
  · simp [cpy2, upd2, h0, h1]

set_option maxHeartbeats 4000000 in
set_option maxRecDepth 100000 in
theorem c_takeSettings_20_14 {σ : Sto} : CtV yX3_takeSettings cX3_takeSettings 2 none 1 [mR 20, mR 14] σ (fun σ' => σ' = cpy2 σ 19 25 0 0 6) := by
  refine ct_of rfl [some (mR 20), some (mR 14)] (Nat.le_of_ble_eq_true rfl) rfl (fun hσ => ?_)
  show Wp cX3_takeSettings RX3 none 1 0 [some (mR 20), some (mR 14)] [] _ _
  refine wp_aload_n (pc := 0) dX3_takeSettings_0 rfl rfl ?_
  refine wp_getR (pc := 1) (q := 19) dX3_takeSettings_1 fl_X3_32 rfl ?_
  refine wp_iconst (pc := 4) dX3_takeSettings_4 (by decide) ?_
  refine wp_aload_n (pc := 5) dX3_takeSettings_5 rfl rfl ?_
  refine wp_getR (pc := 6) (q := 25) dX3_takeSettings_6 fl_X3_32 rfl ?_
  refine wp_iconst (pc := 9) dX3_takeSettings_9 (by decide) ?_
  refine wp_bipush (pc := 10) dX3_takeSettings_10 (by decide) (by decide) ?_
  refine wp_copy (pc := 12) 6 6 dX3_takeSettings_12 cp_X3_42 rfl rfl (by omega) (by omega) (by omega) (by omega) (by omega) (by decide) (Nat.le_of_ble_eq_true rfl) ?_
  refine wp_return (pc := 15) dX3_takeSettings_15 rfl ?_
  exact ⟨rfl, rfl⟩
set_option maxHeartbeats 4000000 in
set_option maxRecDepth 100000 in
theorem c_copyFrom_20_14 {σ : Sto} : CtV yX3_copyFrom cX3_copyFrom 2 none 2 [mR 20, mR 14] σ (fun σ' => Frm [20, 21, 22, 23, 24, 25] σ σ' ∧ σ' 20 0 = σ 14 0 ∧ σ' 20 1 = σ 14 1 ∧ (∀ k, 0 ≤ k → k < 80 → σ' 21 k = σ 15 k) ∧ (∀ k, 0 ≤ k → k < 8 → σ' 22 k = σ 16 k ∧ σ' 23 k = σ 17 k ∧ σ' 24 k = σ 18 k) ∧ ∀ k, 0 ≤ k → k < 6 → σ' 25 k = σ 19 k) := by
  refine ct_of rfl [some (mR 20), some (mR 14)] (Nat.le_of_ble_eq_true rfl) rfl (fun hσ => ?_)
  show Wp cX3_copyFrom RX3 none 2 0 [some (mR 20), some (mR 14)] [] _ _
  refine wp_aload_n (pc := 0) dX3_copyFrom_0 rfl rfl ?_
  refine wp_aload_n (pc := 1) dX3_copyFrom_1 rfl rfl ?_
  refine wp_getI (pc := 2) 0 dX3_copyFrom_2 fl_X3_35 rfl rfl ?_
  refine wp_putI (pc := 5) 0 dX3_copyFrom_5 fl_X3_35 ⟨rfl, rfl⟩ rfl rfl ?_
  refine wp_aload_n (pc := 8) dX3_copyFrom_8 rfl rfl ?_
  refine wp_aload_n (pc := 9) dX3_copyFrom_9 rfl rfl ?_
  refine wp_getI (pc := 10) 1 dX3_copyFrom_10 fl_X3_39 rfl rfl ?_
  rw [upd2_r (r := 20) (r' := 14) (by decide)]
  refine wp_putI (pc := 13) 1 dX3_copyFrom_13 fl_X3_39 ⟨rfl, rfl⟩ rfl rfl ?_
  refine wp_aload_n (pc := 16) dX3_copyFrom_16 rfl rfl ?_
  refine wp_getR (pc := 17) (q := 15) dX3_copyFrom_17 fl_X3_9 rfl ?_
  refine wp_iconst (pc := 20) dX3_copyFrom_20 (by decide) ?_
  refine wp_aload_n (pc := 21) dX3_copyFrom_21 rfl rfl ?_
  refine wp_getR (pc := 22) (q := 21) dX3_copyFrom_22 fl_X3_9 rfl ?_
  refine wp_iconst (pc := 25) dX3_copyFrom_25 (by decide) ?_
  refine wp_bipush (pc := 26) dX3_copyFrom_26 (by decide) (by decide) ?_
  refine wp_copy (pc := 28) 80 80 dX3_copyFrom_28 cp_X3_42 rfl rfl (by omega) (by omega) (by omega) (by omega) (by omega) (by decide) (Nat.le_of_ble_eq_true rfl) ?_
  refine wp_aload_n (pc := 31) dX3_copyFrom_31 rfl rfl ?_
  refine wp_getR (pc := 32) (q := 16) dX3_copyFrom_32 fl_X3_15 rfl ?_
  refine wp_iconst (pc := 35) dX3_copyFrom_35 (by decide) ?_
  refine wp_aload_n (pc := 36) dX3_copyFrom_36 rfl rfl ?_
  refine wp_getR (pc := 37) (q := 22) dX3_copyFrom_37 fl_X3_15 rfl ?_
  refine wp_iconst (pc := 40) dX3_copyFrom_40 (by decide) ?_
  refine wp_bipush (pc := 41) dX3_copyFrom_41 (by decide) (by decide) ?_
  refine wp_copy (pc := 43) 8 8 dX3_copyFrom_43 cp_X3_42 rfl rfl (by omega) (by omega) (by omega) (by omega) (by omega) (by decide) (Nat.le_of_ble_eq_true rfl) ?_
  refine wp_aload_n (pc := 46) dX3_copyFrom_46 rfl rfl ?_
  refine wp_getR (pc := 47) (q := 17) dX3_copyFrom_47 fl_X3_18 rfl ?_
  refine wp_iconst (pc := 50) dX3_copyFrom_50 (by decide) ?_
  refine wp_aload_n (pc := 51) dX3_copyFrom_51 rfl rfl ?_
  refine wp_getR (pc := 52) (q := 23) dX3_copyFrom_52 fl_X3_18 rfl ?_
  refine wp_iconst (pc := 55) dX3_copyFrom_55 (by decide) ?_
  refine wp_bipush (pc := 56) dX3_copyFrom_56 (by decide) (by decide) ?_
  refine wp_copy (pc := 58) 8 8 dX3_copyFrom_58 cp_X3_42 rfl rfl (by omega) (by omega) (by omega) (by omega) (by omega) (by decide) (Nat.le_of_ble_eq_true rfl) ?_
  refine wp_aload_n (pc := 61) dX3_copyFrom_61 rfl rfl ?_
  refine wp_getR (pc := 62) (q := 18) dX3_copyFrom_62 fl_X3_21 rfl ?_
  refine wp_iconst (pc := 65) dX3_copyFrom_65 (by decide) ?_
  refine wp_aload_n (pc := 66) dX3_copyFrom_66 rfl rfl ?_
  refine wp_getR (pc := 67) (q := 24) dX3_copyFrom_67 fl_X3_21 rfl ?_
  refine wp_iconst (pc := 70) dX3_copyFrom_70 (by decide) ?_
  refine wp_bipush (pc := 71) dX3_copyFrom_71 (by decide) (by decide) ?_
  refine wp_copy (pc := 73) 8 8 dX3_copyFrom_73 cp_X3_42 rfl rfl (by omega) (by omega) (by omega) (by omega) (by omega) (by decide) (Nat.le_of_ble_eq_true rfl) ?_
  refine wp_aload_n (pc := 76) dX3_copyFrom_76 rfl rfl ?_
  refine wp_aload_n (pc := 77) dX3_copyFrom_77 rfl rfl ?_
  refine wp_cvV1 (pc := 78) dX3_copyFrom_78 mv_X3_48 c_takeSettings_20_14 (Nat.le_of_ble_eq_true rfl) rfl (Nat.le_of_ble_eq_true rfl) (fun σ_78 h_78 => ?_)
  subst h_78
  refine wp_return (pc := 81) dX3_copyFrom_81 rfl ?_
  refine ⟨rfl, (((((Frm.rf.up (by decide)).up (by decide)).cp (by decide)).cp (by decide)).cp (by decide)).cp (by decide) |>.cp (by decide), ?_, ?_, fun k h0 h1 => ?_, fun k h0 h1 => ⟨?_, ?_, ?_⟩, fun k h0 h1 => ?_⟩
  · simp [cpy2, upd2]
  · simp [cpy2, upd2]
  · simp [cpy2, upd2, h0, h1]
  · simp [cpy2, upd2, h0, h1]
  · simp [cpy2, upd2, h0, h1]
  · simp [cpy2, upd2, h0, h1]
  · simp [cpy2, upd2, h0, h1]

set_option maxHeartbeats 4000000 in
set_option maxRecDepth 100000 in
theorem c_shCopy {σ : Sto} : CtV yX5_copyFrom cX5_copyFrom 2 none 1 [mR 2, mR 8] σ (fun σ' => Frm [2, 3, 4, 5, 6, 7] σ σ' ∧ σ' 2 0 = σ 8 0 ∧ (∀ k, 0 ≤ k → k < 6 → σ' 3 k = σ 9 k ∧ σ' 4 k = σ 10 k ∧ σ' 5 k = σ 11 k) ∧ ∀ k, 0 ≤ k → k < 48 → σ' 6 k = σ 12 k ∧ σ' 7 k = σ 13 k) := by
  refine ct_of rfl [some (mR 2), some (mR 8)] (Nat.le_of_ble_eq_true rfl) rfl (fun hσ => ?_)
  show Wp cX5_copyFrom RX5 none 1 0 [some (mR 2), some (mR 8)] [] _ _
  refine wp_aload_n (pc := 0) dX5_copyFrom_0 rfl rfl ?_
  refine wp_aload_n (pc := 1) dX5_copyFrom_1 rfl rfl ?_
  refine wp_getI (pc := 2) 0 dX5_copyFrom_2 fl_X5_27 rfl rfl ?_
  refine wp_putI (pc := 5) 0 dX5_copyFrom_5 fl_X5_27 ⟨rfl, rfl⟩ rfl rfl ?_
  refine wp_aload_n (pc := 8) dX5_copyFrom_8 rfl rfl ?_
  refine wp_getR (pc := 9) (q := 9) dX5_copyFrom_9 fl_X5_9 rfl ?_
  refine wp_iconst (pc := 12) dX5_copyFrom_12 (by decide) ?_
  refine wp_aload_n (pc := 13) dX5_copyFrom_13 rfl rfl ?_
  refine wp_getR (pc := 14) (q := 3) dX5_copyFrom_14 fl_X5_9 rfl ?_
  refine wp_iconst (pc := 17) dX5_copyFrom_17 (by decide) ?_
  refine wp_bipush (pc := 18) dX5_copyFrom_18 (by decide) (by decide) ?_
  refine wp_copy (pc := 20) 6 6 dX5_copyFrom_20 cp_X5_31 rfl rfl (by omega) (by omega) (by omega) (by omega) (by omega) (by decide) (Nat.le_of_ble_eq_true rfl) ?_
  refine wp_aload_n (pc := 23) dX5_copyFrom_23 rfl rfl ?_
  refine wp_getR (pc := 24) (q := 10) dX5_copyFrom_24 fl_X5_15 rfl ?_
  refine wp_iconst (pc := 27) dX5_copyFrom_27 (by decide) ?_
  refine wp_aload_n (pc := 28) dX5_copyFrom_28 rfl rfl ?_
  refine wp_getR (pc := 29) (q := 4) dX5_copyFrom_29 fl_X5_15 rfl ?_
  refine wp_iconst (pc := 32) dX5_copyFrom_32 (by decide) ?_
  refine wp_bipush (pc := 33) dX5_copyFrom_33 (by decide) (by decide) ?_
  refine wp_copy (pc := 35) 6 6 dX5_copyFrom_35 cp_X5_31 rfl rfl (by omega) (by omega) (by omega) (by omega) (by omega) (by decide) (Nat.le_of_ble_eq_true rfl) ?_
  refine wp_aload_n (pc := 38) dX5_copyFrom_38 rfl rfl ?_
  refine wp_getR (pc := 39) (q := 11) dX5_copyFrom_39 fl_X5_18 rfl ?_
  refine wp_iconst (pc := 42) dX5_copyFrom_42 (by decide) ?_
  refine wp_aload_n (pc := 43) dX5_copyFrom_43 rfl rfl ?_
  refine wp_getR (pc := 44) (q := 5) dX5_copyFrom_44 fl_X5_18 rfl ?_
  refine wp_iconst (pc := 47) dX5_copyFrom_47 (by decide) ?_
  refine wp_bipush (pc := 48) dX5_copyFrom_48 (by decide) (by decide) ?_
  refine wp_copy (pc := 50) 6 6 dX5_copyFrom_50 cp_X5_31 rfl rfl (by omega) (by omega) (by omega) (by omega) (by omega) (by decide) (Nat.le_of_ble_eq_true rfl) ?_
  refine wp_aload_n (pc := 53) dX5_copyFrom_53 rfl rfl ?_
  refine wp_getR (pc := 54) (q := 12) dX5_copyFrom_54 fl_X5_21 rfl ?_
  refine wp_iconst (pc := 57) dX5_copyFrom_57 (by decide) ?_
  refine wp_aload_n (pc := 58) dX5_copyFrom_58 rfl rfl ?_
  refine wp_getR (pc := 59) (q := 6) dX5_copyFrom_59 fl_X5_21 rfl ?_
  refine wp_iconst (pc := 62) dX5_copyFrom_62 (by decide) ?_
  refine wp_bipush (pc := 63) dX5_copyFrom_63 (by decide) (by decide) ?_
  refine wp_copy (pc := 65) 48 48 dX5_copyFrom_65 cp_X5_31 rfl rfl (by omega) (by omega) (by omega) (by omega) (by omega) (by decide) (Nat.le_of_ble_eq_true rfl) ?_
  refine wp_aload_n (pc := 68) dX5_copyFrom_68 rfl rfl ?_
  refine wp_getR (pc := 69) (q := 13) dX5_copyFrom_69 fl_X5_24 rfl ?_
  refine wp_iconst (pc := 72) dX5_copyFrom_72 (by decide) ?_
  refine wp_aload_n (pc := 73) dX5_copyFrom_73 rfl rfl ?_
  refine wp_getR (pc := 74) (q := 7) dX5_copyFrom_74 fl_X5_24 rfl ?_
  refine wp_iconst (pc := 77) dX5_copyFrom_77 (by decide) ?_
  refine wp_bipush (pc := 78) dX5_copyFrom_78 (by decide) (by decide) ?_
  refine wp_copy (pc := 80) 48 48 dX5_copyFrom_80 cp_X5_31 rfl rfl (by omega) (by omega) (by omega) (by omega) (by omega) (by decide) (Nat.le_of_ble_eq_true rfl) ?_
  refine wp_return (pc := 83) dX5_copyFrom_83 rfl ?_
  refine ⟨rfl, (((((Frm.rf.up (by decide)).cp (by decide)).cp (by decide)).cp (by decide)).cp (by decide)).cp (by decide), ?_, fun k h0 h1 => ⟨?_, ?_, ?_⟩, fun k h0 h1 => ⟨?_, ?_⟩⟩
  · simp [cpy2, upd2]
  · simp [cpy2, upd2, h0, h1]
  · simp [cpy2, upd2, h0, h1]
  · simp [cpy2, upd2, h0, h1]
  · simp [cpy2, upd2, h0, h1]
  · simp [cpy2, upd2, h0, h1]
