set_option maxHeartbeats 4000000 in
set_option maxRecDepth 100000 in
theorem c_fault {σ : Sto} : CtI yX6_fault cX6_fault 1 (some .int) 1 [mR 0] σ (fun z σ' => z = σ 38 10 ∧ σ' = σ) := by
  refine ct_of rfl [some (mR 0)] (Nat.le_of_ble_eq_true rfl) rfl (fun hσ => ?_)
  show Wp cX6_fault RX6 (some .int) 1 0 [some (mR 0)] [] _ _
  refine wp_aload_n (pc := 0) dX6_fault_0 rfl rfl ?_
  refine wp_getR (pc := 1) (q := 38) dX6_fault_1 fl_X6_38 rfl ?_
  refine wp_cvI0 (pc := 4) dX6_fault_4 mv_X6_92 (c_faultKind) (Nat.le_of_ble_eq_true rfl) rfl (Nat.le_of_ble_eq_true rfl) (fun z_4 σ_4 h_4 => ?_)
  obtain ⟨rfl, e_4⟩ := h_4; have e2_4 := e_4.symm; subst e2_4
  refine wp_ireturn (pc := 7) dX6_fault_7 rfl ?_
  exact ⟨_, rfl, rfl, rfl⟩
