set_option maxHeartbeats 4000000 in
set_option maxRecDepth 100000 in
theorem c_letterOf {σ : Sto} {c k : Int} (h : 0 ≤ c ∧ 0 ≤ k ∧ k < 6) : CtI yX6_letterOf cX6_letterOf 2 (some .int) 0 [mI c, mI k] σ (fun z σ' => z = ltr c k ∧ σ' = σ) := by
  refine ct_of rfl [some (mI c), some (mI k)] (Nat.le_of_ble_eq_true rfl) rfl (fun hσ => ?_)
  show Wp cX6_letterOf RX6 (some .int) 0 0 [some (mI c), some (mI k)] [] _ _
  refine wp_iload_n (pc := 0) dX6_letterOf_0 rfl rfl ?_
  refine wp_iconst (pc := 1) dX6_letterOf_1 (by decide) ?_
  refine wp_iload_n (pc := 2) dX6_letterOf_2 rfl rfl ?_
  refine wp_imul (pc := 3) dX6_letterOf_3 (by omega) ?_
  refine wp_ishr (pc := 4) dX6_letterOf_4 (by omega) ?_
  refine wp_bipush (pc := 5) dX6_letterOf_5 (by decide) (by decide) ?_
  refine wp_iand31 (pc := 7) dX6_letterOf_7 (by trivial) ?_
  refine wp_ireturn (pc := 8) dX6_letterOf_8 rfl ?_
  exact ⟨_, rfl, rfl, rfl⟩
set_option maxHeartbeats 4000000 in
set_option maxRecDepth 100000 in
theorem c_letterWidth {σ : Sto} {l : Int} : CtI yX6_letterWidth cX6_letterWidth 1 (some .int) 0 [mI l] σ (fun z σ' => z = lwd l ∧ σ' = σ) := by
  refine ct_of rfl [some (mI l)] (Nat.le_of_ble_eq_true rfl) rfl (fun hσ => ?_)
  show Wp cX6_letterWidth RX6 (some .int) 0 0 [some (mI l)] [] _ _
  refine wp_iload_n (pc := 0) dX6_letterWidth_0 rfl rfl ?_
  refine wp_top (fun sw_1 esw_1 => ?_)
  rcases (show (sw_1 < 0 ∨ 23 < sw_1) ∨ sw_1 = 0 ∨ sw_1 = 1 ∨ sw_1 = 2 ∨ sw_1 = 3 ∨ sw_1 = 4 ∨ sw_1 = 5 ∨ sw_1 = 6 ∨ sw_1 = 7 ∨ sw_1 = 8 ∨ sw_1 = 9 ∨ sw_1 = 10 ∨ sw_1 = 11 ∨ sw_1 = 12 ∨ sw_1 = 13 ∨ sw_1 = 14 ∨ sw_1 = 15 ∨ sw_1 = 16 ∨ sw_1 = 17 ∨ sw_1 = 18 ∨ sw_1 = 19 ∨ sw_1 = 20 ∨ sw_1 = 21 ∨ sw_1 = 22 ∨ sw_1 = 23 by omega) with c_1 | c_1 | c_1 | c_1 | c_1 | c_1 | c_1 | c_1 | c_1 | c_1 | c_1 | c_1 | c_1 | c_1 | c_1 | c_1 | c_1 | c_1 | c_1 | c_1 | c_1 | c_1 | c_1 | c_1 | c_1
  · refine wp_tabOut (pc := 1) 118 dX6_letterWidth_1 c_1 (by decide) ?_
    refine wp_iconst (pc := 118) dX6_letterWidth_118 (by decide) ?_
    refine wp_ireturn (pc := 119) dX6_letterWidth_119 rfl ?_
    exact ⟨_, rfl, by unfold lwd; split <;> (try omega) <;> split <;> (try omega) <;> split <;> omega, rfl⟩
  · refine wp_tabIn (pc := 1) (111) 112 dX6_letterWidth_1 (by omega) (by omega) (by rw [c_1]; rfl) (by decide) ?_
    refine wp_iconst (pc := 112) dX6_letterWidth_112 (by decide) ?_
    refine wp_ireturn (pc := 113) dX6_letterWidth_113 rfl ?_
    exact ⟨_, rfl, by unfold lwd; split <;> (try omega) <;> split <;> (try omega) <;> split <;> omega, rfl⟩
  · refine wp_tabIn (pc := 1) (117) 118 dX6_letterWidth_1 (by omega) (by omega) (by rw [c_1]; rfl) (by decide) ?_
    refine wp_iconst (pc := 118) dX6_letterWidth_118 (by decide) ?_
    refine wp_ireturn (pc := 119) dX6_letterWidth_119 rfl ?_
    exact ⟨_, rfl, by unfold lwd; split <;> (try omega) <;> split <;> (try omega) <;> split <;> omega, rfl⟩
  · refine wp_tabIn (pc := 1) (117) 118 dX6_letterWidth_1 (by omega) (by omega) (by rw [c_1]; rfl) (by decide) ?_
    refine wp_iconst (pc := 118) dX6_letterWidth_118 (by decide) ?_
    refine wp_ireturn (pc := 119) dX6_letterWidth_119 rfl ?_
    exact ⟨_, rfl, by unfold lwd; split <;> (try omega) <;> split <;> (try omega) <;> split <;> omega, rfl⟩
  · refine wp_tabIn (pc := 1) (117) 118 dX6_letterWidth_1 (by omega) (by omega) (by rw [c_1]; rfl) (by decide) ?_
    refine wp_iconst (pc := 118) dX6_letterWidth_118 (by decide) ?_
    refine wp_ireturn (pc := 119) dX6_letterWidth_119 rfl ?_
    exact ⟨_, rfl, by unfold lwd; split <;> (try omega) <;> split <;> (try omega) <;> split <;> omega, rfl⟩
  · refine wp_tabIn (pc := 1) (117) 118 dX6_letterWidth_1 (by omega) (by omega) (by rw [c_1]; rfl) (by decide) ?_
    refine wp_iconst (pc := 118) dX6_letterWidth_118 (by decide) ?_
    refine wp_ireturn (pc := 119) dX6_letterWidth_119 rfl ?_
    exact ⟨_, rfl, by unfold lwd; split <;> (try omega) <;> split <;> (try omega) <;> split <;> omega, rfl⟩
  · refine wp_tabIn (pc := 1) (117) 118 dX6_letterWidth_1 (by omega) (by omega) (by rw [c_1]; rfl) (by decide) ?_
    refine wp_iconst (pc := 118) dX6_letterWidth_118 (by decide) ?_
    refine wp_ireturn (pc := 119) dX6_letterWidth_119 rfl ?_
    exact ⟨_, rfl, by unfold lwd; split <;> (try omega) <;> split <;> (try omega) <;> split <;> omega, rfl⟩
  · refine wp_tabIn (pc := 1) (117) 118 dX6_letterWidth_1 (by omega) (by omega) (by rw [c_1]; rfl) (by decide) ?_
    refine wp_iconst (pc := 118) dX6_letterWidth_118 (by decide) ?_
    refine wp_ireturn (pc := 119) dX6_letterWidth_119 rfl ?_
    exact ⟨_, rfl, by unfold lwd; split <;> (try omega) <;> split <;> (try omega) <;> split <;> omega, rfl⟩
  · refine wp_tabIn (pc := 1) (117) 118 dX6_letterWidth_1 (by omega) (by omega) (by rw [c_1]; rfl) (by decide) ?_
    refine wp_iconst (pc := 118) dX6_letterWidth_118 (by decide) ?_
    refine wp_ireturn (pc := 119) dX6_letterWidth_119 rfl ?_
    exact ⟨_, rfl, by unfold lwd; split <;> (try omega) <;> split <;> (try omega) <;> split <;> omega, rfl⟩
  · refine wp_tabIn (pc := 1) (117) 118 dX6_letterWidth_1 (by omega) (by omega) (by rw [c_1]; rfl) (by decide) ?_
    refine wp_iconst (pc := 118) dX6_letterWidth_118 (by decide) ?_
    refine wp_ireturn (pc := 119) dX6_letterWidth_119 rfl ?_
    exact ⟨_, rfl, by unfold lwd; split <;> (try omega) <;> split <;> (try omega) <;> split <;> omega, rfl⟩
  · refine wp_tabIn (pc := 1) (113) 114 dX6_letterWidth_1 (by omega) (by omega) (by rw [c_1]; rfl) (by decide) ?_
    refine wp_iconst (pc := 114) dX6_letterWidth_114 (by decide) ?_
    refine wp_ireturn (pc := 115) dX6_letterWidth_115 rfl ?_
    exact ⟨_, rfl, by unfold lwd; split <;> (try omega) <;> split <;> (try omega) <;> split <;> omega, rfl⟩
  · refine wp_tabIn (pc := 1) (113) 114 dX6_letterWidth_1 (by omega) (by omega) (by rw [c_1]; rfl) (by decide) ?_
    refine wp_iconst (pc := 114) dX6_letterWidth_114 (by decide) ?_
    refine wp_ireturn (pc := 115) dX6_letterWidth_115 rfl ?_
    exact ⟨_, rfl, by unfold lwd; split <;> (try omega) <;> split <;> (try omega) <;> split <;> omega, rfl⟩
  · refine wp_tabIn (pc := 1) (117) 118 dX6_letterWidth_1 (by omega) (by omega) (by rw [c_1]; rfl) (by decide) ?_
    refine wp_iconst (pc := 118) dX6_letterWidth_118 (by decide) ?_
    refine wp_ireturn (pc := 119) dX6_letterWidth_119 rfl ?_
    exact ⟨_, rfl, by unfold lwd; split <;> (try omega) <;> split <;> (try omega) <;> split <;> omega, rfl⟩
  · refine wp_tabIn (pc := 1) (113) 114 dX6_letterWidth_1 (by omega) (by omega) (by rw [c_1]; rfl) (by decide) ?_
    refine wp_iconst (pc := 114) dX6_letterWidth_114 (by decide) ?_
    refine wp_ireturn (pc := 115) dX6_letterWidth_115 rfl ?_
    exact ⟨_, rfl, by unfold lwd; split <;> (try omega) <;> split <;> (try omega) <;> split <;> omega, rfl⟩
  · refine wp_tabIn (pc := 1) (115) 116 dX6_letterWidth_1 (by omega) (by omega) (by rw [c_1]; rfl) (by decide) ?_
    refine wp_iconst (pc := 116) dX6_letterWidth_116 (by decide) ?_
    refine wp_ireturn (pc := 117) dX6_letterWidth_117 rfl ?_
    exact ⟨_, rfl, by unfold lwd; split <;> (try omega) <;> split <;> (try omega) <;> split <;> omega, rfl⟩
  · refine wp_tabIn (pc := 1) (117) 118 dX6_letterWidth_1 (by omega) (by omega) (by rw [c_1]; rfl) (by decide) ?_
    refine wp_iconst (pc := 118) dX6_letterWidth_118 (by decide) ?_
    refine wp_ireturn (pc := 119) dX6_letterWidth_119 rfl ?_
    exact ⟨_, rfl, by unfold lwd; split <;> (try omega) <;> split <;> (try omega) <;> split <;> omega, rfl⟩
  · refine wp_tabIn (pc := 1) (117) 118 dX6_letterWidth_1 (by omega) (by omega) (by rw [c_1]; rfl) (by decide) ?_
    refine wp_iconst (pc := 118) dX6_letterWidth_118 (by decide) ?_
    refine wp_ireturn (pc := 119) dX6_letterWidth_119 rfl ?_
    exact ⟨_, rfl, by unfold lwd; split <;> (try omega) <;> split <;> (try omega) <;> split <;> omega, rfl⟩
  · refine wp_tabIn (pc := 1) (117) 118 dX6_letterWidth_1 (by omega) (by omega) (by rw [c_1]; rfl) (by decide) ?_
    refine wp_iconst (pc := 118) dX6_letterWidth_118 (by decide) ?_
    refine wp_ireturn (pc := 119) dX6_letterWidth_119 rfl ?_
    exact ⟨_, rfl, by unfold lwd; split <;> (try omega) <;> split <;> (try omega) <;> split <;> omega, rfl⟩
  · refine wp_tabIn (pc := 1) (117) 118 dX6_letterWidth_1 (by omega) (by omega) (by rw [c_1]; rfl) (by decide) ?_
    refine wp_iconst (pc := 118) dX6_letterWidth_118 (by decide) ?_
    refine wp_ireturn (pc := 119) dX6_letterWidth_119 rfl ?_
    exact ⟨_, rfl, by unfold lwd; split <;> (try omega) <;> split <;> (try omega) <;> split <;> omega, rfl⟩
  · refine wp_tabIn (pc := 1) (117) 118 dX6_letterWidth_1 (by omega) (by omega) (by rw [c_1]; rfl) (by decide) ?_
    refine wp_iconst (pc := 118) dX6_letterWidth_118 (by decide) ?_
    refine wp_ireturn (pc := 119) dX6_letterWidth_119 rfl ?_
    exact ⟨_, rfl, by unfold lwd; split <;> (try omega) <;> split <;> (try omega) <;> split <;> omega, rfl⟩
  · refine wp_tabIn (pc := 1) (117) 118 dX6_letterWidth_1 (by omega) (by omega) (by rw [c_1]; rfl) (by decide) ?_
    refine wp_iconst (pc := 118) dX6_letterWidth_118 (by decide) ?_
    refine wp_ireturn (pc := 119) dX6_letterWidth_119 rfl ?_
    exact ⟨_, rfl, by unfold lwd; split <;> (try omega) <;> split <;> (try omega) <;> split <;> omega, rfl⟩
  · refine wp_tabIn (pc := 1) (113) 114 dX6_letterWidth_1 (by omega) (by omega) (by rw [c_1]; rfl) (by decide) ?_
    refine wp_iconst (pc := 114) dX6_letterWidth_114 (by decide) ?_
    refine wp_ireturn (pc := 115) dX6_letterWidth_115 rfl ?_
    exact ⟨_, rfl, by unfold lwd; split <;> (try omega) <;> split <;> (try omega) <;> split <;> omega, rfl⟩
  · refine wp_tabIn (pc := 1) (117) 118 dX6_letterWidth_1 (by omega) (by omega) (by rw [c_1]; rfl) (by decide) ?_
    refine wp_iconst (pc := 118) dX6_letterWidth_118 (by decide) ?_
    refine wp_ireturn (pc := 119) dX6_letterWidth_119 rfl ?_
    exact ⟨_, rfl, by unfold lwd; split <;> (try omega) <;> split <;> (try omega) <;> split <;> omega, rfl⟩
  · refine wp_tabIn (pc := 1) (117) 118 dX6_letterWidth_1 (by omega) (by omega) (by rw [c_1]; rfl) (by decide) ?_
    refine wp_iconst (pc := 118) dX6_letterWidth_118 (by decide) ?_
    refine wp_ireturn (pc := 119) dX6_letterWidth_119 rfl ?_
    exact ⟨_, rfl, by unfold lwd; split <;> (try omega) <;> split <;> (try omega) <;> split <;> omega, rfl⟩
  · refine wp_tabIn (pc := 1) (115) 116 dX6_letterWidth_1 (by omega) (by omega) (by rw [c_1]; rfl) (by decide) ?_
    refine wp_iconst (pc := 116) dX6_letterWidth_116 (by decide) ?_
    refine wp_ireturn (pc := 117) dX6_letterWidth_117 rfl ?_
    exact ⟨_, rfl, by unfold lwd; split <;> (try omega) <;> split <;> (try omega) <;> split <;> omega, rfl⟩
set_option maxHeartbeats 4000000 in
set_option maxRecDepth 100000 in
theorem c_lettersIn {σ : Sto} {c : Int} (hc : 0 ≤ c) : CtI yX6_lettersIn cX6_lettersIn 3 (some .int) 1 [mI c] σ (fun z σ' => z = nlt c ∧ σ' = σ) := by
  refine ct_of rfl [some (mI c), none, none] (Nat.le_of_ble_eq_true rfl) rfl (fun hσ => ?_)
  show Wp cX6_lettersIn RX6 (some .int) 1 0 [some (mI c), none, none] [] _ _
  have lp : ∀ q, q ≤ 6 → 0 ≤ q → Wp cX6_lettersIn RX6 (some .int) 1 4 [some (mI c), some (mI (sumI (fun k => if ltr c k = 0 then 0 else 1) q)), some (mI q)] [] σ (fun v σ' => ∃ z, v = some (mI z) ∧ (fun z σ' => z = nlt c ∧ σ' = σ) z σ') := by
    refine up_ind 6 (fun q hq ih h0 => ?_)
    have hb := sumI_bd (f := fun k => if ltr c k = 0 then 0 else 1) (c := 1) h0 (fun k a b => by split <;> omega)
    refine wp_iload_n (pc := 4) dX6_lettersIn_4 rfl rfl ?_
    refine wp_bipush (pc := 5) dX6_lettersIn_5 (by decide) (by decide) ?_
    refine wp_icmp_ge (pc := 7) 27 dX6_lettersIn_7 (by decide) (fun c_7 => ?_) (fun c_7 => ?_)
    · have e : q = 6 := by omega
      subst e
      refine wp_iload_n (pc := 27) dX6_lettersIn_27 rfl rfl ?_
      refine wp_ireturn (pc := 28) dX6_lettersIn_28 rfl ?_
      exact ⟨_, rfl, rfl, rfl⟩
    · refine wp_iload_n (pc := 10) dX6_lettersIn_10 rfl rfl ?_
      refine wp_iload_n (pc := 11) dX6_lettersIn_11 rfl rfl ?_
      refine wp_csI2 (pc := 12) dX6_lettersIn_12 ms_X6_197 (c_letterOf (by omega)) (Nat.le_of_ble_eq_true rfl) (Nat.le_of_ble_eq_true rfl) (fun z_12 σ_12 h_12 => ?_)
      obtain ⟨rfl, e_12⟩ := h_12; have e2_12 := e_12.symm; subst e2_12
      refine wp_if_eq (pc := 15) 21 dX6_lettersIn_15 (by decide) (fun c_15 => ?_) (fun c_15 => ?_)
      · refine wp_iinc (pc := 21) dX6_lettersIn_21 rfl rfl (by omega) ?_
        refine wp_goto (pc := 24) 4 dX6_lettersIn_24 (by decide) ?_
        have h2 := ih (by omega) (by omega)
        rw [sumI_s h0] at h2
        first | rw [if_pos c_15, Int.add_zero] at h2 | rw [if_neg c_15] at h2
        exact h2
      · refine wp_iinc (pc := 18) dX6_lettersIn_18 rfl rfl (by omega) ?_
        refine wp_iinc (pc := 21) dX6_lettersIn_21 rfl rfl (by omega) ?_
        refine wp_goto (pc := 24) 4 dX6_lettersIn_24 (by decide) ?_
        have h2 := ih (by omega) (by omega)
        rw [sumI_s h0] at h2
        first | rw [if_pos c_15, Int.add_zero] at h2 | rw [if_neg c_15] at h2
        exact h2
  refine wp_iconst (pc := 0) dX6_lettersIn_0 (by decide) ?_
  refine wp_istore_n (pc := 1) dX6_lettersIn_1 rfl (Nat.le_of_ble_eq_true rfl) rfl ?_
  refine wp_iconst (pc := 2) dX6_lettersIn_2 (by decide) ?_
  refine wp_istore_n (pc := 3) dX6_lettersIn_3 rfl (Nat.le_of_ble_eq_true rfl) rfl ?_
  exact lp 0 (by omega) (by omega)
set_option maxHeartbeats 4000000 in
set_option maxRecDepth 100000 in
theorem c_widthOf {σ : Sto} {c : Int} (hc : 0 ≤ c) : CtI yX6_widthOf cX6_widthOf 3 (some .int) 1 [mI c] σ (fun z σ' => z = wid c ∧ σ' = σ) := by
  refine ct_of rfl [some (mI c), none, none] (Nat.le_of_ble_eq_true rfl) rfl (fun hσ => ?_)
  show Wp cX6_widthOf RX6 (some .int) 1 0 [some (mI c), none, none] [] _ _
  have lp : ∀ q, q ≤ 6 → 0 ≤ q → Wp cX6_widthOf RX6 (some .int) 1 4 [some (mI c), some (mI (sumI (fun k => lwd (ltr c k)) q)), some (mI q)] [] σ (fun v σ' => ∃ z, v = some (mI z) ∧ (fun z σ' => z = wid c ∧ σ' = σ) z σ') := by
    refine up_ind 6 (fun q hq ih h0 => ?_)
    have hb := sumI_bd (f := fun k => lwd (ltr c k)) (c := 3) h0 (fun k a b => lwd_bd _)
    refine wp_iload_n (pc := 4) dX6_widthOf_4 rfl rfl ?_
    refine wp_bipush (pc := 5) dX6_widthOf_5 (by decide) (by decide) ?_
    refine wp_icmp_ge (pc := 7) 27 dX6_widthOf_7 (by decide) (fun c_7 => ?_) (fun c_7 => ?_)
    · have e : q = 6 := by omega
      subst e
      refine wp_iload_n (pc := 27) dX6_widthOf_27 rfl rfl ?_
      refine wp_ireturn (pc := 28) dX6_widthOf_28 rfl ?_
      exact ⟨_, rfl, rfl, rfl⟩
    · refine wp_iload_n (pc := 10) dX6_widthOf_10 rfl rfl ?_
      refine wp_iload_n (pc := 11) dX6_widthOf_11 rfl rfl ?_
      refine wp_iload_n (pc := 12) dX6_widthOf_12 rfl rfl ?_
      refine wp_csI2 (pc := 13) dX6_widthOf_13 ms_X6_197 (c_letterOf (by omega)) (Nat.le_of_ble_eq_true rfl) (Nat.le_of_ble_eq_true rfl) (fun z_13 σ_13 h_13 => ?_)
      obtain ⟨rfl, e_13⟩ := h_13; have e2_13 := e_13.symm; subst e2_13
      refine wp_csI1 (pc := 16) dX6_widthOf_16 ms_X6_296 c_letterWidth (Nat.le_of_ble_eq_true rfl) (Nat.le_of_ble_eq_true rfl) (fun z_16 σ_16 h_16 => ?_)
      obtain ⟨rfl, e_16⟩ := h_16; have e2_16 := e_16.symm; subst e2_16
      have hl := lwd_bd (ltr c q)
      refine wp_iadd (pc := 19) dX6_widthOf_19 (by omega) ?_
      refine wp_istore_n (pc := 20) dX6_widthOf_20 rfl (Nat.le_of_ble_eq_true rfl) rfl ?_
      refine wp_iinc (pc := 21) dX6_widthOf_21 rfl rfl (by omega) ?_
      refine wp_goto (pc := 24) 4 dX6_widthOf_24 (by decide) ?_
      have h2 := ih (by omega) (by omega)
      rw [sumI_s h0] at h2
      exact h2
  refine wp_iconst (pc := 0) dX6_widthOf_0 (by decide) ?_
  refine wp_istore_n (pc := 1) dX6_widthOf_1 rfl (Nat.le_of_ble_eq_true rfl) rfl ?_
  refine wp_iconst (pc := 2) dX6_widthOf_2 (by decide) ?_
  refine wp_istore_n (pc := 3) dX6_widthOf_3 rfl (Nat.le_of_ble_eq_true rfl) rfl ?_
  exact lp 0 (by omega) (by omega)
set_option maxHeartbeats 4000000 in
set_option maxRecDepth 100000 in
theorem c_isDrop {σ : Sto} {n : Int} : CtI yX6_isDrop cX6_isDrop 1 (some .boolean) 0 [mI n] σ (fun z σ' => z = (if 2 ≤ n ∧ n ≤ 5 then 1 else 0) ∧ σ' = σ) := by
  refine ct_of rfl [some (mI n)] (Nat.le_of_ble_eq_true rfl) rfl (fun hσ => ?_)
  show Wp cX6_isDrop RX6 (some .boolean) 0 0 [some (mI n)] [] _ _
  refine wp_iload_n (pc := 0) dX6_isDrop_0 rfl rfl ?_
  refine wp_iconst (pc := 1) dX6_isDrop_1 (by decide) ?_
  refine wp_icmp_lt (pc := 2) 14 dX6_isDrop_2 (by decide) (fun c_2 => ?_) (fun c_2 => ?_)
  · refine wp_iconst (pc := 14) dX6_isDrop_14 (by decide) ?_
    refine wp_zreturn (pc := 15) dX6_isDrop_15 rfl (by omega) ?_
    exact ⟨_, rfl, by split <;> omega, rfl⟩
  · refine wp_iload_n (pc := 5) dX6_isDrop_5 rfl rfl ?_
    refine wp_iconst (pc := 6) dX6_isDrop_6 (by decide) ?_
    refine wp_icmp_gt (pc := 7) 14 dX6_isDrop_7 (by decide) (fun c_7 => ?_) (fun c_7 => ?_)
    · refine wp_iconst (pc := 14) dX6_isDrop_14 (by decide) ?_
      refine wp_zreturn (pc := 15) dX6_isDrop_15 rfl (by omega) ?_
      exact ⟨_, rfl, by split <;> omega, rfl⟩
    · refine wp_iconst (pc := 10) dX6_isDrop_10 (by decide) ?_
      refine wp_goto (pc := 11) 15 dX6_isDrop_11 (by decide) ?_
      refine wp_zreturn (pc := 15) dX6_isDrop_15 rfl (by omega) ?_
      exact ⟨_, rfl, by split <;> omega, rfl⟩
