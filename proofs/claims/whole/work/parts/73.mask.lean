-- a call that only asks the model
def MO (σ σ' : Sto) : Prop := Frm [71, 82, 83, 84, 85, 86, 87, 88, 89, 90] σ σ' ∧ ∀ k, k ≠ 25 → σ' 71 k = σ 71 k
set_option maxHeartbeats 4000000 in
set_option maxRecDepth 100000 in
theorem MO.rf {σ : Sto} : MO σ σ := ⟨Frm.rf, fun _ _ => rfl⟩
set_option maxHeartbeats 4000000 in
set_option maxRecDepth 100000 in
theorem MO.rm {σ σ' D S : Sto} (h : MO σ σ') (hR : RM σ D S) : RM σ' D S := hR.kp (h.1 72 (by decide)) (h.1 74 (by decide)) (h.2 3 (by decide))
set_option maxHeartbeats 4000000 in
set_option maxRecDepth 100000 in
theorem m_shape {σ D S : Sto} {g w : Int} (h : RM σ D S) : CtI yX7_shape cX7_shape 6 (some .int) 2 [mR 71, mI g, mI w] σ (fun z σ' => z = aShape S g w ∧ σ' = σ) := by
  refine ct_of rfl [some (mR 71), some (mI g), some (mI w), none, none, none] (Nat.le_of_ble_eq_true rfl) rfl (fun hσ => ?_)
  show Wp cX7_shape RX7 (some .int) 2 0 [some (mR 71), some (mI g), some (mI w), none, none, none] [] _ _
  have n := h.n
  have hg := fun a b => h.2.1 g (show 0 ≤ g from a) (show g < S 0 0 from b)
  have hk := fun a b => h.2.2.2.2.2 g (show 0 ≤ g from a) (show g < S 0 0 from b)
  have lp : 0 ≤ g → g < S 0 0 → w = 3 → ∀ i, i ≤ S 3 g → 0 ≤ i → Wp cX7_shape RX7 (some .int) 2 44 [some (mR 71), some (mI g), some (mI w), some (mI (mxI (fun i => S 5 (g * 8 + i)) i)), some (mI i), none] [] σ (fun v σ' => ∃ z, v = some (mI z) ∧ (fun z σ' => z = aShape S g w ∧ σ' = σ) z σ') := by
    intro g0 g1 hw
    obtain ⟨a1, a2, a3, a4⟩ := hg g0 g1
    obtain ⟨b1, b2, b3, b4⟩ := hk g0 g1
    refine up_ind _ (fun i hi ih i0 => ?_)
    have hms := mxI_s (f := fun i => S 5 (g * 8 + i)) i0
    have a5 := fun c => (a4 i i0 (show i < S 3 g from c)).2
    refine wp_iload (pc := 44) dX7_shape_44 rfl ?_
    refine wp_aload_n (pc := 46) dX7_shape_46 rfl rfl ?_
    refine wp_getR (pc := 47) (q := 74) dX7_shape_47 fl_X7_16 rfl ?_
    refine wp_bipush (pc := 50) dX7_shape_50 (by decide) (by decide) ?_
    refine wp_iload_n (pc := 52) dX7_shape_52 rfl rfl ?_
    refine wp_imul (pc := 53) dX7_shape_53 (by omega) ?_
    refine wp_iconst (pc := 54) dX7_shape_54 (by decide) ?_
    refine wp_iadd (pc := 55) dX7_shape_55 (by omega) ?_
    refine wp_iald (pc := 56) 114 dX7_shape_56 rfl (by omega) ?_
    rw [a3]
    refine wp_icmp_ge (pc := 57) 96 dX7_shape_57 (by decide) (fun c_57 => ?_) (fun c_57 => ?_)
    · refine wp_iload_n (pc := 96) dX7_shape_96 rfl rfl ?_
      refine wp_ireturn (pc := 97) dX7_shape_97 rfl ?_
      refine ⟨_, rfl, ?_, rfl⟩
      unfold aShape
      rw [if_neg (by omega), if_neg (by omega), if_neg (by omega), if_neg (by omega), show i = S 3 g by omega]
    · refine wp_aload_n (pc := 60) dX7_shape_60 rfl rfl ?_
      refine wp_getR (pc := 61) (q := 74) dX7_shape_61 fl_X7_16 rfl ?_
      refine wp_bipush (pc := 64) dX7_shape_64 (by decide) (by decide) ?_
      refine wp_iload_n (pc := 66) dX7_shape_66 rfl rfl ?_
      refine wp_imul (pc := 67) dX7_shape_67 (by omega) ?_
      refine wp_bipush (pc := 68) dX7_shape_68 (by decide) (by decide) ?_
      refine wp_iadd (pc := 70) dX7_shape_70 (by omega) ?_
      refine wp_iload (pc := 71) dX7_shape_71 rfl ?_
      refine wp_iadd (pc := 73) dX7_shape_73 (by omega) ?_
      refine wp_iald (pc := 74) 114 dX7_shape_74 rfl (by omega) ?_
      rw [show 19 * g + 11 + i = 19 * g + (11 + i) by omega, a5 (by omega)]
      refine wp_istore (pc := 75) dX7_shape_75 (Nat.le_of_ble_eq_true rfl) rfl ?_
      refine wp_iload (pc := 77) dX7_shape_77 rfl ?_
      refine wp_iload_n (pc := 79) dX7_shape_79 rfl rfl ?_
      refine wp_icmp_le (pc := 80) 88 dX7_shape_80 (by decide) (fun c_80 => ?_) (fun c_80 => ?_)
      · refine wp_iload_n (pc := 88) dX7_shape_88 rfl rfl ?_
        refine wp_istore_n (pc := 89) dX7_shape_89 rfl (Nat.le_of_ble_eq_true rfl) rfl ?_
        refine wp_iinc (pc := 90) dX7_shape_90 rfl rfl (by omega) ?_
        refine wp_goto (pc := 93) 44 dX7_shape_93 (by decide) ?_
        refine wp_fgt [5] ?_
        have ih2 := ih (by omega) (by omega)
        rw [hms] at ih2
        generalize hA : mxI (fun i => S 5 (g * 8 + i)) i = A at *
        first
          | (rw [show max A (S 5 (g * 8 + i)) = S 5 (g * 8 + i) by omega] at ih2
             exact ih2)
          | (rw [show max A (S 5 (g * 8 + i)) = A by omega] at ih2
             exact ih2)
      · refine wp_iload (pc := 83) dX7_shape_83 rfl ?_
        refine wp_goto (pc := 85) 89 dX7_shape_85 (by decide) ?_
        refine wp_istore_n (pc := 89) dX7_shape_89 rfl (Nat.le_of_ble_eq_true rfl) rfl ?_
        refine wp_iinc (pc := 90) dX7_shape_90 rfl rfl (by omega) ?_
        refine wp_goto (pc := 93) 44 dX7_shape_93 (by decide) ?_
        refine wp_fgt [5] ?_
        have ih2 := ih (by omega) (by omega)
        rw [hms] at ih2
        generalize hA : mxI (fun i => S 5 (g * 8 + i)) i = A at *
        first
          | (rw [show max A (S 5 (g * 8 + i)) = S 5 (g * 8 + i) by omega] at ih2
             exact ih2)
          | (rw [show max A (S 5 (g * 8 + i)) = A by omega] at ih2
             exact ih2)
  refine wp_aload_n (pc := 0) dX7_shape_0 rfl rfl ?_
  refine wp_iload_n (pc := 1) dX7_shape_1 rfl rfl ?_
  refine wp_cvI1 (pc := 2) dX7_shape_2 mv_X7_258 (m_isShape h) (Nat.le_of_ble_eq_true rfl) rfl (Nat.le_of_ble_eq_true rfl) (fun z_2 σ_2 h_2 => ?_)
  obtain ⟨y_2, e_2⟩ := h_2; have e2_2 := e_2.symm; subst e2_2
  refine wp_if_eq (pc := 5) 20 dX7_shape_5 (by decide) (fun c_5 => ?_) (fun c_5 => ?_)
  · refine wp_iconst (pc := 20) dX7_shape_20 (by decide) ?_
    refine wp_ireturn (pc := 21) dX7_shape_21 rfl ?_
    refine ⟨_, rfl, ?_, rfl⟩
    unfold aShape
    rw [if_pos (by omega)]
  · refine wp_iload_n (pc := 8) dX7_shape_8 rfl rfl ?_
    refine wp_i2l (pc := 9) dX7_shape_9 ?_
    refine wp_lconst (pc := 10) (z := 0) dX7_shape_10 (by decide) (by decide) ?_
    refine wp_ldc2 (pc := 11) (z := 3) dX7_shape_11 kc_X7_261 (by decide) (by decide) ?_
    refine wp_csI3 (pc := 14) dX7_shape_14 ms_X7_73 m_in (Nat.le_of_ble_eq_true rfl) (Nat.le_of_ble_eq_true rfl) (fun z_14 σ_14 h_14 => ?_)
    obtain ⟨y_14, e_14⟩ := h_14; have e2_14 := e_14.symm; subst e2_14
    refine wp_if_ne (pc := 17) 22 dX7_shape_17 (by decide) (fun c_17 => ?_) (fun c_17 => ?_)
    · refine wp_iload_n (pc := 22) dX7_shape_22 rfl rfl ?_
      refine wp_iconst (pc := 23) dX7_shape_23 (by decide) ?_
      refine wp_icmp_ge (pc := 24) 39 dX7_shape_24 (by decide) (fun c_24 => ?_) (fun c_24 => ?_)
      · refine wp_iconst (pc := 39) dX7_shape_39 (by decide) ?_
        refine wp_istore_n (pc := 40) dX7_shape_40 rfl (Nat.le_of_ble_eq_true rfl) rfl ?_
        refine wp_iconst (pc := 41) dX7_shape_41 (by decide) ?_
        refine wp_istore (pc := 42) dX7_shape_42 (Nat.le_of_ble_eq_true rfl) rfl ?_
        exact lp (by omega) (by omega) (by omega) 0 (by have := hk (by omega) (by omega); omega) (by decide)
      · refine wp_aload_n (pc := 27) dX7_shape_27 rfl rfl ?_
        refine wp_getR (pc := 28) (q := 74) dX7_shape_28 fl_X7_16 rfl ?_
        refine wp_bipush (pc := 31) dX7_shape_31 (by decide) (by decide) ?_
        refine wp_iload_n (pc := 33) dX7_shape_33 rfl rfl ?_
        refine wp_imul (pc := 34) dX7_shape_34 (by omega) ?_
        refine wp_iload_n (pc := 35) dX7_shape_35 rfl rfl ?_
        refine wp_iadd (pc := 36) dX7_shape_36 (by omega) ?_
        refine wp_iald (pc := 37) 114 dX7_shape_37 rfl (by omega) ?_
        refine wp_ireturn (pc := 38) dX7_shape_38 rfl ?_
        obtain ⟨a1, a2, a3, a4⟩ := hg (by omega) (by omega)
        refine ⟨_, rfl, ?_, rfl⟩
        unfold aShape
        rcases (show w = 0 ∨ w = 1 ∨ w = 2 by omega) with rfl | rfl | rfl
        · rw [if_neg (by omega), if_pos rfl, Int.add_zero]; exact a1
        · rw [if_neg (by omega), if_neg (by omega), if_pos rfl]; exact a2
        · rw [if_neg (by omega), if_neg (by omega), if_neg (by omega), if_pos rfl]; exact a3
    · refine wp_iconst (pc := 20) dX7_shape_20 (by decide) ?_
      refine wp_ireturn (pc := 21) dX7_shape_21 rfl ?_
      refine ⟨_, rfl, ?_, rfl⟩
      unfold aShape
      rw [if_pos (by omega)]
set_option maxHeartbeats 4000000 in
set_option maxRecDepth 100000 in
theorem m_step {σ D S : Sto} {g i w : Int} (h : RM σ D S) : CtI yX7_step cX7_step 4 (some .int) 2 [mR 71, mI g, mI i, mI w] σ (fun z σ' => z = aStep S g i w ∧ σ' = σ) := by
  refine ct_of rfl [some (mR 71), some (mI g), some (mI i), some (mI w)] (Nat.le_of_ble_eq_true rfl) rfl (fun hσ => ?_)
  show Wp cX7_step RX7 (some .int) 2 0 [some (mR 71), some (mI g), some (mI i), some (mI w)] [] _ _
  have n := h.n
  have hg := fun a b => h.2.1 g (show 0 ≤ g from a) (show g < S 0 0 from b)
  have hk := fun a b => h.2.2.2.2.2 g (show 0 ≤ g from a) (show g < S 0 0 from b)
  refine wp_aload_n (pc := 0) dX7_step_0 rfl rfl ?_
  refine wp_iload_n (pc := 1) dX7_step_1 rfl rfl ?_
  refine wp_cvI1 (pc := 2) dX7_step_2 mv_X7_258 (m_isShape h) (Nat.le_of_ble_eq_true rfl) rfl (Nat.le_of_ble_eq_true rfl) (fun z_2 σ_2 h_2 => ?_)
  obtain ⟨y_2, e_2⟩ := h_2; have e2_2 := e_2.symm; subst e2_2
  refine wp_if_eq (pc := 5) 22 dX7_step_5 (by decide) (fun c_5 => ?_) (fun c_5 => ?_)
  · refine wp_iconst (pc := 22) dX7_step_22 (by decide) ?_
    refine wp_ireturn (pc := 23) dX7_step_23 rfl ?_
    refine ⟨_, rfl, ?_, rfl⟩
    unfold aStep
    rw [if_pos (by omega)]
  · refine wp_iload_n (pc := 8) dX7_step_8 rfl rfl ?_
    refine wp_if_lt (pc := 9) 22 dX7_step_9 (by decide) (fun c_9 => ?_) (fun c_9 => ?_)
    · refine wp_iconst (pc := 22) dX7_step_22 (by decide) ?_
      refine wp_ireturn (pc := 23) dX7_step_23 rfl ?_
      refine ⟨_, rfl, ?_, rfl⟩
      unfold aStep
      rw [if_pos (by omega)]
    · refine wp_iload_n (pc := 12) dX7_step_12 rfl rfl ?_
      refine wp_i2l (pc := 13) dX7_step_13 ?_
      refine wp_lconst (pc := 14) (z := 0) dX7_step_14 (by decide) (by decide) ?_
      refine wp_lconst (pc := 15) (z := 1) dX7_step_15 (by decide) (by decide) ?_
      refine wp_csI3 (pc := 16) dX7_step_16 ms_X7_73 m_in (Nat.le_of_ble_eq_true rfl) (Nat.le_of_ble_eq_true rfl) (fun z_16 σ_16 h_16 => ?_)
      obtain ⟨y_16, e_16⟩ := h_16; have e2_16 := e_16.symm; subst e2_16
      refine wp_if_ne (pc := 19) 24 dX7_step_19 (by decide) (fun c_19 => ?_) (fun c_19 => ?_)
      · obtain ⟨a1, a2, a3, a4⟩ := hg (by omega) (by omega)
        obtain ⟨b1, b2, b3, b4⟩ := hk (by omega) (by omega)
        refine wp_iload_n (pc := 24) dX7_step_24 rfl rfl ?_
        refine wp_aload_n (pc := 25) dX7_step_25 rfl rfl ?_
        refine wp_getR (pc := 26) (q := 74) dX7_step_26 fl_X7_16 rfl ?_
        refine wp_bipush (pc := 29) dX7_step_29 (by decide) (by decide) ?_
        refine wp_iload_n (pc := 31) dX7_step_31 rfl rfl ?_
        refine wp_imul (pc := 32) dX7_step_32 (by omega) ?_
        refine wp_iconst (pc := 33) dX7_step_33 (by decide) ?_
        refine wp_iadd (pc := 34) dX7_step_34 (by omega) ?_
        refine wp_iald (pc := 35) 114 dX7_step_35 rfl (by omega) ?_
        rw [a3]
        refine wp_icmp_ge (pc := 36) 64 dX7_step_36 (by decide) (fun c_36 => ?_) (fun c_36 => ?_)
        · refine wp_bipush (pc := 64) dX7_step_64 (by decide) (by decide) ?_
          refine wp_ireturn (pc := 66) dX7_step_66 rfl ?_
          refine ⟨_, rfl, ?_, rfl⟩
          unfold aStep
          first
            | (rw [if_neg (by omega), if_pos (by omega)]; done)
            | (rw [if_neg (by omega), if_neg (by omega), if_pos (by omega), show 19 * g + 3 + i = 19 * g + (3 + i) by omega]; exact (a4 i (by omega) (by omega)).1)
            | (rw [if_neg (by omega), if_neg (by omega), if_neg (by omega), show 19 * g + 11 + i = 19 * g + (11 + i) by omega]; exact (a4 i (by omega) (by omega)).2)
        · refine wp_aload_n (pc := 39) dX7_step_39 rfl rfl ?_
          refine wp_getR (pc := 40) (q := 74) dX7_step_40 fl_X7_16 rfl ?_
          refine wp_bipush (pc := 43) dX7_step_43 (by decide) (by decide) ?_
          refine wp_iload_n (pc := 45) dX7_step_45 rfl rfl ?_
          refine wp_imul (pc := 46) dX7_step_46 (by omega) ?_
          refine wp_iload_n (pc := 47) dX7_step_47 rfl rfl ?_
          refine wp_if_ne (pc := 48) 55 dX7_step_48 (by decide) (fun c_48 => ?_) (fun c_48 => ?_)
          · refine wp_bipush (pc := 55) dX7_step_55 (by decide) (by decide) ?_
            refine wp_iadd (pc := 57) dX7_step_57 (by omega) ?_
            refine wp_iload_n (pc := 58) dX7_step_58 rfl rfl ?_
            refine wp_iadd (pc := 59) dX7_step_59 (by omega) ?_
            refine wp_iald (pc := 60) 114 dX7_step_60 rfl (by omega) ?_
            refine wp_goto (pc := 61) 66 dX7_step_61 (by decide) ?_
            refine wp_ireturn (pc := 66) dX7_step_66 rfl ?_
            refine ⟨_, rfl, ?_, rfl⟩
            unfold aStep
            first
              | (rw [if_neg (by omega), if_pos (by omega)]; done)
              | (rw [if_neg (by omega), if_neg (by omega), if_pos (by omega), show 19 * g + 3 + i = 19 * g + (3 + i) by omega]; exact (a4 i (by omega) (by omega)).1)
              | (rw [if_neg (by omega), if_neg (by omega), if_neg (by omega), show 19 * g + 11 + i = 19 * g + (11 + i) by omega]; exact (a4 i (by omega) (by omega)).2)
          · refine wp_iconst (pc := 51) dX7_step_51 (by decide) ?_
            refine wp_goto (pc := 52) 57 dX7_step_52 (by decide) ?_
            refine wp_iadd (pc := 57) dX7_step_57 (by omega) ?_
            refine wp_iload_n (pc := 58) dX7_step_58 rfl rfl ?_
            refine wp_iadd (pc := 59) dX7_step_59 (by omega) ?_
            refine wp_iald (pc := 60) 114 dX7_step_60 rfl (by omega) ?_
            refine wp_goto (pc := 61) 66 dX7_step_61 (by decide) ?_
            refine wp_ireturn (pc := 66) dX7_step_66 rfl ?_
            refine ⟨_, rfl, ?_, rfl⟩
            unfold aStep
            first
              | (rw [if_neg (by omega), if_pos (by omega)]; done)
              | (rw [if_neg (by omega), if_neg (by omega), if_pos (by omega), show 19 * g + 3 + i = 19 * g + (3 + i) by omega]; exact (a4 i (by omega) (by omega)).1)
              | (rw [if_neg (by omega), if_neg (by omega), if_neg (by omega), show 19 * g + 11 + i = 19 * g + (11 + i) by omega]; exact (a4 i (by omega) (by omega)).2)
      · refine wp_iconst (pc := 22) dX7_step_22 (by decide) ?_
        refine wp_ireturn (pc := 23) dX7_step_23 rfl ?_
        refine ⟨_, rfl, ?_, rfl⟩
        unfold aStep
        rw [if_pos (by omega)]
set_option maxHeartbeats 4000000 in
set_option maxRecDepth 100000 in
theorem m_letter {σ D S : Sto} {p i k : Int} (h : RM σ D S) : CtI yX7_letter cX7_letter 5 (some .int) 2 [mR 71, mI p, mI i, mI k] σ (fun z σ' => z = aLetter D p i k ∧ σ' = σ) := by
  refine ct_of rfl [some (mR 71), some (mI p), some (mI i), some (mI k), none] (Nat.le_of_ble_eq_true rfl) rfl (fun hσ => ?_)
  show Wp cX7_letter RX7 (some .int) 2 0 [some (mR 71), some (mI p), some (mI i), some (mI k), none] [] _ _
  have n := h.n
  have hp := fun a b => h.p (p := p) a b
  refine wp_aload_n (pc := 0) dX7_letter_0 rfl rfl ?_
  refine wp_iload_n (pc := 1) dX7_letter_1 rfl rfl ?_
  refine wp_cvI1 (pc := 2) dX7_letter_2 mv_X7_263 (m_isPar h) (Nat.le_of_ble_eq_true rfl) rfl (Nat.le_of_ble_eq_true rfl) (fun z_2 σ_2 h_2 => ?_)
  obtain ⟨y_2, e_2⟩ := h_2; have e2_2 := e_2.symm; subst e2_2
  refine wp_if_eq (pc := 5) 16 dX7_letter_5 (by decide) (fun c_5 => ?_) (fun c_5 => ?_)
  · refine wp_iconst (pc := 16) dX7_letter_16 (by decide) ?_
    refine wp_ireturn (pc := 17) dX7_letter_17 rfl ?_
    refine ⟨_, rfl, ?_, rfl⟩
    unfold aLetter
    rw [if_pos (by omega)]
  · refine wp_iload_n (pc := 8) dX7_letter_8 rfl rfl ?_
    refine wp_if_lt (pc := 9) 16 dX7_letter_9 (by decide) (fun c_9 => ?_) (fun c_9 => ?_)
    · refine wp_iconst (pc := 16) dX7_letter_16 (by decide) ?_
      refine wp_ireturn (pc := 17) dX7_letter_17 rfl ?_
      refine ⟨_, rfl, ?_, rfl⟩
      unfold aLetter
      rw [if_pos (by omega)]
    · refine wp_iload_n (pc := 12) dX7_letter_12 rfl rfl ?_
      refine wp_if_ge (pc := 13) 18 dX7_letter_13 (by decide) (fun c_13 => ?_) (fun c_13 => ?_)
      · have q := hp (by omega) (by omega)
        refine wp_iload_n (pc := 18) dX7_letter_18 rfl rfl ?_
        refine wp_aload_n (pc := 19) dX7_letter_19 rfl rfl ?_
        refine wp_iload_n (pc := 20) dX7_letter_20 rfl rfl ?_
        refine wp_cvI1 (pc := 21) dX7_letter_21 mv_X7_171 (m_parWords h (by omega)) (Nat.le_of_ble_eq_true rfl) rfl (Nat.le_of_ble_eq_true rfl) (fun z_21 σ_21 h_21 => ?_)
        obtain ⟨rfl, e_21⟩ := h_21; have e2_21 := e_21.symm; subst e2_21
        refine wp_icmp_lt (pc := 24) 30 dX7_letter_24 (by decide) (fun c_24 => ?_) (fun c_24 => ?_)
        · obtain ⟨w1, w2, w3, w4, w5⟩ := h.w (w := fstS D p + i) (by omega) (by omega)
          refine wp_bipush (pc := 30) dX7_letter_30 (by decide) (by decide) ?_
          refine wp_bipush (pc := 32) dX7_letter_32 (by decide) (by decide) ?_
          refine wp_aload_n (pc := 34) dX7_letter_34 rfl rfl ?_
          refine wp_iload_n (pc := 35) dX7_letter_35 rfl rfl ?_
          refine wp_cvI1 (pc := 36) dX7_letter_36 mv_X7_201 (m_firstWord h (by omega)) (Nat.le_of_ble_eq_true rfl) rfl (Nat.le_of_ble_eq_true rfl) (fun z_36 σ_36 h_36 => ?_)
          obtain ⟨rfl, e_36⟩ := h_36; have e2_36 := e_36.symm; subst e2_36
          refine wp_iload_n (pc := 39) dX7_letter_39 rfl rfl ?_
          refine wp_iadd (pc := 40) dX7_letter_40 (by omega) ?_
          refine wp_imul (pc := 41) dX7_letter_41 (by omega) ?_
          refine wp_iadd (pc := 42) dX7_letter_42 (by omega) ?_
          refine wp_istore (pc := 43) dX7_letter_43 (Nat.le_of_ble_eq_true rfl) rfl ?_
          refine wp_iload_n (pc := 45) dX7_letter_45 rfl rfl ?_
          refine wp_aload_n (pc := 46) dX7_letter_46 rfl rfl ?_
          refine wp_getR (pc := 47) (q := 72) dX7_letter_47 fl_X7_7 rfl ?_
          refine wp_iload (pc := 50) dX7_letter_50 rfl ?_
          refine wp_iald (pc := 52) 591 dX7_letter_52 rfl (by omega) ?_
          rw [w1]
          refine wp_icmp_ge (pc := 53) 70 dX7_letter_53 (by decide) (fun c_53 => ?_) (fun c_53 => ?_)
          · refine wp_bipush (pc := 70) dX7_letter_70 (by decide) (by decide) ?_
            refine wp_ireturn (pc := 72) dX7_letter_72 rfl ?_
            refine ⟨_, rfl, ?_, rfl⟩
            unfold aLetter
            first
              | (rw [if_neg (by omega), if_neg (by omega), if_pos (by omega)]; exact w2 k (by omega) (by omega))
              | (rw [if_neg (by omega), if_neg (by omega), if_neg (by omega)]; done)
          · refine wp_aload_n (pc := 56) dX7_letter_56 rfl rfl ?_
            refine wp_getR (pc := 57) (q := 72) dX7_letter_57 fl_X7_7 rfl ?_
            refine wp_iload (pc := 60) dX7_letter_60 rfl ?_
            refine wp_iconst (pc := 62) dX7_letter_62 (by decide) ?_
            refine wp_iadd (pc := 63) dX7_letter_63 (by omega) ?_
            refine wp_iload_n (pc := 64) dX7_letter_64 rfl rfl ?_
            refine wp_iadd (pc := 65) dX7_letter_65 (by omega) ?_
            refine wp_iald (pc := 66) 591 dX7_letter_66 rfl (by omega) ?_
            refine wp_goto (pc := 67) 72 dX7_letter_67 (by decide) ?_
            refine wp_ireturn (pc := 72) dX7_letter_72 rfl ?_
            refine ⟨_, rfl, ?_, rfl⟩
            unfold aLetter
            first
              | (rw [if_neg (by omega), if_neg (by omega), if_pos (by omega)]; exact w2 k (by omega) (by omega))
              | (rw [if_neg (by omega), if_neg (by omega), if_neg (by omega)]; done)
        · refine wp_bipush (pc := 27) dX7_letter_27 (by decide) (by decide) ?_
          refine wp_ireturn (pc := 29) dX7_letter_29 rfl ?_
          refine ⟨_, rfl, ?_, rfl⟩
          unfold aLetter
          rw [if_neg (by omega), if_pos (by omega)]
      · refine wp_iconst (pc := 16) dX7_letter_16 (by decide) ?_
        refine wp_ireturn (pc := 17) dX7_letter_17 rfl ?_
        refine ⟨_, rfl, ?_, rfl⟩
        unfold aLetter
        rw [if_pos (by omega)]
set_option maxHeartbeats 4000000 in
set_option maxRecDepth 100000 in
theorem m_drawn {σ D S : Sto} {p i w : Int} (h : RM σ D S) : CtI yX7_drawn cX7_drawn 4 (some .int) 3 [mR 71, mI p, mI i, mI w] σ (fun z σ' => z = aDrawn D S p i w ∧ σ' = σ) := by
  refine ct_of rfl [some (mR 71), some (mI p), some (mI i), some (mI w)] (Nat.le_of_ble_eq_true rfl) rfl (fun hσ => ?_)
  show Wp cX7_drawn RX7 (some .int) 3 0 [some (mR 71), some (mI p), some (mI i), some (mI w)] [] _ _
  have n := h.n
  have hp := fun a b => h.p (p := p) a b
  have hg := fun a b c => h.g (p := p) a b c
  refine wp_aload_n (pc := 0) dX7_drawn_0 rfl rfl ?_
  refine wp_iload_n (pc := 1) dX7_drawn_1 rfl rfl ?_
  refine wp_cvI1 (pc := 2) dX7_drawn_2 mv_X7_263 (m_isPar h) (Nat.le_of_ble_eq_true rfl) rfl (Nat.le_of_ble_eq_true rfl) (fun z_2 σ_2 h_2 => ?_)
  obtain ⟨y_2, e_2⟩ := h_2; have e2_2 := e_2.symm; subst e2_2
  refine wp_if_eq (pc := 5) 24 dX7_drawn_5 (by decide) (fun c_5 => ?_) (fun c_5 => ?_)
  · refine wp_iconst (pc := 24) dX7_drawn_24 (by decide) ?_
    refine wp_ireturn (pc := 25) dX7_drawn_25 rfl ?_
    refine ⟨_, rfl, ?_, rfl⟩
    unfold aDrawn
    rw [if_pos (by omega)]
  · refine wp_iload_n (pc := 8) dX7_drawn_8 rfl rfl ?_
    refine wp_if_lt (pc := 9) 24 dX7_drawn_9 (by decide) (fun c_9 => ?_) (fun c_9 => ?_)
    · refine wp_iconst (pc := 24) dX7_drawn_24 (by decide) ?_
      refine wp_ireturn (pc := 25) dX7_drawn_25 rfl ?_
      refine ⟨_, rfl, ?_, rfl⟩
      unfold aDrawn
      rw [if_pos (by omega)]
    · refine wp_iload_n (pc := 12) dX7_drawn_12 rfl rfl ?_
      refine wp_i2l (pc := 13) dX7_drawn_13 ?_
      refine wp_lconst (pc := 14) (z := 0) dX7_drawn_14 (by decide) (by decide) ?_
      refine wp_ldc2 (pc := 15) (z := 2) dX7_drawn_15 kc_X7_282 (by decide) (by decide) ?_
      refine wp_csI3 (pc := 18) dX7_drawn_18 ms_X7_73 m_in (Nat.le_of_ble_eq_true rfl) (Nat.le_of_ble_eq_true rfl) (fun z_18 σ_18 h_18 => ?_)
      obtain ⟨y_18, e_18⟩ := h_18; have e2_18 := e_18.symm; subst e2_18
      refine wp_if_ne (pc := 21) 26 dX7_drawn_21 (by decide) (fun c_21 => ?_) (fun c_21 => ?_)
      · have q := hp (by omega) (by omega)
        refine wp_aload_n (pc := 26) dX7_drawn_26 rfl rfl ?_
        refine wp_iload_n (pc := 27) dX7_drawn_27 rfl rfl ?_
        refine wp_cvI1 (pc := 28) dX7_drawn_28 mv_X7_174 (m_parShape h (by omega)) (Nat.le_of_ble_eq_true rfl) rfl (Nat.le_of_ble_eq_true rfl) (fun z_28 σ_28 h_28 => ?_)
        obtain ⟨rfl, e_28⟩ := h_28; have e2_28 := e_28.symm; subst e2_28
        refine wp_bipush (pc := 31) dX7_drawn_31 (by decide) (by decide) ?_
        refine wp_icmp_eq (pc := 33) 46 dX7_drawn_33 (by decide) (fun c_33 => ?_) (fun c_33 => ?_)
        · refine wp_bipush (pc := 46) dX7_drawn_46 (by decide) (by decide) ?_
          refine wp_ireturn (pc := 48) dX7_drawn_48 rfl ?_
          refine ⟨_, rfl, ?_, rfl⟩
          unfold aDrawn
          rw [if_neg (by omega), if_pos (by omega)]
        · obtain ⟨g1, g2, g3, g4, g5⟩ := hg (by omega) (by omega) (by omega)
          refine wp_iload_n (pc := 36) dX7_drawn_36 rfl rfl ?_
          refine wp_aload_n (pc := 37) dX7_drawn_37 rfl rfl ?_
          refine wp_iload_n (pc := 38) dX7_drawn_38 rfl rfl ?_
          refine wp_iconst (pc := 39) dX7_drawn_39 (by decide) ?_
          refine wp_cvI2 (pc := 40) dX7_drawn_40 mv_X7_180 (m_ofShape h (by omega) (by omega) (by omega)) (Nat.le_of_ble_eq_true rfl) rfl (Nat.le_of_ble_eq_true rfl) (fun z_40 σ_40 h_40 => ?_)
          obtain ⟨rfl, e_40⟩ := h_40; have e2_40 := e_40.symm; subst e2_40
          rw [g2]
          refine wp_icmp_lt (pc := 43) 49 dX7_drawn_43 (by decide) (fun c_43 => ?_) (fun c_43 => ?_)
          · refine wp_iload_n (pc := 49) dX7_drawn_49 rfl rfl ?_
            refine wp_iconst (pc := 50) dX7_drawn_50 (by decide) ?_
            refine wp_icmp_ne (pc := 51) 63 dX7_drawn_51 (by decide) (fun c_51 => ?_) (fun c_51 => ?_)
            · refine wp_aload_n (pc := 63) dX7_drawn_63 rfl rfl ?_
              refine wp_iload_n (pc := 64) dX7_drawn_64 rfl rfl ?_
              refine wp_iload_n (pc := 65) dX7_drawn_65 rfl rfl ?_
              refine wp_iload_n (pc := 66) dX7_drawn_66 rfl rfl ?_
              refine wp_iadd (pc := 67) dX7_drawn_67 (by omega) ?_
              refine wp_cvI2 (pc := 68) dX7_drawn_68 mv_X7_186 (m_drawnBegin h (by omega) (by omega) (by omega)) (Nat.le_of_ble_eq_true rfl) rfl (Nat.le_of_ble_eq_true rfl) (fun z_68 σ_68 h_68 => ?_)
              obtain ⟨zz_68, e_68⟩ := h_68; have e2_68 := e_68.symm; subst e2_68
              refine wp_ireturn (pc := 71) dX7_drawn_71 rfl ?_
              refine ⟨_, rfl, ?_, rfl⟩
              unfold aDrawn
              first
                | (rw [if_neg (by omega), if_neg (by omega), if_neg (by omega), if_neg (by omega)]; exact zz_57)
                | (rcases (show w = 0 ∨ w = 1 by omega) with rfl | rfl
                   · rw [if_neg (by omega), if_neg (by omega), if_pos rfl, zz_68, Int.add_zero, if_neg (by omega)]
                   · rw [if_neg (by omega), if_neg (by omega), if_neg (by omega), if_pos rfl, zz_68]
                     unfold den
                     by_cases c : i + 1 = S 3 (D 2 p)
                     · rw [if_pos c, if_pos (by omega)]
                     · rw [if_neg c, if_neg (by omega)])
            · refine wp_aload_n (pc := 54) dX7_drawn_54 rfl rfl ?_
              refine wp_iload_n (pc := 55) dX7_drawn_55 rfl rfl ?_
              refine wp_iload_n (pc := 56) dX7_drawn_56 rfl rfl ?_
              refine wp_cvI2 (pc := 57) dX7_drawn_57 mv_X7_189 (m_drawnExtent h (by omega) (by omega) (by omega)) (Nat.le_of_ble_eq_true rfl) rfl (Nat.le_of_ble_eq_true rfl) (fun z_57 σ_57 h_57 => ?_)
              obtain ⟨zz_57, e_57⟩ := h_57; have e2_57 := e_57.symm; subst e2_57
              refine wp_goto (pc := 60) 71 dX7_drawn_60 (by decide) ?_
              refine wp_ireturn (pc := 71) dX7_drawn_71 rfl ?_
              refine ⟨_, rfl, ?_, rfl⟩
              unfold aDrawn
              first
                | (rw [if_neg (by omega), if_neg (by omega), if_neg (by omega), if_neg (by omega)]; exact zz_57)
                | (rcases (show w = 0 ∨ w = 1 by omega) with rfl | rfl
                   · rw [if_neg (by omega), if_neg (by omega), if_pos rfl, zz_68, Int.add_zero, if_neg (by omega)]
                   · rw [if_neg (by omega), if_neg (by omega), if_neg (by omega), if_pos rfl, zz_68]
                     unfold den
                     by_cases c : i + 1 = S 3 (D 2 p)
                     · rw [if_pos c, if_pos (by omega)]
                     · rw [if_neg c, if_neg (by omega)])
          · refine wp_bipush (pc := 46) dX7_drawn_46 (by decide) (by decide) ?_
            refine wp_ireturn (pc := 48) dX7_drawn_48 rfl ?_
            refine ⟨_, rfl, ?_, rfl⟩
            unfold aDrawn
            rw [if_neg (by omega), if_pos (by omega)]
      · refine wp_iconst (pc := 24) dX7_drawn_24 (by decide) ?_
        refine wp_ireturn (pc := 25) dX7_drawn_25 rfl ?_
        refine ⟨_, rfl, ?_, rfl⟩
        unfold aDrawn
        rw [if_pos (by omega)]
set_option maxHeartbeats 4000000 in
set_option maxRecDepth 100000 in
theorem m_reach {σ D S : Sto} {p j : Int} (h : RM σ D S) : CtI yX7_reach cX7_reach 3 (some .int) 4 [mR 71, mI p, mI j] σ (fun z σ' => z = aReach D S p j ∧ σ' = σ) := by
  refine ct_of rfl [some (mR 71), some (mI p), some (mI j)] (Nat.le_of_ble_eq_true rfl) rfl (fun hσ => ?_)
  show Wp cX7_reach RX7 (some .int) 4 0 [some (mR 71), some (mI p), some (mI j)] [] _ _
  have n := h.n
  have hp := fun a b => h.p (p := p) a b
  refine wp_aload_n (pc := 0) dX7_reach_0 rfl rfl ?_
  refine wp_iload_n (pc := 1) dX7_reach_1 rfl rfl ?_
  refine wp_cvI1 (pc := 2) dX7_reach_2 mv_X7_263 (m_isPar h) (Nat.le_of_ble_eq_true rfl) rfl (Nat.le_of_ble_eq_true rfl) (fun z_2 σ_2 h_2 => ?_)
  obtain ⟨y_2, e_2⟩ := h_2; have e2_2 := e_2.symm; subst e2_2
  refine wp_if_eq (pc := 5) 12 dX7_reach_5 (by decide) (fun c_5 => ?_) (fun c_5 => ?_)
  · refine wp_iconst (pc := 12) dX7_reach_12 (by decide) ?_
    refine wp_ireturn (pc := 13) dX7_reach_13 rfl ?_
    refine ⟨_, rfl, ?_, rfl⟩
    unfold aReach
    rw [if_pos (by omega)]
  · refine wp_iload_n (pc := 8) dX7_reach_8 rfl rfl ?_
    refine wp_if_ge (pc := 9) 14 dX7_reach_9 (by decide) (fun c_9 => ?_) (fun c_9 => ?_)
    · have q := hp (by omega) (by omega)
      refine wp_aload_n (pc := 14) dX7_reach_14 rfl rfl ?_
      refine wp_iload_n (pc := 15) dX7_reach_15 rfl rfl ?_
      refine wp_cvI1 (pc := 16) dX7_reach_16 mv_X7_174 (m_parShape h (by omega)) (Nat.le_of_ble_eq_true rfl) rfl (Nat.le_of_ble_eq_true rfl) (fun z_16 σ_16 h_16 => ?_)
      obtain ⟨rfl, e_16⟩ := h_16; have e2_16 := e_16.symm; subst e2_16
      refine wp_bipush (pc := 19) dX7_reach_19 (by decide) (by decide) ?_
      refine wp_icmp_ne (pc := 21) 29 dX7_reach_21 (by decide) (fun c_21 => ?_) (fun c_21 => ?_)
      · refine wp_aload_n (pc := 29) dX7_reach_29 rfl rfl ?_
        refine wp_iload_n (pc := 30) dX7_reach_30 rfl rfl ?_
        refine wp_iload_n (pc := 31) dX7_reach_31 rfl rfl ?_
        refine wp_cvI2 (pc := 32) dX7_reach_32 mv_X7_192 (m_reachOf h (by omega)) (Nat.le_of_ble_eq_true rfl) rfl (Nat.le_of_ble_eq_true rfl) (fun z_32 σ_32 h_32 => ?_)
        obtain ⟨rfl, e_32⟩ := h_32; have e2_32 := e_32.symm; subst e2_32
        refine wp_ireturn (pc := 35) dX7_reach_35 rfl ?_
        refine ⟨_, rfl, ?_, rfl⟩
        unfold aReach
        first
          | (rw [if_neg (by omega), if_pos (by omega)]; done)
          | (rw [if_neg (by omega), if_neg (by omega)]; done)
      · refine wp_bipush (pc := 24) dX7_reach_24 (by decide) (by decide) ?_
        refine wp_goto (pc := 26) 35 dX7_reach_26 (by decide) ?_
        refine wp_ireturn (pc := 35) dX7_reach_35 rfl ?_
        refine ⟨_, rfl, ?_, rfl⟩
        unfold aReach
        first
          | (rw [if_neg (by omega), if_pos (by omega)]; done)
          | (rw [if_neg (by omega), if_neg (by omega)]; done)
    · refine wp_iconst (pc := 12) dX7_reach_12 (by decide) ?_
      refine wp_ireturn (pc := 13) dX7_reach_13 rfl ?_
      refine ⟨_, rfl, ?_, rfl⟩
      unfold aReach
      rw [if_pos (by omega)]
set_option maxHeartbeats 4000000 in
set_option maxRecDepth 100000 in
theorem m_rule {σ D S : Sto} {w : Int} (h : RM σ D S) : CtI yX7_rule cX7_rule 2 (some .int) 8 [mR 71, mI w] σ (fun z σ' => z = aRule D S (σ 71 9) ((if σ 77 0 = 0 then 0 else 1) + (if σ 77 1 = 0 then 0 else 1)) w ∧ MO σ σ') := by
  refine ct_of rfl [some (mR 71), some (mI w)] (Nat.le_of_ble_eq_true rfl) rfl (fun hσ => ?_)
  show Wp cX7_rule RX7 (some .int) 8 0 [some (mR 71), some (mI w)] [] _ _
  have n := h.n
  have hc := cfw_at D S h.2.2.2.1
  refine wp_iload_n (pc := 0) dX7_rule_0 rfl rfl ?_
  refine wp_i2l (pc := 1) dX7_rule_1 ?_
  refine wp_lconst (pc := 2) (z := 0) dX7_rule_2 (by decide) (by decide) ?_
  refine wp_ldc2 (pc := 3) (z := 15) dX7_rule_3 kc_X7_243 (by decide) (by decide) ?_
  refine wp_csI3 (pc := 6) dX7_rule_6 ms_X7_73 m_in (Nat.le_of_ble_eq_true rfl) (Nat.le_of_ble_eq_true rfl) (fun z_6 σ_6 h_6 => ?_)
  obtain ⟨y_6, e_6⟩ := h_6; have e2_6 := e_6.symm; subst e2_6
  refine wp_if_ne (pc := 9) 14 dX7_rule_9 (by decide) (fun c_9 => ?_) (fun c_9 => ?_)
  · refine wp_iload_n (pc := 14) dX7_rule_14 rfl rfl ?_
    refine wp_i2l (pc := 15) dX7_rule_15 ?_
    refine wp_ldc2 (pc := 16) (z := 8) dX7_rule_16 kc_X7_245 (by decide) (by decide) ?_
    refine wp_ldc2 (pc := 19) (z := 13) dX7_rule_19 kc_X7_247 (by decide) (by decide) ?_
    refine wp_csI3 (pc := 22) dX7_rule_22 ms_X7_73 m_in (Nat.le_of_ble_eq_true rfl) (Nat.le_of_ble_eq_true rfl) (fun z_22 σ_22 h_22 => ?_)
    obtain ⟨y_22, e_22⟩ := h_22; have e2_22 := e_22.symm; subst e2_22
    refine wp_if_eq (pc := 25) 42 dX7_rule_25 (by decide) (fun c_25 => ?_) (fun c_25 => ?_)
    · refine wp_iload_n (pc := 42) dX7_rule_42 rfl rfl ?_
      refine wp_top (fun sw_43 esw_43 => ?_)
      rcases (show (sw_43 < 0 ∨ 15 < sw_43) ∨ sw_43 = 0 ∨ sw_43 = 1 ∨ sw_43 = 2 ∨ sw_43 = 3 ∨ sw_43 = 4 ∨ sw_43 = 5 ∨ sw_43 = 6 ∨ sw_43 = 7 ∨ sw_43 = 8 ∨ sw_43 = 9 ∨ sw_43 = 10 ∨ sw_43 = 11 ∨ sw_43 = 12 ∨ sw_43 = 13 ∨ sw_43 = 14 ∨ sw_43 = 15 by omega) with c_43 | c_43 | c_43 | c_43 | c_43 | c_43 | c_43 | c_43 | c_43 | c_43 | c_43 | c_43 | c_43 | c_43 | c_43 | c_43 | c_43
      · refine wp_tabOut (pc := 43) 177 dX7_rule_43 c_43 (by decide) ?_
        refine wp_aload_n (pc := 177) dX7_rule_177 rfl rfl ?_
        refine wp_cvV0 (pc := 178) dX7_rule_178 mv_X7_252 (m_lays h) (Nat.le_of_ble_eq_true rfl) rfl (Nat.le_of_ble_eq_true rfl) (fun σ_178 h_178 => ?_)
        obtain ⟨f_178, k_178, l_178⟩ := h_178; have o_178 : MO σ σ_178 := ⟨f_178, k_178⟩; have r_178 := o_178.rm h
        refine wp_aload_n (pc := 181) dX7_rule_181 rfl rfl ?_
        refine wp_iload_n (pc := 182) dX7_rule_182 rfl rfl ?_
        refine wp_cvI1 (pc := 183) dX7_rule_183 mv_X7_255 (m_counted r_178 l_178 (by omega)) (Nat.le_of_ble_eq_true rfl) rfl (Nat.le_of_ble_eq_true rfl) (fun z_183 σ_183 h_183 => ?_)
        obtain ⟨zz_183, e_183⟩ := h_183; have e2_183 := e_183.symm; subst e2_183
        refine wp_ireturn (pc := 186) dX7_rule_186 rfl ?_
        refine ⟨_, rfl, ?_, o_178⟩
        rw [zz_183]
        unfold aRule
        rcases (show w = 4 ∨ w = 5 ∨ w = 6 ∨ w = 7 by omega) with e | e | e | e
        · rw [if_neg (by omega), if_neg (by omega), if_neg (by omega), if_neg (by omega), if_neg (by omega), if_neg (by omega), if_pos e, e]; exact hc.1
        · rw [if_neg (by omega), if_neg (by omega), if_neg (by omega), if_neg (by omega), if_neg (by omega), if_neg (by omega), if_neg (by omega), if_pos e, e]; exact hc.2.1
        · rw [if_neg (by omega), if_neg (by omega), if_neg (by omega), if_neg (by omega), if_neg (by omega), if_neg (by omega), if_neg (by omega), if_neg (by omega), if_pos e, e]; exact hc.2.2.1
        · rw [if_neg (by omega), if_neg (by omega), if_neg (by omega), if_neg (by omega), if_neg (by omega), if_neg (by omega), if_neg (by omega), if_neg (by omega), if_neg (by omega), if_pos e, e]; exact hc.2.2.2
      · refine wp_tabIn (pc := 43) (77) 120 dX7_rule_43 (by omega) (by omega) (by rw [c_43]; rfl) (by decide) ?_
        refine wp_aload_n (pc := 120) dX7_rule_120 rfl rfl ?_
        refine wp_getI (pc := 121) 3 dX7_rule_121 fl_X7_168 rfl rfl ?_
        refine wp_ireturn (pc := 124) dX7_rule_124 rfl ?_
        exact ⟨_, rfl, by unfold aRule; rw [if_neg (by omega), if_neg (by omega), if_pos (by omega)]; omega, MO.rf⟩
      · refine wp_tabIn (pc := 43) (82) 125 dX7_rule_43 (by omega) (by omega) (by rw [c_43]; rfl) (by decide) ?_
        refine wp_aload_n (pc := 125) dX7_rule_125 rfl rfl ?_
        refine wp_getR (pc := 126) (q := 72) dX7_rule_126 fl_X7_7 rfl ?_
        refine wp_iconst (pc := 129) dX7_rule_129 (by decide) ?_
        refine wp_iald (pc := 130) 591 dX7_rule_130 rfl (by omega) ?_
        refine wp_ireturn (pc := 131) dX7_rule_131 rfl ?_
        exact ⟨_, rfl, by unfold aRule; rw [if_neg (by omega), if_neg (by omega), if_neg (by omega), if_pos (by omega)]; omega, MO.rf⟩
      · refine wp_tabIn (pc := 43) (89) 132 dX7_rule_43 (by omega) (by omega) (by rw [c_43]; rfl) (by decide) ?_
        refine wp_aload_n (pc := 132) dX7_rule_132 rfl rfl ?_
        refine wp_cvI0 (pc := 133) dX7_rule_133 mv_X7_237 (m_allWords h) (Nat.le_of_ble_eq_true rfl) rfl (Nat.le_of_ble_eq_true rfl) (fun z_133 σ_133 h_133 => ?_)
        obtain ⟨rfl, e_133⟩ := h_133; have e2_133 := e_133.symm; subst e2_133
        refine wp_ireturn (pc := 136) dX7_rule_136 rfl ?_
        exact ⟨_, rfl, by unfold aRule; rw [if_neg (by omega), if_neg (by omega), if_neg (by omega), if_neg (by omega), if_pos (by omega)], MO.rf⟩
      · refine wp_tabIn (pc := 43) (94) 137 dX7_rule_43 (by omega) (by omega) (by rw [c_43]; rfl) (by decide) ?_
        refine wp_aload_n (pc := 137) dX7_rule_137 rfl rfl ?_
        refine wp_cvI0 (pc := 138) dX7_rule_138 mv_X7_249 (m_unlike h) (Nat.le_of_ble_eq_true rfl) rfl (Nat.le_of_ble_eq_true rfl) (fun z_138 σ_138 h_138 => ?_)
        obtain ⟨zz_138, e_138⟩ := h_138; have e2_138 := e_138.symm; subst e2_138
        refine wp_ireturn (pc := 141) dX7_rule_141 rfl ?_
        exact ⟨_, rfl, by unfold aRule; rw [if_neg (by omega), if_neg (by omega), if_neg (by omega), if_neg (by omega), if_neg (by omega), if_pos (by omega)]; exact zz_138, MO.rf⟩
      · refine wp_tabIn (pc := 43) (134) 177 dX7_rule_43 (by omega) (by omega) (by rw [c_43]; rfl) (by decide) ?_
        refine wp_aload_n (pc := 177) dX7_rule_177 rfl rfl ?_
        refine wp_cvV0 (pc := 178) dX7_rule_178 mv_X7_252 (m_lays h) (Nat.le_of_ble_eq_true rfl) rfl (Nat.le_of_ble_eq_true rfl) (fun σ_178 h_178 => ?_)
        obtain ⟨f_178, k_178, l_178⟩ := h_178; have o_178 : MO σ σ_178 := ⟨f_178, k_178⟩; have r_178 := o_178.rm h
        refine wp_aload_n (pc := 181) dX7_rule_181 rfl rfl ?_
        refine wp_iload_n (pc := 182) dX7_rule_182 rfl rfl ?_
        refine wp_cvI1 (pc := 183) dX7_rule_183 mv_X7_255 (m_counted r_178 l_178 (by omega)) (Nat.le_of_ble_eq_true rfl) rfl (Nat.le_of_ble_eq_true rfl) (fun z_183 σ_183 h_183 => ?_)
        obtain ⟨zz_183, e_183⟩ := h_183; have e2_183 := e_183.symm; subst e2_183
        refine wp_ireturn (pc := 186) dX7_rule_186 rfl ?_
        refine ⟨_, rfl, ?_, o_178⟩
        rw [zz_183]
        unfold aRule
        rcases (show w = 4 ∨ w = 5 ∨ w = 6 ∨ w = 7 by omega) with e | e | e | e
        · rw [if_neg (by omega), if_neg (by omega), if_neg (by omega), if_neg (by omega), if_neg (by omega), if_neg (by omega), if_pos e, e]; exact hc.1
        · rw [if_neg (by omega), if_neg (by omega), if_neg (by omega), if_neg (by omega), if_neg (by omega), if_neg (by omega), if_neg (by omega), if_pos e, e]; exact hc.2.1
        · rw [if_neg (by omega), if_neg (by omega), if_neg (by omega), if_neg (by omega), if_neg (by omega), if_neg (by omega), if_neg (by omega), if_neg (by omega), if_pos e, e]; exact hc.2.2.1
        · rw [if_neg (by omega), if_neg (by omega), if_neg (by omega), if_neg (by omega), if_neg (by omega), if_neg (by omega), if_neg (by omega), if_neg (by omega), if_neg (by omega), if_pos e, e]; exact hc.2.2.2
      · refine wp_tabIn (pc := 43) (134) 177 dX7_rule_43 (by omega) (by omega) (by rw [c_43]; rfl) (by decide) ?_
        refine wp_aload_n (pc := 177) dX7_rule_177 rfl rfl ?_
        refine wp_cvV0 (pc := 178) dX7_rule_178 mv_X7_252 (m_lays h) (Nat.le_of_ble_eq_true rfl) rfl (Nat.le_of_ble_eq_true rfl) (fun σ_178 h_178 => ?_)
        obtain ⟨f_178, k_178, l_178⟩ := h_178; have o_178 : MO σ σ_178 := ⟨f_178, k_178⟩; have r_178 := o_178.rm h
        refine wp_aload_n (pc := 181) dX7_rule_181 rfl rfl ?_
        refine wp_iload_n (pc := 182) dX7_rule_182 rfl rfl ?_
        refine wp_cvI1 (pc := 183) dX7_rule_183 mv_X7_255 (m_counted r_178 l_178 (by omega)) (Nat.le_of_ble_eq_true rfl) rfl (Nat.le_of_ble_eq_true rfl) (fun z_183 σ_183 h_183 => ?_)
        obtain ⟨zz_183, e_183⟩ := h_183; have e2_183 := e_183.symm; subst e2_183
        refine wp_ireturn (pc := 186) dX7_rule_186 rfl ?_
        refine ⟨_, rfl, ?_, o_178⟩
        rw [zz_183]
        unfold aRule
        rcases (show w = 4 ∨ w = 5 ∨ w = 6 ∨ w = 7 by omega) with e | e | e | e
        · rw [if_neg (by omega), if_neg (by omega), if_neg (by omega), if_neg (by omega), if_neg (by omega), if_neg (by omega), if_pos e, e]; exact hc.1
        · rw [if_neg (by omega), if_neg (by omega), if_neg (by omega), if_neg (by omega), if_neg (by omega), if_neg (by omega), if_neg (by omega), if_pos e, e]; exact hc.2.1
        · rw [if_neg (by omega), if_neg (by omega), if_neg (by omega), if_neg (by omega), if_neg (by omega), if_neg (by omega), if_neg (by omega), if_neg (by omega), if_pos e, e]; exact hc.2.2.1
        · rw [if_neg (by omega), if_neg (by omega), if_neg (by omega), if_neg (by omega), if_neg (by omega), if_neg (by omega), if_neg (by omega), if_neg (by omega), if_neg (by omega), if_pos e, e]; exact hc.2.2.2
      · refine wp_tabIn (pc := 43) (134) 177 dX7_rule_43 (by omega) (by omega) (by rw [c_43]; rfl) (by decide) ?_
        refine wp_aload_n (pc := 177) dX7_rule_177 rfl rfl ?_
        refine wp_cvV0 (pc := 178) dX7_rule_178 mv_X7_252 (m_lays h) (Nat.le_of_ble_eq_true rfl) rfl (Nat.le_of_ble_eq_true rfl) (fun σ_178 h_178 => ?_)
        obtain ⟨f_178, k_178, l_178⟩ := h_178; have o_178 : MO σ σ_178 := ⟨f_178, k_178⟩; have r_178 := o_178.rm h
        refine wp_aload_n (pc := 181) dX7_rule_181 rfl rfl ?_
        refine wp_iload_n (pc := 182) dX7_rule_182 rfl rfl ?_
        refine wp_cvI1 (pc := 183) dX7_rule_183 mv_X7_255 (m_counted r_178 l_178 (by omega)) (Nat.le_of_ble_eq_true rfl) rfl (Nat.le_of_ble_eq_true rfl) (fun z_183 σ_183 h_183 => ?_)
        obtain ⟨zz_183, e_183⟩ := h_183; have e2_183 := e_183.symm; subst e2_183
        refine wp_ireturn (pc := 186) dX7_rule_186 rfl ?_
        refine ⟨_, rfl, ?_, o_178⟩
        rw [zz_183]
        unfold aRule
        rcases (show w = 4 ∨ w = 5 ∨ w = 6 ∨ w = 7 by omega) with e | e | e | e
        · rw [if_neg (by omega), if_neg (by omega), if_neg (by omega), if_neg (by omega), if_neg (by omega), if_neg (by omega), if_pos e, e]; exact hc.1
        · rw [if_neg (by omega), if_neg (by omega), if_neg (by omega), if_neg (by omega), if_neg (by omega), if_neg (by omega), if_neg (by omega), if_pos e, e]; exact hc.2.1
        · rw [if_neg (by omega), if_neg (by omega), if_neg (by omega), if_neg (by omega), if_neg (by omega), if_neg (by omega), if_neg (by omega), if_neg (by omega), if_pos e, e]; exact hc.2.2.1
        · rw [if_neg (by omega), if_neg (by omega), if_neg (by omega), if_neg (by omega), if_neg (by omega), if_neg (by omega), if_neg (by omega), if_neg (by omega), if_neg (by omega), if_pos e, e]; exact hc.2.2.2
      · refine wp_tabIn (pc := 43) (134) 177 dX7_rule_43 (by omega) (by omega) (by rw [c_43]; rfl) (by decide) ?_
        refine wp_aload_n (pc := 177) dX7_rule_177 rfl rfl ?_
        refine wp_cvV0 (pc := 178) dX7_rule_178 mv_X7_252 (m_lays h) (Nat.le_of_ble_eq_true rfl) rfl (Nat.le_of_ble_eq_true rfl) (fun σ_178 h_178 => ?_)
        obtain ⟨f_178, k_178, l_178⟩ := h_178; have o_178 : MO σ σ_178 := ⟨f_178, k_178⟩; have r_178 := o_178.rm h
        refine wp_aload_n (pc := 181) dX7_rule_181 rfl rfl ?_
        refine wp_iload_n (pc := 182) dX7_rule_182 rfl rfl ?_
        refine wp_cvI1 (pc := 183) dX7_rule_183 mv_X7_255 (m_counted r_178 l_178 (by omega)) (Nat.le_of_ble_eq_true rfl) rfl (Nat.le_of_ble_eq_true rfl) (fun z_183 σ_183 h_183 => ?_)
        obtain ⟨zz_183, e_183⟩ := h_183; have e2_183 := e_183.symm; subst e2_183
        refine wp_ireturn (pc := 186) dX7_rule_186 rfl ?_
        refine ⟨_, rfl, ?_, o_178⟩
        rw [zz_183]
        unfold aRule
        rcases (show w = 4 ∨ w = 5 ∨ w = 6 ∨ w = 7 by omega) with e | e | e | e
        · rw [if_neg (by omega), if_neg (by omega), if_neg (by omega), if_neg (by omega), if_neg (by omega), if_neg (by omega), if_pos e, e]; exact hc.1
        · rw [if_neg (by omega), if_neg (by omega), if_neg (by omega), if_neg (by omega), if_neg (by omega), if_neg (by omega), if_neg (by omega), if_pos e, e]; exact hc.2.1
        · rw [if_neg (by omega), if_neg (by omega), if_neg (by omega), if_neg (by omega), if_neg (by omega), if_neg (by omega), if_neg (by omega), if_neg (by omega), if_pos e, e]; exact hc.2.2.1
        · rw [if_neg (by omega), if_neg (by omega), if_neg (by omega), if_neg (by omega), if_neg (by omega), if_neg (by omega), if_neg (by omega), if_neg (by omega), if_neg (by omega), if_pos e, e]; exact hc.2.2.2
      · refine wp_tabIn (pc := 43) (134) 177 dX7_rule_43 (by omega) (by omega) (by rw [c_43]; rfl) (by decide) ?_
        refine wp_aload_n (pc := 177) dX7_rule_177 rfl rfl ?_
        refine wp_cvV0 (pc := 178) dX7_rule_178 mv_X7_252 (m_lays h) (Nat.le_of_ble_eq_true rfl) rfl (Nat.le_of_ble_eq_true rfl) (fun σ_178 h_178 => ?_)
        obtain ⟨f_178, k_178, l_178⟩ := h_178; have o_178 : MO σ σ_178 := ⟨f_178, k_178⟩; have r_178 := o_178.rm h
        refine wp_aload_n (pc := 181) dX7_rule_181 rfl rfl ?_
        refine wp_iload_n (pc := 182) dX7_rule_182 rfl rfl ?_
        refine wp_cvI1 (pc := 183) dX7_rule_183 mv_X7_255 (m_counted r_178 l_178 (by omega)) (Nat.le_of_ble_eq_true rfl) rfl (Nat.le_of_ble_eq_true rfl) (fun z_183 σ_183 h_183 => ?_)
        obtain ⟨zz_183, e_183⟩ := h_183; have e2_183 := e_183.symm; subst e2_183
        refine wp_ireturn (pc := 186) dX7_rule_186 rfl ?_
        refine ⟨_, rfl, ?_, o_178⟩
        rw [zz_183]
        unfold aRule
        rcases (show w = 4 ∨ w = 5 ∨ w = 6 ∨ w = 7 by omega) with e | e | e | e
        · rw [if_neg (by omega), if_neg (by omega), if_neg (by omega), if_neg (by omega), if_neg (by omega), if_neg (by omega), if_pos e, e]; exact hc.1
        · rw [if_neg (by omega), if_neg (by omega), if_neg (by omega), if_neg (by omega), if_neg (by omega), if_neg (by omega), if_neg (by omega), if_pos e, e]; exact hc.2.1
        · rw [if_neg (by omega), if_neg (by omega), if_neg (by omega), if_neg (by omega), if_neg (by omega), if_neg (by omega), if_neg (by omega), if_neg (by omega), if_pos e, e]; exact hc.2.2.1
        · rw [if_neg (by omega), if_neg (by omega), if_neg (by omega), if_neg (by omega), if_neg (by omega), if_neg (by omega), if_neg (by omega), if_neg (by omega), if_neg (by omega), if_pos e, e]; exact hc.2.2.2
      · refine wp_tabIn (pc := 43) (134) 177 dX7_rule_43 (by omega) (by omega) (by rw [c_43]; rfl) (by decide) ?_
        refine wp_aload_n (pc := 177) dX7_rule_177 rfl rfl ?_
        refine wp_cvV0 (pc := 178) dX7_rule_178 mv_X7_252 (m_lays h) (Nat.le_of_ble_eq_true rfl) rfl (Nat.le_of_ble_eq_true rfl) (fun σ_178 h_178 => ?_)
        obtain ⟨f_178, k_178, l_178⟩ := h_178; have o_178 : MO σ σ_178 := ⟨f_178, k_178⟩; have r_178 := o_178.rm h
        refine wp_aload_n (pc := 181) dX7_rule_181 rfl rfl ?_
        refine wp_iload_n (pc := 182) dX7_rule_182 rfl rfl ?_
        refine wp_cvI1 (pc := 183) dX7_rule_183 mv_X7_255 (m_counted r_178 l_178 (by omega)) (Nat.le_of_ble_eq_true rfl) rfl (Nat.le_of_ble_eq_true rfl) (fun z_183 σ_183 h_183 => ?_)
        obtain ⟨zz_183, e_183⟩ := h_183; have e2_183 := e_183.symm; subst e2_183
        refine wp_ireturn (pc := 186) dX7_rule_186 rfl ?_
        refine ⟨_, rfl, ?_, o_178⟩
        rw [zz_183]
        unfold aRule
        rcases (show w = 4 ∨ w = 5 ∨ w = 6 ∨ w = 7 by omega) with e | e | e | e
        · rw [if_neg (by omega), if_neg (by omega), if_neg (by omega), if_neg (by omega), if_neg (by omega), if_neg (by omega), if_pos e, e]; exact hc.1
        · rw [if_neg (by omega), if_neg (by omega), if_neg (by omega), if_neg (by omega), if_neg (by omega), if_neg (by omega), if_neg (by omega), if_pos e, e]; exact hc.2.1
        · rw [if_neg (by omega), if_neg (by omega), if_neg (by omega), if_neg (by omega), if_neg (by omega), if_neg (by omega), if_neg (by omega), if_neg (by omega), if_pos e, e]; exact hc.2.2.1
        · rw [if_neg (by omega), if_neg (by omega), if_neg (by omega), if_neg (by omega), if_neg (by omega), if_neg (by omega), if_neg (by omega), if_neg (by omega), if_neg (by omega), if_pos e, e]; exact hc.2.2.2
      · refine wp_tabIn (pc := 43) (134) 177 dX7_rule_43 (by omega) (by omega) (by rw [c_43]; rfl) (by decide) ?_
        refine wp_aload_n (pc := 177) dX7_rule_177 rfl rfl ?_
        refine wp_cvV0 (pc := 178) dX7_rule_178 mv_X7_252 (m_lays h) (Nat.le_of_ble_eq_true rfl) rfl (Nat.le_of_ble_eq_true rfl) (fun σ_178 h_178 => ?_)
        obtain ⟨f_178, k_178, l_178⟩ := h_178; have o_178 : MO σ σ_178 := ⟨f_178, k_178⟩; have r_178 := o_178.rm h
        refine wp_aload_n (pc := 181) dX7_rule_181 rfl rfl ?_
        refine wp_iload_n (pc := 182) dX7_rule_182 rfl rfl ?_
        refine wp_cvI1 (pc := 183) dX7_rule_183 mv_X7_255 (m_counted r_178 l_178 (by omega)) (Nat.le_of_ble_eq_true rfl) rfl (Nat.le_of_ble_eq_true rfl) (fun z_183 σ_183 h_183 => ?_)
        obtain ⟨zz_183, e_183⟩ := h_183; have e2_183 := e_183.symm; subst e2_183
        refine wp_ireturn (pc := 186) dX7_rule_186 rfl ?_
        refine ⟨_, rfl, ?_, o_178⟩
        rw [zz_183]
        unfold aRule
        rcases (show w = 4 ∨ w = 5 ∨ w = 6 ∨ w = 7 by omega) with e | e | e | e
        · rw [if_neg (by omega), if_neg (by omega), if_neg (by omega), if_neg (by omega), if_neg (by omega), if_neg (by omega), if_pos e, e]; exact hc.1
        · rw [if_neg (by omega), if_neg (by omega), if_neg (by omega), if_neg (by omega), if_neg (by omega), if_neg (by omega), if_neg (by omega), if_pos e, e]; exact hc.2.1
        · rw [if_neg (by omega), if_neg (by omega), if_neg (by omega), if_neg (by omega), if_neg (by omega), if_neg (by omega), if_neg (by omega), if_neg (by omega), if_pos e, e]; exact hc.2.2.1
        · rw [if_neg (by omega), if_neg (by omega), if_neg (by omega), if_neg (by omega), if_neg (by omega), if_neg (by omega), if_neg (by omega), if_neg (by omega), if_neg (by omega), if_pos e, e]; exact hc.2.2.2
      · refine wp_tabIn (pc := 43) (134) 177 dX7_rule_43 (by omega) (by omega) (by rw [c_43]; rfl) (by decide) ?_
        refine wp_aload_n (pc := 177) dX7_rule_177 rfl rfl ?_
        refine wp_cvV0 (pc := 178) dX7_rule_178 mv_X7_252 (m_lays h) (Nat.le_of_ble_eq_true rfl) rfl (Nat.le_of_ble_eq_true rfl) (fun σ_178 h_178 => ?_)
        obtain ⟨f_178, k_178, l_178⟩ := h_178; have o_178 : MO σ σ_178 := ⟨f_178, k_178⟩; have r_178 := o_178.rm h
        refine wp_aload_n (pc := 181) dX7_rule_181 rfl rfl ?_
        refine wp_iload_n (pc := 182) dX7_rule_182 rfl rfl ?_
        refine wp_cvI1 (pc := 183) dX7_rule_183 mv_X7_255 (m_counted r_178 l_178 (by omega)) (Nat.le_of_ble_eq_true rfl) rfl (Nat.le_of_ble_eq_true rfl) (fun z_183 σ_183 h_183 => ?_)
        obtain ⟨zz_183, e_183⟩ := h_183; have e2_183 := e_183.symm; subst e2_183
        refine wp_ireturn (pc := 186) dX7_rule_186 rfl ?_
        refine ⟨_, rfl, ?_, o_178⟩
        rw [zz_183]
        unfold aRule
        rcases (show w = 4 ∨ w = 5 ∨ w = 6 ∨ w = 7 by omega) with e | e | e | e
        · rw [if_neg (by omega), if_neg (by omega), if_neg (by omega), if_neg (by omega), if_neg (by omega), if_neg (by omega), if_pos e, e]; exact hc.1
        · rw [if_neg (by omega), if_neg (by omega), if_neg (by omega), if_neg (by omega), if_neg (by omega), if_neg (by omega), if_neg (by omega), if_pos e, e]; exact hc.2.1
        · rw [if_neg (by omega), if_neg (by omega), if_neg (by omega), if_neg (by omega), if_neg (by omega), if_neg (by omega), if_neg (by omega), if_neg (by omega), if_pos e, e]; exact hc.2.2.1
        · rw [if_neg (by omega), if_neg (by omega), if_neg (by omega), if_neg (by omega), if_neg (by omega), if_neg (by omega), if_neg (by omega), if_neg (by omega), if_neg (by omega), if_pos e, e]; exact hc.2.2.2
      · refine wp_tabIn (pc := 43) (134) 177 dX7_rule_43 (by omega) (by omega) (by rw [c_43]; rfl) (by decide) ?_
        refine wp_aload_n (pc := 177) dX7_rule_177 rfl rfl ?_
        refine wp_cvV0 (pc := 178) dX7_rule_178 mv_X7_252 (m_lays h) (Nat.le_of_ble_eq_true rfl) rfl (Nat.le_of_ble_eq_true rfl) (fun σ_178 h_178 => ?_)
        obtain ⟨f_178, k_178, l_178⟩ := h_178; have o_178 : MO σ σ_178 := ⟨f_178, k_178⟩; have r_178 := o_178.rm h
        refine wp_aload_n (pc := 181) dX7_rule_181 rfl rfl ?_
        refine wp_iload_n (pc := 182) dX7_rule_182 rfl rfl ?_
        refine wp_cvI1 (pc := 183) dX7_rule_183 mv_X7_255 (m_counted r_178 l_178 (by omega)) (Nat.le_of_ble_eq_true rfl) rfl (Nat.le_of_ble_eq_true rfl) (fun z_183 σ_183 h_183 => ?_)
        obtain ⟨zz_183, e_183⟩ := h_183; have e2_183 := e_183.symm; subst e2_183
        refine wp_ireturn (pc := 186) dX7_rule_186 rfl ?_
        refine ⟨_, rfl, ?_, o_178⟩
        rw [zz_183]
        unfold aRule
        rcases (show w = 4 ∨ w = 5 ∨ w = 6 ∨ w = 7 by omega) with e | e | e | e
        · rw [if_neg (by omega), if_neg (by omega), if_neg (by omega), if_neg (by omega), if_neg (by omega), if_neg (by omega), if_pos e, e]; exact hc.1
        · rw [if_neg (by omega), if_neg (by omega), if_neg (by omega), if_neg (by omega), if_neg (by omega), if_neg (by omega), if_neg (by omega), if_pos e, e]; exact hc.2.1
        · rw [if_neg (by omega), if_neg (by omega), if_neg (by omega), if_neg (by omega), if_neg (by omega), if_neg (by omega), if_neg (by omega), if_neg (by omega), if_pos e, e]; exact hc.2.2.1
        · rw [if_neg (by omega), if_neg (by omega), if_neg (by omega), if_neg (by omega), if_neg (by omega), if_neg (by omega), if_neg (by omega), if_neg (by omega), if_neg (by omega), if_pos e, e]; exact hc.2.2.2
      · refine wp_tabIn (pc := 43) (134) 177 dX7_rule_43 (by omega) (by omega) (by rw [c_43]; rfl) (by decide) ?_
        refine wp_aload_n (pc := 177) dX7_rule_177 rfl rfl ?_
        refine wp_cvV0 (pc := 178) dX7_rule_178 mv_X7_252 (m_lays h) (Nat.le_of_ble_eq_true rfl) rfl (Nat.le_of_ble_eq_true rfl) (fun σ_178 h_178 => ?_)
        obtain ⟨f_178, k_178, l_178⟩ := h_178; have o_178 : MO σ σ_178 := ⟨f_178, k_178⟩; have r_178 := o_178.rm h
        refine wp_aload_n (pc := 181) dX7_rule_181 rfl rfl ?_
        refine wp_iload_n (pc := 182) dX7_rule_182 rfl rfl ?_
        refine wp_cvI1 (pc := 183) dX7_rule_183 mv_X7_255 (m_counted r_178 l_178 (by omega)) (Nat.le_of_ble_eq_true rfl) rfl (Nat.le_of_ble_eq_true rfl) (fun z_183 σ_183 h_183 => ?_)
        obtain ⟨zz_183, e_183⟩ := h_183; have e2_183 := e_183.symm; subst e2_183
        refine wp_ireturn (pc := 186) dX7_rule_186 rfl ?_
        refine ⟨_, rfl, ?_, o_178⟩
        rw [zz_183]
        unfold aRule
        rcases (show w = 4 ∨ w = 5 ∨ w = 6 ∨ w = 7 by omega) with e | e | e | e
        · rw [if_neg (by omega), if_neg (by omega), if_neg (by omega), if_neg (by omega), if_neg (by omega), if_neg (by omega), if_pos e, e]; exact hc.1
        · rw [if_neg (by omega), if_neg (by omega), if_neg (by omega), if_neg (by omega), if_neg (by omega), if_neg (by omega), if_neg (by omega), if_pos e, e]; exact hc.2.1
        · rw [if_neg (by omega), if_neg (by omega), if_neg (by omega), if_neg (by omega), if_neg (by omega), if_neg (by omega), if_neg (by omega), if_neg (by omega), if_pos e, e]; exact hc.2.2.1
        · rw [if_neg (by omega), if_neg (by omega), if_neg (by omega), if_neg (by omega), if_neg (by omega), if_neg (by omega), if_neg (by omega), if_neg (by omega), if_neg (by omega), if_pos e, e]; exact hc.2.2.2
      · refine wp_tabIn (pc := 43) (99) 142 dX7_rule_43 (by omega) (by omega) (by rw [c_43]; rfl) (by decide) ?_
        refine wp_aload_n (pc := 142) dX7_rule_142 rfl rfl ?_
        refine wp_getI (pc := 143) 9 dX7_rule_143 fl_X7_77 rfl rfl ?_
        refine wp_ireturn (pc := 146) dX7_rule_146 rfl ?_
        exact ⟨_, rfl, by unfold aRule; rw [if_neg (by omega), if_neg (by omega), if_neg (by omega), if_neg (by omega), if_neg (by omega), if_neg (by omega), if_neg (by omega), if_neg (by omega), if_neg (by omega), if_neg (by omega), if_pos (by omega)], MO.rf⟩
      · refine wp_tabIn (pc := 43) (104) 147 dX7_rule_43 (by omega) (by omega) (by rw [c_43]; rfl) (by decide) ?_
        refine wp_aload_n (pc := 147) dX7_rule_147 rfl rfl ?_
        refine wp_getR (pc := 148) (q := 77) dX7_rule_148 fl_X7_25 rfl ?_
        refine wp_iconst (pc := 151) dX7_rule_151 (by decide) ?_
        refine wp_zald (pc := 152) 2 dX7_rule_152 rfl (by omega) ?_
        refine wp_if_eq (pc := 153) 160 dX7_rule_153 (by decide) (fun c_153 => ?_) (fun c_153 => ?_)
        · refine wp_iconst (pc := 160) dX7_rule_160 (by decide) ?_
          refine wp_aload_n (pc := 161) dX7_rule_161 rfl rfl ?_
          refine wp_getR (pc := 162) (q := 77) dX7_rule_162 fl_X7_25 rfl ?_
          refine wp_iconst (pc := 165) dX7_rule_165 (by decide) ?_
          refine wp_zald (pc := 166) 2 dX7_rule_166 rfl (by omega) ?_
          refine wp_if_eq (pc := 167) 174 dX7_rule_167 (by decide) (fun c_167 => ?_) (fun c_167 => ?_)
          · refine wp_iconst (pc := 174) dX7_rule_174 (by decide) ?_
            refine wp_iadd (pc := 175) dX7_rule_175 (by omega) ?_
            refine wp_ireturn (pc := 176) dX7_rule_176 rfl ?_
            refine ⟨_, rfl, ?_, MO.rf⟩
            unfold aRule
            rw [if_neg (by omega), if_neg (by omega), if_neg (by omega), if_neg (by omega), if_neg (by omega), if_neg (by omega), if_neg (by omega), if_neg (by omega), if_neg (by omega), if_neg (by omega), if_neg (by omega)]
            first | rw [if_pos c_153] | rw [if_neg c_153]
            first | rw [if_pos c_167] | rw [if_neg c_167]
          · refine wp_iconst (pc := 170) dX7_rule_170 (by decide) ?_
            refine wp_goto (pc := 171) 175 dX7_rule_171 (by decide) ?_
            refine wp_iadd (pc := 175) dX7_rule_175 (by omega) ?_
            refine wp_ireturn (pc := 176) dX7_rule_176 rfl ?_
            refine ⟨_, rfl, ?_, MO.rf⟩
            unfold aRule
            rw [if_neg (by omega), if_neg (by omega), if_neg (by omega), if_neg (by omega), if_neg (by omega), if_neg (by omega), if_neg (by omega), if_neg (by omega), if_neg (by omega), if_neg (by omega), if_neg (by omega)]
            first | rw [if_pos c_153] | rw [if_neg c_153]
            first | rw [if_pos c_167] | rw [if_neg c_167]
        · refine wp_iconst (pc := 156) dX7_rule_156 (by decide) ?_
          refine wp_goto (pc := 157) 161 dX7_rule_157 (by decide) ?_
          refine wp_aload_n (pc := 161) dX7_rule_161 rfl rfl ?_
          refine wp_getR (pc := 162) (q := 77) dX7_rule_162 fl_X7_25 rfl ?_
          refine wp_iconst (pc := 165) dX7_rule_165 (by decide) ?_
          refine wp_zald (pc := 166) 2 dX7_rule_166 rfl (by omega) ?_
          refine wp_if_eq (pc := 167) 174 dX7_rule_167 (by decide) (fun c_167 => ?_) (fun c_167 => ?_)
          · refine wp_iconst (pc := 174) dX7_rule_174 (by decide) ?_
            refine wp_iadd (pc := 175) dX7_rule_175 (by omega) ?_
            refine wp_ireturn (pc := 176) dX7_rule_176 rfl ?_
            refine ⟨_, rfl, ?_, MO.rf⟩
            unfold aRule
            rw [if_neg (by omega), if_neg (by omega), if_neg (by omega), if_neg (by omega), if_neg (by omega), if_neg (by omega), if_neg (by omega), if_neg (by omega), if_neg (by omega), if_neg (by omega), if_neg (by omega)]
            first | rw [if_pos c_153] | rw [if_neg c_153]
            first | rw [if_pos c_167] | rw [if_neg c_167]
          · refine wp_iconst (pc := 170) dX7_rule_170 (by decide) ?_
            refine wp_goto (pc := 171) 175 dX7_rule_171 (by decide) ?_
            refine wp_iadd (pc := 175) dX7_rule_175 (by omega) ?_
            refine wp_ireturn (pc := 176) dX7_rule_176 rfl ?_
            refine ⟨_, rfl, ?_, MO.rf⟩
            unfold aRule
            rw [if_neg (by omega), if_neg (by omega), if_neg (by omega), if_neg (by omega), if_neg (by omega), if_neg (by omega), if_neg (by omega), if_neg (by omega), if_neg (by omega), if_neg (by omega), if_neg (by omega)]
            first | rw [if_pos c_153] | rw [if_neg c_153]
            first | rw [if_pos c_167] | rw [if_neg c_167]
    · refine wp_aload_n (pc := 28) dX7_rule_28 rfl rfl ?_
      refine wp_getR (pc := 29) (q := 72) dX7_rule_29 fl_X7_7 rfl ?_
      refine wp_sipush (pc := 32) dX7_rule_32 (by decide) (by decide) ?_
      refine wp_iload_n (pc := 35) dX7_rule_35 rfl rfl ?_
      refine wp_iadd (pc := 36) dX7_rule_36 (by omega) ?_
      refine wp_bipush (pc := 37) dX7_rule_37 (by decide) (by decide) ?_
      refine wp_isub (pc := 39) dX7_rule_39 (by omega) ?_
      refine wp_iald (pc := 40) 591 dX7_rule_40 rfl (by omega) ?_
      refine wp_ireturn (pc := 41) dX7_rule_41 rfl ?_
      refine ⟨_, rfl, ?_, MO.rf⟩
      unfold aRule
      rw [if_neg (by omega), if_pos (by omega)]
      have := h.1.2.2.2 (w - 8) (by omega) (by omega)
      rw [show 585 + (w - 8) = 585 + w - 8 by omega] at this
      exact this
  · refine wp_iconst (pc := 12) dX7_rule_12 (by decide) ?_
    refine wp_ireturn (pc := 13) dX7_rule_13 rfl ?_
    exact ⟨_, rfl, by unfold aRule; rw [if_pos (by omega)], MO.rf⟩
