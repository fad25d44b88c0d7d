set_option maxHeartbeats 4000000 in
set_option maxRecDepth 100000 in
theorem RM.ss {σ D S : Sto} (h : RM σ D S) {k v : Int} (hs : isSet (k + 8) v) : RM (upd2 σ 72 (585 + k) v) (setSt D k v) S := by
  have hD2 := setSt_ok h.2.2.2.1 hs
  rw [show k + 8 - 8 = k by omega] at hD2
  have hb := h.2.2.2.1.tt
  have hk : 0 ≤ k ∧ k < 6 := by unfold isSet at hs; omega
  obtain ⟨⟨a, b, c, d⟩, hSR, h3, hD, hS⟩ := h
  have e : ∀ r, r < 5 → setSt D k v r = D r := fun r hr => by funext i; show ite _ _ _ = _; rw [if_neg (by omega)]
  have e5 : ∀ i, setSt D k v 5 i = if i = k then v else D 5 i := fun i => by simp [setSt]
  have e74 : upd2 σ 72 (585 + k) v 74 = σ 74 := funext fun k => upd2_r (by decide)
  refine ⟨⟨?_, fun q q0 q1 => ?_, fun w w0 w1 => ?_, fun j j0 j1 => ?_⟩, by rw [e74]; exact hSR, by rw [upd2_r (by decide)]; exact h3, hD2.1, hS⟩
  · rw [upd2_k (by omega), e 0 (by decide)]; exact a
  · rw [e 0 (by decide)] at q1
    rw [e 2 (by decide), e 1 (by decide), e 3 (by decide), upd2_k (by omega), upd2_k (by omega), upd2_k (by omega)]
    exact b q q0 q1
  · rw [hD2.2] at w1
    rw [e 4 (by decide), upd2_k (by omega)]
    refine ⟨(c w w0 w1).1, fun j j0 j1 => ?_⟩
    rw [upd2_k (by omega)]
    exact (c w w0 w1).2 j j0 j1
  · rw [e5]
    by_cases hj : j = k
    · rw [hj, upd2_eq, if_pos rfl]
    · rw [upd2_k (by omega), if_neg hj]; exact d j j0 j1
set_option maxHeartbeats 4000000 in
set_option maxRecDepth 100000 in
theorem m_set {σ D S : Sto} {w v : Int} (h : RM σ D S) : CtI yX7_set cX7_set 4 (some .int) 1 [mR 71, mI w, mI v] σ (fun z σ' => (¬ isSet w v ∧ z = -1 ∧ σ' = σ) ∨ (isSet w v ∧ z = D 5 (w - 8) ∧ RM σ' (setSt D (w - 8) v) S ∧ Frm [72] σ σ')) := by
  refine ct_of rfl [some (mR 71), some (mI w), some (mI v), none] (Nat.le_of_ble_eq_true rfl) rfl (fun hσ => ?_)
  show Wp cX7_set RX7 (some .int) 1 0 [some (mR 71), some (mI w), some (mI v), none] [] _ _
  refine wp_iload_n (pc := 0) dX7_set_0 rfl rfl ?_
  refine wp_i2l (pc := 1) dX7_set_1 ?_
  refine wp_ldc2 (pc := 2) (z := 8) dX7_set_2 kc_X7_245 (by decide) (by decide) ?_
  refine wp_ldc2 (pc := 5) (z := 13) dX7_set_5 kc_X7_247 (by decide) (by decide) ?_
  refine wp_csI3 (pc := 8) dX7_set_8 ms_X7_73 m_in (Nat.le_of_ble_eq_true rfl) (Nat.le_of_ble_eq_true rfl) (fun z_8 σ_8 h_8 => ?_)
  obtain ⟨y_8, e_8⟩ := h_8; have e2_8 := e_8.symm; subst e2_8
  refine wp_if_eq (pc := 11) 38 dX7_set_11 (by decide) (fun c_11 => ?_) (fun c_11 => ?_)
  · refine wp_iconst (pc := 38) dX7_set_38 (by decide) ?_
    refine wp_ireturn (pc := 39) dX7_set_39 rfl ?_
    exact ⟨_, rfl, Or.inl ⟨by unfold isSet; omega, rfl, rfl⟩⟩
  · have hT := stT (w := w) (by omega) (by omega)
    refine wp_iload_n (pc := 14) dX7_set_14 rfl rfl ?_
    refine wp_i2l (pc := 15) dX7_set_15 ?_
    refine wp_iload_n (pc := 16) dX7_set_16 rfl rfl ?_
    refine wp_bipush (pc := 17) dX7_set_17 (by decide) (by decide) ?_
    refine wp_isub (pc := 19) dX7_set_19 (by omega) ?_
    refine wp_csI1 (pc := 20) dX7_set_20 ms_X7_122 (m_leastOf (by omega)) (Nat.le_of_ble_eq_true rfl) (Nat.le_of_ble_eq_true rfl) (fun z_20 σ_20 h_20 => ?_)
    obtain ⟨rfl, e_20⟩ := h_20; have e2_20 := e_20.symm; subst e2_20
    refine wp_i2l (pc := 23) dX7_set_23 ?_
    refine wp_iload_n (pc := 24) dX7_set_24 rfl rfl ?_
    refine wp_bipush (pc := 25) dX7_set_25 (by decide) (by decide) ?_
    refine wp_isub (pc := 27) dX7_set_27 (by omega) ?_
    refine wp_csI1 (pc := 28) dX7_set_28 ms_X7_125 (m_mostOf (by omega)) (Nat.le_of_ble_eq_true rfl) (Nat.le_of_ble_eq_true rfl) (fun z_28 σ_28 h_28 => ?_)
    obtain ⟨rfl, e_28⟩ := h_28; have e2_28 := e_28.symm; subst e2_28
    refine wp_i2l (pc := 31) dX7_set_31 ?_
    refine wp_csI3 (pc := 32) dX7_set_32 ms_X7_73 m_in (Nat.le_of_ble_eq_true rfl) (Nat.le_of_ble_eq_true rfl) (fun z_32 σ_32 h_32 => ?_)
    obtain ⟨y_32, e_32⟩ := h_32; have e2_32 := e_32.symm; subst e2_32
    refine wp_if_ne (pc := 35) 40 dX7_set_35 (by decide) (fun c_35 => ?_) (fun c_35 => ?_)
    · refine wp_aload_n (pc := 40) dX7_set_40 rfl rfl ?_
      refine wp_getR (pc := 41) (q := 72) dX7_set_41 fl_X7_7 rfl ?_
      refine wp_sipush (pc := 44) dX7_set_44 (by decide) (by decide) ?_
      refine wp_iload_n (pc := 47) dX7_set_47 rfl rfl ?_
      refine wp_iadd (pc := 48) dX7_set_48 (by omega) ?_
      refine wp_bipush (pc := 49) dX7_set_49 (by decide) (by decide) ?_
      refine wp_isub (pc := 51) dX7_set_51 (by omega) ?_
      refine wp_iald (pc := 52) 591 dX7_set_52 rfl (by omega) ?_
      refine wp_istore_n (pc := 53) dX7_set_53 rfl (Nat.le_of_ble_eq_true rfl) rfl ?_
      refine wp_aload_n (pc := 54) dX7_set_54 rfl rfl ?_
      refine wp_getR (pc := 55) (q := 72) dX7_set_55 fl_X7_7 rfl ?_
      refine wp_sipush (pc := 58) dX7_set_58 (by decide) (by decide) ?_
      refine wp_iload_n (pc := 61) dX7_set_61 rfl rfl ?_
      refine wp_iadd (pc := 62) dX7_set_62 (by omega) ?_
      refine wp_bipush (pc := 63) dX7_set_63 (by decide) (by decide) ?_
      refine wp_isub (pc := 65) dX7_set_65 (by omega) ?_
      refine wp_iload_n (pc := 66) dX7_set_66 rfl rfl ?_
      refine wp_iast (pc := 67) 591 dX7_set_67 rfl (by omega) ?_
      refine wp_iload_n (pc := 68) dX7_set_68 rfl rfl ?_
      refine wp_ireturn (pc := 69) dX7_set_69 rfl ?_
      have hi : isSet w v := by unfold isSet; omega
      have hd := h.1.2.2.2 (w - 8) (by omega) (by omega)
      have h2 := h.ss (k := w - 8) (v := v) (by rw [show w - 8 + 8 = w by omega]; exact hi)
      rw [show 585 + (w - 8) = 585 + w - 8 by omega] at hd h2
      exact ⟨_, rfl, Or.inr ⟨hi, hd, h2, Frm.rf.up (by decide)⟩⟩
    · refine wp_iconst (pc := 38) dX7_set_38 (by decide) ?_
      refine wp_ireturn (pc := 39) dX7_set_39 rfl ?_
      exact ⟨_, rfl, Or.inl ⟨by unfold isSet; omega, rfl, rfl⟩⟩
set_option maxHeartbeats 4000000 in
set_option maxRecDepth 100000 in
theorem RM.sg {σ D S : Sto} (h : RM σ D S) {p g n : Int} (hp : 0 ≤ p ∧ p < D 0 0) (hs : (g = -4 ∧ n = 0) ∨ (0 ≤ g ∧ g < S 0 0 ∧ 2 ≤ n ∧ n ≤ 5)) : RM (upd2 (upd2 σ 72 (1 + 3 * p) g) 72 (1 + 3 * p + 1) n) (drpD D p g n) S := by
  have hD2 := drpD_ok h.2.2.2.1 (p := p) hs
  have hb := h.2.2.2.1.tt
  obtain ⟨⟨a, b, c, d⟩, hSR, h3, hD, hS⟩ := h
  have e : ∀ k, k ≠ 2 → k ≠ 3 → drpD D p g n k = D k := fun k hk h3 => by funext i; show ite _ _ _ = _; rw [if_neg (fun q => hk q.1), if_neg (fun q => h3 q.1)]
  have e2 : ∀ q, drpD D p g n 2 q = if q = p then g else D 2 q := fun q => by simp [drpD]
  have e3 : ∀ q, drpD D p g n 3 q = if q = p then n else D 3 q := fun q => by simp [drpD]
  have e74 : upd2 (upd2 σ 72 (1 + 3 * p) g) 72 (1 + 3 * p + 1) n 74 = σ 74 := funext fun k => by rw [upd2_r (by decide), upd2_r (by decide)]
  refine ⟨⟨?_, fun q q0 q1 => ?_, fun w w0 w1 => ?_, fun j j0 j1 => ?_⟩, by rw [e74]; exact hSR, by rw [upd2_r (by decide), upd2_r (by decide)]; exact h3, hD2.1, hS⟩
  · rw [upd2_k (by omega), upd2_k (by omega), e 0 (by decide) (by decide)]; exact a
  · rw [e 0 (by decide) (by decide)] at q1
    obtain ⟨b1, b2, b3⟩ := b q q0 q1
    rw [e 1 (by decide) (by decide), e2, e3]
    refine ⟨?_, ?_, ?_⟩
    · rw [upd2_k (by omega)]
      by_cases hq : q = p
      · rw [hq, upd2_eq, if_pos rfl]
      · rw [upd2_k (by omega), if_neg hq]; exact b1
    · by_cases hq : q = p
      · rw [hq, upd2_eq, if_pos rfl]
      · rw [upd2_k (by omega), upd2_k (by omega), if_neg hq]; exact b2
    · rw [upd2_k (by omega), upd2_k (by omega)]; exact b3
  · rw [hD2.2] at w1
    rw [e 4 (by decide) (by decide), upd2_k (by omega), upd2_k (by omega)]
    refine ⟨(c w w0 w1).1, fun j j0 j1 => ?_⟩
    rw [upd2_k (by omega), upd2_k (by omega)]
    exact (c w w0 w1).2 j j0 j1
  · rw [e 5 (by decide) (by decide), upd2_k (by omega), upd2_k (by omega)]
    exact d j j0 j1
set_option maxHeartbeats 4000000 in
set_option maxRecDepth 100000 in
theorem m_drop {σ D S : Sto} {p g n : Int} (h : RM σ D S) : CtI yX7_drop cX7_drop 5 (some .int) 2 [mR 71, mI p, mI g, mI n] σ (fun z σ' => (¬ isDrp D S p g n ∧ z = -1 ∧ σ' = σ) ∨ (isDrp D S p g n ∧ z = D 3 p ∧ RM σ' (drpD D p g n) S ∧ Frm [72] σ σ')) := by
  refine ct_of rfl [some (mR 71), some (mI p), some (mI g), some (mI n), none] (Nat.le_of_ble_eq_true rfl) rfl (fun hσ => ?_)
  show Wp cX7_drop RX7 (some .int) 2 0 [some (mR 71), some (mI p), some (mI g), some (mI n), none] [] _ _
  have nn := h.n
  refine wp_aload_n (pc := 0) dX7_drop_0 rfl rfl ?_
  refine wp_iload_n (pc := 1) dX7_drop_1 rfl rfl ?_
  refine wp_cvI1 (pc := 2) dX7_drop_2 mv_X7_263 (m_isPar h) (Nat.le_of_ble_eq_true rfl) rfl (Nat.le_of_ble_eq_true rfl) (fun z_2 σ_2 h_2 => ?_)
  obtain ⟨y_2, e_2⟩ := h_2; have e2_2 := e_2.symm; subst e2_2
  refine wp_if_eq (pc := 5) 43 dX7_drop_5 (by decide) (fun c_5 => ?_) (fun c_5 => ?_)
  · refine wp_iconst (pc := 43) dX7_drop_43 (by decide) ?_
    refine wp_ireturn (pc := 44) dX7_drop_44 rfl ?_
    exact ⟨_, rfl, Or.inl ⟨by unfold isDrp; omega, rfl, rfl⟩⟩
  · refine wp_iload_n (pc := 8) dX7_drop_8 rfl rfl ?_
    refine wp_bipush (pc := 9) dX7_drop_9 (by decide) (by decide) ?_
    refine wp_icmp_ne (pc := 11) 21 dX7_drop_11 (by decide) (fun c_11 => ?_) (fun c_11 => ?_)
    · refine wp_aload_n (pc := 21) dX7_drop_21 rfl rfl ?_
      refine wp_iload_n (pc := 22) dX7_drop_22 rfl rfl ?_
      refine wp_cvI1 (pc := 23) dX7_drop_23 mv_X7_258 (m_isShape h) (Nat.le_of_ble_eq_true rfl) rfl (Nat.le_of_ble_eq_true rfl) (fun z_23 σ_23 h_23 => ?_)
      obtain ⟨y_23, e_23⟩ := h_23; have e2_23 := e_23.symm; subst e2_23
      refine wp_if_eq (pc := 26) 43 dX7_drop_26 (by decide) (fun c_26 => ?_) (fun c_26 => ?_)
      · refine wp_iconst (pc := 43) dX7_drop_43 (by decide) ?_
        refine wp_ireturn (pc := 44) dX7_drop_44 rfl ?_
        exact ⟨_, rfl, Or.inl ⟨by unfold isDrp; omega, rfl, rfl⟩⟩
      · refine wp_iload_n (pc := 29) dX7_drop_29 rfl rfl ?_
        refine wp_i2l (pc := 30) dX7_drop_30 ?_
        refine wp_ldc2 (pc := 31) (z := 2) dX7_drop_31 kc_X7_282 (by decide) (by decide) ?_
        refine wp_ldc2 (pc := 34) (z := 5) dX7_drop_34 kc_X7_293 (by decide) (by decide) ?_
        refine wp_csI3 (pc := 37) dX7_drop_37 ms_X7_73 m_in (Nat.le_of_ble_eq_true rfl) (Nat.le_of_ble_eq_true rfl) (fun z_37 σ_37 h_37 => ?_)
        obtain ⟨y_37, e_37⟩ := h_37; have e2_37 := e_37.symm; subst e2_37
        refine wp_if_ne (pc := 40) 45 dX7_drop_40 (by decide) (fun c_40 => ?_) (fun c_40 => ?_)
        · refine wp_aload_n (pc := 45) dX7_drop_45 rfl rfl ?_
          refine wp_iload_n (pc := 46) dX7_drop_46 rfl rfl ?_
          refine wp_cvI1 (pc := 47) dX7_drop_47 mv_X7_177 (m_parDrop h (by omega)) (Nat.le_of_ble_eq_true rfl) rfl (Nat.le_of_ble_eq_true rfl) (fun z_47 σ_47 h_47 => ?_)
          obtain ⟨rfl, e_47⟩ := h_47; have e2_47 := e_47.symm; subst e2_47
          refine wp_istore (pc := 50) dX7_drop_50 (Nat.le_of_ble_eq_true rfl) rfl ?_
          refine wp_aload_n (pc := 52) dX7_drop_52 rfl rfl ?_
          refine wp_getR (pc := 53) (q := 72) dX7_drop_53 fl_X7_7 rfl ?_
          refine wp_iconst (pc := 56) dX7_drop_56 (by decide) ?_
          refine wp_iconst (pc := 57) dX7_drop_57 (by decide) ?_
          refine wp_iload_n (pc := 58) dX7_drop_58 rfl rfl ?_
          refine wp_imul (pc := 59) dX7_drop_59 (by omega) ?_
          refine wp_iadd (pc := 60) dX7_drop_60 (by omega) ?_
          refine wp_iload_n (pc := 61) dX7_drop_61 rfl rfl ?_
          refine wp_iast (pc := 62) 591 dX7_drop_62 rfl (by omega) ?_
          refine wp_aload_n (pc := 63) dX7_drop_63 rfl rfl ?_
          refine wp_getR (pc := 64) (q := 72) dX7_drop_64 fl_X7_7 rfl ?_
          refine wp_iconst (pc := 67) dX7_drop_67 (by decide) ?_
          refine wp_iconst (pc := 68) dX7_drop_68 (by decide) ?_
          refine wp_iload_n (pc := 69) dX7_drop_69 rfl rfl ?_
          refine wp_imul (pc := 70) dX7_drop_70 (by omega) ?_
          refine wp_iadd (pc := 71) dX7_drop_71 (by omega) ?_
          refine wp_iconst (pc := 72) dX7_drop_72 (by decide) ?_
          refine wp_iadd (pc := 73) dX7_drop_73 (by omega) ?_
          refine wp_iload_n (pc := 74) dX7_drop_74 rfl rfl ?_
          refine wp_iast (pc := 75) 591 dX7_drop_75 rfl (by omega) ?_
          refine wp_iload (pc := 76) dX7_drop_76 rfl ?_
          refine wp_ireturn (pc := 78) dX7_drop_78 rfl ?_
          have hi : isDrp D S p g n := by unfold isDrp; omega
          exact ⟨_, rfl, Or.inr ⟨hi, rfl, h.sg hi.1 hi.2, (Frm.rf.up (by decide)).up (by decide)⟩⟩
        · refine wp_iconst (pc := 43) dX7_drop_43 (by decide) ?_
          refine wp_ireturn (pc := 44) dX7_drop_44 rfl ?_
          exact ⟨_, rfl, Or.inl ⟨by unfold isDrp; omega, rfl, rfl⟩⟩
    · refine wp_iload_n (pc := 14) dX7_drop_14 rfl rfl ?_
      refine wp_if_eq (pc := 15) 45 dX7_drop_15 (by decide) (fun c_15 => ?_) (fun c_15 => ?_)
      · refine wp_aload_n (pc := 45) dX7_drop_45 rfl rfl ?_
        refine wp_iload_n (pc := 46) dX7_drop_46 rfl rfl ?_
        refine wp_cvI1 (pc := 47) dX7_drop_47 mv_X7_177 (m_parDrop h (by omega)) (Nat.le_of_ble_eq_true rfl) rfl (Nat.le_of_ble_eq_true rfl) (fun z_47 σ_47 h_47 => ?_)
        obtain ⟨rfl, e_47⟩ := h_47; have e2_47 := e_47.symm; subst e2_47
        refine wp_istore (pc := 50) dX7_drop_50 (Nat.le_of_ble_eq_true rfl) rfl ?_
        refine wp_aload_n (pc := 52) dX7_drop_52 rfl rfl ?_
        refine wp_getR (pc := 53) (q := 72) dX7_drop_53 fl_X7_7 rfl ?_
        refine wp_iconst (pc := 56) dX7_drop_56 (by decide) ?_
        refine wp_iconst (pc := 57) dX7_drop_57 (by decide) ?_
        refine wp_iload_n (pc := 58) dX7_drop_58 rfl rfl ?_
        refine wp_imul (pc := 59) dX7_drop_59 (by omega) ?_
        refine wp_iadd (pc := 60) dX7_drop_60 (by omega) ?_
        refine wp_iload_n (pc := 61) dX7_drop_61 rfl rfl ?_
        refine wp_iast (pc := 62) 591 dX7_drop_62 rfl (by omega) ?_
        refine wp_aload_n (pc := 63) dX7_drop_63 rfl rfl ?_
        refine wp_getR (pc := 64) (q := 72) dX7_drop_64 fl_X7_7 rfl ?_
        refine wp_iconst (pc := 67) dX7_drop_67 (by decide) ?_
        refine wp_iconst (pc := 68) dX7_drop_68 (by decide) ?_
        refine wp_iload_n (pc := 69) dX7_drop_69 rfl rfl ?_
        refine wp_imul (pc := 70) dX7_drop_70 (by omega) ?_
        refine wp_iadd (pc := 71) dX7_drop_71 (by omega) ?_
        refine wp_iconst (pc := 72) dX7_drop_72 (by decide) ?_
        refine wp_iadd (pc := 73) dX7_drop_73 (by omega) ?_
        refine wp_iload_n (pc := 74) dX7_drop_74 rfl rfl ?_
        refine wp_iast (pc := 75) 591 dX7_drop_75 rfl (by omega) ?_
        refine wp_iload (pc := 76) dX7_drop_76 rfl ?_
        refine wp_ireturn (pc := 78) dX7_drop_78 rfl ?_
        have hi : isDrp D S p g n := by unfold isDrp; omega
        exact ⟨_, rfl, Or.inr ⟨hi, rfl, h.sg hi.1 hi.2, (Frm.rf.up (by decide)).up (by decide)⟩⟩
      · refine wp_goto (pc := 18) 43 dX7_drop_18 (by decide) ?_
        refine wp_iconst (pc := 43) dX7_drop_43 (by decide) ?_
        refine wp_ireturn (pc := 44) dX7_drop_44 rfl ?_
        exact ⟨_, rfl, Or.inl ⟨by unfold isDrp; omega, rfl, rfl⟩⟩
set_option maxHeartbeats 4000000 in
set_option maxRecDepth 100000 in
theorem m_fit {σ D S : Sto} (h : RM σ D S) : CtI yX7_fit cX7_fit 4 (some .int) 10 [mR 71] σ (fun z σ' => z = (fitN D S (D 0 0).toNat).2 ∧ RM σ' (fitN D S (D 0 0).toNat).1 S ∧ Frm [71, 72, 82, 83, 84, 85, 86, 87, 88, 89, 90] σ σ' ∧ ∀ k, k ≠ 25 → σ' 71 k = σ 71 k) := by
  refine ct_of rfl [some (mR 71), none, none, none] (Nat.le_of_ble_eq_true rfl) rfl (fun hσ => ?_)
  show Wp cX7_fit RX7 (some .int) 10 0 [some (mR 71), none, none, none] [] _ _
  have nn := h.n
  have lp : ∀ p, p ≤ D 0 0 → 0 ≤ p → ∀ (τ : Sto) (E : Sto) (c : Int), (E, c) = fitN D S p.toNat → RM τ E S → Frm [71, 72, 82, 83, 84, 85, 86, 87, 88, 89, 90] σ τ → (∀ k, k ≠ 25 → τ 71 k = σ 71 k) → Wp cX7_fit RX7 (some .int) 10 4 [some (mR 71), some (mI c), some (mI p), none] [] τ (fun v σ' => ∃ z, v = some (mI z) ∧ (fun z σ' => z = (fitN D S (D 0 0).toNat).2 ∧ RM σ' (fitN D S (D 0 0).toNat).1 S ∧ Frm [71, 72, 82, 83, 84, 85, 86, 87, 88, 89, 90] σ σ' ∧ ∀ k, k ≠ 25 → σ' 71 k = σ 71 k) z σ') := by
    refine up_ind _ (fun p hp ih p0 τ E c hE hR hF hk => ?_)
    obtain ⟨f1, f2, f3, f4, f5⟩ := fitN_ok h.2.2.2.1 p.toNat (by omega)
    have hs := fitN_s D S p.toNat
    rw [← hE] at f1 f2 f3 f4 f5 hs
    rw [show ((p.toNat : Nat) : Int) = p by omega, show p.toNat + 1 = (p + 1).toNat by omega] at hs
    have e0 : E 0 0 = D 0 0 := by rw [show E 0 = D 0 from f3 0 (by decide)]
    have ne := hR.n
    have f4 : 0 ≤ c := f4
    have f5 : c ≤ p := by have : c ≤ ((p.toNat : Nat) : Int) := f5; omega
    refine wp_iload_n (pc := 4) dX7_fit_4 rfl rfl ?_
    refine wp_aload_n (pc := 5) dX7_fit_5 rfl rfl ?_
    refine wp_getR (pc := 6) (q := 72) dX7_fit_6 fl_X7_7 rfl ?_
    refine wp_iconst (pc := 9) dX7_fit_9 (by decide) ?_
    refine wp_iald (pc := 10) 591 dX7_fit_10 rfl (by omega) ?_
    rw [ne.2.2.1]
    refine wp_icmp_ge (pc := 11) 66 dX7_fit_11 (by decide) (fun c_11 => ?_) (fun c_11 => ?_)
    · refine wp_iload_n (pc := 66) dX7_fit_66 rfl rfl ?_
      refine wp_ireturn (pc := 67) dX7_fit_67 rfl ?_
      rw [show p = D 0 0 by omega] at hE
      rw [← hE]
      exact ⟨_, rfl, rfl, hR, hF, hk⟩
    · have q := hR.p p0 (by omega)
      refine wp_aload_n (pc := 14) dX7_fit_14 rfl rfl ?_
      refine wp_iload_n (pc := 15) dX7_fit_15 rfl rfl ?_
      refine wp_cvI1 (pc := 16) dX7_fit_16 mv_X7_174 (m_parShape hR (by omega)) (Nat.le_of_ble_eq_true rfl) rfl (Nat.le_of_ble_eq_true rfl) (fun z_16 σ_16 h_16 => ?_)
      obtain ⟨rfl, e_16⟩ := h_16; have e2_16 := e_16.symm; subst e2_16
      refine wp_bipush (pc := 19) dX7_fit_19 (by decide) (by decide) ?_
      refine wp_icmp_eq (pc := 21) 60 dX7_fit_21 (by decide) (fun c_21 => ?_) (fun c_21 => ?_)
      · refine wp_iinc (pc := 60) dX7_fit_60 rfl rfl (by omega) ?_
        refine wp_goto (pc := 63) 4 dX7_fit_63 (by decide) ?_
        first
          | (have hs2 : (E, c) = fitN D S (p + 1).toNat := by rw [hs]; exact (if_pos (show E 2 p < 0 by omega)).symm
             exact wp_fgt [3] (ih (by omega) (by omega) τ E c hs2 hR hF hk))
          | (have hs2 : fitN D S (p + 1).toNat = (setD E p (bstN E S p 3), c + if bstN E S p 3 = E 3 p then 0 else 1) := by rw [hs]; exact if_neg (show ¬ E 2 p < 0 by omega)
             refine wp_fgt [3] (ih (by omega) (by omega) _ (setD E p (bstN E S p 3)) _ ?_ (r_26.sd (by omega) (by omega) hbb) ((hF.tr (o_26.1.mono (by decide))).up (by decide)) (fun k hk2 => by rw [upd2_r (by decide), o_26.2 k hk2]; exact hk k hk2))
             rw [hs2]
             first | rw [if_pos (by omega)] | rw [if_neg (by omega)])
      · refine wp_aload_n (pc := 24) dX7_fit_24 rfl rfl ?_
        refine wp_iload_n (pc := 25) dX7_fit_25 rfl rfl ?_
        refine wp_cvI1 (pc := 26) dX7_fit_26 mv_X7_290 (m_bestOf hR (by omega) (by omega)) (Nat.le_of_ble_eq_true rfl) rfl (Nat.le_of_ble_eq_true rfl) (fun z_26 σ_26 h_26 => ?_)
        obtain ⟨rfl, o_26⟩ := h_26
        have r_26 := o_26.rm hR
        have hbb := bst_bd E S p
        refine wp_istore_n (pc := 29) dX7_fit_29 rfl (Nat.le_of_ble_eq_true rfl) rfl ?_
        refine wp_iload_n (pc := 30) dX7_fit_30 rfl rfl ?_
        refine wp_iload_n (pc := 31) dX7_fit_31 rfl rfl ?_
        refine wp_aload_n (pc := 32) dX7_fit_32 rfl rfl ?_
        refine wp_iload_n (pc := 33) dX7_fit_33 rfl rfl ?_
        refine wp_cvI1 (pc := 34) dX7_fit_34 mv_X7_177 (m_parDrop r_26 (by omega)) (Nat.le_of_ble_eq_true rfl) rfl (Nat.le_of_ble_eq_true rfl) (fun z_34 σ_34 h_34 => ?_)
        obtain ⟨rfl, e_34⟩ := h_34; have e2_34 := e_34.symm; subst e2_34
        refine wp_icmp_eq (pc := 37) 44 dX7_fit_37 (by decide) (fun c_37 => ?_) (fun c_37 => ?_)
        · refine wp_iconst (pc := 44) dX7_fit_44 (by decide) ?_
          refine wp_iadd (pc := 45) dX7_fit_45 (by omega) ?_
          refine wp_istore_n (pc := 46) dX7_fit_46 rfl (Nat.le_of_ble_eq_true rfl) rfl ?_
          refine wp_aload_n (pc := 47) dX7_fit_47 rfl rfl ?_
          refine wp_getR (pc := 48) (q := 72) dX7_fit_48 fl_X7_7 rfl ?_
          refine wp_iconst (pc := 51) dX7_fit_51 (by decide) ?_
          refine wp_iconst (pc := 52) dX7_fit_52 (by decide) ?_
          refine wp_iload_n (pc := 53) dX7_fit_53 rfl rfl ?_
          refine wp_imul (pc := 54) dX7_fit_54 (by omega) ?_
          refine wp_iadd (pc := 55) dX7_fit_55 (by omega) ?_
          refine wp_iconst (pc := 56) dX7_fit_56 (by decide) ?_
          refine wp_iadd (pc := 57) dX7_fit_57 (by omega) ?_
          refine wp_iload_n (pc := 58) dX7_fit_58 rfl rfl ?_
          refine wp_iast (pc := 59) 591 dX7_fit_59 rfl (by omega) ?_
          refine wp_iinc (pc := 60) dX7_fit_60 rfl rfl (by omega) ?_
          refine wp_goto (pc := 63) 4 dX7_fit_63 (by decide) ?_
          first
            | (have hs2 : (E, c) = fitN D S (p + 1).toNat := by rw [hs]; exact (if_pos (show E 2 p < 0 by omega)).symm
               exact wp_fgt [3] (ih (by omega) (by omega) τ E c hs2 hR hF hk))
            | (have hs2 : fitN D S (p + 1).toNat = (setD E p (bstN E S p 3), c + if bstN E S p 3 = E 3 p then 0 else 1) := by rw [hs]; exact if_neg (show ¬ E 2 p < 0 by omega)
               refine wp_fgt [3] (ih (by omega) (by omega) _ (setD E p (bstN E S p 3)) _ ?_ (r_26.sd (by omega) (by omega) hbb) ((hF.tr (o_26.1.mono (by decide))).up (by decide)) (fun k hk2 => by rw [upd2_r (by decide), o_26.2 k hk2]; exact hk k hk2))
               rw [hs2]
               first | rw [if_pos (by omega)] | rw [if_neg (by omega)])
        · refine wp_iconst (pc := 40) dX7_fit_40 (by decide) ?_
          refine wp_goto (pc := 41) 45 dX7_fit_41 (by decide) ?_
          refine wp_iadd (pc := 45) dX7_fit_45 (by omega) ?_
          refine wp_istore_n (pc := 46) dX7_fit_46 rfl (Nat.le_of_ble_eq_true rfl) rfl ?_
          refine wp_aload_n (pc := 47) dX7_fit_47 rfl rfl ?_
          refine wp_getR (pc := 48) (q := 72) dX7_fit_48 fl_X7_7 rfl ?_
          refine wp_iconst (pc := 51) dX7_fit_51 (by decide) ?_
          refine wp_iconst (pc := 52) dX7_fit_52 (by decide) ?_
          refine wp_iload_n (pc := 53) dX7_fit_53 rfl rfl ?_
          refine wp_imul (pc := 54) dX7_fit_54 (by omega) ?_
          refine wp_iadd (pc := 55) dX7_fit_55 (by omega) ?_
          refine wp_iconst (pc := 56) dX7_fit_56 (by decide) ?_
          refine wp_iadd (pc := 57) dX7_fit_57 (by omega) ?_
          refine wp_iload_n (pc := 58) dX7_fit_58 rfl rfl ?_
          refine wp_iast (pc := 59) 591 dX7_fit_59 rfl (by omega) ?_
          refine wp_iinc (pc := 60) dX7_fit_60 rfl rfl (by omega) ?_
          refine wp_goto (pc := 63) 4 dX7_fit_63 (by decide) ?_
          first
            | (have hs2 : (E, c) = fitN D S (p + 1).toNat := by rw [hs]; exact (if_pos (show E 2 p < 0 by omega)).symm
               exact wp_fgt [3] (ih (by omega) (by omega) τ E c hs2 hR hF hk))
            | (have hs2 : fitN D S (p + 1).toNat = (setD E p (bstN E S p 3), c + if bstN E S p 3 = E 3 p then 0 else 1) := by rw [hs]; exact if_neg (show ¬ E 2 p < 0 by omega)
               refine wp_fgt [3] (ih (by omega) (by omega) _ (setD E p (bstN E S p 3)) _ ?_ (r_26.sd (by omega) (by omega) hbb) ((hF.tr (o_26.1.mono (by decide))).up (by decide)) (fun k hk2 => by rw [upd2_r (by decide), o_26.2 k hk2]; exact hk k hk2))
               rw [hs2]
               first | rw [if_pos (by omega)] | rw [if_neg (by omega)])
  refine wp_iconst (pc := 0) dX7_fit_0 (by decide) ?_
  refine wp_istore_n (pc := 1) dX7_fit_1 rfl (Nat.le_of_ble_eq_true rfl) rfl ?_
  refine wp_iconst (pc := 2) dX7_fit_2 (by decide) ?_
  refine wp_istore_n (pc := 3) dX7_fit_3 rfl (Nat.le_of_ble_eq_true rfl) rfl ?_
  exact lp 0 (by omega) (by decide) σ D 0 rfl h Frm.rf (fun _ _ => rfl)
