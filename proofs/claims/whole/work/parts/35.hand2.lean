set_option maxHeartbeats 4000000 in
set_option maxRecDepth 100000 in
theorem stT {w : Int} (h : 8 ≤ w) (h2 : w < 14) : (w = 8 ∧ stV 0 (w - 8) = 20 ∧ stV 1 (w - 8) = 99) ∨ (w = 9 ∧ stV 0 (w - 8) = 4 ∧ stV 1 (w - 8) = 20) ∨ (w = 10 ∧ stV 0 (w - 8) = 2 ∧ stV 1 (w - 8) = 20) ∨ (w = 11 ∧ stV 0 (w - 8) = 0 ∧ stV 1 (w - 8) = 9) ∨ (w = 12 ∧ stV 0 (w - 8) = 0 ∧ stV 1 (w - 8) = 1) ∨ (w = 13 ∧ stV 0 (w - 8) = 0 ∧ stV 1 (w - 8) = 2) := by
  have : w = 8 ∨ w = 9 ∨ w = 10 ∨ w = 11 ∨ w = 12 ∨ w = 13 := by omega
  rcases this with rfl | rfl | rfl | rfl | rfl | rfl <;> decide
set_option maxHeartbeats 4000000 in
set_option maxRecDepth 100000 in
theorem c_set {σ D S : Sto} {w v : Int} (hC : CI σ D S) : CtI yX6_set cX6_set 5 (some .int) 0 [mR 0, mI w, mI v] σ (fun z σ' => (¬ isSet w v ∧ z = -1 ∧ σ' = σ) ∨ (isSet w v ∧ z = D 5 (w - 8) ∧ CI σ' (setSt D (w - 8) v) S ∧ Kp [14, 15, 16, 17, 18, 19] σ σ')) := by
  refine ct_of rfl [some (mR 0), some (mI w), some (mI v), none, none] (Nat.le_of_ble_eq_true rfl) rfl (fun hσ => ?_)
  show Wp cX6_set RX6 (some .int) 0 0 [some (mR 0), some (mI w), some (mI v), none, none] [] _ _
  obtain ⟨n1, n2, n3, n4, n5, n6, n7⟩ := hC.n
  have n5p := n5 (w - 8)
  refine wp_iload_n (pc := 0) dX6_set_0 rfl rfl ?_
  refine wp_bipush (pc := 1) dX6_set_1 (by decide) (by decide) ?_
  refine wp_icmp_lt (pc := 3) 12 dX6_set_3 (by decide) (fun c_3 => ?_) (fun c_3 => ?_)
  · refine wp_iconst (pc := 12) dX6_set_12 (by decide) ?_
    refine wp_ireturn (pc := 13) dX6_set_13 rfl ?_
    refine ⟨_, rfl, Or.inl ⟨by unfold isSet; omega, rfl, rfl⟩⟩
  · refine wp_iload_n (pc := 6) dX6_set_6 rfl rfl ?_
    refine wp_bipush (pc := 7) dX6_set_7 (by decide) (by decide) ?_
    refine wp_icmp_lt (pc := 9) 14 dX6_set_9 (by decide) (fun c_9 => ?_) (fun c_9 => ?_)
    · refine wp_iload_n (pc := 14) dX6_set_14 rfl rfl ?_
      refine wp_bipush (pc := 15) dX6_set_15 (by decide) (by decide) ?_
      have hT := stT (w := w) (by omega) (by omega)
      refine wp_isub (pc := 17) dX6_set_17 (by omega) ?_
      refine wp_istore_n (pc := 18) dX6_set_18 rfl (Nat.le_of_ble_eq_true rfl) rfl ?_
      refine wp_iload_n (pc := 19) dX6_set_19 rfl rfl ?_
      refine wp_gets (pc := 20) 0 dX6_set_20 sl_X6_256 ?_
      refine wp_iload_n (pc := 23) dX6_set_23 rfl rfl ?_
      refine wp_tald (pc := 24) 0 (by decide) dX6_set_24 (by omega) (stV_ok _ _) ?_
      refine wp_icmp_lt (pc := 25) 37 dX6_set_25 (by decide) (fun c_25 => ?_) (fun c_25 => ?_)
      · refine wp_iconst (pc := 37) dX6_set_37 (by decide) ?_
        refine wp_ireturn (pc := 38) dX6_set_38 rfl ?_
        refine ⟨_, rfl, Or.inl ⟨by unfold isSet; omega, rfl, rfl⟩⟩
      · refine wp_iload_n (pc := 28) dX6_set_28 rfl rfl ?_
        refine wp_gets (pc := 29) 1 dX6_set_29 sl_X6_259 ?_
        refine wp_iload_n (pc := 32) dX6_set_32 rfl rfl ?_
        refine wp_tald (pc := 33) 1 (by decide) dX6_set_33 (by omega) (stV_ok _ _) ?_
        refine wp_icmp_le (pc := 34) 39 dX6_set_34 (by decide) (fun c_34 => ?_) (fun c_34 => ?_)
        · refine wp_aload_n (pc := 39) dX6_set_39 rfl rfl ?_
          refine wp_getR (pc := 40) (q := 14) dX6_set_40 fl_X6_23 rfl ?_
          refine wp_getR (pc := 43) (q := 19) dX6_set_43 fl_X6_108 rfl ?_
          refine wp_iload_n (pc := 46) dX6_set_46 rfl rfl ?_
          refine wp_iald (pc := 47) 6 dX6_set_47 rfl (by omega) ?_
          refine wp_istore (pc := 48) dX6_set_48 (Nat.le_of_ble_eq_true rfl) rfl ?_
          refine wp_aload_n (pc := 50) dX6_set_50 rfl rfl ?_
          refine wp_getR (pc := 51) (q := 14) dX6_set_51 fl_X6_23 rfl ?_
          refine wp_getR (pc := 54) (q := 19) dX6_set_54 fl_X6_108 rfl ?_
          refine wp_iload_n (pc := 57) dX6_set_57 rfl rfl ?_
          refine wp_iload_n (pc := 58) dX6_set_58 rfl rfl ?_
          refine wp_iast (pc := 59) 6 dX6_set_59 rfl (by omega) ?_
          refine wp_aload_n (pc := 60) dX6_set_60 rfl rfl ?_
          refine wp_iconst (pc := 61) dX6_set_61 (by decide) ?_
          refine wp_putZ (pc := 62) 11 dX6_set_62 fl_X6_70 ⟨rfl, rfl⟩ rfl rfl (by omega) ?_
          refine wp_iload (pc := 65) dX6_set_65 rfl ?_
          refine wp_ireturn (pc := 67) dX6_set_67 rfl ?_
          have hi : isSet w v := by unfold isSet; omega
          have ho := setSt_ok hC.2.2.1 hi
          have hk : Kp [14, 15, 16, 17, 18, 19] σ (upd2 (upd2 σ 19 (w - 8) v) 0 11 1) := (Kp.rf.up (by decide)).st
          have hd : DC (upd2 (upd2 σ 19 (w - 8) v) 0 11 1) = setSt D (w - 8) v := by rw [DC_st, DC_sett, hC.1]
          refine ⟨_, rfl, Or.inr ⟨hi, by omega, hC.upd hk (by rw [upd2_eq]; decide) hd ho.1 ?_, hk⟩⟩
          rw [ho.2, upd2_r (by decide), upd2_r (by decide)]
          exact hC.2.2.2.2.1
        · refine wp_iconst (pc := 37) dX6_set_37 (by decide) ?_
          refine wp_ireturn (pc := 38) dX6_set_38 rfl ?_
          refine ⟨_, rfl, Or.inl ⟨by unfold isSet; omega, rfl, rfl⟩⟩
    · refine wp_iconst (pc := 12) dX6_set_12 (by decide) ?_
      refine wp_ireturn (pc := 13) dX6_set_13 rfl ?_
      refine ⟨_, rfl, Or.inl ⟨by unfold isSet; omega, rfl, rfl⟩⟩
def drpD (D : Sto) (p g n : Int) : Sto := fun k i => if k = 2 ∧ i = p then g else if k = 3 ∧ i = p then n else D k i
set_option maxHeartbeats 4000000 in
set_option maxRecDepth 100000 in
theorem DC_drp {σ : Sto} {p g n : Int} : DC (upd2 (upd2 σ 17 p g) 18 p n) = drpD (DC σ) p g n := by
  rw [DC_set]
  funext k i
  simp only [setD, drpD]
  by_cases h2 : k = 2
  · subst h2
    rw [if_neg (by omega)]
    show upd2 σ 17 p g 17 i = ite _ _ (ite _ _ (σ 17 i))
    by_cases hi : i = p
    · subst hi; rw [upd2_eq, if_pos ⟨rfl, rfl⟩]
    · rw [upd2_k hi, if_neg (by omega), if_neg (by omega)]
  · rw [if_neg (fun q : k = 2 ∧ i = p => h2 q.1)]
    by_cases h3 : k = 3 ∧ i = p
    · rw [if_pos h3, if_pos h3]
    · rw [if_neg h3, if_neg h3]
      simp only [DC]
      rw [if_neg (show ¬ k = 2 from h2), if_neg (show ¬ k = 2 from h2)]
      rw [upd2_r (by decide), upd2_r (by decide), upd2_r (by decide), upd2_r (by decide), upd2_r (by decide)]
set_option maxHeartbeats 4000000 in
set_option maxRecDepth 100000 in
theorem drpD_ok {D S : Sto} (h : OKD D S) {p g n : Int} (hs : (g = -4 ∧ n = 0) ∨ (0 ≤ g ∧ g < S 0 0 ∧ 2 ≤ n ∧ n ≤ 5)) : OKD (drpD D p g n) S ∧ tot (drpD D p g n) = tot D := by
  have e : ∀ k, k ≠ 2 → k ≠ 3 → drpD D p g n k = D k := fun k hk h3 => by funext i; show ite _ _ _ = _; rw [if_neg (fun q => hk q.1), if_neg (fun q => h3 q.1)]
  have et : tot (drpD D p g n) = tot D := by unfold tot; rw [e 1 (by decide) (by decide), e 0 (by decide) (by decide)]
  obtain ⟨h1, h2, h3, h4, h5, h6⟩ := h
  refine ⟨⟨by rw [e 0 (by decide) (by decide)]; exact h1, by rw [e 0 (by decide) (by decide), e 1 (by decide) (by decide)]; exact h2, by rw [et]; exact h3, ?_, by rw [et, e 4 (by decide) (by decide)]; exact h5, by rw [e 5 (by decide) (by decide)]; exact h6⟩, et⟩
  rw [e 0 (by decide) (by decide)]
  intro q q0 q1
  have := h4 q q0 q1
  by_cases hq : q = p
  · subst hq
    have e2 : drpD D q g n 2 q = g := by show ite _ _ _ = _; rw [if_pos ⟨rfl, rfl⟩]
    have e3 : drpD D q g n 3 q = n := by show ite _ _ (ite _ _ _) = _; rw [if_neg (by omega), if_pos ⟨rfl, rfl⟩]
    rw [e2, e3]; exact hs
  · have e2 : drpD D p g n 2 q = D 2 q := by show ite _ _ (ite _ _ _) = _; rw [if_neg (fun w => hq w.2), if_neg (fun w => hq w.2)]
    have e3 : drpD D p g n 3 q = D 3 q := by show ite _ _ (ite _ _ _) = _; rw [if_neg (fun w => hq w.2), if_neg (fun w => hq w.2)]
    rw [e2, e3]; exact this
def isDrp (D S : Sto) (p g n : Int) : Prop := (0 ≤ p ∧ p < D 0 0) ∧ ((g = -4 ∧ n = 0) ∨ (0 ≤ g ∧ g < S 0 0 ∧ 2 ≤ n ∧ n ≤ 5))
set_option maxHeartbeats 4000000 in
set_option maxRecDepth 100000 in
theorem c_drop {σ D S : Sto} {p g n : Int} (hC : CI σ D S) : CtI yX6_drop cX6_drop 6 (some .int) 1 [mR 0, mI p, mI g, mI n] σ (fun z σ' => (¬ isDrp D S p g n ∧ z = -1 ∧ σ' = σ) ∨ (isDrp D S p g n ∧ z = D 3 p ∧ CI σ' (drpD D p g n) S ∧ Kp [14, 15, 16, 17, 18, 19] σ σ')) := by
  refine ct_of rfl [some (mR 0), some (mI p), some (mI g), some (mI n), none, none] (Nat.le_of_ble_eq_true rfl) rfl (fun hσ => ?_)
  show Wp cX6_drop RX6 (some .int) 1 0 [some (mR 0), some (mI p), some (mI g), some (mI n), none, none] [] _ _
  obtain ⟨n1, n2, n3, n4, n5, n6, n7⟩ := hC.n
  have n5p := n5 p
  have hj : ∀ l4 : Int, (l4 = 0 ∧ ¬ (g = -4 ∧ n = 0)) ∨ (l4 = 1 ∧ g = -4 ∧ n = 0) → 0 ≤ p → p < σ 14 0 → Wp cX6_drop RX6 (some .int) 1 25 [some (mR 0), some (mI p), some (mI g), some (mI n), none, none] [mI l4] σ (fun v σ' => ∃ z, v = some (mI z) ∧ (fun z σ' => (¬ isDrp D S p g n ∧ z = -1 ∧ σ' = σ) ∨ (isDrp D S p g n ∧ z = D 3 p ∧ CI σ' (drpD D p g n) S ∧ Kp [14, 15, 16, 17, 18, 19] σ σ')) z σ') := by
    intro l4 hl p0 p1
    refine wp_istore (pc := 25) dX6_drop_25 (Nat.le_of_ble_eq_true rfl) rfl ?_
    refine wp_iload (pc := 27) dX6_drop_27 rfl ?_
    refine wp_if_ne (pc := 29) 49 dX6_drop_29 (by decide) (fun c_29 => ?_) (fun c_29 => ?_)
    · refine wp_aload_n (pc := 49) dX6_drop_49 rfl rfl ?_
      refine wp_getR (pc := 50) (q := 14) dX6_drop_50 fl_X6_23 rfl ?_
      refine wp_getR (pc := 53) (q := 18) dX6_drop_53 fl_X6_170 rfl ?_
      refine wp_iload_n (pc := 56) dX6_drop_56 rfl rfl ?_
      refine wp_iald (pc := 57) 8 dX6_drop_57 rfl (by omega) ?_
      refine wp_istore (pc := 58) dX6_drop_58 (Nat.le_of_ble_eq_true rfl) rfl ?_
      refine wp_aload_n (pc := 60) dX6_drop_60 rfl rfl ?_
      refine wp_getR (pc := 61) (q := 14) dX6_drop_61 fl_X6_23 rfl ?_
      refine wp_getR (pc := 64) (q := 17) dX6_drop_64 fl_X6_167 rfl ?_
      refine wp_iload_n (pc := 67) dX6_drop_67 rfl rfl ?_
      refine wp_iload_n (pc := 68) dX6_drop_68 rfl rfl ?_
      refine wp_iast (pc := 69) 8 dX6_drop_69 rfl (by omega) ?_
      refine wp_aload_n (pc := 70) dX6_drop_70 rfl rfl ?_
      refine wp_getR (pc := 71) (q := 14) dX6_drop_71 fl_X6_23 rfl ?_
      refine wp_getR (pc := 74) (q := 18) dX6_drop_74 fl_X6_170 rfl ?_
      refine wp_iload_n (pc := 77) dX6_drop_77 rfl rfl ?_
      refine wp_iload_n (pc := 78) dX6_drop_78 rfl rfl ?_
      refine wp_iast (pc := 79) 8 dX6_drop_79 rfl (by omega) ?_
      refine wp_aload_n (pc := 80) dX6_drop_80 rfl rfl ?_
      refine wp_iconst (pc := 81) dX6_drop_81 (by decide) ?_
      refine wp_putZ (pc := 82) 11 dX6_drop_82 fl_X6_70 ⟨rfl, rfl⟩ rfl rfl (by omega) ?_
      refine wp_iload (pc := 85) dX6_drop_85 rfl ?_
      refine wp_ireturn (pc := 87) dX6_drop_87 rfl ?_
      have hi : isDrp D S p g n := by unfold isDrp; omega
      have ho := drpD_ok hC.2.2.1 (p := p) hi.2
      have hk : Kp [14, 15, 16, 17, 18, 19] σ (upd2 (upd2 (upd2 σ 17 p g) 18 p n) 0 11 1) := ((Kp.rf.up (by decide)).up (by decide)).st
      have hd : DC (upd2 (upd2 (upd2 σ 17 p g) 18 p n) 0 11 1) = drpD D p g n := by rw [DC_st, DC_drp, hC.1]
      refine ⟨_, rfl, Or.inr ⟨hi, by omega, hC.upd hk (by rw [upd2_eq]; decide) hd ho.1 ?_, hk⟩⟩
      rw [ho.2, upd2_r (by decide), upd2_r (by decide), upd2_r (by decide)]
      exact hC.2.2.2.2.1
    · refine wp_aload_n (pc := 32) dX6_drop_32 rfl rfl ?_
      refine wp_iload_n (pc := 33) dX6_drop_33 rfl rfl ?_
      refine wp_cvI1 (pc := 34) dX6_drop_34 mv_X6_139 c_isShape (Nat.le_of_ble_eq_true rfl) rfl (Nat.le_of_ble_eq_true rfl) (fun z_34 σ_34 h_34 => ?_)
      obtain ⟨zz_34, e_34⟩ := h_34; have e2_34 := e_34.symm; subst e2_34; have y_34 : (z_34 = 1 ∧ 0 ≤ g ∧ g < σ 2 0) ∨ (z_34 = 0 ∧ ¬ (0 ≤ g ∧ g < σ 2 0)) := by split at zz_34 <;> omega
      refine wp_if_eq (pc := 37) 47 dX6_drop_37 (by decide) (fun c_37 => ?_) (fun c_37 => ?_)
      · refine wp_iconst (pc := 47) dX6_drop_47 (by decide) ?_
        refine wp_ireturn (pc := 48) dX6_drop_48 rfl ?_
        refine ⟨_, rfl, Or.inl ⟨by unfold isDrp; omega, rfl, rfl⟩⟩
      · refine wp_iload_n (pc := 40) dX6_drop_40 rfl rfl ?_
        refine wp_csI1 (pc := 41) dX6_drop_41 ms_X6_249 c_isDrop (Nat.le_of_ble_eq_true rfl) (Nat.le_of_ble_eq_true rfl) (fun z_41 σ_41 h_41 => ?_)
        obtain ⟨zz_41, e_41⟩ := h_41; have e2_41 := e_41.symm; subst e2_41; have y_41 : (z_41 = 1 ∧ 2 ≤ n ∧ n ≤ 5) ∨ (z_41 = 0 ∧ ¬ (2 ≤ n ∧ n ≤ 5)) := by split at zz_41 <;> omega
        refine wp_if_ne (pc := 44) 49 dX6_drop_44 (by decide) (fun c_44 => ?_) (fun c_44 => ?_)
        · refine wp_aload_n (pc := 49) dX6_drop_49 rfl rfl ?_
          refine wp_getR (pc := 50) (q := 14) dX6_drop_50 fl_X6_23 rfl ?_
          refine wp_getR (pc := 53) (q := 18) dX6_drop_53 fl_X6_170 rfl ?_
          refine wp_iload_n (pc := 56) dX6_drop_56 rfl rfl ?_
          refine wp_iald (pc := 57) 8 dX6_drop_57 rfl (by omega) ?_
          refine wp_istore (pc := 58) dX6_drop_58 (Nat.le_of_ble_eq_true rfl) rfl ?_
          refine wp_aload_n (pc := 60) dX6_drop_60 rfl rfl ?_
          refine wp_getR (pc := 61) (q := 14) dX6_drop_61 fl_X6_23 rfl ?_
          refine wp_getR (pc := 64) (q := 17) dX6_drop_64 fl_X6_167 rfl ?_
          refine wp_iload_n (pc := 67) dX6_drop_67 rfl rfl ?_
          refine wp_iload_n (pc := 68) dX6_drop_68 rfl rfl ?_
          refine wp_iast (pc := 69) 8 dX6_drop_69 rfl (by omega) ?_
          refine wp_aload_n (pc := 70) dX6_drop_70 rfl rfl ?_
          refine wp_getR (pc := 71) (q := 14) dX6_drop_71 fl_X6_23 rfl ?_
          refine wp_getR (pc := 74) (q := 18) dX6_drop_74 fl_X6_170 rfl ?_
          refine wp_iload_n (pc := 77) dX6_drop_77 rfl rfl ?_
          refine wp_iload_n (pc := 78) dX6_drop_78 rfl rfl ?_
          refine wp_iast (pc := 79) 8 dX6_drop_79 rfl (by omega) ?_
          refine wp_aload_n (pc := 80) dX6_drop_80 rfl rfl ?_
          refine wp_iconst (pc := 81) dX6_drop_81 (by decide) ?_
          refine wp_putZ (pc := 82) 11 dX6_drop_82 fl_X6_70 ⟨rfl, rfl⟩ rfl rfl (by omega) ?_
          refine wp_iload (pc := 85) dX6_drop_85 rfl ?_
          refine wp_ireturn (pc := 87) dX6_drop_87 rfl ?_
          have hi : isDrp D S p g n := by unfold isDrp; omega
          have ho := drpD_ok hC.2.2.1 (p := p) hi.2
          have hk : Kp [14, 15, 16, 17, 18, 19] σ (upd2 (upd2 (upd2 σ 17 p g) 18 p n) 0 11 1) := ((Kp.rf.up (by decide)).up (by decide)).st
          have hd : DC (upd2 (upd2 (upd2 σ 17 p g) 18 p n) 0 11 1) = drpD D p g n := by rw [DC_st, DC_drp, hC.1]
          refine ⟨_, rfl, Or.inr ⟨hi, by omega, hC.upd hk (by rw [upd2_eq]; decide) hd ho.1 ?_, hk⟩⟩
          rw [ho.2, upd2_r (by decide), upd2_r (by decide), upd2_r (by decide)]
          exact hC.2.2.2.2.1
        · refine wp_iconst (pc := 47) dX6_drop_47 (by decide) ?_
          refine wp_ireturn (pc := 48) dX6_drop_48 rfl ?_
          refine ⟨_, rfl, Or.inl ⟨by unfold isDrp; omega, rfl, rfl⟩⟩
  refine wp_aload_n (pc := 0) dX6_drop_0 rfl rfl ?_
  refine wp_iload_n (pc := 1) dX6_drop_1 rfl rfl ?_
  refine wp_cvI1 (pc := 2) dX6_drop_2 mv_X6_161 c_isPar (Nat.le_of_ble_eq_true rfl) rfl (Nat.le_of_ble_eq_true rfl) (fun z_2 σ_2 h_2 => ?_)
  obtain ⟨zz_2, e_2⟩ := h_2; have e2_2 := e_2.symm; subst e2_2; have y_2 : (z_2 = 1 ∧ 0 ≤ p ∧ p < σ 14 0) ∨ (z_2 = 0 ∧ ¬ (0 ≤ p ∧ p < σ 14 0)) := by split at zz_2 <;> omega
  refine wp_if_ne (pc := 5) 10 dX6_drop_5 (by decide) (fun c_5 => ?_) (fun c_5 => ?_)
  · refine wp_iload_n (pc := 10) dX6_drop_10 rfl rfl ?_
    refine wp_bipush (pc := 11) dX6_drop_11 (by decide) (by decide) ?_
    refine wp_icmp_ne (pc := 13) 24 dX6_drop_13 (by decide) (fun c_13 => ?_) (fun c_13 => ?_)
    · refine wp_iconst (pc := 24) dX6_drop_24 (by decide) ?_
      exact hj _ (by omega) (by omega) (by omega)
    · refine wp_iload_n (pc := 16) dX6_drop_16 rfl rfl ?_
      refine wp_if_ne (pc := 17) 24 dX6_drop_17 (by decide) (fun c_17 => ?_) (fun c_17 => ?_)
      · refine wp_iconst (pc := 24) dX6_drop_24 (by decide) ?_
        exact hj _ (by omega) (by omega) (by omega)
      · refine wp_iconst (pc := 20) dX6_drop_20 (by decide) ?_
        refine wp_goto (pc := 21) 25 dX6_drop_21 (by decide) ?_
        exact hj _ (by omega) (by omega) (by omega)
  · refine wp_iconst (pc := 8) dX6_drop_8 (by decide) ?_
    refine wp_ireturn (pc := 9) dX6_drop_9 rfl ?_
    refine ⟨_, rfl, Or.inl ⟨by unfold isDrp; omega, rfl, rfl⟩⟩

def Same (D E : Sto) : Prop := D 0 0 = E 0 0 ∧ (∀ p, 0 ≤ p → p < 8 → D 1 p = E 1 p ∧ D 2 p = E 2 p ∧ D 3 p = E 3 p) ∧ (∀ w, 0 ≤ w → w < 80 → D 4 w = E 4 w) ∧ ∀ s, 0 ≤ s → s < 6 → D 5 s = E 5 s
set_option maxHeartbeats 4000000 in
set_option maxRecDepth 100000 in
theorem Same.ok {D E S : Sto} (h : Same D E) (ho : OKD E S) : OKD D S ∧ tot D = tot E := by
  obtain ⟨s0, s1, s4, s5⟩ := h
  obtain ⟨h1, h2, h3, h4, h5, h6, h7, h8, h9, h10, h11⟩ := ho
  have et : tot D = tot E := by
    unfold tot
    rw [s0]
    exact sumI_cong (fun k k0 k1 => (s1 k k0 (by omega)).1)
  refine ⟨⟨by omega, fun p p0 p1 => ?_, by omega, fun p p0 p1 => ?_, fun w w0 w1 => ?_, ?_, ?_, ?_, ?_, ?_, ?_⟩, et⟩
  · rw [(s1 p p0 (by omega)).1]; exact h2 p p0 (by omega)
  · rw [(s1 p p0 (by omega)).2.1, (s1 p p0 (by omega)).2.2]; exact h4 p p0 (by omega)
  · rw [s4 w w0 (by omega)]; exact h5 w w0 (by omega)
  · rw [s5 0 (by decide) (by decide)]; exact h6
  · rw [s5 1 (by decide) (by decide)]; exact h7
  · rw [s5 2 (by decide) (by decide)]; exact h8
  · rw [s5 3 (by decide) (by decide)]; exact h9
  · rw [s5 4 (by decide) (by decide)]; exact h10
  · rw [s5 5 (by decide) (by decide)]; exact h11
def KI (σ : Sto) : Prop := (0 ≤ σ 0 14 ∧ σ 0 14 ≤ 1) ∧ 0 ≤ σ 0 15 ∧ σ 0 15 ≤ 1
set_option maxHeartbeats 4000000 in
set_option maxRecDepth 100000 in
theorem c_isKept_0 {σ : Sto} {k : Int} (hK : 0 ≤ σ 0 14 ∧ σ 0 14 ≤ 1) (hk : k = 0) : CtI yX6_isKept cX6_isKept 2 (some .boolean) 0 [mR 0, mI k] σ (fun z σ' => z = σ 0 14 ∧ σ' = σ) := by
  refine ct_of rfl [some (mR 0), some (mI k)] (Nat.le_of_ble_eq_true rfl) rfl (fun hσ => ?_)
  show Wp cX6_isKept RX6 (some .boolean) 0 0 [some (mR 0), some (mI k)] [] _ _
  refine wp_iload_n (pc := 0) dX6_isKept_0 rfl rfl ?_
  refine wp_if_ne (pc := 1) 11 dX6_isKept_1 (by decide) (fun c_1 => ?_) (fun c_1 => ?_)
  · omega
  · refine wp_aload_n (pc := 4) dX6_isKept_4 rfl rfl ?_
    refine wp_getI (pc := 5) 14 dX6_isKept_5 fl_X6_102 rfl rfl ?_
    refine wp_goto (pc := 8) 15 dX6_isKept_8 (by decide) ?_
    refine wp_zreturn (pc := 15) dX6_isKept_15 rfl (by omega) ?_
    exact ⟨_, rfl, rfl, rfl⟩
set_option maxHeartbeats 4000000 in
set_option maxRecDepth 100000 in
theorem c_isKept_1 {σ : Sto} {k : Int} (hK : 0 ≤ σ 0 15 ∧ σ 0 15 ≤ 1) (hk : k = 1) : CtI yX6_isKept cX6_isKept 2 (some .boolean) 0 [mR 0, mI k] σ (fun z σ' => z = σ 0 15 ∧ σ' = σ) := by
  refine ct_of rfl [some (mR 0), some (mI k)] (Nat.le_of_ble_eq_true rfl) rfl (fun hσ => ?_)
  show Wp cX6_isKept RX6 (some .boolean) 0 0 [some (mR 0), some (mI k)] [] _ _
  refine wp_iload_n (pc := 0) dX6_isKept_0 rfl rfl ?_
  refine wp_if_ne (pc := 1) 11 dX6_isKept_1 (by decide) (fun c_1 => ?_) (fun c_1 => ?_)
  · refine wp_aload_n (pc := 11) dX6_isKept_11 rfl rfl ?_
    refine wp_getI (pc := 12) 15 dX6_isKept_12 fl_X6_105 rfl rfl ?_
    refine wp_zreturn (pc := 15) dX6_isKept_15 rfl (by omega) ?_
    exact ⟨_, rfl, rfl, rfl⟩
  · omega
set_option maxHeartbeats 4000000 in
set_option maxRecDepth 100000 in
theorem c_imageOf_0 {σ : Sto} {k : Int} (hk : k = 0) : CtR yX6_imageOf cX6_imageOf 2 (some (.object "DropCapitals$Pages")) 0 [mR 0, mI k] σ (fun z σ' => z = 26 ∧ σ' = σ) := by
  refine ct_of rfl [some (mR 0), some (mI k)] (Nat.le_of_ble_eq_true rfl) rfl (fun hσ => ?_)
  show Wp cX6_imageOf RX6 (some (.object "DropCapitals$Pages")) 0 0 [some (mR 0), some (mI k)] [] _ _
  refine wp_iload_n (pc := 0) dX6_imageOf_0 rfl rfl ?_
  refine wp_if_ne (pc := 1) 11 dX6_imageOf_1 (by decide) (fun c_1 => ?_) (fun c_1 => ?_)
  · omega
  · refine wp_aload_n (pc := 4) dX6_imageOf_4 rfl rfl ?_
    refine wp_getR (pc := 5) (q := 26) dX6_imageOf_5 fl_X6_74 rfl ?_
    refine wp_goto (pc := 8) 15 dX6_imageOf_8 (by decide) ?_
    refine wp_areturn (pc := 15) dX6_imageOf_15 rfl ?_
    exact ⟨_, rfl, rfl, rfl⟩
set_option maxHeartbeats 4000000 in
set_option maxRecDepth 100000 in
theorem c_imageOf_1 {σ : Sto} {k : Int} (hk : k = 1) : CtR yX6_imageOf cX6_imageOf 2 (some (.object "DropCapitals$Pages")) 0 [mR 0, mI k] σ (fun z σ' => z = 32 ∧ σ' = σ) := by
  refine ct_of rfl [some (mR 0), some (mI k)] (Nat.le_of_ble_eq_true rfl) rfl (fun hσ => ?_)
  show Wp cX6_imageOf RX6 (some (.object "DropCapitals$Pages")) 0 0 [some (mR 0), some (mI k)] [] _ _
  refine wp_iload_n (pc := 0) dX6_imageOf_0 rfl rfl ?_
  refine wp_if_ne (pc := 1) 11 dX6_imageOf_1 (by decide) (fun c_1 => ?_) (fun c_1 => ?_)
  · refine wp_aload_n (pc := 11) dX6_imageOf_11 rfl rfl ?_
    refine wp_getR (pc := 12) (q := 32) dX6_imageOf_12 fl_X6_77 rfl ?_
    refine wp_areturn (pc := 15) dX6_imageOf_15 rfl ?_
    exact ⟨_, rfl, rfl, rfl⟩
  · omega
