set_option maxHeartbeats 4000000 in
set_option maxRecDepth 100000 in
theorem own_t {D S : Sto} (h : OKD D S) {p t : Int} (p0 : 0 ≤ p) (hp : p < D 0 0) (t0 : 0 ≤ t) (ht : t < LM D S p) : own D S (LB D S p + t) = p ∧ 0 ≤ LB D S p + t ∧ LB D S p + t < nL D S := by
  have le := LE_eq D S p0
  have ln := LE_nL h p0 hp
  have lb := LBb h p0 hp
  exact ⟨own_in h p0 hp (by omega) (by omega), by omega, by omega⟩
set_option maxHeartbeats 4000000 in
set_option maxRecDepth 100000 in
theorem slk_bd {D S : Sto} (h : OKD D S) (hS : OKS S) {l : Int} (h0 : 0 ≤ own D S l) : 0 ≤ slk D S l ∧ slk D S l ≤ 9801 := by
  have u := lU_bd h hS h0
  unfold slk
  split
  · omega
  · have := mulb (a := lR D S l - lU D S l) (b := lR D S l - lU D S l) (A := 99) (B := 99) (by omega) (by omega) (by omega) (by omega)
    omega
set_option maxHeartbeats 4000000 in
set_option maxRecDepth 100000 in
theorem m_slacksOf {σ D S : Sto} {p : Int} (h : RM σ D S) (hL : LayM σ D S (D 0 0)) (hp : 0 ≤ p ∧ p < D 0 0) : CtI yX7_slacksOf cX7_slacksOf 5 (some .int) 7 [mR 71, mI p] σ (fun z σ' => z = sumI (fun k => slk D S (LB D S p + k)) (LM D S p - 1) ∧ σ' = σ) := by
  refine ct_of rfl [some (mR 71), some (mI p), none, none, none] (Nat.le_of_ble_eq_true rfl) rfl (fun hσ => ?_)
  show Wp cX7_slacksOf RX7 (some .int) 7 0 [some (mR 71), some (mI p), none, none, none] [] _ _
  have hD := h.2.2.2.1
  have hS := h.2.2.2.2
  have n := h.n
  have lb := LBb hD hp.1 hp.2
  have le := LE_eq D S hp.1
  have q := hL.2.1 p hp.1 hp.2
  have m1 := (LG_ok D S (hD.2.1 p hp.1 hp.2)).2
  have lp : ∀ t, t ≤ LM D S p - 1 → 0 ≤ t → Wp cX7_slacksOf RX7 (some .int) 7 9 [some (mR 71), some (mI p), some (mI (sumI (fun k => slk D S (LB D S p + k)) t)), some (mI (LB D S p + t)), none] [] σ (fun v σ' => ∃ z, v = some (mI z) ∧ (fun z σ' => z = sumI (fun k => slk D S (LB D S p + k)) (LM D S p - 1) ∧ σ' = σ) z σ') := by
    refine up_ind _ (fun t ht ih t0 => ?_)
    have hb := sumI_bd (f := fun k => slk D S (LB D S p + k)) (n := t) (c := 9801) t0 (fun k k0 k1 => slk_bd hD hS (by rw [(own_t hD hp.1 hp.2 k0 (by omega)).1]; exact hp.1))
    have hs : sumI (fun k => slk D S (LB D S p + k)) (t + 1) = sumI (fun k => slk D S (LB D S p + k)) t + slk D S (LB D S p + t) := sumI_s t0
    have ot := own_t hD hp.1 hp.2 t0 (show t < LM D S p by omega)
    have ho0 : 0 ≤ own D S (LB D S p + t) := by rw [ot.1]; exact hp.1
    have u := lU_bd hD hS ho0
    have hsb := slk_bd hD hS ho0
    obtain ⟨a, b⟩ := layM_line hD hL ot.2.1 ot.2.2
    obtain ⟨b1, b2, b3⟩ := b ho0
    have h01 := lO_01 D S (LB D S p + t)
    have hov : (lO D S (LB D S p + t) = 1 ∧ lR D S (LB D S p + t) < lU D S (LB D S p + t)) ∨ (lO D S (LB D S p + t) = 0 ∧ ¬ lR D S (LB D S p + t) < lU D S (LB D S p + t)) := by
      unfold lO
      by_cases c : 0 ≤ own D S (LB D S p + t) ∧ lR D S (LB D S p + t) < lU D S (LB D S p + t)
      · rw [if_pos c]; exact Or.inl ⟨rfl, c.2⟩
      · rw [if_neg c]; exact Or.inr ⟨rfl, fun w => c ⟨ho0, w⟩⟩
    have eU : us (wdA D) (fstS D p + lF D S (LB D S p + t)) (lNw D S (LB D S p + t)) = lU D S (LB D S p + t) := by unfold lU; rw [us_sh, ot.1]
    have eR : roomS D S (LB D S) p (LB D S p + t) = lR D S (LB D S p + t) := by unfold lR; rw [ot.1]
    have pp := h.p hp.1 hp.2
    rw [ot.1] at b1 u
    have w63 : t < LM D S p - 1 → ∀ v : Int, v * v = slk D S (LB D S p + t) → Wp cX7_slacksOf RX7 (some .int) 7 63 [some (mR 71), some (mI p), some (mI (sumI (fun k => slk D S (LB D S p + k)) t)), some (mI (LB D S p + t)), none] [mI v] σ (fun v σ' => ∃ z, v = some (mI z) ∧ (fun z σ' => z = sumI (fun k => slk D S (LB D S p + k)) (LM D S p - 1) ∧ σ' = σ) z σ') := by
      intro htm v hv
      refine wp_istore (pc := 63) dX7_slacksOf_63 (Nat.le_of_ble_eq_true rfl) rfl ?_
      refine wp_iload_n (pc := 65) dX7_slacksOf_65 rfl rfl ?_
      refine wp_iload (pc := 66) dX7_slacksOf_66 rfl ?_
      refine wp_iload (pc := 68) dX7_slacksOf_68 rfl ?_
      refine wp_imul (pc := 70) dX7_slacksOf_70 (by rw [hv]; exact ⟨by omega, by omega⟩) ?_
      rw [hv]
      refine wp_iadd (pc := 71) dX7_slacksOf_71 (by omega) ?_
      refine wp_istore_n (pc := 72) dX7_slacksOf_72 rfl (Nat.le_of_ble_eq_true rfl) rfl ?_
      refine wp_iinc (pc := 73) dX7_slacksOf_73 rfl rfl (by omega) ?_
      refine wp_goto (pc := 76) 9 dX7_slacksOf_76 (by decide) ?_
      refine wp_fgt [4] ?_
      have := ih htm (by omega)
      rw [hs, show LB D S p + (t + 1) = LB D S p + t + 1 by omega] at this
      exact this
    refine wp_iload_n (pc := 9) dX7_slacksOf_9 rfl rfl ?_
    refine wp_aload_n (pc := 10) dX7_slacksOf_10 rfl rfl ?_
    refine wp_getR (pc := 11) (q := 82) dX7_slacksOf_11 fl_X7_41 rfl ?_
    refine wp_iload_n (pc := 14) dX7_slacksOf_14 rfl rfl ?_
    refine wp_iald (pc := 15) 9 dX7_slacksOf_15 rfl (by omega) ?_
    rw [q.1]
    refine wp_aload_n (pc := 16) dX7_slacksOf_16 rfl rfl ?_
    refine wp_getR (pc := 17) (q := 83) dX7_slacksOf_17 fl_X7_44 rfl ?_
    refine wp_iload_n (pc := 20) dX7_slacksOf_20 rfl rfl ?_
    refine wp_iald (pc := 21) 8 dX7_slacksOf_21 rfl (by omega) ?_
    rw [q.2.1]
    refine wp_iadd (pc := 22) dX7_slacksOf_22 (by omega) ?_
    refine wp_iconst (pc := 23) dX7_slacksOf_23 (by decide) ?_
    refine wp_isub (pc := 24) dX7_slacksOf_24 (by omega) ?_
    refine wp_icmp_ge (pc := 25) 79 dX7_slacksOf_25 (by decide) (fun c_25 => ?_) (fun c_25 => ?_)
    · refine wp_iload_n (pc := 79) dX7_slacksOf_79 rfl rfl ?_
      refine wp_ireturn (pc := 80) dX7_slacksOf_80 rfl ?_
      rw [show t = LM D S p - 1 by omega]
      exact ⟨_, rfl, rfl, rfl⟩
    · refine wp_aload_n (pc := 28) dX7_slacksOf_28 rfl rfl ?_
      refine wp_iload_n (pc := 29) dX7_slacksOf_29 rfl rfl ?_
      refine wp_cvI1 (pc := 30) dX7_slacksOf_30 mv_X7_230 (m_isOver h hL ot.2 ho0) (Nat.le_of_ble_eq_true rfl) rfl (Nat.le_of_ble_eq_true rfl) (fun z_30 σ_30 h_30 => ?_)
      obtain ⟨zz_30, e_30⟩ := h_30; have e2_30 := e_30.symm; subst e2_30
      refine wp_if_eq (pc := 33) 40 dX7_slacksOf_33 (by decide) (fun c_33 => ?_) (fun c_33 => ?_)
      · refine wp_aload_n (pc := 40) dX7_slacksOf_40 rfl rfl ?_
        refine wp_iload_n (pc := 41) dX7_slacksOf_41 rfl rfl ?_
        refine wp_iload_n (pc := 42) dX7_slacksOf_42 rfl rfl ?_
        refine wp_cvI2 (pc := 43) dX7_slacksOf_43 mv_X7_204 (m_roomAt h hp (hL.B hp.2) (by omega)) (Nat.le_of_ble_eq_true rfl) rfl (Nat.le_of_ble_eq_true rfl) (fun z_43 σ_43 h_43 => ?_)
        obtain ⟨rfl, e_43⟩ := h_43; have e2_43 := e_43.symm; subst e2_43
        rw [eR]
        refine wp_aload_n (pc := 46) dX7_slacksOf_46 rfl rfl ?_
        refine wp_aload_n (pc := 47) dX7_slacksOf_47 rfl rfl ?_
        refine wp_getR (pc := 48) (q := 85) dX7_slacksOf_48 fl_X7_50 rfl ?_
        refine wp_iload_n (pc := 51) dX7_slacksOf_51 rfl rfl ?_
        refine wp_iald (pc := 52) 300 dX7_slacksOf_52 rfl (by omega) ?_
        rw [b1]
        refine wp_aload_n (pc := 53) dX7_slacksOf_53 rfl rfl ?_
        refine wp_getR (pc := 54) (q := 86) dX7_slacksOf_54 fl_X7_53 rfl ?_
        refine wp_iload_n (pc := 57) dX7_slacksOf_57 rfl rfl ?_
        refine wp_iald (pc := 58) 300 dX7_slacksOf_58 rfl (by omega) ?_
        rw [b2]
        refine wp_cvI2 (pc := 59) dX7_slacksOf_59 mv_X7_207 (m_usedBy h (by omega)) (Nat.le_of_ble_eq_true rfl) rfl (Nat.le_of_ble_eq_true rfl) (fun z_59 σ_59 h_59 => ?_)
        obtain ⟨rfl, e_59⟩ := h_59; have e2_59 := e_59.symm; subst e2_59
        rw [eU]
        refine wp_isub (pc := 62) dX7_slacksOf_62 (by omega) ?_
        refine w63 (by omega) _ ?_
        unfold slk
        first
          | (rw [if_pos (by omega)]; rfl)
          | rw [if_neg (by omega)]
      · refine wp_iconst (pc := 36) dX7_slacksOf_36 (by decide) ?_
        refine wp_goto (pc := 37) 63 dX7_slacksOf_37 (by decide) ?_
        refine w63 (by omega) _ ?_
        unfold slk
        first
          | (rw [if_pos (by omega)]; rfl)
          | rw [if_neg (by omega)]
  refine wp_iconst (pc := 0) dX7_slacksOf_0 (by decide) ?_
  refine wp_istore_n (pc := 1) dX7_slacksOf_1 rfl (Nat.le_of_ble_eq_true rfl) rfl ?_
  refine wp_aload_n (pc := 2) dX7_slacksOf_2 rfl rfl ?_
  refine wp_getR (pc := 3) (q := 82) dX7_slacksOf_3 fl_X7_41 rfl ?_
  refine wp_iload_n (pc := 6) dX7_slacksOf_6 rfl rfl ?_
  refine wp_iald (pc := 7) 9 dX7_slacksOf_7 rfl (by omega) ?_
  rw [q.1]
  refine wp_istore_n (pc := 8) dX7_slacksOf_8 rfl (Nat.le_of_ble_eq_true rfl) rfl ?_
  have := lp 0 (by omega) (by decide)
  rw [Int.add_zero] at this
  exact this
set_option maxHeartbeats 4000000 in
set_option maxRecDepth 100000 in
theorem m_ofLines {σ D S : Sto} {p w : Int} (h : RM σ D S) (hL : LayM σ D S (D 0 0)) (hp : 0 ≤ p ∧ p < D 0 0) (hw : 6 ≤ w ∧ w ≤ 8) : CtI yX7_ofLines cX7_ofLines 5 (some .int) 7 [mR 71, mI p, mI w] σ (fun z σ' => z = (if w = 6 then sumI (fun k => lX D S (LB D S p + k)) (LM D S p) else if w = 7 then fcl D S p else sumI (fun k => lO D S (LB D S p + k)) (LM D S p)) ∧ σ' = σ) := by
  refine ct_of rfl [some (mR 71), some (mI p), some (mI w), none, none] (Nat.le_of_ble_eq_true rfl) rfl (fun hσ => ?_)
  show Wp cX7_ofLines RX7 (some .int) 7 0 [some (mR 71), some (mI p), some (mI w), none, none] [] _ _
  have hD := h.2.2.2.1
  have hS := h.2.2.2.2
  have n := h.n
  have lb := LBb hD hp.1 hp.2
  have le := LE_eq D S hp.1
  have q := hL.2.1 p hp.1 hp.2
  have m1 := (LG_ok D S (hD.2.1 p hp.1 hp.2)).2
  have lp : ∀ t, t ≤ LM D S p → 0 ≤ t → (w = 7 → ∀ k, 0 ≤ k → k < t → lX D S (LB D S p + k) ≠ 1) → ∀ v : Int, (0 ≤ v ∧ v ≤ t) → (w = 6 → v = sumI (fun k => lX D S (LB D S p + k)) t) → (w = 8 → v = sumI (fun k => lO D S (LB D S p + k)) t) → Wp cX7_ofLines RX7 (some .int) 7 10 [some (mR 71), some (mI p), some (mI w), some (mI v), some (mI (LB D S p + t))] [] σ (fun v σ' => ∃ z, v = some (mI z) ∧ (fun z σ' => z = (if w = 6 then sumI (fun k => lX D S (LB D S p + k)) (LM D S p) else if w = 7 then fcl D S p else sumI (fun k => lO D S (LB D S p + k)) (LM D S p)) ∧ σ' = σ) z σ') := by
    refine up_ind _ (fun t ht ih t0 h7 v hv h6 h8 => ?_)
    have hs6 : sumI (fun k => lX D S (LB D S p + k)) (t + 1) = sumI (fun k => lX D S (LB D S p + k)) t + lX D S (LB D S p + t) := sumI_s t0
    have hs8 : sumI (fun k => lO D S (LB D S p + k)) (t + 1) = sumI (fun k => lO D S (LB D S p + k)) t + lO D S (LB D S p + t) := sumI_s t0
    have ot := fun c => own_t hD hp.1 hp.2 t0 (show t < LM D S p from c)
    have h01 := lO_01 D S (LB D S p + t)
    have hx1 := lX_01 D S (LB D S p + t)
    have w79 : t < LM D S p → (w = 7 → lX D S (LB D S p + t) ≠ 1) → ∀ a : Int, (a = 0 ∨ a = 1) → (w = 6 → a = lX D S (LB D S p + t)) → (w = 8 → a = lO D S (LB D S p + t)) → Wp cX7_ofLines RX7 (some .int) 7 79 [some (mR 71), some (mI p), some (mI w), some (mI v), some (mI (LB D S p + t))] [mI a, mI v] σ (fun v σ' => ∃ z, v = some (mI z) ∧ (fun z σ' => z = (if w = 6 then sumI (fun k => lX D S (LB D S p + k)) (LM D S p) else if w = 7 then fcl D S p else sumI (fun k => lO D S (LB D S p + k)) (LM D S p)) ∧ σ' = σ) z σ') := by
      intro htm h7t a ha h6a h8a
      refine wp_iadd (pc := 79) dX7_ofLines_79 (by omega) ?_
      refine wp_istore_n (pc := 80) dX7_ofLines_80 rfl (Nat.le_of_ble_eq_true rfl) rfl ?_
      refine wp_iinc (pc := 81) dX7_ofLines_81 rfl rfl (by omega) ?_
      refine wp_goto (pc := 84) 10 dX7_ofLines_84 (by decide) ?_
      have := ih htm (by omega) (fun e k k0 k1 => ?_) (v + a) (by omega) (fun e => by rw [hs6, ← h6 e, ← h6a e]) (fun e => by rw [hs8, ← h8 e, ← h8a e])
      · rw [show LB D S p + (t + 1) = LB D S p + t + 1 by omega] at this
        exact this
      · by_cases ek : k = t
        · rw [ek]; exact h7t e
        · exact h7 e k k0 (by omega)
    refine wp_iload (pc := 10) dX7_ofLines_10 rfl ?_
    refine wp_aload_n (pc := 12) dX7_ofLines_12 rfl rfl ?_
    refine wp_getR (pc := 13) (q := 82) dX7_ofLines_13 fl_X7_41 rfl ?_
    refine wp_iload_n (pc := 16) dX7_ofLines_16 rfl rfl ?_
    refine wp_iald (pc := 17) 9 dX7_ofLines_17 rfl (by omega) ?_
    rw [q.1]
    refine wp_aload_n (pc := 18) dX7_ofLines_18 rfl rfl ?_
    refine wp_getR (pc := 19) (q := 83) dX7_ofLines_19 fl_X7_44 rfl ?_
    refine wp_iload_n (pc := 22) dX7_ofLines_22 rfl rfl ?_
    refine wp_iald (pc := 23) 8 dX7_ofLines_23 rfl (by omega) ?_
    rw [q.2.1]
    refine wp_iadd (pc := 24) dX7_ofLines_24 (by omega) ?_
    refine wp_icmp_ge (pc := 25) 87 dX7_ofLines_25 (by decide) (fun c_25 => ?_) (fun c_25 => ?_)
    · refine wp_iload_n (pc := 87) dX7_ofLines_87 rfl rfl ?_
      refine wp_bipush (pc := 88) dX7_ofLines_88 (by decide) (by decide) ?_
      refine wp_icmp_ne (pc := 90) 98 dX7_ofLines_90 (by decide) (fun c_90 => ?_) (fun c_90 => ?_)
      · refine wp_iload_n (pc := 98) dX7_ofLines_98 rfl rfl ?_
        refine wp_ireturn (pc := 99) dX7_ofLines_99 rfl ?_
        refine ⟨_, rfl, ?_, rfl⟩
        have et : t = LM D S p := by omega
        first
          | (rw [if_neg (by omega), if_pos (by omega)]
             unfold fcl
             have e : fnd (fun t => lX D S (LB D S p + t)) (LM D S p) 1 = -4 := fnd_none (fun k k0 k1 => h7 (by omega) k k0 (by omega))
             rw [e, if_pos rfl])
          | (by_cases c6 : w = 6
             · rw [if_pos c6, ← et]; exact h6 c6
             · rw [if_neg c6, if_neg (by omega), ← et]; exact h8 (by omega))
      · refine wp_bipush (pc := 93) dX7_ofLines_93 (by decide) (by decide) ?_
        refine wp_goto (pc := 95) 99 dX7_ofLines_95 (by decide) ?_
        refine wp_ireturn (pc := 99) dX7_ofLines_99 rfl ?_
        refine ⟨_, rfl, ?_, rfl⟩
        have et : t = LM D S p := by omega
        first
          | (rw [if_neg (by omega), if_pos (by omega)]
             unfold fcl
             have e : fnd (fun t => lX D S (LB D S p + t)) (LM D S p) 1 = -4 := fnd_none (fun k k0 k1 => h7 (by omega) k k0 (by omega))
             rw [e, if_pos rfl])
          | (by_cases c6 : w = 6
             · rw [if_pos c6, ← et]; exact h6 c6
             · rw [if_neg c6, if_neg (by omega), ← et]; exact h8 (by omega))
    · have ott := ot (by omega)
      have ho0 : 0 ≤ own D S (LB D S p + t) := by rw [ott.1]; exact hp.1
      refine wp_iload_n (pc := 28) dX7_ofLines_28 rfl rfl ?_
      refine wp_bipush (pc := 29) dX7_ofLines_29 (by decide) (by decide) ?_
      refine wp_icmp_ne (pc := 31) 46 dX7_ofLines_31 (by decide) (fun c_31 => ?_) (fun c_31 => ?_)
      · refine wp_iload_n (pc := 46) dX7_ofLines_46 rfl rfl ?_
        refine wp_iload_n (pc := 47) dX7_ofLines_47 rfl rfl ?_
        refine wp_bipush (pc := 48) dX7_ofLines_48 (by decide) (by decide) ?_
        refine wp_icmp_ne (pc := 50) 65 dX7_ofLines_50 (by decide) (fun c_50 => ?_) (fun c_50 => ?_)
        · refine wp_aload_n (pc := 65) dX7_ofLines_65 rfl rfl ?_
          refine wp_iload (pc := 66) dX7_ofLines_66 rfl ?_
          refine wp_cvI1 (pc := 68) dX7_ofLines_68 mv_X7_230 (m_isOver h hL ott.2 ho0) (Nat.le_of_ble_eq_true rfl) rfl (Nat.le_of_ble_eq_true rfl) (fun z_68 σ_68 h_68 => ?_)
          obtain ⟨zz_68, e_68⟩ := h_68; have e2_68 := e_68.symm; subst e2_68
          refine wp_if_eq (pc := 71) 78 dX7_ofLines_71 (by decide) (fun c_71 => ?_) (fun c_71 => ?_)
          · refine wp_iconst (pc := 78) dX7_ofLines_78 (by decide) ?_
            exact w79 (by omega) (fun e => by omega) _ (by omega) (fun e => by omega) (fun e => by omega)
          · refine wp_iconst (pc := 74) dX7_ofLines_74 (by decide) ?_
            refine wp_goto (pc := 75) 79 dX7_ofLines_75 (by decide) ?_
            exact w79 (by omega) (fun e => by omega) _ (by omega) (fun e => by omega) (fun e => by omega)
        · refine wp_aload_n (pc := 53) dX7_ofLines_53 rfl rfl ?_
          refine wp_iload (pc := 54) dX7_ofLines_54 rfl ?_
          refine wp_cvI1 (pc := 56) dX7_ofLines_56 mv_X7_227 (m_isClash h hL ott.2 ho0) (Nat.le_of_ble_eq_true rfl) rfl (Nat.le_of_ble_eq_true rfl) (fun z_56 σ_56 h_56 => ?_)
          obtain ⟨zz_56, e_56⟩ := h_56; have e2_56 := e_56.symm; subst e2_56
          refine wp_if_eq (pc := 59) 78 dX7_ofLines_59 (by decide) (fun c_59 => ?_) (fun c_59 => ?_)
          · refine wp_iconst (pc := 78) dX7_ofLines_78 (by decide) ?_
            exact w79 (by omega) (fun e => by omega) _ (by omega) (fun e => by omega) (fun e => by omega)
          · refine wp_goto (pc := 62) 74 dX7_ofLines_62 (by decide) ?_
            refine wp_iconst (pc := 74) dX7_ofLines_74 (by decide) ?_
            refine wp_goto (pc := 75) 79 dX7_ofLines_75 (by decide) ?_
            exact w79 (by omega) (fun e => by omega) _ (by omega) (fun e => by omega) (fun e => by omega)
      · refine wp_aload_n (pc := 34) dX7_ofLines_34 rfl rfl ?_
        refine wp_iload (pc := 35) dX7_ofLines_35 rfl ?_
        refine wp_cvI1 (pc := 37) dX7_ofLines_37 mv_X7_227 (m_isClash h hL ott.2 ho0) (Nat.le_of_ble_eq_true rfl) rfl (Nat.le_of_ble_eq_true rfl) (fun z_37 σ_37 h_37 => ?_)
        obtain ⟨zz_37, e_37⟩ := h_37; have e2_37 := e_37.symm; subst e2_37
        refine wp_if_eq (pc := 40) 46 dX7_ofLines_40 (by decide) (fun c_40 => ?_) (fun c_40 => ?_)
        · refine wp_iload_n (pc := 46) dX7_ofLines_46 rfl rfl ?_
          refine wp_iload_n (pc := 47) dX7_ofLines_47 rfl rfl ?_
          refine wp_bipush (pc := 48) dX7_ofLines_48 (by decide) (by decide) ?_
          refine wp_icmp_ne (pc := 50) 65 dX7_ofLines_50 (by decide) (fun c_50 => ?_) (fun c_50 => ?_)
          · refine wp_aload_n (pc := 65) dX7_ofLines_65 rfl rfl ?_
            refine wp_iload (pc := 66) dX7_ofLines_66 rfl ?_
            refine wp_cvI1 (pc := 68) dX7_ofLines_68 mv_X7_230 (m_isOver h hL ott.2 ho0) (Nat.le_of_ble_eq_true rfl) rfl (Nat.le_of_ble_eq_true rfl) (fun z_68 σ_68 h_68 => ?_)
            obtain ⟨zz_68, e_68⟩ := h_68; have e2_68 := e_68.symm; subst e2_68
            refine wp_if_eq (pc := 71) 78 dX7_ofLines_71 (by decide) (fun c_71 => ?_) (fun c_71 => ?_)
            · refine wp_iconst (pc := 78) dX7_ofLines_78 (by decide) ?_
              exact w79 (by omega) (fun e => by omega) _ (by omega) (fun e => by omega) (fun e => by omega)
            · refine wp_iconst (pc := 74) dX7_ofLines_74 (by decide) ?_
              refine wp_goto (pc := 75) 79 dX7_ofLines_75 (by decide) ?_
              exact w79 (by omega) (fun e => by omega) _ (by omega) (fun e => by omega) (fun e => by omega)
          · refine wp_aload_n (pc := 53) dX7_ofLines_53 rfl rfl ?_
            refine wp_iload (pc := 54) dX7_ofLines_54 rfl ?_
            refine wp_cvI1 (pc := 56) dX7_ofLines_56 mv_X7_227 (m_isClash h hL ott.2 ho0) (Nat.le_of_ble_eq_true rfl) rfl (Nat.le_of_ble_eq_true rfl) (fun z_56 σ_56 h_56 => ?_)
            obtain ⟨zz_56, e_56⟩ := h_56; have e2_56 := e_56.symm; subst e2_56
            refine wp_if_eq (pc := 59) 78 dX7_ofLines_59 (by decide) (fun c_59 => ?_) (fun c_59 => ?_)
            · refine wp_iconst (pc := 78) dX7_ofLines_78 (by decide) ?_
              exact w79 (by omega) (fun e => by omega) _ (by omega) (fun e => by omega) (fun e => by omega)
            · refine wp_goto (pc := 62) 74 dX7_ofLines_62 (by decide) ?_
              refine wp_iconst (pc := 74) dX7_ofLines_74 (by decide) ?_
              refine wp_goto (pc := 75) 79 dX7_ofLines_75 (by decide) ?_
              exact w79 (by omega) (fun e => by omega) _ (by omega) (fun e => by omega) (fun e => by omega)
        · refine wp_iload (pc := 43) dX7_ofLines_43 rfl ?_
          refine wp_ireturn (pc := 45) dX7_ofLines_45 rfl ?_
          refine ⟨_, rfl, ?_, rfl⟩
          rw [if_neg (by omega), if_pos (by omega)]
          unfold fcl
          have e : fnd (fun t => lX D S (LB D S p + t)) (LM D S p) 1 = t := fnd_hit t0 (by omega) (fun k k0 k1 => h7 (by omega) k k0 k1) (by omega)
          rw [e, if_neg (by omega)]
  refine wp_iconst (pc := 0) dX7_ofLines_0 (by decide) ?_
  refine wp_istore_n (pc := 1) dX7_ofLines_1 rfl (Nat.le_of_ble_eq_true rfl) rfl ?_
  refine wp_aload_n (pc := 2) dX7_ofLines_2 rfl rfl ?_
  refine wp_getR (pc := 3) (q := 82) dX7_ofLines_3 fl_X7_41 rfl ?_
  refine wp_iload_n (pc := 6) dX7_ofLines_6 rfl rfl ?_
  refine wp_iald (pc := 7) 9 dX7_ofLines_7 rfl (by omega) ?_
  rw [q.1]
  refine wp_istore (pc := 8) dX7_ofLines_8 (Nat.le_of_ble_eq_true rfl) rfl ?_
  have := lp 0 (by omega) (by decide) (fun _ k k0 k1 => by omega) 0 (by omega) (fun _ => rfl) (fun _ => rfl)
  rw [Int.add_zero] at this
  exact this
set_option maxHeartbeats 4000000 in
set_option maxRecDepth 100000 in
theorem m_par {σ D S : Sto} {p w : Int} (h : RM σ D S) : CtI yX7_par cX7_par 3 (some .int) 8 [mR 71, mI p, mI w] σ (fun z σ' => z = aPar D S p w ∧ MO σ σ') := by
  refine ct_of rfl [some (mR 71), some (mI p), some (mI w)] (Nat.le_of_ble_eq_true rfl) rfl (fun hσ => ?_)
  show Wp cX7_par RX7 (some .int) 8 0 [some (mR 71), some (mI p), some (mI w)] [] _ _
  have n := h.n
  refine wp_aload_n (pc := 0) dX7_par_0 rfl rfl ?_
  refine wp_iload_n (pc := 1) dX7_par_1 rfl rfl ?_
  refine wp_cvI1 (pc := 2) dX7_par_2 mv_X7_263 (m_isPar h) (Nat.le_of_ble_eq_true rfl) rfl (Nat.le_of_ble_eq_true rfl) (fun z_2 σ_2 h_2 => ?_)
  obtain ⟨y_2, e_2⟩ := h_2; have e2_2 := e_2.symm; subst e2_2
  refine wp_if_eq (pc := 5) 20 dX7_par_5 (by decide) (fun c_5 => ?_) (fun c_5 => ?_)
  · refine wp_iconst (pc := 20) dX7_par_20 (by decide) ?_
    refine wp_ireturn (pc := 21) dX7_par_21 rfl ?_
    exact ⟨_, rfl, by unfold aPar; rw [if_pos (by omega)], MO.rf⟩
  · refine wp_iload_n (pc := 8) dX7_par_8 rfl rfl ?_
    refine wp_i2l (pc := 9) dX7_par_9 ?_
    refine wp_lconst (pc := 10) (z := 0) dX7_par_10 (by decide) (by decide) ?_
    refine wp_ldc2 (pc := 11) (z := 9) dX7_par_11 kc_X7_266 (by decide) (by decide) ?_
    refine wp_csI3 (pc := 14) dX7_par_14 ms_X7_73 m_in (Nat.le_of_ble_eq_true rfl) (Nat.le_of_ble_eq_true rfl) (fun z_14 σ_14 h_14 => ?_)
    obtain ⟨y_14, e_14⟩ := h_14; have e2_14 := e_14.symm; subst e2_14
    refine wp_if_ne (pc := 17) 22 dX7_par_17 (by decide) (fun c_17 => ?_) (fun c_17 => ?_)
    · refine wp_aload_n (pc := 22) dX7_par_22 rfl rfl ?_
      refine wp_cvV0 (pc := 23) dX7_par_23 mv_X7_252 (m_lays h) (Nat.le_of_ble_eq_true rfl) rfl (Nat.le_of_ble_eq_true rfl) (fun σ_23 h_23 => ?_)
      obtain ⟨f_23, k_23, l_23⟩ := h_23; have o_23 : MO σ σ_23 := ⟨f_23, k_23⟩; have r_23 := o_23.rm h
      refine wp_iload_n (pc := 26) dX7_par_26 rfl rfl ?_
      refine wp_top (fun sw_27 esw_27 => ?_)
      rcases (show (sw_27 < 0 ∨ 9 < sw_27) ∨ sw_27 = 0 ∨ sw_27 = 1 ∨ sw_27 = 2 ∨ sw_27 = 3 ∨ sw_27 = 4 ∨ sw_27 = 5 ∨ sw_27 = 6 ∨ sw_27 = 7 ∨ sw_27 = 8 ∨ sw_27 = 9 by omega) with c_27 | c_27 | c_27 | c_27 | c_27 | c_27 | c_27 | c_27 | c_27 | c_27 | c_27
      · refine wp_tabOut (pc := 27) 124 dX7_par_27 c_27 (by decide) ?_
        refine wp_aload_n (pc := 124) dX7_par_124 rfl rfl ?_
        refine wp_iload_n (pc := 125) dX7_par_125 rfl rfl ?_
        refine wp_iload_n (pc := 126) dX7_par_126 rfl rfl ?_
        refine wp_cvI2 (pc := 127) dX7_par_127 mv_X7_271 (m_ofLines r_23 l_23 (by omega) (by omega)) (Nat.le_of_ble_eq_true rfl) rfl (Nat.le_of_ble_eq_true rfl) (fun z_127 σ_127 h_127 => ?_)
        obtain ⟨zz_127, e_127⟩ := h_127; have e2_127 := e_127.symm; subst e2_127
        refine wp_ireturn (pc := 130) dX7_par_130 rfl ?_
        refine ⟨_, rfl, ?_, o_23⟩
        rw [zz_127]
        unfold aPar
        rcases (show w = 6 ∨ w = 7 ∨ w = 8 by omega) with e | e | e
        · rw [if_pos e, if_neg (by omega), if_neg (by omega), if_neg (by omega), if_neg (by omega), if_neg (by omega), if_neg (by omega), if_neg (by omega), if_pos e]
        · rw [if_neg (show ¬ w = 6 by omega), if_pos e, if_neg (by omega), if_neg (by omega), if_neg (by omega), if_neg (by omega), if_neg (by omega), if_neg (by omega), if_neg (by omega), if_neg (by omega), if_pos e]
        · rw [if_neg (show ¬ w = 6 by omega), if_neg (show ¬ w = 7 by omega), if_neg (by omega), if_neg (by omega), if_neg (by omega), if_neg (by omega), if_neg (by omega), if_neg (by omega), if_neg (by omega), if_neg (by omega), if_neg (by omega), if_pos e]
      · refine wp_tabIn (pc := 27) (53) 80 dX7_par_27 (by omega) (by omega) (by rw [c_27]; rfl) (by decide) ?_
        refine wp_aload_n (pc := 80) dX7_par_80 rfl rfl ?_
        refine wp_iload_n (pc := 81) dX7_par_81 rfl rfl ?_
        refine wp_cvI1 (pc := 82) dX7_par_82 mv_X7_171 (m_parWords r_23 (by omega)) (Nat.le_of_ble_eq_true rfl) rfl (Nat.le_of_ble_eq_true rfl) (fun z_82 σ_82 h_82 => ?_)
        obtain ⟨zz_82, e_82⟩ := h_82; have e2_82 := e_82.symm; subst e2_82
        refine wp_ireturn (pc := 85) dX7_par_85 rfl ?_
        exact ⟨_, rfl, by unfold aPar; rw [if_neg (by omega), if_pos (by omega)]; exact zz_82, o_23⟩
      · refine wp_tabIn (pc := 27) (59) 86 dX7_par_27 (by omega) (by omega) (by rw [c_27]; rfl) (by decide) ?_
        refine wp_aload_n (pc := 86) dX7_par_86 rfl rfl ?_
        refine wp_iload_n (pc := 87) dX7_par_87 rfl rfl ?_
        refine wp_cvI1 (pc := 88) dX7_par_88 mv_X7_174 (m_parShape r_23 (by omega)) (Nat.le_of_ble_eq_true rfl) rfl (Nat.le_of_ble_eq_true rfl) (fun z_88 σ_88 h_88 => ?_)
        obtain ⟨zz_88, e_88⟩ := h_88; have e2_88 := e_88.symm; subst e2_88
        refine wp_ireturn (pc := 91) dX7_par_91 rfl ?_
        exact ⟨_, rfl, by unfold aPar; rw [if_neg (by omega), if_neg (by omega), if_pos (by omega)]; exact zz_88, o_23⟩
      · refine wp_tabIn (pc := 27) (65) 92 dX7_par_27 (by omega) (by omega) (by rw [c_27]; rfl) (by decide) ?_
        refine wp_aload_n (pc := 92) dX7_par_92 rfl rfl ?_
        refine wp_iload_n (pc := 93) dX7_par_93 rfl rfl ?_
        refine wp_cvI1 (pc := 94) dX7_par_94 mv_X7_177 (m_parDrop r_23 (by omega)) (Nat.le_of_ble_eq_true rfl) rfl (Nat.le_of_ble_eq_true rfl) (fun z_94 σ_94 h_94 => ?_)
        obtain ⟨zz_94, e_94⟩ := h_94; have e2_94 := e_94.symm; subst e2_94
        refine wp_ireturn (pc := 97) dX7_par_97 rfl ?_
        exact ⟨_, rfl, by unfold aPar; rw [if_neg (by omega), if_neg (by omega), if_neg (by omega), if_pos (by omega)]; exact zz_94, o_23⟩
      · refine wp_tabIn (pc := 27) (71) 98 dX7_par_27 (by omega) (by omega) (by rw [c_27]; rfl) (by decide) ?_
        refine wp_aload_n (pc := 98) dX7_par_98 rfl rfl ?_
        refine wp_iload_n (pc := 99) dX7_par_99 rfl rfl ?_
        refine wp_cvI1 (pc := 100) dX7_par_100 mv_X7_183 (m_heightOf r_23 (by omega)) (Nat.le_of_ble_eq_true rfl) rfl (Nat.le_of_ble_eq_true rfl) (fun z_100 σ_100 h_100 => ?_)
        obtain ⟨zz_100, e_100⟩ := h_100; have e2_100 := e_100.symm; subst e2_100
        refine wp_ireturn (pc := 103) dX7_par_103 rfl ?_
        exact ⟨_, rfl, by unfold aPar; rw [if_neg (by omega), if_neg (by omega), if_neg (by omega), if_neg (by omega), if_pos (by omega)]; exact zz_100, o_23⟩
      · refine wp_tabIn (pc := 27) (77) 104 dX7_par_27 (by omega) (by omega) (by rw [c_27]; rfl) (by decide) ?_
        refine wp_aload_n (pc := 104) dX7_par_104 rfl rfl ?_
        refine wp_getR (pc := 105) (q := 82) dX7_par_105 fl_X7_41 rfl ?_
        refine wp_iload_n (pc := 108) dX7_par_108 rfl rfl ?_
        refine wp_iald (pc := 109) 9 dX7_par_109 rfl (by omega) ?_
        refine wp_ireturn (pc := 110) dX7_par_110 rfl ?_
        exact ⟨_, rfl, by unfold aPar; rw [if_neg (by omega), if_neg (by omega), if_neg (by omega), if_neg (by omega), if_neg (by omega), if_pos (by omega)]; exact (l_23.2.1 p (by omega) (by omega)).1, o_23⟩
      · refine wp_tabIn (pc := 27) (84) 111 dX7_par_27 (by omega) (by omega) (by rw [c_27]; rfl) (by decide) ?_
        refine wp_aload_n (pc := 111) dX7_par_111 rfl rfl ?_
        refine wp_getR (pc := 112) (q := 83) dX7_par_112 fl_X7_44 rfl ?_
        refine wp_iload_n (pc := 115) dX7_par_115 rfl rfl ?_
        refine wp_iald (pc := 116) 8 dX7_par_116 rfl (by omega) ?_
        refine wp_ireturn (pc := 117) dX7_par_117 rfl ?_
        exact ⟨_, rfl, by unfold aPar; rw [if_neg (by omega), if_neg (by omega), if_neg (by omega), if_neg (by omega), if_neg (by omega), if_neg (by omega), if_pos (by omega)]; exact (l_23.2.1 p (by omega) (by omega)).2.1, o_23⟩
      · refine wp_tabIn (pc := 27) (97) 124 dX7_par_27 (by omega) (by omega) (by rw [c_27]; rfl) (by decide) ?_
        refine wp_aload_n (pc := 124) dX7_par_124 rfl rfl ?_
        refine wp_iload_n (pc := 125) dX7_par_125 rfl rfl ?_
        refine wp_iload_n (pc := 126) dX7_par_126 rfl rfl ?_
        refine wp_cvI2 (pc := 127) dX7_par_127 mv_X7_271 (m_ofLines r_23 l_23 (by omega) (by omega)) (Nat.le_of_ble_eq_true rfl) rfl (Nat.le_of_ble_eq_true rfl) (fun z_127 σ_127 h_127 => ?_)
        obtain ⟨zz_127, e_127⟩ := h_127; have e2_127 := e_127.symm; subst e2_127
        refine wp_ireturn (pc := 130) dX7_par_130 rfl ?_
        refine ⟨_, rfl, ?_, o_23⟩
        rw [zz_127]
        unfold aPar
        rcases (show w = 6 ∨ w = 7 ∨ w = 8 by omega) with e | e | e
        · rw [if_pos e, if_neg (by omega), if_neg (by omega), if_neg (by omega), if_neg (by omega), if_neg (by omega), if_neg (by omega), if_neg (by omega), if_pos e]
        · rw [if_neg (show ¬ w = 6 by omega), if_pos e, if_neg (by omega), if_neg (by omega), if_neg (by omega), if_neg (by omega), if_neg (by omega), if_neg (by omega), if_neg (by omega), if_neg (by omega), if_pos e]
        · rw [if_neg (show ¬ w = 6 by omega), if_neg (show ¬ w = 7 by omega), if_neg (by omega), if_neg (by omega), if_neg (by omega), if_neg (by omega), if_neg (by omega), if_neg (by omega), if_neg (by omega), if_neg (by omega), if_neg (by omega), if_pos e]
      · refine wp_tabIn (pc := 27) (97) 124 dX7_par_27 (by omega) (by omega) (by rw [c_27]; rfl) (by decide) ?_
        refine wp_aload_n (pc := 124) dX7_par_124 rfl rfl ?_
        refine wp_iload_n (pc := 125) dX7_par_125 rfl rfl ?_
        refine wp_iload_n (pc := 126) dX7_par_126 rfl rfl ?_
        refine wp_cvI2 (pc := 127) dX7_par_127 mv_X7_271 (m_ofLines r_23 l_23 (by omega) (by omega)) (Nat.le_of_ble_eq_true rfl) rfl (Nat.le_of_ble_eq_true rfl) (fun z_127 σ_127 h_127 => ?_)
        obtain ⟨zz_127, e_127⟩ := h_127; have e2_127 := e_127.symm; subst e2_127
        refine wp_ireturn (pc := 130) dX7_par_130 rfl ?_
        refine ⟨_, rfl, ?_, o_23⟩
        rw [zz_127]
        unfold aPar
        rcases (show w = 6 ∨ w = 7 ∨ w = 8 by omega) with e | e | e
        · rw [if_pos e, if_neg (by omega), if_neg (by omega), if_neg (by omega), if_neg (by omega), if_neg (by omega), if_neg (by omega), if_neg (by omega), if_pos e]
        · rw [if_neg (show ¬ w = 6 by omega), if_pos e, if_neg (by omega), if_neg (by omega), if_neg (by omega), if_neg (by omega), if_neg (by omega), if_neg (by omega), if_neg (by omega), if_neg (by omega), if_pos e]
        · rw [if_neg (show ¬ w = 6 by omega), if_neg (show ¬ w = 7 by omega), if_neg (by omega), if_neg (by omega), if_neg (by omega), if_neg (by omega), if_neg (by omega), if_neg (by omega), if_neg (by omega), if_neg (by omega), if_neg (by omega), if_pos e]
      · refine wp_tabIn (pc := 27) (97) 124 dX7_par_27 (by omega) (by omega) (by rw [c_27]; rfl) (by decide) ?_
        refine wp_aload_n (pc := 124) dX7_par_124 rfl rfl ?_
        refine wp_iload_n (pc := 125) dX7_par_125 rfl rfl ?_
        refine wp_iload_n (pc := 126) dX7_par_126 rfl rfl ?_
        refine wp_cvI2 (pc := 127) dX7_par_127 mv_X7_271 (m_ofLines r_23 l_23 (by omega) (by omega)) (Nat.le_of_ble_eq_true rfl) rfl (Nat.le_of_ble_eq_true rfl) (fun z_127 σ_127 h_127 => ?_)
        obtain ⟨zz_127, e_127⟩ := h_127; have e2_127 := e_127.symm; subst e2_127
        refine wp_ireturn (pc := 130) dX7_par_130 rfl ?_
        refine ⟨_, rfl, ?_, o_23⟩
        rw [zz_127]
        unfold aPar
        rcases (show w = 6 ∨ w = 7 ∨ w = 8 by omega) with e | e | e
        · rw [if_pos e, if_neg (by omega), if_neg (by omega), if_neg (by omega), if_neg (by omega), if_neg (by omega), if_neg (by omega), if_neg (by omega), if_pos e]
        · rw [if_neg (show ¬ w = 6 by omega), if_pos e, if_neg (by omega), if_neg (by omega), if_neg (by omega), if_neg (by omega), if_neg (by omega), if_neg (by omega), if_neg (by omega), if_neg (by omega), if_pos e]
        · rw [if_neg (show ¬ w = 6 by omega), if_neg (show ¬ w = 7 by omega), if_neg (by omega), if_neg (by omega), if_neg (by omega), if_neg (by omega), if_neg (by omega), if_neg (by omega), if_neg (by omega), if_neg (by omega), if_neg (by omega), if_pos e]
      · refine wp_tabIn (pc := 27) (91) 118 dX7_par_27 (by omega) (by omega) (by rw [c_27]; rfl) (by decide) ?_
        refine wp_aload_n (pc := 118) dX7_par_118 rfl rfl ?_
        refine wp_iload_n (pc := 119) dX7_par_119 rfl rfl ?_
        refine wp_cvI1 (pc := 120) dX7_par_120 mv_X7_268 (m_slacksOf r_23 l_23 (by omega)) (Nat.le_of_ble_eq_true rfl) rfl (Nat.le_of_ble_eq_true rfl) (fun z_120 σ_120 h_120 => ?_)
        obtain ⟨zz_120, e_120⟩ := h_120; have e2_120 := e_120.symm; subst e2_120
        refine wp_ireturn (pc := 123) dX7_par_123 rfl ?_
        exact ⟨_, rfl, by unfold aPar; rw [if_neg (by omega), if_neg (by omega), if_neg (by omega), if_neg (by omega), if_neg (by omega), if_neg (by omega), if_neg (by omega), if_neg (by omega), if_neg (by omega), if_neg (by omega)]; exact zz_120, o_23⟩
    · refine wp_iconst (pc := 20) dX7_par_20 (by decide) ?_
      refine wp_ireturn (pc := 21) dX7_par_21 rfl ?_
      exact ⟨_, rfl, by unfold aPar; rw [if_pos (by omega)], MO.rf⟩
