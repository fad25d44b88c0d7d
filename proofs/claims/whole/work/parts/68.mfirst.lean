-- the sum of a paragraph's first words
set_option maxHeartbeats 4000000 in
set_option maxRecDepth 100000 in
theorem LC_sumG {D S : Sto} (h : OKD D S) {p : Int} (h0 : 0 ≤ p) (hp : p < D 0 0) (hm : ¬ D 5 4 = 1) {t : Int} (t0 : 0 ≤ t) : LC D S p t = LG D S p (t + 1) - LG D S p t ∧ sumI (LC D S p) t = LG D S p t := by
  have hG := (LG_ok D S (h.2.1 p h0 hp)).1
  have e1 : ∀ t, LC D S p t = LG D S p (t + 1) - LG D S p t := fun t => by unfold LC; rw [if_neg hm]; rfl
  have eP : ∀ t : Nat, sumI (LC D S p) t = LG D S p t := by
    intro t
    induction t with
    | zero => show (0 : Int) = LG D S p 0; exact hG.2.1.symm
    | succ t ih =>
      rw [show ((t + 1 : Nat) : Int) = (t : Int) + 1 by omega, sumI_s (by omega), ih, e1]
      omega
  have := eP t.toNat
  rw [show ((t.toNat : Nat) : Int) = t by omega] at this
  exact ⟨e1 t, this⟩
set_option maxHeartbeats 4000000 in
set_option maxRecDepth 100000 in
theorem LC_sumE {D S : Sto} {p : Int} (hm : D 5 4 = 1) {t : Int} (t0 : 0 ≤ t) : LC D S p t = evK (wdS D p) (rmS D S p) (D 1 p) (LM D S p) t ∧ sumI (LC D S p) t = evP (wdS D p) (rmS D S p) (D 1 p) (LM D S p) t.toNat := by
  have eP : ∀ t : Nat, sumI (LC D S p) t = evP (wdS D p) (rmS D S p) (D 1 p) (LM D S p) t := by
    intro t
    induction t with
    | zero => rfl
    | succ t ih =>
      rw [show ((t + 1 : Nat) : Int) = (t : Int) + 1 by omega, sumI_s (by omega), ih]
      unfold LC
      rw [if_pos hm]
      rfl
  have := eP t.toNat
  rw [show ((t.toNat : Nat) : Int) = t by omega] at this
  exact ⟨by unfold LC; rw [if_pos hm], this⟩
set_option maxHeartbeats 4000000 in
set_option maxRecDepth 100000 in
theorem m_laysFirst {σ D S : Sto} {p : Int} (h : RM σ D S) (hp : 0 ≤ p ∧ p < D 0 0) (hB : ∀ q, 0 ≤ q → q ≤ p → σ 82 q = LB D S q) : CtI yX7_laysFirst cX7_laysFirst 7 (some .int) 6 [mR 71, mI p] σ (fun z σ' => z = LM D S p ∧ Frm [85, 86] σ σ' ∧ (∀ t, 0 ≤ t → t < LM D S p → σ' 85 (LB D S p + t) = fstS D p + LG D S p t ∧ σ' 86 (LB D S p + t) = LG D S p (t + 1) - LG D S p t) ∧ ∀ x, (x < LB D S p ∨ LB D S p + LM D S p ≤ x) → σ' 85 x = σ 85 x ∧ σ' 86 x = σ 86 x) := by
  refine ct_of rfl [some (mR 71), some (mI p), none, none, none, none, none] (Nat.le_of_ble_eq_true rfl) rfl (fun hσ => ?_)
  show Wp cX7_laysFirst RX7 (some .int) 6 0 [some (mR 71), some (mI p), none, none, none, none, none] [] _ _
  have n := h.n
  have q := h.p hp.1 hp.2
  have lb := LBb h.2.2.2.1 hp.1 hp.2
  have le := LE_eq D S hp.1
  have hBp := hB p hp.1 (Int.le_refl _)
  obtain ⟨hG, m1, m2⟩ := LG_ok D S (show 1 ≤ D 1 p by omega)
  have lp : ∀ t, t ≤ (LM D S p) → 0 ≤ t → ∀ τ : Sto, Frm [85, 86] σ τ → (∀ u, 0 ≤ u → u < t → τ 85 (LB D S p + u) = fstS D p + LG D S p u ∧ τ 86 (LB D S p + u) = LG D S p (u + 1) - LG D S p u) → (∀ x, (x < LB D S p ∨ LB D S p + t ≤ x) → τ 85 x = σ 85 x ∧ τ 86 x = σ 86 x) → Wp cX7_laysFirst RX7 (some .int) 6 22 [some (mR 71), some (mI p), some (mI (fstS D p + LG D S p t)), some (mI (fstS D p + D 1 p)), some (mI (LB D S p + t)), none, none] [] τ (fun v σ' => ∃ z, v = some (mI z) ∧ (fun z σ' => z = LM D S p ∧ Frm [85, 86] σ σ' ∧ (∀ t, 0 ≤ t → t < LM D S p → σ' 85 (LB D S p + t) = fstS D p + LG D S p t ∧ σ' 86 (LB D S p + t) = LG D S p (t + 1) - LG D S p t) ∧ ∀ x, (x < LB D S p ∨ LB D S p + LM D S p ≤ x) → σ' 85 x = σ 85 x ∧ σ' 86 x = σ 86 x) z σ') := by
    refine up_ind (LM D S p) (fun t ht ih t0 τ hF hd ho => ?_)
    have hR : RM τ D S := h.kp (hF 72 (by decide)) (hF 74 (by decide)) (by rw [hF 71 (by decide)])
    have hBt : ∀ q, 0 ≤ q → q ≤ p → τ 82 q = LB D S q := fun q q0 q1 => by rw [hF 82 (by decide)]; exact hB q q0 q1
    have hlo := hG.lo t ht t0
    have hhi := hG.hi t ht t0
    have hend : t = (LM D S p) → LG D S p t = D 1 p := fun e => by rw [e]; exact hG.2.2.1
    have hst := fun c => hG.2.2.2 t t0 (show t < (LM D S p) from c)
    have erm : roomS D S (LB D S) p (LB D S p + t) = rmS D S p t := rfl
    have w67 : t < (LM D S p) → ∀ c, c = LG D S p (t + 1) - LG D S p t → Wp cX7_laysFirst RX7 (some .int) 6 67 [some (mR 71), some (mI p), some (mI (fstS D p + LG D S p t)), some (mI (fstS D p + D 1 p)), some (mI (LB D S p + t)), some (mI (rmS D S p t)), some (mI c)] [] τ (fun v σ' => ∃ z, v = some (mI z) ∧ (fun z σ' => z = LM D S p ∧ Frm [85, 86] σ σ' ∧ (∀ t, 0 ≤ t → t < LM D S p → σ' 85 (LB D S p + t) = fstS D p + LG D S p t ∧ σ' 86 (LB D S p + t) = LG D S p (t + 1) - LG D S p t) ∧ ∀ x, (x < LB D S p ∨ LB D S p + LM D S p ≤ x) → σ' 85 x = σ 85 x ∧ σ' 86 x = σ 86 x) z σ') := by
      intro htM c hc
      obtain ⟨s1, s2, s3, s4⟩ := hst htM
      refine wp_aload_n (pc := 67) dX7_laysFirst_67 rfl rfl ?_
      refine wp_getR (pc := 68) (q := 85) dX7_laysFirst_68 fl_X7_50 rfl ?_
      refine wp_iload (pc := 71) dX7_laysFirst_71 rfl ?_
      refine wp_iload_n (pc := 73) dX7_laysFirst_73 rfl rfl ?_
      refine wp_iast (pc := 74) 300 dX7_laysFirst_74 rfl (by omega) ?_
      refine wp_aload_n (pc := 75) dX7_laysFirst_75 rfl rfl ?_
      refine wp_getR (pc := 76) (q := 86) dX7_laysFirst_76 fl_X7_53 rfl ?_
      refine wp_iload (pc := 79) dX7_laysFirst_79 rfl ?_
      refine wp_iload (pc := 81) dX7_laysFirst_81 rfl ?_
      refine wp_iast (pc := 83) 300 dX7_laysFirst_83 rfl (by omega) ?_
      refine wp_iload_n (pc := 84) dX7_laysFirst_84 rfl rfl ?_
      refine wp_iload (pc := 85) dX7_laysFirst_85 rfl ?_
      refine wp_iadd (pc := 87) dX7_laysFirst_87 (by omega) ?_
      refine wp_istore_n (pc := 88) dX7_laysFirst_88 rfl (Nat.le_of_ble_eq_true rfl) rfl ?_
      refine wp_iinc (pc := 89) dX7_laysFirst_89 rfl rfl (by omega) ?_
      refine wp_goto (pc := 92) 22 dX7_laysFirst_92 (by decide) ?_
      refine wp_fgt [5, 6] ?_
      have := ih htM (by omega) (upd2 (upd2 τ 85 (LB D S p + t) (fstS D p + LG D S p t)) 86 (LB D S p + t) c) ((hF.up (by decide)).up (by decide)) (fun u u0 u1 => ?_) (fun x hx => ?_)
      · rw [show fstS D p + LG D S p (t + 1) = fstS D p + LG D S p t + c by omega, show LB D S p + (t + 1) = LB D S p + t + 1 by omega] at this
        exact this
      · by_cases e : u = t
        · subst e
          rw [upd2_r (by decide), upd2_eq, upd2_eq]
          exact ⟨rfl, hc⟩
        · rw [upd2_r (by decide), upd2_k (by omega), upd2_k (by omega), upd2_r (by decide)]
          exact hd u u0 (by omega)
      · rw [upd2_r (by decide), upd2_k (by omega), upd2_k (by omega), upd2_r (by decide)]
        exact ho x (by omega)
    have inn : t < (LM D S p) → ∀ c, c ≤ LG D S p (t + 1) - LG D S p t → 1 ≤ c → Wp cX7_laysFirst RX7 (some .int) 6 39 [some (mR 71), some (mI p), some (mI (fstS D p + LG D S p t)), some (mI (fstS D p + D 1 p)), some (mI (LB D S p + t)), some (mI (rmS D S p t)), some (mI c)] [] τ (fun v σ' => ∃ z, v = some (mI z) ∧ (fun z σ' => z = LM D S p ∧ Frm [85, 86] σ σ' ∧ (∀ t, 0 ≤ t → t < LM D S p → σ' 85 (LB D S p + t) = fstS D p + LG D S p t ∧ σ' 86 (LB D S p + t) = LG D S p (t + 1) - LG D S p t) ∧ ∀ x, (x < LB D S p ∨ LB D S p + LM D S p ≤ x) → σ' 85 x = σ 85 x ∧ σ' 86 x = σ 86 x) z σ') := by
      intro htM
      obtain ⟨s1, s2, s3, s4⟩ := hst htM
      refine up_ind _ (fun c hc ihc c1 => ?_)
      have hmo : c < LG D S p (t + 1) - LG D S p t → us (wdA D) (fstS D p + LG D S p t) (c + 1) ≤ rmS D S p t := fun hlt => by
        have := us_mono (wd := wdS D p) (s := LG D S p t) (a := c + 1) (b := LG D S p (t + 1) - LG D S p t) (by omega) (by omega) (fun k _ _ => (wdS_bd D p _).1)
        rw [← us_sh]
        omega
      have hex : c = LG D S p (t + 1) - LG D S p t → LG D S p (t + 1) < D 1 p → ¬ us (wdA D) (fstS D p + LG D S p t) (c + 1) ≤ rmS D S p t := fun he hlt => by
        rw [← us_sh, he]; exact s4 hlt
      refine wp_iload_n (pc := 39) dX7_laysFirst_39 rfl rfl ?_
      refine wp_iload (pc := 40) dX7_laysFirst_40 rfl ?_
      refine wp_iadd (pc := 42) dX7_laysFirst_42 (by omega) ?_
      refine wp_iload_n (pc := 43) dX7_laysFirst_43 rfl rfl ?_
      refine wp_icmp_ge (pc := 44) 67 dX7_laysFirst_44 (by decide) (fun c_44 => ?_) (fun c_44 => ?_)
      · have ec : c = LG D S p (t + 1) - LG D S p t := by omega
        exact w67 htM c ec
      · refine wp_aload_n (pc := 47) dX7_laysFirst_47 rfl rfl ?_
        refine wp_iload_n (pc := 48) dX7_laysFirst_48 rfl rfl ?_
        refine wp_iload (pc := 49) dX7_laysFirst_49 rfl ?_
        refine wp_iconst (pc := 51) dX7_laysFirst_51 (by decide) ?_
        refine wp_iadd (pc := 52) dX7_laysFirst_52 (by omega) ?_
        refine wp_cvI2 (pc := 53) dX7_laysFirst_53 mv_X7_207 (m_usedBy hR (by omega)) (Nat.le_of_ble_eq_true rfl) rfl (Nat.le_of_ble_eq_true rfl) (fun z_53 σ_53 h_53 => ?_)
        obtain ⟨rfl, e_53⟩ := h_53; have e2_53 := e_53.symm; subst e2_53
        refine wp_iload (pc := 56) dX7_laysFirst_56 rfl ?_
        refine wp_icmp_gt (pc := 58) 67 dX7_laysFirst_58 (by decide) (fun c_58 => ?_) (fun c_58 => ?_)
        · have ec : c = LG D S p (t + 1) - LG D S p t := by omega
          exact w67 htM c ec
        · refine wp_iinc (pc := 61) dX7_laysFirst_61 rfl rfl (by omega) ?_
          refine wp_goto (pc := 64) 39 dX7_laysFirst_64 (by decide) ?_
          exact ihc (by omega) (by omega)
    refine wp_iload_n (pc := 22) dX7_laysFirst_22 rfl rfl ?_
    refine wp_iload_n (pc := 23) dX7_laysFirst_23 rfl rfl ?_
    refine wp_icmp_ge (pc := 24) 95 dX7_laysFirst_24 (by decide) (fun c_24 => ?_) (fun c_24 => ?_)
    · have et : t = (LM D S p) := by omega
      refine wp_iload (pc := 95) dX7_laysFirst_95 rfl ?_
      refine wp_aload_n (pc := 97) dX7_laysFirst_97 rfl rfl ?_
      refine wp_getR (pc := 98) (q := 82) dX7_laysFirst_98 fl_X7_41 rfl ?_
      refine wp_iload_n (pc := 101) dX7_laysFirst_101 rfl rfl ?_
      refine wp_iald (pc := 102) 9 dX7_laysFirst_102 rfl (by omega) ?_
      rw [hF 82 (by decide), hBp]
      refine wp_isub (pc := 103) dX7_laysFirst_103 (by omega) ?_
      refine wp_ireturn (pc := 104) dX7_laysFirst_104 rfl ?_
      rw [show LB D S p + t - LB D S p = (LM D S p) by omega]
      refine ⟨_, rfl, rfl, hF, fun u u0 u1 => hd u u0 (by omega), fun x hx => ho x (by omega)⟩
    · have htM : t < (LM D S p) := by omega
      obtain ⟨s1, s2, s3, s4⟩ := hst htM
      refine wp_aload_n (pc := 27) dX7_laysFirst_27 rfl rfl ?_
      refine wp_iload_n (pc := 28) dX7_laysFirst_28 rfl rfl ?_
      refine wp_iload (pc := 29) dX7_laysFirst_29 rfl ?_
      refine wp_cvI2 (pc := 31) dX7_laysFirst_31 mv_X7_204 (m_roomAt hR hp hBt (by omega)) (Nat.le_of_ble_eq_true rfl) rfl (Nat.le_of_ble_eq_true rfl) (fun z_31 σ_31 h_31 => ?_)
      obtain ⟨rfl, e_31⟩ := h_31; have e2_31 := e_31.symm; subst e2_31
      rw [erm]
      refine wp_istore (pc := 34) dX7_laysFirst_34 (Nat.le_of_ble_eq_true rfl) rfl ?_
      refine wp_iconst (pc := 36) dX7_laysFirst_36 (by decide) ?_
      refine wp_istore (pc := 37) dX7_laysFirst_37 (Nat.le_of_ble_eq_true rfl) rfl ?_
      exact inn htM 1 (by omega) (by decide)
  have e0 : LG D S p 0 = 0 := hG.2.1
  refine wp_aload_n (pc := 0) dX7_laysFirst_0 rfl rfl ?_
  refine wp_iload_n (pc := 1) dX7_laysFirst_1 rfl rfl ?_
  refine wp_cvI1 (pc := 2) dX7_laysFirst_2 mv_X7_201 (m_firstWord h (by omega)) (Nat.le_of_ble_eq_true rfl) rfl (Nat.le_of_ble_eq_true rfl) (fun z_2 σ_2 h_2 => ?_)
  obtain ⟨rfl, e_2⟩ := h_2; have e2_2 := e_2.symm; subst e2_2
  refine wp_istore_n (pc := 5) dX7_laysFirst_5 rfl (Nat.le_of_ble_eq_true rfl) rfl ?_
  refine wp_iload_n (pc := 6) dX7_laysFirst_6 rfl rfl ?_
  refine wp_aload_n (pc := 7) dX7_laysFirst_7 rfl rfl ?_
  refine wp_iload_n (pc := 8) dX7_laysFirst_8 rfl rfl ?_
  refine wp_cvI1 (pc := 9) dX7_laysFirst_9 mv_X7_171 (m_parWords h (by omega)) (Nat.le_of_ble_eq_true rfl) rfl (Nat.le_of_ble_eq_true rfl) (fun z_9 σ_9 h_9 => ?_)
  obtain ⟨rfl, e_9⟩ := h_9; have e2_9 := e_9.symm; subst e2_9
  refine wp_iadd (pc := 12) dX7_laysFirst_12 (by omega) ?_
  refine wp_istore_n (pc := 13) dX7_laysFirst_13 rfl (Nat.le_of_ble_eq_true rfl) rfl ?_
  refine wp_aload_n (pc := 14) dX7_laysFirst_14 rfl rfl ?_
  refine wp_getR (pc := 15) (q := 82) dX7_laysFirst_15 fl_X7_41 rfl ?_
  refine wp_iload_n (pc := 18) dX7_laysFirst_18 rfl rfl ?_
  refine wp_iald (pc := 19) 9 dX7_laysFirst_19 rfl (by omega) ?_
  rw [hBp]
  refine wp_istore (pc := 20) dX7_laysFirst_20 (Nat.le_of_ble_eq_true rfl) rfl ?_
  have := lp 0 (by omega) (by decide) σ Frm.rf (fun u u0 u1 => by omega) (fun x _ => ⟨rfl, rfl⟩)
  rw [e0, Int.add_zero, Int.add_zero] at this
  exact this
