set_option maxHeartbeats 4000000 in
set_option maxRecDepth 100000 in
theorem wid_bd (c : Int) : 0 ≤ wid c ∧ wid c ≤ 18 := by
  have := sumI_bd (f := fun k => lwd (ltr c k)) (n := 6) (c := 3) (by decide) (fun k a b => lwd_bd _)
  unfold wid
  omega
set_option maxHeartbeats 4000000 in
set_option maxRecDepth 100000 in
theorem c_measureWords {σ : Sto} (hn : 0 ≤ σ 14 1 ∧ σ 14 1 ≤ 80) (hw : ∀ w, 0 ≤ w → w < σ 14 1 → 0 ≤ σ 15 w) : CtV yX0_measureWords cX0_measureWords 3 none 2 [mR 43, mR 14] σ (fun σ' => Frm [44] σ σ' ∧ ∀ w, 0 ≤ w → w < σ 14 1 → σ' 44 w = wid (σ 15 w)) := by
  refine ct_of rfl [some (mR 43), some (mR 14), none] (Nat.le_of_ble_eq_true rfl) rfl (fun hσ => ?_)
  show Wp cX0_measureWords RX0 none 2 0 [some (mR 43), some (mR 14), none] [] _ _
  have lp : ∀ q, q ≤ σ 14 1 → 0 ≤ q → ∀ τ : Sto, Frm [44] σ τ → (∀ w, 0 ≤ w → w < q → τ 44 w = wid (σ 15 w)) → Wp cX0_measureWords RX0 none 2 2 [some (mR 43), some (mR 14), some (mI q)] [] τ (fun v σ' => v = none ∧ (fun σ' => Frm [44] σ σ' ∧ ∀ w, 0 ≤ w → w < σ 14 1 → σ' 44 w = wid (σ 15 w)) σ') := by
    refine up_ind (σ 14 1) (fun q hq ih h0 τ hF hx => ?_)
    have e14 : τ 14 = σ 14 := hF 14 (by decide)
    have e15 : τ 15 = σ 15 := hF 15 (by decide)
    refine wp_iload_n (pc := 2) dX0_measureWords_2 rfl rfl ?_
    refine wp_aload_n (pc := 3) dX0_measureWords_3 rfl rfl ?_
    refine wp_getI (pc := 4) 1 dX0_measureWords_4 fl_X0_27 rfl rfl ?_
    rw [e14]
    refine wp_icmp_ge (pc := 7) 31 dX0_measureWords_7 (by decide) (fun c_7 => ?_) (fun c_7 => ?_)
    · refine wp_return (pc := 31) dX0_measureWords_31 rfl ?_
      exact ⟨rfl, hF, fun w w0 w1 => hx w w0 (by omega)⟩
    · refine wp_aload_n (pc := 10) dX0_measureWords_10 rfl rfl ?_
      refine wp_getR (pc := 11) (q := 44) dX0_measureWords_11 fl_X0_9 rfl ?_
      refine wp_iload_n (pc := 14) dX0_measureWords_14 rfl rfl ?_
      refine wp_aload_n (pc := 15) dX0_measureWords_15 rfl rfl ?_
      refine wp_getR (pc := 16) (q := 15) dX0_measureWords_16 fl_X0_33 rfl ?_
      refine wp_iload_n (pc := 19) dX0_measureWords_19 rfl rfl ?_
      refine wp_iald (pc := 20) 80 dX0_measureWords_20 rfl (by omega) ?_
      rw [e15]
      have h1 := hw q h0 (by omega)
      refine wp_csI1 (pc := 21) dX0_measureWords_21 ms_X0_36 (c_widthOf (by omega)) (Nat.le_of_ble_eq_true rfl) (Nat.le_of_ble_eq_true rfl) (fun z_21 σ_21 h_21 => ?_)
      obtain ⟨rfl, e_21⟩ := h_21; have e2_21 := e_21.symm; subst e2_21
      refine wp_iast (pc := 24) 80 dX0_measureWords_24 rfl (by omega) ?_
      refine wp_iinc (pc := 25) dX0_measureWords_25 rfl rfl (by omega) ?_
      refine wp_goto (pc := 28) 2 dX0_measureWords_28 (by decide) ?_
      refine ih (by omega) (by omega) _ (hF.up (by decide)) (fun w w0 w1 => ?_)
      by_cases e : w = q
      · subst e; exact upd2_eq
      · rw [upd2_k e]; exact hx w w0 (by omega)
  refine wp_iconst (pc := 0) dX0_measureWords_0 (by decide) ?_
  refine wp_istore_n (pc := 1) dX0_measureWords_1 rfl (Nat.le_of_ble_eq_true rfl) rfl ?_
  exact lp 0 (by omega) (by omega) σ Frm.rf (fun w w0 w1 => absurd w1 (by omega))
-- breakFirst
def BF (wd rm : Int → Int) (i u m : Int) (C : Int → Int) : Prop := (i = 0 ∧ m = 0 ∧ u = 0) ∨ (1 ≤ m ∧ m ≤ i ∧ sumI C m = i ∧ u = us wd (sumI C (m - 1)) (C (m - 1)) ∧ 1 ≤ C (m - 1) ∧ (C (m - 1) = 1 ∨ u ≤ rm (m - 1)) ∧ ∀ t, 0 ≤ t → t < m - 1 → 1 ≤ C t ∧ (C t = 1 ∨ us wd (sumI C t) (C t) ≤ rm t) ∧ ¬ us wd (sumI C t) (C t + 1) ≤ rm t)
set_option maxHeartbeats 4000000 in
set_option maxRecDepth 100000 in
theorem sumI_p {f : Int → Int} {n : Int} (h : 1 ≤ n) : sumI f n = sumI f (n - 1) + f (n - 1) := by
  have := sumI_s (f := f) (n := n - 1) (by omega)
  rw [show n - 1 + 1 = n by omega] at this
  exact this
set_option maxHeartbeats 4000000 in
set_option maxRecDepth 100000 in
theorem BF_ext {wd rm : Int → Int} {i u m : Int} {C C' : Int → Int} (h : BF wd rm i u m C) (hm : 0 < m) (hu : u + 1 + wd i ≤ rm (m - 1)) (h1 : C' (m - 1) = C (m - 1) + 1) (h2 : ∀ k, k ≠ m - 1 → C' k = C k) : BF wd rm (i + 1) (u + (1 + wd i)) m C' := by
  rcases h with h | ⟨a1, a2, a3, a4, a5, a6, a7⟩
  · omega
  · have e : ∀ t, t ≤ m - 1 → sumI C' t = sumI C t := fun t ht => sumI_cong (fun k k0 k1 => h2 k (by omega))
    have e1 := sumI_p (f := C) (n := m) a1
    have e2 := sumI_p (f := C') (n := m) a1
    rw [e (m - 1) (by omega), h1] at e2
    have e3 := us_s (wd := wd) (s := sumI C (m - 1)) (c := C (m - 1)) (by omega)
    rw [show sumI C (m - 1) + C (m - 1) = i by omega] at e3
    refine Or.inr ⟨a1, by omega, by omega, ?_, by omega, ?_, fun t t0 t1 => ?_⟩
    · rw [e (m - 1) (by omega), h1, e3]; omega
    · right; omega
    · rw [e t (by omega), h2 t (by omega)]
      exact a7 t t0 t1
set_option maxHeartbeats 4000000 in
set_option maxRecDepth 100000 in
theorem BF_new {wd rm : Int → Int} {i u m : Int} {C C' : Int → Int} (h : BF wd rm i u m C) (hi : 0 ≤ i) (hu : m ≤ 0 ∨ ¬ u + 1 + wd i ≤ rm (m - 1)) (h1 : C' m = 1) (h2 : ∀ k, k ≠ m → C' k = C k) : BF wd rm (i + 1) (wd i) (m + 1) C' := by
  have e : ∀ t, t ≤ m → sumI C' t = sumI C t := fun t ht => sumI_cong (fun k k0 k1 => h2 k (by omega))
  rcases h with ⟨a1, a2, a3⟩ | ⟨a1, a2, a3, a4, a5, a6, a7⟩
  · subst a1; subst a2
    have e1 := sumI_p (f := C') (n := 0 + 1) (by omega)
    simp only [show (0 : Int) + 1 - 1 = 0 by omega, h1, sumI_0] at e1
    refine Or.inr ⟨by omega, by omega, by omega, ?_, ?_, ?_, fun t t0 t1 => absurd t1 (by omega)⟩
    · simp only [show (0 : Int) + 1 - 1 = 0 by omega, h1, sumI_0, us_1]
    · simp only [show (0 : Int) + 1 - 1 = 0 by omega, h1]; omega
    · left; simp only [show (0 : Int) + 1 - 1 = 0 by omega, h1]
  · have e1 := sumI_p (f := C') (n := m + 1) (by omega)
    rw [show m + 1 - 1 = m by omega, e m (by omega), h1] at e1
    have ep := sumI_p (f := C) (n := m) a1
    refine Or.inr ⟨by omega, by omega, by omega, ?_, ?_, ?_, fun t t0 t1 => ?_⟩
    · rw [show m + 1 - 1 = m by omega, e m (by omega), h1, us_1, a3]
    · rw [show m + 1 - 1 = m by omega, h1]; omega
    · left; rw [show m + 1 - 1 = m by omega, h1]
    · rw [e t (by omega), h2 t (by omega)]
      by_cases ht : t = m - 1
      · subst ht
        have e3 := us_s (wd := wd) (s := sumI C (m - 1)) (c := C (m - 1)) (by omega)
        rw [show sumI C (m - 1) + C (m - 1) = i by omega] at e3
        refine ⟨a5, ?_, ?_⟩
        · rcases a6 with q | q
          · left; exact q
          · right; rw [← a4]; exact q
        · rw [e3]; omega
      · exact a7 t t0 (by omega)
set_option maxHeartbeats 4000000 in
set_option maxRecDepth 100000 in
theorem BF_fin {wd rm : Int → Int} {n u m : Int} {C : Int → Int} (h : BF wd rm n u m C) (hn : 1 ≤ n) : Grd wd rm n (sumI C) m ∧ 1 ≤ m ∧ m ≤ n ∧ ∀ t, 0 ≤ t → t < m → 1 ≤ C t := by
  rcases h with h | ⟨a1, a2, a3, a4, a5, a6, a7⟩
  · omega
  · have hc : ∀ t, 0 ≤ t → t < m → 1 ≤ C t := by
      intro t t0 t1
      by_cases ht : t = m - 1
      · subst ht; exact a5
      · exact (a7 t t0 (by omega)).1
    refine ⟨⟨by omega, rfl, a3, fun t t0 t1 => ?_⟩, a1, a2, hc⟩
    have h1 := hc t t0 t1
    have h2 := sumI_mono (f := C) (m := t + 1) (n := m) (by omega) (by omega) (fun k k0 k1 => by have := hc k k0 k1; omega)
    rw [sumI_s t0] at h2 ⊢
    rw [show sumI C t + C t - sumI C t = C t by omega]
    refine ⟨by omega, by omega, ?_, fun hl => ?_⟩
    · by_cases ht : t = m - 1
      · subst ht
        rcases a6 with q | q
        · left; exact q
        · right; rw [← a4]; exact q
      · exact (a7 t t0 (by omega)).2.1
    · by_cases ht : t = m - 1
      · subst ht
        have := sumI_p (f := C) (n := m) a1
        omega
      · exact (a7 t t0 (by omega)).2.2
set_option maxHeartbeats 4000000 in
set_option maxRecDepth 100000 in
theorem c_breakFirst {σ : Sto} {f n : Int} (hn : 0 ≤ f ∧ 1 ≤ n ∧ f + n ≤ 80) (hw : ∀ i, 0 ≤ i → i < n → 0 ≤ σ 44 (f + i) ∧ σ 44 (f + i) ≤ 18) : CtI yX0_breakFirst cX0_breakFirst 6 (some .int) 0 [mR 43, mI f, mI n] σ (fun z σ' => Frm [43, 46] σ σ' ∧ σ' 43 5 = f ∧ σ' 43 6 = n ∧ σ' 43 7 = z ∧ Grd (fun i => σ 44 (f + i)) (σ 45) n (sumI (σ' 46)) z ∧ 1 ≤ z ∧ z ≤ n ∧ ∀ t, 0 ≤ t → t < z → 1 ≤ σ' 46 t) := by
  refine ct_of rfl [some (mR 43), some (mI f), some (mI n), none, none, none] (Nat.le_of_ble_eq_true rfl) rfl (fun hσ => ?_)
  show Wp cX0_breakFirst RX0 (some .int) 0 0 [some (mR 43), some (mI f), some (mI n), none, none, none] [] _ _
  have lp : ∀ i, i ≤ n → 0 ≤ i → ∀ (τ : Sto) (u m : Int) (l5 : Option MV), Frm [43, 46] σ τ → τ 43 5 = f → τ 43 6 = n → τ 43 7 = m → BF (fun i => σ 44 (f + i)) (σ 45) i u m (τ 46) → 0 ≤ u → u ≤ 19 * i → Wp cX0_breakFirst RX0 (some .int) 0 20 [some (mR 43), some (mI f), some (mI n), some (mI u), some (mI i), l5] [] τ (fun v σ' => ∃ z, v = some (mI z) ∧ (fun z σ' => Frm [43, 46] σ σ' ∧ σ' 43 5 = f ∧ σ' 43 6 = n ∧ σ' 43 7 = z ∧ Grd (fun i => σ 44 (f + i)) (σ 45) n (sumI (σ' 46)) z ∧ 1 ≤ z ∧ z ≤ n ∧ ∀ t, 0 ≤ t → t < z → 1 ≤ σ' 46 t) z σ') := by
    refine up_ind n (fun i hi ih h0 τ u m l5 hF e5 e6 e7 hB hu0 hu1 => ?_)
    have e44 : τ 44 = σ 44 := hF 44 (by decide)
    have e45 : τ 45 = σ 45 := hF 45 (by decide)
    have hm : 0 ≤ m ∧ m ≤ i := by rcases hB with q | q <;> omega
    have hc : 0 < m → 1 ≤ τ 46 (m - 1) ∧ τ 46 (m - 1) ≤ i := by
      intro hm0
      rcases hB with q | ⟨a1, a2, a3, a4, a5, a6, a7⟩
      · omega
      · have := sumI_p (f := τ 46) (n := m) a1
        have := sumI_bd (f := τ 46) (n := m - 1) (c := 1000000) (by omega) 
        have h9 : 0 ≤ sumI (τ 46) (m - 1) := by
          have := sumI_mono (f := τ 46) (m := 0) (n := m - 1) (by omega) (by omega) (fun k k0 k1 => by have := (a7 k k0 k1).1; omega)
          rw [sumI_0] at this
          exact this
        omega
    refine wp_iload (pc := 20) dX0_breakFirst_20 rfl ?_
    refine wp_iload_n (pc := 22) dX0_breakFirst_22 rfl rfl ?_
    refine wp_icmp_ge (pc := 23) 121 dX0_breakFirst_23 (by decide) (fun c_23 => ?_) (fun c_23 => ?_)
    · have en : i = n := by omega
      subst en
      refine wp_aload_n (pc := 121) dX0_breakFirst_121 rfl rfl ?_
      refine wp_getI (pc := 122) 7 dX0_breakFirst_122 fl_X0_45 rfl rfl ?_
      rw [e7]
      refine wp_ireturn (pc := 125) dX0_breakFirst_125 rfl ?_
      have hG := BF_fin hB (by omega)
      exact ⟨_, rfl, hF, e5, e6, e7, hG.1, hG.2.1, hG.2.2.1, hG.2.2.2⟩
    · have h1 := hw i h0 (by omega)
      refine wp_aload_n (pc := 26) dX0_breakFirst_26 rfl rfl ?_
      refine wp_getR (pc := 27) (q := 44) dX0_breakFirst_27 fl_X0_9 rfl ?_
      refine wp_aload_n (pc := 30) dX0_breakFirst_30 rfl rfl ?_
      refine wp_getI (pc := 31) 5 dX0_breakFirst_31 fl_X0_40 rfl rfl ?_
      rw [e5]
      refine wp_iload (pc := 34) dX0_breakFirst_34 rfl ?_
      refine wp_iadd (pc := 36) dX0_breakFirst_36 (by omega) ?_
      refine wp_iald (pc := 37) 80 dX0_breakFirst_37 rfl (by omega) ?_
      rw [e44]
      refine wp_istore (pc := 38) dX0_breakFirst_38 (Nat.le_of_ble_eq_true rfl) rfl ?_
      refine wp_aload_n (pc := 40) dX0_breakFirst_40 rfl rfl ?_
      refine wp_getI (pc := 41) 7 dX0_breakFirst_41 fl_X0_45 rfl rfl ?_
      rw [e7]
      refine wp_if_le (pc := 44) 92 dX0_breakFirst_44 (by decide) (fun c_44 => ?_) (fun c_44 => ?_)
      · refine wp_aload_n (pc := 92) dX0_breakFirst_92 rfl rfl ?_
        refine wp_getR (pc := 93) (q := 46) dX0_breakFirst_93 fl_X0_18 rfl ?_
        refine wp_aload_n (pc := 96) dX0_breakFirst_96 rfl rfl ?_
        refine wp_getI (pc := 97) 7 dX0_breakFirst_97 fl_X0_45 rfl rfl ?_
        rw [e7]
        refine wp_iconst (pc := 100) dX0_breakFirst_100 (by decide) ?_
        refine wp_iast (pc := 101) 80 dX0_breakFirst_101 rfl (by omega) ?_
        refine wp_aload_n (pc := 102) dX0_breakFirst_102 rfl rfl ?_
        refine wp_dup (pc := 103) dX0_breakFirst_103 (fun _ h => by cases h) ?_
        refine wp_getI (pc := 104) 7 dX0_breakFirst_104 fl_X0_45 rfl rfl ?_
        rw [upd2_r (r := 46) (r' := 43) (by decide)]
        rw [e7]
        refine wp_iconst (pc := 107) dX0_breakFirst_107 (by decide) ?_
        refine wp_iadd (pc := 108) dX0_breakFirst_108 (by omega) ?_
        refine wp_putI (pc := 109) 7 dX0_breakFirst_109 fl_X0_45 ⟨rfl, rfl⟩ rfl rfl ?_
        refine wp_iload (pc := 112) dX0_breakFirst_112 rfl ?_
        refine wp_istore_n (pc := 114) dX0_breakFirst_114 rfl (Nat.le_of_ble_eq_true rfl) rfl ?_
        refine wp_iinc (pc := 115) dX0_breakFirst_115 rfl rfl (by omega) ?_
        refine wp_goto (pc := 118) 20 dX0_breakFirst_118 (by decide) ?_
        first
        | exact ih (by omega) (by omega) _ _ m _ (hF.up (by decide)) (by simp [upd2, e5]) (by simp [upd2, e6]) (by simp [upd2, e7]) (BF_ext hB (by omega) (by omega) upd2_eq (fun k hk => upd2_k hk)) (by omega) (by omega)
        | exact ih (by omega) (by omega) _ _ (m + 1) _ ((hF.up (by decide)).up (by decide)) (by simp [upd2, e5]) (by simp [upd2, e6]) (by simp [upd2]) (BF_new (C' := upd2 (upd2 τ 46 m 1) 43 7 (m + 1) 46) hB h0 (by omega) (by simp [upd2]) (fun k hk => by simp [upd2, hk])) (by omega) (by omega)
      · refine wp_iload_n (pc := 47) dX0_breakFirst_47 rfl rfl ?_
        refine wp_iconst (pc := 48) dX0_breakFirst_48 (by decide) ?_
        refine wp_iadd (pc := 49) dX0_breakFirst_49 (by omega) ?_
        refine wp_iload (pc := 50) dX0_breakFirst_50 rfl ?_
        refine wp_iadd (pc := 52) dX0_breakFirst_52 (by omega) ?_
        refine wp_aload_n (pc := 53) dX0_breakFirst_53 rfl rfl ?_
        refine wp_getR (pc := 54) (q := 45) dX0_breakFirst_54 fl_X0_15 rfl ?_
        refine wp_aload_n (pc := 57) dX0_breakFirst_57 rfl rfl ?_
        refine wp_getI (pc := 58) 7 dX0_breakFirst_58 fl_X0_45 rfl rfl ?_
        rw [e7]
        refine wp_iconst (pc := 61) dX0_breakFirst_61 (by decide) ?_
        refine wp_isub (pc := 62) dX0_breakFirst_62 (by omega) ?_
        refine wp_iald (pc := 63) 80 dX0_breakFirst_63 rfl (by omega) ?_
        rw [e45]
        refine wp_icmp_gt (pc := 64) 92 dX0_breakFirst_64 (by decide) (fun c_64 => ?_) (fun c_64 => ?_)
        · refine wp_aload_n (pc := 92) dX0_breakFirst_92 rfl rfl ?_
          refine wp_getR (pc := 93) (q := 46) dX0_breakFirst_93 fl_X0_18 rfl ?_
          refine wp_aload_n (pc := 96) dX0_breakFirst_96 rfl rfl ?_
          refine wp_getI (pc := 97) 7 dX0_breakFirst_97 fl_X0_45 rfl rfl ?_
          rw [e7]
          refine wp_iconst (pc := 100) dX0_breakFirst_100 (by decide) ?_
          refine wp_iast (pc := 101) 80 dX0_breakFirst_101 rfl (by omega) ?_
          refine wp_aload_n (pc := 102) dX0_breakFirst_102 rfl rfl ?_
          refine wp_dup (pc := 103) dX0_breakFirst_103 (fun _ h => by cases h) ?_
          refine wp_getI (pc := 104) 7 dX0_breakFirst_104 fl_X0_45 rfl rfl ?_
          rw [upd2_r (r := 46) (r' := 43) (by decide)]
          rw [e7]
          refine wp_iconst (pc := 107) dX0_breakFirst_107 (by decide) ?_
          refine wp_iadd (pc := 108) dX0_breakFirst_108 (by omega) ?_
          refine wp_putI (pc := 109) 7 dX0_breakFirst_109 fl_X0_45 ⟨rfl, rfl⟩ rfl rfl ?_
          refine wp_iload (pc := 112) dX0_breakFirst_112 rfl ?_
          refine wp_istore_n (pc := 114) dX0_breakFirst_114 rfl (Nat.le_of_ble_eq_true rfl) rfl ?_
          refine wp_iinc (pc := 115) dX0_breakFirst_115 rfl rfl (by omega) ?_
          refine wp_goto (pc := 118) 20 dX0_breakFirst_118 (by decide) ?_
          first
          | exact ih (by omega) (by omega) _ _ m _ (hF.up (by decide)) (by simp [upd2, e5]) (by simp [upd2, e6]) (by simp [upd2, e7]) (BF_ext hB (by omega) (by omega) upd2_eq (fun k hk => upd2_k hk)) (by omega) (by omega)
          | exact ih (by omega) (by omega) _ _ (m + 1) _ ((hF.up (by decide)).up (by decide)) (by simp [upd2, e5]) (by simp [upd2, e6]) (by simp [upd2]) (BF_new (C' := upd2 (upd2 τ 46 m 1) 43 7 (m + 1) 46) hB h0 (by omega) (by simp [upd2]) (fun k hk => by simp [upd2, hk])) (by omega) (by omega)
        · refine wp_iload_n (pc := 67) dX0_breakFirst_67 rfl rfl ?_
          refine wp_iconst (pc := 68) dX0_breakFirst_68 (by decide) ?_
          refine wp_iload (pc := 69) dX0_breakFirst_69 rfl ?_
          refine wp_iadd (pc := 71) dX0_breakFirst_71 (by omega) ?_
          refine wp_iadd (pc := 72) dX0_breakFirst_72 (by omega) ?_
          refine wp_istore_n (pc := 73) dX0_breakFirst_73 rfl (Nat.le_of_ble_eq_true rfl) rfl ?_
          refine wp_aload_n (pc := 74) dX0_breakFirst_74 rfl rfl ?_
          refine wp_getR (pc := 75) (q := 46) dX0_breakFirst_75 fl_X0_18 rfl ?_
          refine wp_aload_n (pc := 78) dX0_breakFirst_78 rfl rfl ?_
          refine wp_getI (pc := 79) 7 dX0_breakFirst_79 fl_X0_45 rfl rfl ?_
          rw [e7]
          refine wp_iconst (pc := 82) dX0_breakFirst_82 (by decide) ?_
          refine wp_isub (pc := 83) dX0_breakFirst_83 (by omega) ?_
          refine wp_dup2 (pc := 84) dX0_breakFirst_84 (fun _ h => by cases h) (fun _ h => by cases h) ?_
          refine wp_iald (pc := 85) 80 dX0_breakFirst_85 rfl (by omega) ?_
          have h2 := hc (by omega)
          refine wp_iconst (pc := 86) dX0_breakFirst_86 (by decide) ?_
          refine wp_iadd (pc := 87) dX0_breakFirst_87 (by omega) ?_
          refine wp_iast (pc := 88) 80 dX0_breakFirst_88 rfl (by omega) ?_
          refine wp_goto (pc := 89) 115 dX0_breakFirst_89 (by decide) ?_
          refine wp_iinc (pc := 115) dX0_breakFirst_115 rfl rfl (by omega) ?_
          refine wp_goto (pc := 118) 20 dX0_breakFirst_118 (by decide) ?_
          first
          | exact ih (by omega) (by omega) _ _ m _ (hF.up (by decide)) (by simp [upd2, e5]) (by simp [upd2, e6]) (by simp [upd2, e7]) (BF_ext hB (by omega) (by omega) upd2_eq (fun k hk => upd2_k hk)) (by omega) (by omega)
          | exact ih (by omega) (by omega) _ _ (m + 1) _ ((hF.up (by decide)).up (by decide)) (by simp [upd2, e5]) (by simp [upd2, e6]) (by simp [upd2]) (BF_new (C' := upd2 (upd2 τ 46 m 1) 43 7 (m + 1) 46) hB h0 (by omega) (by simp [upd2]) (fun k hk => by simp [upd2, hk])) (by omega) (by omega)
  refine wp_aload_n (pc := 0) dX0_breakFirst_0 rfl rfl ?_
  refine wp_iload_n (pc := 1) dX0_breakFirst_1 rfl rfl ?_
  refine wp_putI (pc := 2) 5 dX0_breakFirst_2 fl_X0_40 ⟨rfl, rfl⟩ rfl rfl ?_
  refine wp_aload_n (pc := 5) dX0_breakFirst_5 rfl rfl ?_
  refine wp_iload_n (pc := 6) dX0_breakFirst_6 rfl rfl ?_
  refine wp_putI (pc := 7) 6 dX0_breakFirst_7 fl_X0_43 ⟨rfl, rfl⟩ rfl rfl ?_
  refine wp_aload_n (pc := 10) dX0_breakFirst_10 rfl rfl ?_
  refine wp_iconst (pc := 11) dX0_breakFirst_11 (by decide) ?_
  refine wp_putI (pc := 12) 7 dX0_breakFirst_12 fl_X0_45 ⟨rfl, rfl⟩ rfl rfl ?_
  refine wp_iconst (pc := 15) dX0_breakFirst_15 (by decide) ?_
  refine wp_istore_n (pc := 16) dX0_breakFirst_16 rfl (Nat.le_of_ble_eq_true rfl) rfl ?_
  refine wp_iconst (pc := 17) dX0_breakFirst_17 (by decide) ?_
  refine wp_istore (pc := 18) dX0_breakFirst_18 (Nat.le_of_ble_eq_true rfl) rfl ?_
  exact lp 0 (by omega) (by omega) _ 0 0 none (((Frm.rf.up (by decide)).up (by decide)).up (by decide)) (by simp [upd2]) (by simp [upd2]) (by simp [upd2]) (Or.inl ⟨rfl, rfl, rfl⟩) (by omega) (by omega)
