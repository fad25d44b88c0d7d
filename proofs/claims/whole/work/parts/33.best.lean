def BI (σ D S : Sto) : Prop := DC σ = D ∧ SC σ = S ∧ OKD D S ∧ OKS S ∧ σ 14 1 = tot D
set_option maxHeartbeats 4000000 in
set_option maxRecDepth 100000 in
theorem CI.bi {σ D S : Sto} (h : CI σ D S) : BI σ D S := ⟨h.1, h.2.1, h.2.2.1, h.2.2.2.1, h.2.2.2.2.1⟩
set_option maxHeartbeats 4000000 in
set_option maxRecDepth 100000 in
theorem DC_set {σ : Sto} {p n : Int} : DC (upd2 σ 18 p n) = setD (DC σ) p n := by
  funext k i
  by_cases h3 : k = 3
  · subst h3
    show upd2 σ 18 p n 18 i = if 3 = 3 ∧ i = p then n else σ 18 i
    by_cases hi : i = p
    · subst hi; rw [upd2_eq, if_pos ⟨rfl, rfl⟩]
    · rw [upd2_k hi, if_neg (fun q => hi q.2)]
  · have e : setD (DC σ) p n k i = DC σ k i := if_neg (fun q => h3 q.1)
    rw [e]
    simp only [DC, h3, if_false, upd2_r (show (14 : Nat) ≠ 18 by decide), upd2_r (show (15 : Nat) ≠ 18 by decide), upd2_r (show (16 : Nat) ≠ 18 by decide), upd2_r (show (17 : Nat) ≠ 18 by decide), upd2_r (show (19 : Nat) ≠ 18 by decide)]
set_option maxHeartbeats 4000000 in
set_option maxRecDepth 100000 in
theorem SC_set {σ : Sto} {p n : Int} : SC (upd2 σ 18 p n) = SC σ := by
  funext k i
  simp only [SC]
  rw [upd2_r (by decide), upd2_r (by decide), upd2_r (by decide), upd2_r (by decide), upd2_r (by decide), upd2_r (by decide)]
set_option maxHeartbeats 4000000 in
set_option maxRecDepth 100000 in
theorem tot_set (D : Sto) (p n : Int) : tot (setD D p n) = tot D := by
  have e : ∀ k, k ≠ 3 → setD D p n k = D k := fun k hk => by funext i; simp [setD, hk]
  unfold tot
  rw [e 1 (by decide), e 0 (by decide)]
set_option maxHeartbeats 4000000 in
set_option maxRecDepth 100000 in
theorem lay60_keep {σ σ' D S : Sto} {L : List Nat} (h : Lay60 σ D S) (hf : Frm L σ σ') (hL : ∀ r ∈ L, r < 60 ∨ 70 < r) : Lay60 σ' D S := by
  have e : ∀ r, 60 ≤ r → r ≤ 70 → σ' r = σ r := fun r h1 h2 => hf r (fun q => by have := hL r q; omega)
  unfold Lay60 LayOK RK LPf at *
  rw [e 60 (by decide) (by decide), e 61 (by decide) (by decide), e 62 (by decide) (by decide), e 63 (by decide) (by decide), e 64 (by decide) (by decide), e 65 (by decide) (by decide), e 66 (by decide) (by decide), e 67 (by decide) (by decide), e 68 (by decide) (by decide), e 69 (by decide) (by decide), e 70 (by decide) (by decide)]
  exact h
set_option maxHeartbeats 4000000 in
set_option maxRecDepth 100000 in
theorem c_layTrial {σ D S : Sto} {p n : Int} (hC : BI σ D S) (hp : 0 ≤ p ∧ p < σ 14 0) (hs : 0 ≤ σ 17 p) (hn : 2 ≤ n ∧ n ≤ 5) : CtV yX6_layTrial cX6_layTrial 4 none 4 [mR 0, mI p, mI n] σ (fun σ' => Frm [39, 40, 41, 42, 43, 44, 45, 46, 47, 48, 60, 61, 62, 63, 64, 65, 66, 67, 68, 69, 70] σ σ' ∧ Lay60 σ' (setD D p n) S) := by
  refine ct_of rfl [some (mR 0), some (mI p), some (mI n), none] (Nat.le_of_ble_eq_true rfl) rfl (fun hσ => ?_)
  show Wp cX6_layTrial RX6 none 4 0 [some (mR 0), some (mI p), some (mI n), none] [] _ _
  obtain ⟨h1, h2, h3, h4, h5⟩ := hC
  have n8 : σ 14 0 ≤ 8 := by have := h3.1.2; rw [← h1] at this; exact this
  have hOK : OKD (setD D p n) S := setD_ok h3 (fun _ _ => by rw [← h1]; exact hs) hn
  refine wp_aload_n (pc := 0) dX6_layTrial_0 rfl rfl ?_
  refine wp_getR (pc := 1) (q := 14) dX6_layTrial_1 fl_X6_23 rfl ?_
  refine wp_getR (pc := 4) (q := 18) dX6_layTrial_4 fl_X6_170 rfl ?_
  refine wp_iload_n (pc := 7) dX6_layTrial_7 rfl rfl ?_
  refine wp_iald (pc := 8) 8 dX6_layTrial_8 rfl (by omega) ?_
  refine wp_istore_n (pc := 9) dX6_layTrial_9 rfl (Nat.le_of_ble_eq_true rfl) rfl ?_
  refine wp_aload_n (pc := 10) dX6_layTrial_10 rfl rfl ?_
  refine wp_getR (pc := 11) (q := 14) dX6_layTrial_11 fl_X6_23 rfl ?_
  refine wp_getR (pc := 14) (q := 18) dX6_layTrial_14 fl_X6_170 rfl ?_
  refine wp_iload_n (pc := 17) dX6_layTrial_17 rfl rfl ?_
  refine wp_iload_n (pc := 18) dX6_layTrial_18 rfl rfl ?_
  refine wp_iast (pc := 19) 8 dX6_layTrial_19 rfl (by omega) ?_
  refine wp_aload_n (pc := 20) dX6_layTrial_20 rfl rfl ?_
  refine wp_getR (pc := 21) (q := 60) dX6_layTrial_21 fl_X6_67 rfl ?_
  refine wp_cvV0 (pc := 24) dX6_layTrial_24 mv_X6_279 (c_layAll_60 (D := setD D p n) (S := S) (by rw [DC_set, h1]) (by rw [SC_set, h2]) hOK h4 (by rw [upd2_r (by decide), tot_set]; exact h5)) (Nat.le_of_ble_eq_true rfl) rfl (Nat.le_of_ble_eq_true rfl) (fun σ_24 h_24 => ?_)
  obtain ⟨f24, l24⟩ := h_24
  refine wp_aload_n (pc := 27) dX6_layTrial_27 rfl rfl ?_
  refine wp_getR (pc := 28) (q := 14) dX6_layTrial_28 fl_X6_23 rfl ?_
  refine wp_getR (pc := 31) (q := 18) dX6_layTrial_31 fl_X6_170 rfl ?_
  refine wp_iload_n (pc := 34) dX6_layTrial_34 rfl rfl ?_
  refine wp_iload_n (pc := 35) dX6_layTrial_35 rfl rfl ?_
  refine wp_iast (pc := 36) 8 dX6_layTrial_36 rfl (by omega) ?_
  refine wp_return (pc := 37) dX6_layTrial_37 rfl ?_
  refine ⟨rfl, fun r hr => ?_, lay60_keep (L := [18]) l24 (Frm.rf.up (by decide)) (by decide)⟩
  by_cases e : r = 18
  · subst e
    funext k
    by_cases hk : k = p
    · subst hk; rw [upd2_eq]
    · rw [upd2_k hk, f24 18 (by decide), upd2_k hk]
  · rw [upd2_out e, f24 r hr, upd2_out e]
set_option maxHeartbeats 4000000 in
set_option maxRecDepth 100000 in
theorem c_bestDrop {σ D S : Sto} {p : Int} (hC : BI σ D S) (hp : 0 ≤ p ∧ p < σ 14 0) (hs : 0 ≤ σ 17 p) : CtI yX6_bestDrop cX6_bestDrop 6 (some .int) 5 [mR 0, mI p] σ (fun z σ' => z = bstN D S p 3 ∧ Frm [39, 40, 41, 42, 43, 44, 45, 46, 47, 48, 60, 61, 62, 63, 64, 65, 66, 67, 68, 69, 70] σ σ') := by
  refine ct_of rfl [some (mR 0), some (mI p), none, none, none, none] (Nat.le_of_ble_eq_true rfl) rfl (fun hσ => ?_)
  show Wp cX6_bestDrop RX6 (some .int) 5 0 [some (mR 0), some (mI p), none, none, none, none] [] _ _
  have hs2 : 0 ≤ D 2 p := by rw [← hC.1]; exact hs
  have lp : ∀ n, n ≤ 6 → 2 ≤ n → ∀ (τ : Sto) (fo le : Int) (l5 : Option MV), Frm [39, 40, 41, 42, 43, 44, 45, 46, 47, 48, 60, 61, 62, 63, 64, 65, 66, 67, 68, 69, 70] σ τ → ((n = 2 ∧ fo = 2) ∨ (3 ≤ n ∧ fo = bstN D S p (n - 3).toNat ∧ le = mk3 D S p fo)) → Wp cX6_bestDrop RX6 (some .int) 5 7 [some (mR 0), some (mI p), some (mI fo), some (mI le), some (mI n), l5] [] τ (fun v σ' => ∃ z, v = some (mI z) ∧ (fun z σ' => z = bstN D S p 3 ∧ Frm [39, 40, 41, 42, 43, 44, 45, 46, 47, 48, 60, 61, 62, 63, 64, 65, 66, 67, 68, 69, 70] σ σ') z σ') := by
    refine up_ind 6 (fun n hn ih n2 τ fo le l5 hF hst => ?_)
    have hB2 : BI τ D S := ⟨(DC_frm hF (by decide)).1.trans hC.1, (DC_frm hF (by decide)).2.trans hC.2.1, hC.2.2.1, hC.2.2.2.1, by rw [hF 14 (by decide)]; exact hC.2.2.2.2⟩
    refine wp_iload (pc := 7) dX6_bestDrop_7 rfl ?_
    refine wp_iconst (pc := 9) dX6_bestDrop_9 (by decide) ?_
    refine wp_icmp_gt (pc := 10) 85 dX6_bestDrop_10 (by decide) (fun c_10 => ?_) (fun c_10 => ?_)
    · refine wp_iload_n (pc := 85) dX6_bestDrop_85 rfl rfl ?_
      refine wp_ireturn (pc := 86) dX6_bestDrop_86 rfl ?_
      refine ⟨_, rfl, ?_, hF⟩
      rcases hst with ⟨q1, q2⟩ | ⟨q1, q2, q3⟩
      · omega
      · rw [q2, show (n - 3).toNat = 3 by omega]
    · have hOK : OKD (setD D p n) S := setD_ok hC.2.2.1 (fun _ _ => hs2) (by omega)
      have hb := s3_bd hOK
      refine wp_aload_n (pc := 13) dX6_bestDrop_13 rfl rfl ?_
      refine wp_iload_n (pc := 14) dX6_bestDrop_14 rfl rfl ?_
      refine wp_iload (pc := 15) dX6_bestDrop_15 rfl ?_
      refine wp_cvV2 (pc := 17) dX6_bestDrop_17 mv_X6_252 (c_layTrial hB2 (by rw [hF 14 (by decide)]; exact hp) (by rw [hF 17 (by decide)]; exact hs) (by omega)) (Nat.le_of_ble_eq_true rfl) rfl (Nat.le_of_ble_eq_true rfl) (fun σ_17 h_17 => ?_)
      obtain ⟨f17, l17⟩ := h_17
      have en : σ_17 60 3 = nL (setD D p n) S := l17.1
      refine wp_aload_n (pc := 20) dX6_bestDrop_20 rfl rfl ?_
      refine wp_getR (pc := 21) (q := 60) dX6_bestDrop_21 fl_X6_67 rfl ?_
      refine wp_getI (pc := 24) 3 dX6_bestDrop_24 fl_X6_126 rfl rfl ?_
      rw [en]
      refine wp_ldc_w (pc := 27) (z := 1000000) dX6_bestDrop_27 kc_X6_295 (by decide) (by decide) ?_
      refine wp_imul (pc := 30) dX6_bestDrop_30 (by omega) ?_
      refine wp_aload_n (pc := 31) dX6_bestDrop_31 rfl rfl ?_
      refine wp_getR (pc := 32) (q := 60) dX6_bestDrop_32 fl_X6_67 rfl ?_
      refine wp_iconst (pc := 35) dX6_bestDrop_35 (by decide) ?_
      refine wp_sipush (pc := 36) dX6_bestDrop_36 (by decide) (by decide) ?_
      refine wp_cvI2 (pc := 39) dX6_bestDrop_39 mv_X6_132 (c_clashesWithin_60 (by omega) (by omega)) (Nat.le_of_ble_eq_true rfl) rfl (Nat.le_of_ble_eq_true rfl) (fun z_39 σ_39 h_39 => ?_)
      obtain ⟨rfl, e_39⟩ := h_39; have e2_39 := e_39.symm; subst e2_39
      rw [en, show min 152 (nL (setD D p n) S) - 0 = nL (setD D p n) S by omega, (lay_sums hOK l17 (a := 0) (n := nL (setD D p n) S) (by omega) (by omega)).1, sumI_z, show sumI (lX (setD D p n) S) (nL (setD D p n) S) = sX (setD D p n) S from rfl]
      refine wp_sipush (pc := 42) dX6_bestDrop_42 (by decide) (by decide) ?_
      refine wp_imul (pc := 45) dX6_bestDrop_45 (by omega) ?_
      refine wp_iadd (pc := 46) dX6_bestDrop_46 (by omega) ?_
      refine wp_aload_n (pc := 47) dX6_bestDrop_47 rfl rfl ?_
      refine wp_getR (pc := 48) (q := 60) dX6_bestDrop_48 fl_X6_67 rfl ?_
      refine wp_iconst (pc := 51) dX6_bestDrop_51 (by decide) ?_
      refine wp_sipush (pc := 52) dX6_bestDrop_52 (by decide) (by decide) ?_
      refine wp_cvI2 (pc := 55) dX6_bestDrop_55 mv_X6_136 (c_oversWithin_60 (by omega) (by omega)) (Nat.le_of_ble_eq_true rfl) rfl (Nat.le_of_ble_eq_true rfl) (fun z_55 σ_55 h_55 => ?_)
      obtain ⟨rfl, e_55⟩ := h_55; have e2_55 := e_55.symm; subst e2_55
      rw [en, show min 152 (nL (setD D p n) S) - 0 = nL (setD D p n) S by omega, (lay_sums hOK l17 (a := 0) (n := nL (setD D p n) S) (by omega) (by omega)).2, sumI_z, show sumI (lO (setD D p n) S) (nL (setD D p n) S) = sO (setD D p n) S from rfl]
      refine wp_iadd (pc := 58) dX6_bestDrop_58 (by omega) ?_
      refine wp_istore (pc := 59) dX6_bestDrop_59 (Nat.le_of_ble_eq_true rfl) rfl ?_
      have emk : nL (setD D p n) S * 1000000 + sX (setD D p n) S * 1000 + sO (setD D p n) S = mk3 D S p n := rfl
      rw [emk]
      refine wp_iload (pc := 61) dX6_bestDrop_61 rfl ?_
      refine wp_iconst (pc := 63) dX6_bestDrop_63 (by decide) ?_
      refine wp_icmp_eq (pc := 64) 73 dX6_bestDrop_64 (by decide) (fun c_64 => ?_) (fun c_64 => ?_)
      · refine wp_iload (pc := 73) dX6_bestDrop_73 rfl ?_
        refine wp_istore_n (pc := 75) dX6_bestDrop_75 rfl (Nat.le_of_ble_eq_true rfl) rfl ?_
        refine wp_iload (pc := 76) dX6_bestDrop_76 rfl ?_
        refine wp_istore_n (pc := 78) dX6_bestDrop_78 rfl (Nat.le_of_ble_eq_true rfl) rfl ?_
        refine wp_iinc (pc := 79) dX6_bestDrop_79 rfl rfl (by omega) ?_
        refine wp_goto (pc := 82) 7 dX6_bestDrop_82 (by decide) ?_
        have e3 : (n + 1 - 3).toNat = (n - 2).toNat := by omega
        have hst9 := hst
        have hbs : 3 ≤ n → bstN D S p (n - 2).toNat = if mk3 D S p n ≤ mk3 D S p (bstN D S p (n - 3).toNat) then n else bstN D S p (n - 3).toNat := fun h9 => by
          rw [show (n - 2).toNat = (n - 3).toNat + 1 by omega]
          show (if mk3 D S p ((((n - 3).toNat : Nat) : Int) + 3) ≤ mk3 D S p (bstN D S p (n - 3).toNat) then ((((n - 3).toNat : Nat) : Int) + 3) else bstN D S p (n - 3).toNat) = _
          rw [show (((n - 3).toNat : Nat) : Int) + 3 = n by omega]
        refine ih (by omega) (by omega) _ _ _ _ (hF.tr f17) (Or.inr ⟨by omega, ?_, ?_⟩)
        · rw [e3]
          rcases hst with ⟨q1, q2⟩ | ⟨q1, q2, q3⟩
          · subst q1
            first | rfl | omega
          · rw [hbs q1, ← q2, ← q3]
            first | rw [if_pos (by omega)] | rw [if_neg (by omega)]
        · first
          | rfl
          | (rcases hst with ⟨q1, q2⟩ | ⟨q1, q2, q3⟩
             · omega
             · exact q3)
      · refine wp_iload (pc := 67) dX6_bestDrop_67 rfl ?_
        refine wp_iload_n (pc := 69) dX6_bestDrop_69 rfl rfl ?_
        refine wp_icmp_gt (pc := 70) 79 dX6_bestDrop_70 (by decide) (fun c_70 => ?_) (fun c_70 => ?_)
        · refine wp_iinc (pc := 79) dX6_bestDrop_79 rfl rfl (by omega) ?_
          refine wp_goto (pc := 82) 7 dX6_bestDrop_82 (by decide) ?_
          have e3 : (n + 1 - 3).toNat = (n - 2).toNat := by omega
          have hst9 := hst
          have hbs : 3 ≤ n → bstN D S p (n - 2).toNat = if mk3 D S p n ≤ mk3 D S p (bstN D S p (n - 3).toNat) then n else bstN D S p (n - 3).toNat := fun h9 => by
            rw [show (n - 2).toNat = (n - 3).toNat + 1 by omega]
            show (if mk3 D S p ((((n - 3).toNat : Nat) : Int) + 3) ≤ mk3 D S p (bstN D S p (n - 3).toNat) then ((((n - 3).toNat : Nat) : Int) + 3) else bstN D S p (n - 3).toNat) = _
            rw [show (((n - 3).toNat : Nat) : Int) + 3 = n by omega]
          refine ih (by omega) (by omega) _ _ _ _ (hF.tr f17) (Or.inr ⟨by omega, ?_, ?_⟩)
          · rw [e3]
            rcases hst with ⟨q1, q2⟩ | ⟨q1, q2, q3⟩
            · subst q1
              first | rfl | omega
            · rw [hbs q1, ← q2, ← q3]
              first | rw [if_pos (by omega)] | rw [if_neg (by omega)]
          · first
            | rfl
            | (rcases hst with ⟨q1, q2⟩ | ⟨q1, q2, q3⟩
               · omega
               · exact q3)
        · refine wp_iload (pc := 73) dX6_bestDrop_73 rfl ?_
          refine wp_istore_n (pc := 75) dX6_bestDrop_75 rfl (Nat.le_of_ble_eq_true rfl) rfl ?_
          refine wp_iload (pc := 76) dX6_bestDrop_76 rfl ?_
          refine wp_istore_n (pc := 78) dX6_bestDrop_78 rfl (Nat.le_of_ble_eq_true rfl) rfl ?_
          refine wp_iinc (pc := 79) dX6_bestDrop_79 rfl rfl (by omega) ?_
          refine wp_goto (pc := 82) 7 dX6_bestDrop_82 (by decide) ?_
          have e3 : (n + 1 - 3).toNat = (n - 2).toNat := by omega
          have hst9 := hst
          have hbs : 3 ≤ n → bstN D S p (n - 2).toNat = if mk3 D S p n ≤ mk3 D S p (bstN D S p (n - 3).toNat) then n else bstN D S p (n - 3).toNat := fun h9 => by
            rw [show (n - 2).toNat = (n - 3).toNat + 1 by omega]
            show (if mk3 D S p ((((n - 3).toNat : Nat) : Int) + 3) ≤ mk3 D S p (bstN D S p (n - 3).toNat) then ((((n - 3).toNat : Nat) : Int) + 3) else bstN D S p (n - 3).toNat) = _
            rw [show (((n - 3).toNat : Nat) : Int) + 3 = n by omega]
          refine ih (by omega) (by omega) _ _ _ _ (hF.tr f17) (Or.inr ⟨by omega, ?_, ?_⟩)
          · rw [e3]
            rcases hst with ⟨q1, q2⟩ | ⟨q1, q2, q3⟩
            · subst q1
              first | rfl | omega
            · rw [hbs q1, ← q2, ← q3]
              first | rw [if_pos (by omega)] | rw [if_neg (by omega)]
          · first
            | rfl
            | (rcases hst with ⟨q1, q2⟩ | ⟨q1, q2, q3⟩
               · omega
               · exact q3)
  refine wp_iconst (pc := 0) dX6_bestDrop_0 (by decide) ?_
  refine wp_istore_n (pc := 1) dX6_bestDrop_1 rfl (Nat.le_of_ble_eq_true rfl) rfl ?_
  refine wp_iconst (pc := 2) dX6_bestDrop_2 (by decide) ?_
  refine wp_istore_n (pc := 3) dX6_bestDrop_3 rfl (Nat.le_of_ble_eq_true rfl) rfl ?_
  refine wp_iconst (pc := 4) dX6_bestDrop_4 (by decide) ?_
  refine wp_istore (pc := 5) dX6_bestDrop_5 (Nat.le_of_ble_eq_true rfl) rfl ?_
  exact lp 2 (by omega) (by omega) σ 2 0 none Frm.rf (Or.inl ⟨rfl, rfl⟩)
set_option maxHeartbeats 4000000 in
set_option maxRecDepth 100000 in
theorem c_best {σ D S : Sto} {p : Int} (hC : CI σ D S) : CtI yX6_best cX6_best 2 (some .int) 6 [mR 0, mI p] σ (fun z σ' => z = aBest D S p ∧ Obs σ σ' ∧ CI σ' D S) := by
  refine ct_of rfl [some (mR 0), some (mI p)] (Nat.le_of_ble_eq_true rfl) rfl (fun hσ => ?_)
  show Wp cX6_best RX6 (some .int) 6 0 [some (mR 0), some (mI p)] [] _ _
  obtain ⟨n1, n2, n3, n4, n5, n6, n7⟩ := hC.n
  have n5p := n5 p
  refine wp_aload_n (pc := 0) dX6_best_0 rfl rfl ?_
  refine wp_iload_n (pc := 1) dX6_best_1 rfl rfl ?_
  refine wp_cvI1 (pc := 2) dX6_best_2 mv_X6_161 c_isPar (Nat.le_of_ble_eq_true rfl) rfl (Nat.le_of_ble_eq_true rfl) (fun z_2 σ_2 h_2 => ?_)
  obtain ⟨zz_2, e_2⟩ := h_2; have e2_2 := e_2.symm; subst e2_2; have y_2 : (z_2 = 1 ∧ 0 ≤ p ∧ p < σ 14 0) ∨ (z_2 = 0 ∧ ¬ (0 ≤ p ∧ p < σ 14 0)) := by split at zz_2 <;> omega
  refine wp_if_ne (pc := 5) 10 dX6_best_5 (by decide) (fun c_5 => ?_) (fun c_5 => ?_)
  · refine wp_aload_n (pc := 10) dX6_best_10 rfl rfl ?_
    refine wp_getR (pc := 11) (q := 14) dX6_best_11 fl_X6_23 rfl ?_
    refine wp_iload_n (pc := 14) dX6_best_14 rfl rfl ?_
    refine wp_cvI1 (pc := 15) dX6_best_15 mv_X6_215 (c_hasShape (by omega)) (Nat.le_of_ble_eq_true rfl) rfl (Nat.le_of_ble_eq_true rfl) (fun z_15 σ_15 h_15 => ?_)
    obtain ⟨zz_15, e_15⟩ := h_15; have e2_15 := e_15.symm; subst e2_15; have y_15 : (z_15 = 0 ∧ σ 17 p < 0) ∨ (z_15 = 1 ∧ ¬ σ 17 p < 0) := by split at zz_15 <;> omega
    refine wp_if_eq (pc := 18) 29 dX6_best_18 (by decide) (fun c_18 => ?_) (fun c_18 => ?_)
    · refine wp_bipush (pc := 29) dX6_best_29 (by decide) (by decide) ?_
      refine wp_ireturn (pc := 31) dX6_best_31 rfl ?_
      first
        | exact ⟨_, rfl, by unfold aBest; rw [if_pos (by omega)], Obs.rf, hC⟩
        | exact ⟨_, rfl, by unfold aBest; rw [if_neg (by omega), if_pos (by omega)], Obs.rf, hC⟩
        | exact ⟨_, rfl, by unfold aBest; rw [if_neg (by omega), if_neg (by omega)], hx.1, hx.2⟩
    · refine wp_aload_n (pc := 21) dX6_best_21 rfl rfl ?_
      refine wp_iload_n (pc := 22) dX6_best_22 rfl rfl ?_
      refine wp_cvI1 (pc := 23) dX6_best_23 mv_X6_246 (c_bestDrop hC.bi (by omega) (by omega)) (Nat.le_of_ble_eq_true rfl) rfl (Nat.le_of_ble_eq_true rfl) (fun z_23 σ_23 h_23 => ?_)
      obtain ⟨rfl, f23⟩ := h_23
      have hx := hC.drw f23 (by decide)
      refine wp_goto (pc := 26) 31 dX6_best_26 (by decide) ?_
      refine wp_ireturn (pc := 31) dX6_best_31 rfl ?_
      first
        | exact ⟨_, rfl, by unfold aBest; rw [if_pos (by omega)], Obs.rf, hC⟩
        | exact ⟨_, rfl, by unfold aBest; rw [if_neg (by omega), if_pos (by omega)], Obs.rf, hC⟩
        | exact ⟨_, rfl, by unfold aBest; rw [if_neg (by omega), if_neg (by omega)], hx.1, hx.2⟩
  · refine wp_iconst (pc := 8) dX6_best_8 (by decide) ?_
    refine wp_ireturn (pc := 9) dX6_best_9 rfl ?_
    first
      | exact ⟨_, rfl, by unfold aBest; rw [if_pos (by omega)], Obs.rf, hC⟩
      | exact ⟨_, rfl, by unfold aBest; rw [if_neg (by omega), if_pos (by omega)], Obs.rf, hC⟩
      | exact ⟨_, rfl, by unfold aBest; rw [if_neg (by omega), if_neg (by omega)], hx.1, hx.2⟩
set_option maxHeartbeats 4000000 in
set_option maxRecDepth 100000 in
theorem c_tried {σ D S : Sto} {p n : Int} (hC : CI σ D S) : CtI yX6_tried cX6_tried 3 (some .int) 5 [mR 0, mI p, mI n] σ (fun z σ' => z = aTried D S p n ∧ Obs σ σ' ∧ CI σ' D S) := by
  refine ct_of rfl [some (mR 0), some (mI p), some (mI n)] (Nat.le_of_ble_eq_true rfl) rfl (fun hσ => ?_)
  show Wp cX6_tried RX6 (some .int) 5 0 [some (mR 0), some (mI p), some (mI n)] [] _ _
  obtain ⟨n1, n2, n3, n4, n5, n6, n7⟩ := hC.n
  have n5p := n5 p
  refine wp_aload_n (pc := 0) dX6_tried_0 rfl rfl ?_
  refine wp_iload_n (pc := 1) dX6_tried_1 rfl rfl ?_
  refine wp_cvI1 (pc := 2) dX6_tried_2 mv_X6_161 c_isPar (Nat.le_of_ble_eq_true rfl) rfl (Nat.le_of_ble_eq_true rfl) (fun z_2 σ_2 h_2 => ?_)
  obtain ⟨zz_2, e_2⟩ := h_2; have e2_2 := e_2.symm; subst e2_2; have y_2 : (z_2 = 1 ∧ 0 ≤ p ∧ p < σ 14 0) ∨ (z_2 = 0 ∧ ¬ (0 ≤ p ∧ p < σ 14 0)) := by split at zz_2 <;> omega
  refine wp_if_eq (pc := 5) 15 dX6_tried_5 (by decide) (fun c_5 => ?_) (fun c_5 => ?_)
  · refine wp_iconst (pc := 15) dX6_tried_15 (by decide) ?_
    refine wp_ireturn (pc := 16) dX6_tried_16 rfl ?_
    first
      | exact ⟨_, rfl, by unfold aTried; rw [if_pos (by omega)], Obs.rf, hC⟩
      | exact ⟨_, rfl, by unfold aTried; rw [if_neg (by omega), if_pos (by omega)], Obs.rf, hC⟩
      | exact ⟨_, rfl, by unfold aTried; rw [if_neg (by omega), if_neg (by omega)]; exact l34.1, hx.1, hx.2⟩
  · refine wp_iload_n (pc := 8) dX6_tried_8 rfl rfl ?_
    refine wp_csI1 (pc := 9) dX6_tried_9 ms_X6_249 c_isDrop (Nat.le_of_ble_eq_true rfl) (Nat.le_of_ble_eq_true rfl) (fun z_9 σ_9 h_9 => ?_)
    obtain ⟨zz_9, e_9⟩ := h_9; have e2_9 := e_9.symm; subst e2_9; have y_9 : (z_9 = 1 ∧ 2 ≤ n ∧ n ≤ 5) ∨ (z_9 = 0 ∧ ¬ (2 ≤ n ∧ n ≤ 5)) := by split at zz_9 <;> omega
    refine wp_if_ne (pc := 12) 17 dX6_tried_12 (by decide) (fun c_12 => ?_) (fun c_12 => ?_)
    · refine wp_aload_n (pc := 17) dX6_tried_17 rfl rfl ?_
      refine wp_getR (pc := 18) (q := 14) dX6_tried_18 fl_X6_23 rfl ?_
      refine wp_iload_n (pc := 21) dX6_tried_21 rfl rfl ?_
      refine wp_cvI1 (pc := 22) dX6_tried_22 mv_X6_215 (c_hasShape (by omega)) (Nat.le_of_ble_eq_true rfl) rfl (Nat.le_of_ble_eq_true rfl) (fun z_22 σ_22 h_22 => ?_)
      obtain ⟨zz_22, e_22⟩ := h_22; have e2_22 := e_22.symm; subst e2_22; have y_22 : (z_22 = 0 ∧ σ 17 p < 0) ∨ (z_22 = 1 ∧ ¬ σ 17 p < 0) := by split at zz_22 <;> omega
      refine wp_if_ne (pc := 25) 31 dX6_tried_25 (by decide) (fun c_25 => ?_) (fun c_25 => ?_)
      · refine wp_aload_n (pc := 31) dX6_tried_31 rfl rfl ?_
        refine wp_iload_n (pc := 32) dX6_tried_32 rfl rfl ?_
        refine wp_iload_n (pc := 33) dX6_tried_33 rfl rfl ?_
        refine wp_cvV2 (pc := 34) dX6_tried_34 mv_X6_252 (c_layTrial hC.bi (by omega) (by omega) (by omega)) (Nat.le_of_ble_eq_true rfl) rfl (Nat.le_of_ble_eq_true rfl) (fun σ_34 h_34 => ?_)
        obtain ⟨f34, l34⟩ := h_34
        have hx := hC.drw f34 (by decide)
        refine wp_aload_n (pc := 37) dX6_tried_37 rfl rfl ?_
        refine wp_getR (pc := 38) (q := 60) dX6_tried_38 fl_X6_67 rfl ?_
        refine wp_getI (pc := 41) 3 dX6_tried_41 fl_X6_126 rfl rfl ?_
        refine wp_ireturn (pc := 44) dX6_tried_44 rfl ?_
        first
          | exact ⟨_, rfl, by unfold aTried; rw [if_pos (by omega)], Obs.rf, hC⟩
          | exact ⟨_, rfl, by unfold aTried; rw [if_neg (by omega), if_pos (by omega)], Obs.rf, hC⟩
          | exact ⟨_, rfl, by unfold aTried; rw [if_neg (by omega), if_neg (by omega)]; exact l34.1, hx.1, hx.2⟩
      · refine wp_bipush (pc := 28) dX6_tried_28 (by decide) (by decide) ?_
        refine wp_ireturn (pc := 30) dX6_tried_30 rfl ?_
        first
          | exact ⟨_, rfl, by unfold aTried; rw [if_pos (by omega)], Obs.rf, hC⟩
          | exact ⟨_, rfl, by unfold aTried; rw [if_neg (by omega), if_pos (by omega)], Obs.rf, hC⟩
          | exact ⟨_, rfl, by unfold aTried; rw [if_neg (by omega), if_neg (by omega)]; exact l34.1, hx.1, hx.2⟩
    · refine wp_iconst (pc := 15) dX6_tried_15 (by decide) ?_
      refine wp_ireturn (pc := 16) dX6_tried_16 rfl ?_
      first
        | exact ⟨_, rfl, by unfold aTried; rw [if_pos (by omega)], Obs.rf, hC⟩
        | exact ⟨_, rfl, by unfold aTried; rw [if_neg (by omega), if_pos (by omega)], Obs.rf, hC⟩
        | exact ⟨_, rfl, by unfold aTried; rw [if_neg (by omega), if_neg (by omega)]; exact l34.1, hx.1, hx.2⟩
