set_option maxHeartbeats 4000000 in
set_option maxRecDepth 100000 in
theorem fitN_ok {D S : Sto} (h : OKD D S) : ∀ k : Nat, (k : Int) ≤ D 0 0 → OKD (fitN D S k).1 S ∧ tot (fitN D S k).1 = tot D ∧ (∀ r, r ≠ 3 → (fitN D S k).1 r = D r) ∧ 0 ≤ (fitN D S k).2 ∧ (fitN D S k).2 ≤ k := by
  intro k
  induction k with
  | zero => intro _; exact ⟨h, rfl, fun _ _ => rfl, Int.le_refl _, Int.le_refl _⟩
  | succ k ih =>
    intro hk
    obtain ⟨h1, h2, h3, h4, h5⟩ := ih (by omega)
    show OKD (ite _ _ _ : Sto × Int).1 S ∧ tot (ite _ _ _ : Sto × Int).1 = tot D ∧ (∀ r, r ≠ 3 → (ite _ _ _ : Sto × Int).1 r = D r) ∧ 0 ≤ (ite _ _ _ : Sto × Int).2 ∧ (ite _ _ _ : Sto × Int).2 ≤ _
    by_cases hc : (fitN D S k).1 2 (k : Int) < 0
    · rw [if_pos hc]
      exact ⟨h1, h2, h3, h4, by omega⟩
    · rw [if_neg hc]
      have hb := bstN_bd (fitN D S k).1 S k 3
      have e : ∀ r, r ≠ 3 → setD (fitN D S k).1 (k : Int) (bstN (fitN D S k).1 S (k : Int) 3) r = (fitN D S k).1 r := fun r hr => by
        funext i; show ite _ _ _ = _; rw [if_neg (fun q => hr q.1)]
      refine ⟨setD_ok h1 (fun _ _ => by omega) (by omega), ?_, fun r hr => (e r hr).trans (h3 r hr), ?_, ?_⟩
      · rw [← h2]; unfold tot; rw [e 1 (by decide), e 0 (by decide)]
      · show 0 ≤ (fitN D S k).2 + _
        split <;> omega
      · show (fitN D S k).2 + _ ≤ _
        split <;> omega
set_option maxHeartbeats 4000000 in
set_option maxRecDepth 100000 in
theorem c_fit {σ D S : Sto} (hC : CI σ D S) : CtI yX6_fit cX6_fit 4 (some .int) 6 [mR 0] σ (fun z σ' => z = (fitN D S (D 0 0).toNat).2 ∧ CI σ' (fitN D S (D 0 0).toNat).1 S ∧ Kp [14, 15, 16, 17, 18, 19] σ σ') := by
  refine ct_of rfl [some (mR 0), none, none, none] (Nat.le_of_ble_eq_true rfl) rfl (fun hσ => ?_)
  show Wp cX6_fit RX6 (some .int) 6 0 [some (mR 0), none, none, none] [] _ _
  obtain ⟨n1, n2, n3, n4, n5, n6, n7⟩ := hC.n
  have lp : ∀ k : Int, k ≤ D 0 0 → 0 ≤ k → ∀ τ : Sto, ∀ l3, ∀ z, z = (fitN D S k.toNat).2 → Kp [14, 15, 16, 17, 18, 19] σ τ → BI τ (fitN D S k.toNat).1 S → Wp cX6_fit RX6 (some .int) 6 4 [some (mR 0), some (mI z), some (mI k), l3] [] τ (fun v σ' => ∃ z, v = some (mI z) ∧ (fun z σ' => z = (fitN D S (D 0 0).toNat).2 ∧ CI σ' (fitN D S (D 0 0).toNat).1 S ∧ Kp [14, 15, 16, 17, 18, 19] σ σ') z σ') := by
    refine up_ind (D 0 0) (fun k hk ih k0 τ l3 z hz hK hB => ?_)
    obtain ⟨f1, f2, f3, f4, f5⟩ := fitN_ok hC.2.2.1 k.toNat (by omega)
    have ek : ((k.toNat : Nat) : Int) = k := by omega
    obtain ⟨b1, b2, b3, b4, b5⟩ := hB
    have hB : BI τ (fitN D S k.toNat).1 S := ⟨b1, b2, b3, b4, b5⟩
    have t0 : τ 14 0 = D 0 0 := by
      have : DC τ 0 0 = D 0 0 := by rw [b1, f3 0 (by decide)]
      exact this
    have t2 : τ 17 k = (fitN D S k.toNat).1 2 k := by rw [← b1]; rfl
    have t3 : τ 18 k = (fitN D S k.toNat).1 3 k := by rw [← b1]; rfl
    have hb := bstN_bd (fitN D S k.toNat).1 S k 3
    have hs : fitN D S (k + 1).toNat = if (fitN D S k.toNat).1 2 k < 0 then fitN D S k.toNat else (setD (fitN D S k.toNat).1 k (bstN (fitN D S k.toNat).1 S k 3), (fitN D S k.toNat).2 + if bstN (fitN D S k.toNat).1 S k 3 = (fitN D S k.toNat).1 3 k then 0 else 1) := by
      rw [show (k + 1).toNat = k.toNat + 1 by omega]
      show ite _ _ _ = _
      rw [ek]
    refine wp_iload_n (pc := 4) dX6_fit_4 rfl rfl ?_
    refine wp_aload_n (pc := 5) dX6_fit_5 rfl rfl ?_
    refine wp_getR (pc := 6) (q := 14) dX6_fit_6 fl_X6_23 rfl ?_
    refine wp_getI (pc := 9) 0 dX6_fit_9 fl_X6_115 rfl rfl ?_
    refine wp_icmp_ge (pc := 12) 64 dX6_fit_12 (by decide) (fun c_12 => ?_) (fun c_12 => ?_)
    · refine wp_aload_n (pc := 64) dX6_fit_64 rfl rfl ?_
      refine wp_iconst (pc := 65) dX6_fit_65 (by decide) ?_
      refine wp_putZ (pc := 66) 11 dX6_fit_66 fl_X6_70 ⟨rfl, rfl⟩ rfl rfl (by omega) ?_
      refine wp_iload_n (pc := 69) dX6_fit_69 rfl rfl ?_
      refine wp_ireturn (pc := 70) dX6_fit_70 rfl ?_
      have ekk : k.toNat = (D 0 0).toNat := by omega
      rw [ekk] at *
      refine ⟨_, rfl, hz, hC.upd hK.st (by rw [upd2_eq]; decide) (by rw [DC_st]; exact b1) b3 (by rw [upd2_r (by decide)]; exact b5), hK.st⟩
    · refine wp_aload_n (pc := 15) dX6_fit_15 rfl rfl ?_
      refine wp_getR (pc := 16) (q := 14) dX6_fit_16 fl_X6_23 rfl ?_
      refine wp_iload_n (pc := 19) dX6_fit_19 rfl rfl ?_
      refine wp_cvI1 (pc := 20) dX6_fit_20 mv_X6_215 (c_hasShape (by omega)) (Nat.le_of_ble_eq_true rfl) rfl (Nat.le_of_ble_eq_true rfl) (fun z_20 σ_20 h_20 => ?_)
      obtain ⟨zz_20, e_20⟩ := h_20; have e2_20 := e_20.symm; subst e2_20; have y_20 : (z_20 = 0 ∧ τ 17 k < 0) ∨ (z_20 = 1 ∧ ¬ τ 17 k < 0) := by split at zz_20 <;> omega
      refine wp_if_eq (pc := 23) 58 dX6_fit_23 (by decide) (fun c_23 => ?_) (fun c_23 => ?_)
      · refine wp_iinc (pc := 58) dX6_fit_58 rfl rfl (by omega) ?_
        refine wp_goto (pc := 61) 4 dX6_fit_61 (by decide) ?_
        first
          | (have hsA : fitN D S (k + 1).toNat = fitN D S k.toNat := by rw [hs, if_pos (by omega)]
             have ih2 := ih (by omega) (by omega) τ _ z (by rw [hsA]; exact hz) hK (by rw [hsA]; exact hB)
             exact ih2)
          | (have hsB : fitN D S (k + 1).toNat = (setD (fitN D S k.toNat).1 k (bstN (fitN D S k.toNat).1 S k 3), (fitN D S k.toNat).2 + if bstN (fitN D S k.toNat).1 S k 3 = (fitN D S k.toNat).1 3 k then 0 else 1) := by rw [hs, if_neg (by omega)]
             have e3 : bstN (fitN D S k.toNat).1 S k 3 = (fitN D S k.toNat).1 3 k := by rw [e18] at *; omega
             have e4 : setD (fitN D S k.toNat).1 k (bstN (fitN D S k.toNat).1 S k 3) = (fitN D S k.toNat).1 := by
               funext r i
               show ite _ _ _ = _
               by_cases hr : r = 3 ∧ i = k
               · rw [if_pos hr, e3, hr.1, hr.2]
               · rw [if_neg hr]
             have ih2 := ih (by omega) (by omega) σ_28 _ z (by rw [hsB]; show _ = _ + ite _ _ _; rw [if_pos e3]; omega) hK2 (by rw [hsB]; show BI _ (setD _ _ _) S; rw [e4]; exact B28)
             exact ih2)
          | (have hsB : fitN D S (k + 1).toNat = (setD (fitN D S k.toNat).1 k (bstN (fitN D S k.toNat).1 S k 3), (fitN D S k.toNat).2 + if bstN (fitN D S k.toNat).1 S k 3 = (fitN D S k.toNat).1 3 k then 0 else 1) := by rw [hs, if_neg (by omega)]
             have e3 : ¬ bstN (fitN D S k.toNat).1 S k 3 = (fitN D S k.toNat).1 3 k := by rw [e18] at *; omega
             have o2 : OKD (setD (fitN D S k.toNat).1 k (bstN (fitN D S k.toNat).1 S k 3)) S := setD_ok f1 (fun _ _ => by omega) (by omega)
             have et : tot (setD (fitN D S k.toNat).1 k (bstN (fitN D S k.toNat).1 S k 3)) = tot (fitN D S k.toNat).1 := rfl
             have d2 : SC (upd2 σ_28 18 k (bstN (fitN D S k.toNat).1 S k 3)) = S := by
               rw [← B28.2.1]
               funext kk i
               simp only [SC, upd2_r (show (2 : Nat) ≠ 18 by decide), upd2_r (show (3 : Nat) ≠ 18 by decide), upd2_r (show (4 : Nat) ≠ 18 by decide), upd2_r (show (5 : Nat) ≠ 18 by decide), upd2_r (show (6 : Nat) ≠ 18 by decide), upd2_r (show (7 : Nat) ≠ 18 by decide)]
             have d1 : DC (upd2 σ_28 18 k (bstN (fitN D S k.toNat).1 S k 3)) = setD (fitN D S k.toNat).1 k (bstN (fitN D S k.toNat).1 S k 3) := by rw [DC_set, B28.1]
             have B29 : BI (upd2 σ_28 18 k (bstN (fitN D S k.toNat).1 S k 3)) (setD (fitN D S k.toNat).1 k (bstN (fitN D S k.toNat).1 S k 3)) S := ⟨d1, d2, o2, b4, by rw [upd2_r (by decide), et]; exact t28⟩
             have ih2 := ih (by omega) (by omega) _ _ (z + 1) (by rw [hsB]; show _ = _ + ite _ _ _; rw [if_neg e3]; omega) (hK2.up (by decide)) (by rw [hsB]; exact B29)
             exact ih2)
      · refine wp_aload_n (pc := 26) dX6_fit_26 rfl rfl ?_
        refine wp_iload_n (pc := 27) dX6_fit_27 rfl rfl ?_
        refine wp_cvI1 (pc := 28) dX6_fit_28 mv_X6_246 (c_bestDrop hB (by omega) (by omega)) (Nat.le_of_ble_eq_true rfl) rfl (Nat.le_of_ble_eq_true rfl) (fun z_28 σ_28 h_28 => ?_)
        obtain ⟨rfl, f28⟩ := h_28
        have e18 : σ_28 18 = τ 18 := f28 18 (by decide)
        have hK2 : Kp [14, 15, 16, 17, 18, 19] σ σ_28 := fun r j q1 q2 q3 => by rw [f28 r (fun q => q2 ((by decide : ∀ r ∈ [39, 40, 41, 42, 43, 44, 45, 46, 47, 48, 60, 61, 62, 63, 64, 65, 66, 67, 68, 69, 70], 38 < r ∧ r < 71) r q))]; exact hK r j q1 q2 q3
        have hd28 := DC_frm f28 (by decide)
        have t28 : σ_28 14 1 = tot (fitN D S k.toNat).1 := by rw [f28 14 (by decide)]; exact b5
        have B28 : BI σ_28 (fitN D S k.toNat).1 S := ⟨hd28.1.trans b1, hd28.2.trans b2, b3, b4, t28⟩
        refine wp_istore_n (pc := 31) dX6_fit_31 rfl (Nat.le_of_ble_eq_true rfl) rfl ?_
        refine wp_iload_n (pc := 32) dX6_fit_32 rfl rfl ?_
        refine wp_aload_n (pc := 33) dX6_fit_33 rfl rfl ?_
        refine wp_getR (pc := 34) (q := 14) dX6_fit_34 fl_X6_23 rfl ?_
        refine wp_getR (pc := 37) (q := 18) dX6_fit_37 fl_X6_170 rfl ?_
        refine wp_iload_n (pc := 40) dX6_fit_40 rfl rfl ?_
        refine wp_iald (pc := 41) 8 dX6_fit_41 rfl (by omega) ?_
        refine wp_icmp_eq (pc := 42) 58 dX6_fit_42 (by decide) (fun c_42 => ?_) (fun c_42 => ?_)
        · refine wp_iinc (pc := 58) dX6_fit_58 rfl rfl (by omega) ?_
          refine wp_goto (pc := 61) 4 dX6_fit_61 (by decide) ?_
          first
            | (have hsA : fitN D S (k + 1).toNat = fitN D S k.toNat := by rw [hs, if_pos (by omega)]
               have ih2 := ih (by omega) (by omega) τ _ z (by rw [hsA]; exact hz) hK (by rw [hsA]; exact hB)
               exact ih2)
            | (have hsB : fitN D S (k + 1).toNat = (setD (fitN D S k.toNat).1 k (bstN (fitN D S k.toNat).1 S k 3), (fitN D S k.toNat).2 + if bstN (fitN D S k.toNat).1 S k 3 = (fitN D S k.toNat).1 3 k then 0 else 1) := by rw [hs, if_neg (by omega)]
               have e3 : bstN (fitN D S k.toNat).1 S k 3 = (fitN D S k.toNat).1 3 k := by rw [e18] at *; omega
               have e4 : setD (fitN D S k.toNat).1 k (bstN (fitN D S k.toNat).1 S k 3) = (fitN D S k.toNat).1 := by
                 funext r i
                 show ite _ _ _ = _
                 by_cases hr : r = 3 ∧ i = k
                 · rw [if_pos hr, e3, hr.1, hr.2]
                 · rw [if_neg hr]
               have ih2 := ih (by omega) (by omega) σ_28 _ z (by rw [hsB]; show _ = _ + ite _ _ _; rw [if_pos e3]; omega) hK2 (by rw [hsB]; show BI _ (setD _ _ _) S; rw [e4]; exact B28)
               exact ih2)
            | (have hsB : fitN D S (k + 1).toNat = (setD (fitN D S k.toNat).1 k (bstN (fitN D S k.toNat).1 S k 3), (fitN D S k.toNat).2 + if bstN (fitN D S k.toNat).1 S k 3 = (fitN D S k.toNat).1 3 k then 0 else 1) := by rw [hs, if_neg (by omega)]
               have e3 : ¬ bstN (fitN D S k.toNat).1 S k 3 = (fitN D S k.toNat).1 3 k := by rw [e18] at *; omega
               have o2 : OKD (setD (fitN D S k.toNat).1 k (bstN (fitN D S k.toNat).1 S k 3)) S := setD_ok f1 (fun _ _ => by omega) (by omega)
               have et : tot (setD (fitN D S k.toNat).1 k (bstN (fitN D S k.toNat).1 S k 3)) = tot (fitN D S k.toNat).1 := rfl
               have d2 : SC (upd2 σ_28 18 k (bstN (fitN D S k.toNat).1 S k 3)) = S := by
                 rw [← B28.2.1]
                 funext kk i
                 simp only [SC, upd2_r (show (2 : Nat) ≠ 18 by decide), upd2_r (show (3 : Nat) ≠ 18 by decide), upd2_r (show (4 : Nat) ≠ 18 by decide), upd2_r (show (5 : Nat) ≠ 18 by decide), upd2_r (show (6 : Nat) ≠ 18 by decide), upd2_r (show (7 : Nat) ≠ 18 by decide)]
               have d1 : DC (upd2 σ_28 18 k (bstN (fitN D S k.toNat).1 S k 3)) = setD (fitN D S k.toNat).1 k (bstN (fitN D S k.toNat).1 S k 3) := by rw [DC_set, B28.1]
               have B29 : BI (upd2 σ_28 18 k (bstN (fitN D S k.toNat).1 S k 3)) (setD (fitN D S k.toNat).1 k (bstN (fitN D S k.toNat).1 S k 3)) S := ⟨d1, d2, o2, b4, by rw [upd2_r (by decide), et]; exact t28⟩
               have ih2 := ih (by omega) (by omega) _ _ (z + 1) (by rw [hsB]; show _ = _ + ite _ _ _; rw [if_neg e3]; omega) (hK2.up (by decide)) (by rw [hsB]; exact B29)
               exact ih2)
        · refine wp_aload_n (pc := 45) dX6_fit_45 rfl rfl ?_
          refine wp_getR (pc := 46) (q := 14) dX6_fit_46 fl_X6_23 rfl ?_
          refine wp_getR (pc := 49) (q := 18) dX6_fit_49 fl_X6_170 rfl ?_
          refine wp_iload_n (pc := 52) dX6_fit_52 rfl rfl ?_
          refine wp_iload_n (pc := 53) dX6_fit_53 rfl rfl ?_
          refine wp_iast (pc := 54) 8 dX6_fit_54 rfl (by omega) ?_
          refine wp_iinc (pc := 55) dX6_fit_55 rfl rfl (by omega) ?_
          refine wp_iinc (pc := 58) dX6_fit_58 rfl rfl (by omega) ?_
          refine wp_goto (pc := 61) 4 dX6_fit_61 (by decide) ?_
          first
            | (have hsA : fitN D S (k + 1).toNat = fitN D S k.toNat := by rw [hs, if_pos (by omega)]
               have ih2 := ih (by omega) (by omega) τ _ z (by rw [hsA]; exact hz) hK (by rw [hsA]; exact hB)
               exact ih2)
            | (have hsB : fitN D S (k + 1).toNat = (setD (fitN D S k.toNat).1 k (bstN (fitN D S k.toNat).1 S k 3), (fitN D S k.toNat).2 + if bstN (fitN D S k.toNat).1 S k 3 = (fitN D S k.toNat).1 3 k then 0 else 1) := by rw [hs, if_neg (by omega)]
               have e3 : bstN (fitN D S k.toNat).1 S k 3 = (fitN D S k.toNat).1 3 k := by rw [e18] at *; omega
               have e4 : setD (fitN D S k.toNat).1 k (bstN (fitN D S k.toNat).1 S k 3) = (fitN D S k.toNat).1 := by
                 funext r i
                 show ite _ _ _ = _
                 by_cases hr : r = 3 ∧ i = k
                 · rw [if_pos hr, e3, hr.1, hr.2]
                 · rw [if_neg hr]
               have ih2 := ih (by omega) (by omega) σ_28 _ z (by rw [hsB]; show _ = _ + ite _ _ _; rw [if_pos e3]; omega) hK2 (by rw [hsB]; show BI _ (setD _ _ _) S; rw [e4]; exact B28)
               exact ih2)
            | (have hsB : fitN D S (k + 1).toNat = (setD (fitN D S k.toNat).1 k (bstN (fitN D S k.toNat).1 S k 3), (fitN D S k.toNat).2 + if bstN (fitN D S k.toNat).1 S k 3 = (fitN D S k.toNat).1 3 k then 0 else 1) := by rw [hs, if_neg (by omega)]
               have e3 : ¬ bstN (fitN D S k.toNat).1 S k 3 = (fitN D S k.toNat).1 3 k := by rw [e18] at *; omega
               have o2 : OKD (setD (fitN D S k.toNat).1 k (bstN (fitN D S k.toNat).1 S k 3)) S := setD_ok f1 (fun _ _ => by omega) (by omega)
               have et : tot (setD (fitN D S k.toNat).1 k (bstN (fitN D S k.toNat).1 S k 3)) = tot (fitN D S k.toNat).1 := rfl
               have d2 : SC (upd2 σ_28 18 k (bstN (fitN D S k.toNat).1 S k 3)) = S := by
                 rw [← B28.2.1]
                 funext kk i
                 simp only [SC, upd2_r (show (2 : Nat) ≠ 18 by decide), upd2_r (show (3 : Nat) ≠ 18 by decide), upd2_r (show (4 : Nat) ≠ 18 by decide), upd2_r (show (5 : Nat) ≠ 18 by decide), upd2_r (show (6 : Nat) ≠ 18 by decide), upd2_r (show (7 : Nat) ≠ 18 by decide)]
               have d1 : DC (upd2 σ_28 18 k (bstN (fitN D S k.toNat).1 S k 3)) = setD (fitN D S k.toNat).1 k (bstN (fitN D S k.toNat).1 S k 3) := by rw [DC_set, B28.1]
               have B29 : BI (upd2 σ_28 18 k (bstN (fitN D S k.toNat).1 S k 3)) (setD (fitN D S k.toNat).1 k (bstN (fitN D S k.toNat).1 S k 3)) S := ⟨d1, d2, o2, b4, by rw [upd2_r (by decide), et]; exact t28⟩
               have ih2 := ih (by omega) (by omega) _ _ (z + 1) (by rw [hsB]; show _ = _ + ite _ _ _; rw [if_neg e3]; omega) (hK2.up (by decide)) (by rw [hsB]; exact B29)
               exact ih2)
  refine wp_iconst (pc := 0) dX6_fit_0 (by decide) ?_
  refine wp_istore_n (pc := 1) dX6_fit_1 rfl (Nat.le_of_ble_eq_true rfl) rfl ?_
  refine wp_iconst (pc := 2) dX6_fit_2 (by decide) ?_
  refine wp_istore_n (pc := 3) dX6_fit_3 rfl (Nat.le_of_ble_eq_true rfl) rfl ?_
  exact lp 0 (by omega) (by omega) σ none 0 rfl Kp.rf hC.bi
