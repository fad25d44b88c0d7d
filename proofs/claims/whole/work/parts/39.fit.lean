set_option maxHeartbeats 4000000 in
set_option maxRecDepth 100000 in
theorem fit_step {E S : Sto} (h : OKD E S) {k bb : Int} (hb : 2 ≤ bb ∧ bb ≤ 5) (hc : ¬ E 2 k < 0) : OKD (setD E k bb) S ∧ tot (setD E k bb) = tot E ∧ ∀ r, r ≠ 3 → setD E k bb r = E r := by
  have e : ∀ r, r ≠ 3 → setD E k bb r = E r := fun r hr => by
    funext i; show ite _ _ _ = _; rw [if_neg (fun q => hr q.1)]
  exact ⟨setD_ok h (fun _ _ => by omega) hb, by unfold tot; rw [e 1 (by decide), e 0 (by decide)], e⟩
set_option maxHeartbeats 4000000 in
set_option maxRecDepth 100000 in
theorem fitN_s (D S : Sto) (k : Nat) : fitN D S (k + 1) = if (fitN D S k).1 2 (k : Int) < 0 then fitN D S k else (setD (fitN D S k).1 (k : Int) (bstN (fitN D S k).1 S (k : Int) 3), (fitN D S k).2 + if bstN (fitN D S k).1 S (k : Int) 3 = (fitN D S k).1 3 (k : Int) then 0 else 1) := by
  rw [fitN]
set_option maxHeartbeats 4000000 in
set_option maxRecDepth 100000 in
theorem bst_bd (D S : Sto) (p : Int) : 2 ≤ bstN D S p 3 ∧ bstN D S p 3 ≤ 5 := by
  have h := bstN_bd D S p 3
  generalize bstN D S p 3 = x at *
  omega
set_option maxHeartbeats 4000000 in
set_option maxRecDepth 100000 in
theorem fit_two {E S F : Sto} {c c' : Int} {k bb : Int} (hb : 2 ≤ bb ∧ bb ≤ 5) (h1 : OKD E S) (hs : (F, c') = if E 2 k < 0 then (E, c) else (setD E k bb, c + if bb = E 3 k then 0 else 1)) : OKD F S ∧ tot F = tot E ∧ (∀ r, r ≠ 3 → F r = E r) ∧ c ≤ c' ∧ c' ≤ c + 1 := by
  by_cases hc : E 2 k < 0
  · rw [if_pos hc] at hs
    obtain ⟨rfl, rfl⟩ := Prod.mk.inj hs
    exact ⟨h1, rfl, fun _ _ => rfl, by omega, by omega⟩
  · rw [if_neg hc] at hs
    obtain ⟨rfl, e⟩ := Prod.mk.inj hs
    obtain ⟨a, b, d⟩ := fit_step h1 hb hc
    refine ⟨a, b, d, ?_, ?_⟩ <;> (rw [e]; split <;> omega)
set_option maxHeartbeats 4000000 in
set_option maxRecDepth 100000 in
theorem fitN_ok {D S : Sto} (h : OKD D S) (k : Nat) (hk : (k : Int) ≤ D 0 0) : OKD (fitN D S k).1 S ∧ tot (fitN D S k).1 = tot D ∧ (∀ r, r ≠ 3 → (fitN D S k).1 r = D r) ∧ 0 ≤ (fitN D S k).2 ∧ (fitN D S k).2 ≤ k := by
  induction k with
  | zero => exact ⟨h, rfl, fun _ _ => rfl, Int.le_refl _, Int.le_refl _⟩
  | succ k ih =>
    obtain ⟨h1, h2, h3, h4, h5⟩ := ih (by omega)
    have hs := fitN_s D S k
    have hb := bst_bd (fitN D S k).1 S k
    generalize fitN D S (k + 1) = G at *
    generalize fitN D S k = E at *
    generalize bstN E.1 S k 3 = bb at *
    obtain ⟨a1, a2, a3, a4, a5⟩ := fit_two (F := G.1) (c' := G.2) (c := E.2) hb h1 hs
    exact ⟨a1, a2.trans h2, fun r hr => (a3 r hr).trans (h3 r hr), by omega, by omega⟩
set_option maxHeartbeats 4000000 in
set_option maxRecDepth 100000 in
theorem c_fit {σ D S : Sto} (hC : CI σ D S) : CtI yX6_fit cX6_fit 4 (some .int) 6 [mR 0] σ (fun z σ' => z = (fitN D S (D 0 0).toNat).2 ∧ CI σ' (fitN D S (D 0 0).toNat).1 S ∧ Kp [14, 15, 16, 17, 18, 19] σ σ') := by
  refine ct_of rfl [some (mR 0), none, none, none] (Nat.le_of_ble_eq_true rfl) rfl (fun hσ => ?_)
  show Wp cX6_fit RX6 (some .int) 6 0 [some (mR 0), none, none, none] [] _ _
  obtain ⟨n1, n2, n3, n4, n5, n6, n7⟩ := hC.n
  have lp : ∀ k : Int, k ≤ D 0 0 → 0 ≤ k → ∀ τ : Sto, ∀ l3, ∀ z, z = (fitN D S k.toNat).2 → Kp [14, 15, 16, 17, 18, 19] σ τ → BI τ (fitN D S k.toNat).1 S → Wp cX6_fit RX6 (some .int) 6 4 [some (mR 0), some (mI z), some (mI k), l3] [] τ (fun v σ' => ∃ z, v = some (mI z) ∧ (fun z σ' => z = (fitN D S (D 0 0).toNat).2 ∧ CI σ' (fitN D S (D 0 0).toNat).1 S ∧ Kp [14, 15, 16, 17, 18, 19] σ σ') z σ') := by
    refine up_ind (D 0 0) (fun k hk ih k0 τ l3 z hz hK hB => ?_)
    obtain ⟨f1, f2, f3, f4, f5⟩ := fitN_ok hC.2.2.1 k.toNat (by omega)
    have ek : ((k.toNat : Nat) : Int) = k := by omega
    obtain ⟨b1, b2, b3, b4, b5⟩ := hB
    have hB : BI τ (fitN D S k.toNat).1 S := ⟨b1, b2, b3, b4, b5⟩
    have t0 : τ 14 0 = D 0 0 := by
      have : DC τ 0 0 = D 0 0 := by rw [b1, f3 0 (by decide)]
      exact this
    have t2 : τ 17 k = (fitN D S k.toNat).1 2 k := by rw [← b1]; rfl
    have t3 : τ 18 k = (fitN D S k.toNat).1 3 k := by rw [← b1]; rfl
    have hb := bst_bd (fitN D S k.toNat).1 S k
    have hs : fitN D S (k + 1).toNat = if (fitN D S k.toNat).1 2 k < 0 then fitN D S k.toNat else (setD (fitN D S k.toNat).1 k (bstN (fitN D S k.toNat).1 S k 3), (fitN D S k.toNat).2 + if bstN (fitN D S k.toNat).1 S k 3 = (fitN D S k.toNat).1 3 k then 0 else 1) := by
      have hs0 := fitN_s D S k.toNat
      rw [ek] at hs0
      rw [show (k + 1).toNat = k.toNat + 1 by omega]
      exact hs0
    generalize hE : (fitN D S k.toNat).1 = E at *
    generalize hc : (fitN D S k.toNat).2 = c at *
    generalize hbb : bstN E S k 3 = bb at *
    have ese : ∀ r, r ≠ 3 → setD E k bb r = E r := fun r hr => by
      funext i; show ite _ _ _ = _; rw [if_neg (fun q => hr q.1)]
    have est : tot (setD E k bb) = tot E := by unfold tot; rw [ese 1 (by decide), ese 0 (by decide)]
    have hA : E 2 k < 0 → k < D 0 0 → ∀ l3, Wp cX6_fit RX6 (some .int) 6 4 [some (mR 0), some (mI z), some (mI (k + 1)), l3] [] τ (fun v σ' => ∃ z, v = some (mI z) ∧ (fun z σ' => z = (fitN D S (D 0 0).toNat).2 ∧ CI σ' (fitN D S (D 0 0).toNat).1 S ∧ Kp [14, 15, 16, 17, 18, 19] σ σ') z σ') := fun h2 h1 l3 => by
      have hsA : fitN D S (k + 1).toNat = fitN D S k.toNat := by rw [hs, if_pos h2]
      exact ih h1 (by omega) τ l3 z (by rw [hsA, hc]; exact hz) hK (by rw [hsA, hE]; exact hB)
    have hB1 : ¬ E 2 k < 0 → k < D 0 0 → bb = E 3 k → ∀ υ : Sto, Kp [14, 15, 16, 17, 18, 19] σ υ → BI υ E S → ∀ l3, Wp cX6_fit RX6 (some .int) 6 4 [some (mR 0), some (mI z), some (mI (k + 1)), l3] [] υ (fun v σ' => ∃ z, v = some (mI z) ∧ (fun z σ' => z = (fitN D S (D 0 0).toNat).2 ∧ CI σ' (fitN D S (D 0 0).toNat).1 S ∧ Kp [14, 15, 16, 17, 18, 19] σ σ') z σ') := fun h2 h1 e3 υ hK2 hB2 l3 => by
      have e4 : setD E k bb = E := by
        funext r i
        show ite _ _ _ = _
        by_cases hr : r = 3 ∧ i = k
        · rw [if_pos hr, e3, hr.1, hr.2]
        · rw [if_neg hr]
      have hsB : fitN D S (k + 1).toNat = (E, c) := by rw [hs, if_neg h2, e4, if_pos e3, Int.add_zero]
      exact ih h1 (by omega) υ l3 z (by rw [hsB]; exact hz) hK2 (by rw [hsB]; exact hB2)
    have hB2 : ¬ E 2 k < 0 → k < D 0 0 → ¬ bb = E 3 k → ∀ υ : Sto, Kp [14, 15, 16, 17, 18, 19] σ υ → BI υ E S → ∀ l3, Wp cX6_fit RX6 (some .int) 6 4 [some (mR 0), some (mI (z + 1)), some (mI (k + 1)), l3] [] (upd2 υ 18 k bb) (fun v σ' => ∃ z, v = some (mI z) ∧ (fun z σ' => z = (fitN D S (D 0 0).toNat).2 ∧ CI σ' (fitN D S (D 0 0).toNat).1 S ∧ Kp [14, 15, 16, 17, 18, 19] σ σ') z σ') := fun h2 h1 e3 υ hK2 hB3 l3 => by
      have hsB : fitN D S (k + 1).toNat = (setD E k bb, c + 1) := by rw [hs, if_neg h2, if_neg e3]
      have o2 : OKD (setD E k bb) S := setD_ok f1 (fun _ _ => by omega) (by omega)
      have d2 : SC (upd2 υ 18 k bb) = S := by
        rw [← hB3.2.1]
        funext kk i
        simp only [SC, upd2_r (show (2 : Nat) ≠ 18 by decide), upd2_r (show (3 : Nat) ≠ 18 by decide), upd2_r (show (4 : Nat) ≠ 18 by decide), upd2_r (show (5 : Nat) ≠ 18 by decide), upd2_r (show (6 : Nat) ≠ 18 by decide), upd2_r (show (7 : Nat) ≠ 18 by decide)]
      have d1 : DC (upd2 υ 18 k bb) = setD E k bb := by rw [DC_set, hB3.1]
      have d3 : upd2 υ 18 k bb 14 1 = tot (setD E k bb) := by rw [upd2_r (by decide), est]; exact hB3.2.2.2.2
      exact ih h1 (by omega) _ l3 (z + 1) (by rw [hsB]; show z + 1 = c + 1; rw [hz]) (hK2.up (by decide)) (by rw [hsB]; exact ⟨d1, d2, o2, b4, d3⟩)
    refine wp_iload_n (pc := 4) dX6_fit_4 rfl rfl ?_
    refine wp_aload_n (pc := 5) dX6_fit_5 rfl rfl ?_
    refine wp_getR (pc := 6) (q := 14) dX6_fit_6 fl_X6_23 rfl ?_
    refine wp_getI (pc := 9) 0 dX6_fit_9 fl_X6_115 rfl rfl ?_
    refine wp_icmp_ge (pc := 12) 64 dX6_fit_12 (by decide) (fun c_12 => ?_) (fun c_12 => ?_)
    · refine wp_aload_n (pc := 64) dX6_fit_64 rfl rfl ?_
      refine wp_iconst (pc := 65) dX6_fit_65 (by decide) ?_
      refine wp_putZ (pc := 66) 11 dX6_fit_66 fl_X6_70 ⟨rfl, rfl⟩ rfl rfl (by omega) ?_
      refine wp_iload_n (pc := 69) dX6_fit_69 rfl rfl ?_
      refine wp_ireturn (pc := 70) dX6_fit_70 rfl ?_
      have ekk : k.toNat = (D 0 0).toNat := by omega
      rw [ekk] at hE hc
      refine ⟨_, rfl, by rw [hc]; exact hz, ?_, hK.st⟩
      rw [hE]
      exact hC.upd hK.st (by rw [upd2_eq]; decide) (by rw [DC_st]; exact b1) b3 (by rw [upd2_r (by decide)]; exact b5)
    · refine wp_aload_n (pc := 15) dX6_fit_15 rfl rfl ?_
      refine wp_getR (pc := 16) (q := 14) dX6_fit_16 fl_X6_23 rfl ?_
      refine wp_iload_n (pc := 19) dX6_fit_19 rfl rfl ?_
      refine wp_cvI1 (pc := 20) dX6_fit_20 mv_X6_215 (c_hasShape (by omega)) (Nat.le_of_ble_eq_true rfl) rfl (Nat.le_of_ble_eq_true rfl) (fun z_20 σ_20 h_20 => ?_)
      obtain ⟨zz_20, e_20⟩ := h_20; have e2_20 := e_20.symm; subst e2_20; have y_20 : (z_20 = 0 ∧ τ 17 k < 0) ∨ (z_20 = 1 ∧ ¬ τ 17 k < 0) := by split at zz_20 <;> omega
      refine wp_if_eq (pc := 23) 58 dX6_fit_23 (by decide) (fun c_23 => ?_) (fun c_23 => ?_)
      · refine wp_iinc (pc := 58) dX6_fit_58 rfl rfl (by omega) ?_
        refine wp_goto (pc := 61) 4 dX6_fit_61 (by decide) ?_
        first
          | exact hA (by omega) (by omega) _
          | exact hB1 (by omega) (by omega) (by rw [e18] at c_42; omega) _ hK2 B28 _
          | exact hB2 (by omega) (by omega) (by rw [e18] at c_42; omega) _ hK2 B28 _
      · refine wp_aload_n (pc := 26) dX6_fit_26 rfl rfl ?_
        refine wp_iload_n (pc := 27) dX6_fit_27 rfl rfl ?_
        refine wp_cvI1 (pc := 28) dX6_fit_28 mv_X6_246 (c_bestDrop hB (by omega) (by omega)) (Nat.le_of_ble_eq_true rfl) rfl (Nat.le_of_ble_eq_true rfl) (fun z_28 σ_28 h_28 => ?_)
        obtain ⟨zz_28, f28⟩ := h_28
        have eb : z_28 = bb := by rw [zz_28, hbb]
        have e2b := eb.symm; subst e2b
        have e18 : σ_28 18 = τ 18 := f28 18 (by decide)
        have hK2 : Kp [14, 15, 16, 17, 18, 19] σ σ_28 := fun r j q1 q2 q3 => by rw [f28 r (fun q => q2 ((by decide : ∀ r ∈ [39, 40, 41, 42, 43, 44, 45, 46, 47, 48, 60, 61, 62, 63, 64, 65, 66, 67, 68, 69, 70], 38 < r ∧ r < 71) r q))]; exact hK r j q1 q2 q3
        have hd28 := DC_frm f28 (by decide)
        have t28 : σ_28 14 1 = tot E := by rw [f28 14 (by decide)]; exact b5
        have B28 : BI σ_28 E S := ⟨hd28.1.trans b1, hd28.2.trans b2, b3, b4, t28⟩
        refine wp_istore_n (pc := 31) dX6_fit_31 rfl (Nat.le_of_ble_eq_true rfl) rfl ?_
        refine wp_iload_n (pc := 32) dX6_fit_32 rfl rfl ?_
        refine wp_aload_n (pc := 33) dX6_fit_33 rfl rfl ?_
        refine wp_getR (pc := 34) (q := 14) dX6_fit_34 fl_X6_23 rfl ?_
        refine wp_getR (pc := 37) (q := 18) dX6_fit_37 fl_X6_170 rfl ?_
        refine wp_iload_n (pc := 40) dX6_fit_40 rfl rfl ?_
        refine wp_iald (pc := 41) 8 dX6_fit_41 rfl (by omega) ?_
        refine wp_icmp_eq (pc := 42) 58 dX6_fit_42 (by decide) (fun c_42 => ?_) (fun c_42 => ?_)
        · refine wp_iinc (pc := 58) dX6_fit_58 rfl rfl (by omega) ?_
          refine wp_goto (pc := 61) 4 dX6_fit_61 (by decide) ?_
          first
            | exact hA (by omega) (by omega) _
            | exact hB1 (by omega) (by omega) (by rw [e18] at c_42; omega) _ hK2 B28 _
            | exact hB2 (by omega) (by omega) (by rw [e18] at c_42; omega) _ hK2 B28 _
        · refine wp_aload_n (pc := 45) dX6_fit_45 rfl rfl ?_
          refine wp_getR (pc := 46) (q := 14) dX6_fit_46 fl_X6_23 rfl ?_
          refine wp_getR (pc := 49) (q := 18) dX6_fit_49 fl_X6_170 rfl ?_
          refine wp_iload_n (pc := 52) dX6_fit_52 rfl rfl ?_
          refine wp_iload_n (pc := 53) dX6_fit_53 rfl rfl ?_
          refine wp_iast (pc := 54) 8 dX6_fit_54 rfl (by omega) ?_
          refine wp_iinc (pc := 55) dX6_fit_55 rfl rfl (by omega) ?_
          refine wp_iinc (pc := 58) dX6_fit_58 rfl rfl (by omega) ?_
          refine wp_goto (pc := 61) 4 dX6_fit_61 (by decide) ?_
          first
            | exact hA (by omega) (by omega) _
            | exact hB1 (by omega) (by omega) (by rw [e18] at c_42; omega) _ hK2 B28 _
            | exact hB2 (by omega) (by omega) (by rw [e18] at c_42; omega) _ hK2 B28 _
  refine wp_iconst (pc := 0) dX6_fit_0 (by decide) ?_
  refine wp_istore_n (pc := 1) dX6_fit_1 rfl (Nat.le_of_ble_eq_true rfl) rfl ?_
  refine wp_iconst (pc := 2) dX6_fit_2 (by decide) ?_
  refine wp_istore_n (pc := 3) dX6_fit_3 rfl (Nat.le_of_ble_eq_true rfl) rfl ?_
  exact lp 0 (by omega) (by omega) σ none 0 rfl Kp.rf hC.bi
