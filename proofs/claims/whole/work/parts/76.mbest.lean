set_option maxHeartbeats 4000000 in
set_option maxRecDepth 100000 in
theorem OKD.tt {D S : Sto} (hD : OKD D S) : (0 ≤ tot D ∧ tot D ≤ 80) ∧ 0 ≤ D 0 0 ∧ D 0 0 ≤ 8 := by
  have e := fst_bd hD (p := D 0 0) hD.1.1 (Int.le_refl _)
  have f := hD.2.2.1
  have g := hD.1
  exact ⟨by omega, g⟩
set_option maxHeartbeats 4000000 in
set_option maxRecDepth 100000 in
theorem setD_at {D : Sto} {p n : Int} : (∀ k, k ≠ 3 → setD D p n k = D k) ∧ ∀ q, setD D p n 3 q = if q = p then n else D 3 q := by
  refine ⟨fun k hk => by funext i; simp [setD, hk], fun q => by simp [setD]⟩
set_option maxHeartbeats 4000000 in
set_option maxRecDepth 100000 in
theorem RM.sd {σ D S : Sto} (h : RM σ D S) {p n : Int} (hp : 0 ≤ p ∧ p < D 0 0) (hs : 0 ≤ D 2 p) (hn : 2 ≤ n ∧ n ≤ 5) : RM (upd2 σ 72 (1 + 3 * p + 1) n) (setD D p n) S := by
  obtain ⟨e, e3⟩ := setD_at (D := D) (p := p) (n := n)
  have hD2 := setD_ok h.2.2.2.1 (p := p) (n := n) (fun _ _ => hs) hn
  have hb := h.2.2.2.1.tt
  obtain ⟨⟨a, b, c, d⟩, hSR, h3, hD, hS⟩ := h
  have et : tot (setD D p n) = tot D := by unfold tot; rw [e 1 (by decide), e 0 (by decide)]
  have e74 : upd2 σ 72 (1 + 3 * p + 1) n 74 = σ 74 := funext fun k => upd2_r (by decide)
  refine ⟨⟨?_, fun q q0 q1 => ?_, fun w w0 w1 => ?_, fun k k0 k1 => ?_⟩, by rw [e74]; exact hSR, by rw [upd2_r (by decide)]; exact h3, hD2, hS⟩
  · rw [upd2_k (by omega), e 0 (by decide)]; exact a
  · rw [e 0 (by decide)] at q1
    rw [e 2 (by decide), e 1 (by decide), e3, upd2_k (by omega), upd2_k (show 1 + 3 * q + 2 ≠ 1 + 3 * p + 1 by omega)]
    obtain ⟨b1, b2, b3⟩ := b q q0 q1
    refine ⟨b1, ?_, b3⟩
    by_cases hq : q = p
    · rw [hq, upd2_eq, if_pos rfl]
    · rw [upd2_k (by omega), if_neg hq]; exact b2
  · rw [et] at w1
    rw [e 4 (by decide), upd2_k (by omega)]
    refine ⟨(c w w0 w1).1, fun k k0 k1 => ?_⟩
    rw [upd2_k (by omega)]
    exact (c w w0 w1).2 k k0 k1
  · rw [e 5 (by decide), upd2_k (by omega)]
    exact d k k0 k1
noncomputable def cnt (D S : Sto) (p n w : Int) : Int := sumI (cfw (setD D p n) S w) (nL (setD D p n) S)
set_option maxHeartbeats 4000000 in
set_option maxRecDepth 100000 in
theorem m_triedAt {σ D S : Sto} {p n w : Int} (h : RM σ D S) (hp : 0 ≤ p ∧ p < D 0 0) (hs : 0 ≤ D 2 p) (hn : 2 ≤ n ∧ n ≤ 5) (hw : 4 ≤ w ∧ w ≤ 7) : CtI yX7_triedAt cX7_triedAt 6 (some .int) 8 [mR 71, mI p, mI n, mI w] σ (fun z σ' => z = cnt D S p n w ∧ MO σ σ') := by
  refine ct_of rfl [some (mR 71), some (mI p), some (mI n), some (mI w), none, none] (Nat.le_of_ble_eq_true rfl) rfl (fun hσ => ?_)
  show Wp cX7_triedAt RX7 (some .int) 8 0 [some (mR 71), some (mI p), some (mI n), some (mI w), none, none] [] _ _
  have nn := h.n
  have h2 := h.sd hp hs hn
  refine wp_aload_n (pc := 0) dX7_triedAt_0 rfl rfl ?_
  refine wp_getR (pc := 1) (q := 72) dX7_triedAt_1 fl_X7_7 rfl ?_
  refine wp_iconst (pc := 4) dX7_triedAt_4 (by decide) ?_
  refine wp_iconst (pc := 5) dX7_triedAt_5 (by decide) ?_
  refine wp_iload_n (pc := 6) dX7_triedAt_6 rfl rfl ?_
  refine wp_imul (pc := 7) dX7_triedAt_7 (by omega) ?_
  refine wp_iadd (pc := 8) dX7_triedAt_8 (by omega) ?_
  refine wp_iconst (pc := 9) dX7_triedAt_9 (by decide) ?_
  refine wp_iadd (pc := 10) dX7_triedAt_10 (by omega) ?_
  refine wp_iald (pc := 11) 591 dX7_triedAt_11 rfl (by omega) ?_
  refine wp_istore (pc := 12) dX7_triedAt_12 (Nat.le_of_ble_eq_true rfl) rfl ?_
  refine wp_aload_n (pc := 14) dX7_triedAt_14 rfl rfl ?_
  refine wp_getR (pc := 15) (q := 72) dX7_triedAt_15 fl_X7_7 rfl ?_
  refine wp_iconst (pc := 18) dX7_triedAt_18 (by decide) ?_
  refine wp_iconst (pc := 19) dX7_triedAt_19 (by decide) ?_
  refine wp_iload_n (pc := 20) dX7_triedAt_20 rfl rfl ?_
  refine wp_imul (pc := 21) dX7_triedAt_21 (by omega) ?_
  refine wp_iadd (pc := 22) dX7_triedAt_22 (by omega) ?_
  refine wp_iconst (pc := 23) dX7_triedAt_23 (by decide) ?_
  refine wp_iadd (pc := 24) dX7_triedAt_24 (by omega) ?_
  refine wp_iload_n (pc := 25) dX7_triedAt_25 rfl rfl ?_
  refine wp_iast (pc := 26) 591 dX7_triedAt_26 rfl (by omega) ?_
  refine wp_aload_n (pc := 27) dX7_triedAt_27 rfl rfl ?_
  refine wp_cvV0 (pc := 28) dX7_triedAt_28 mv_X7_252 (m_lays h2) (Nat.le_of_ble_eq_true rfl) rfl (Nat.le_of_ble_eq_true rfl) (fun σ_28 h_28 => ?_)
  obtain ⟨f_28, k_28, l_28⟩ := h_28; have o_28 : MO (upd2 σ 72 (1 + 3 * p + 1) n) σ_28 := ⟨f_28, k_28⟩; have r_28 := o_28.rm h2
  refine wp_aload_n (pc := 31) dX7_triedAt_31 rfl rfl ?_
  refine wp_iload_n (pc := 32) dX7_triedAt_32 rfl rfl ?_
  refine wp_cvI1 (pc := 33) dX7_triedAt_33 mv_X7_255 (m_counted r_28 l_28 hw) (Nat.le_of_ble_eq_true rfl) rfl (Nat.le_of_ble_eq_true rfl) (fun z_33 σ_33 h_33 => ?_)
  obtain ⟨rfl, e_33⟩ := h_33; have e2_33 := e_33.symm; subst e2_33
  refine wp_istore (pc := 36) dX7_triedAt_36 (Nat.le_of_ble_eq_true rfl) rfl ?_
  refine wp_aload_n (pc := 38) dX7_triedAt_38 rfl rfl ?_
  refine wp_getR (pc := 39) (q := 72) dX7_triedAt_39 fl_X7_7 rfl ?_
  refine wp_iconst (pc := 42) dX7_triedAt_42 (by decide) ?_
  refine wp_iconst (pc := 43) dX7_triedAt_43 (by decide) ?_
  refine wp_iload_n (pc := 44) dX7_triedAt_44 rfl rfl ?_
  refine wp_imul (pc := 45) dX7_triedAt_45 (by omega) ?_
  refine wp_iadd (pc := 46) dX7_triedAt_46 (by omega) ?_
  refine wp_iconst (pc := 47) dX7_triedAt_47 (by decide) ?_
  refine wp_iadd (pc := 48) dX7_triedAt_48 (by omega) ?_
  refine wp_iload (pc := 49) dX7_triedAt_49 rfl ?_
  refine wp_iast (pc := 51) 591 dX7_triedAt_51 rfl (by omega) ?_
  refine wp_iload (pc := 52) dX7_triedAt_52 rfl ?_
  refine wp_ireturn (pc := 54) dX7_triedAt_54 rfl ?_
  refine ⟨_, rfl, rfl, fun r hr => ?_, fun k hk => ?_⟩
  · by_cases e : r = 72
    · subst e
      funext x
      by_cases hx : x = 1 + 3 * p + 1
      · rw [hx, upd2_eq]
      · rw [upd2_k hx, f_28 72 (by decide), upd2_k hx]
    · rw [upd2_out e, f_28 r hr, upd2_out e]
  · rw [upd2_r (by decide), k_28 k hk, upd2_r (by decide)]
set_option maxHeartbeats 4000000 in
set_option maxRecDepth 100000 in
theorem MO.tr {a b c : Sto} (h1 : MO a b) (h2 : MO b c) : MO a c := ⟨h1.1.tr h2.1, fun k hk => (h2.2 k hk).trans (h1.2 k hk)⟩
set_option maxHeartbeats 4000000 in
set_option maxRecDepth 100000 in
theorem m_bestOf {σ D S : Sto} {p : Int} (h : RM σ D S) (hp : 0 ≤ p ∧ p < D 0 0) (hs : 0 ≤ D 2 p) : CtI yX7_bestOf cX7_bestOf 7 (some .int) 9 [mR 71, mI p] σ (fun z σ' => z = bstN D S p 3 ∧ MO σ σ') := by
  refine ct_of rfl [some (mR 71), some (mI p), none, none, none, none, none] (Nat.le_of_ble_eq_true rfl) rfl (fun hσ => ?_)
  show Wp cX7_bestOf RX7 (some .int) 9 0 [some (mR 71), some (mI p), none, none, none, none, none] [] _ _
  have hD := h.2.2.2.1
  have cb : ∀ n, 2 ≤ n ∧ n ≤ 5 → (cnt D S p n 4 = nL (setD D p n) S ∧ cnt D S p n 6 = sX (setD D p n) S ∧ cnt D S p n 7 = sO (setD D p n) S) ∧ (0 ≤ nL (setD D p n) S ∧ nL (setD D p n) S ≤ 143) ∧ (0 ≤ sX (setD D p n) S ∧ sX (setD D p n) S ≤ 143) ∧ (0 ≤ sO (setD D p n) S ∧ sO (setD D p n) S ≤ 143) ∧ mk3 D S p n = nL (setD D p n) S * 1000000 + sX (setD D p n) S * 1000 + sO (setD D p n) S := fun n hn => by
    have ho := setD_ok hD (p := p) (n := n) (fun _ _ => hs) hn
    have hc := cfw_at (setD D p n) S ho
    exact ⟨⟨hc.1, hc.2.2.1, hc.2.2.2⟩, (s3_bd ho).1, (s3_bd ho).2.1, (s3_bd ho).2.2, rfl⟩
  have lp : ∀ n, n ≤ 6 → 3 ≤ n → ∀ τ : Sto, MO σ τ → Wp cX7_bestOf RX7 (some .int) 9 4 [some (mR 71), some (mI p), some (mI (bstN D S p (n - 3).toNat)), some (mI n), none, none, none] [] τ (fun v σ' => ∃ z, v = some (mI z) ∧ (fun z σ' => z = bstN D S p 3 ∧ MO σ σ') z σ') := by
    refine up_ind 6 (fun n hn ih n3 τ hmo => ?_)
    have hb := bstN_bd D S p (n - 3).toNat
    have hbs : bstN D S p (n + 1 - 3).toNat = if mk3 D S p n ≤ mk3 D S p (bstN D S p (n - 3).toNat) then n else bstN D S p (n - 3).toNat := by
      rw [show (n + 1 - 3).toNat = (n - 3).toNat + 1 by omega]
      show (if mk3 D S p ((((n - 3).toNat : Nat) : Int) + 3) ≤ _ then (((n - 3).toNat : Nat) : Int) + 3 else _) = _
      rw [show (((n - 3).toNat : Nat) : Int) + 3 = n by omega]
    generalize hB : bstN D S p (n - 3).toNat = B at *
    have inn : n < 6 → ∀ k, k ≤ 3 → 0 ≤ k → ∀ (υ : Sto) (v : Int), MO σ υ → ((k = 0 ∧ v = 0) ∨ (k = 1 ∧ v = cnt D S p n 4 - cnt D S p B 4) ∨ (k = 2 ∧ cnt D S p n 4 - cnt D S p B 4 = 0 ∧ v = cnt D S p n 6 - cnt D S p B 6) ∨ (k = 3 ∧ cnt D S p n 4 - cnt D S p B 4 = 0 ∧ cnt D S p n 6 - cnt D S p B 6 = 0 ∧ v = cnt D S p n 7 - cnt D S p B 7)) → Wp cX7_bestOf RX7 (some .int) 9 15 [some (mR 71), some (mI p), some (mI B), some (mI n), some (mI v), some (mI k), none] [] υ (fun v σ' => ∃ z, v = some (mI z) ∧ (fun z σ' => z = bstN D S p 3 ∧ MO σ σ') z σ') := by
      intro hn6
      have c1 := cb n (by omega)
      have c2 := cb B (by omega)
      refine up_ind 3 (fun k hk ihk k0 υ v hmu hv => ?_)
      have w48 : k < 3 → v = 0 → ∀ w : Int, ((k = 0 ∧ w = 4) ∨ (k = 1 ∧ w = 6) ∨ (k = 2 ∧ w = 7)) → Wp cX7_bestOf RX7 (some .int) 9 48 [some (mR 71), some (mI p), some (mI B), some (mI n), some (mI v), some (mI k), none] [mI w] υ (fun v σ' => ∃ z, v = some (mI z) ∧ (fun z σ' => z = bstN D S p 3 ∧ MO σ σ') z σ') := by
        intro hk3 hv0 w hw
        have cw : ∀ m, 2 ≤ m ∧ m ≤ 5 → 0 ≤ cnt D S p m w ∧ cnt D S p m w ≤ 143 := fun m hm => by
          have cm := cb m hm
          rcases hw with c | c | c <;> (rw [c.2]; omega)
        have d1 := cw n (by omega)
        have d2 := cw B (by omega)
        refine wp_istore (pc := 48) dX7_bestOf_48 (Nat.le_of_ble_eq_true rfl) rfl ?_
        refine wp_aload_n (pc := 50) dX7_bestOf_50 rfl rfl ?_
        refine wp_iload_n (pc := 51) dX7_bestOf_51 rfl rfl ?_
        refine wp_iload_n (pc := 52) dX7_bestOf_52 rfl rfl ?_
        refine wp_iload (pc := 53) dX7_bestOf_53 rfl ?_
        refine wp_cvI3 (pc := 55) dX7_bestOf_55 mv_X7_286 (m_triedAt (hmu.rm h) hp hs (by omega) (by omega)) (Nat.le_of_ble_eq_true rfl) rfl (Nat.le_of_ble_eq_true rfl) (fun z_55 σ_55 h_55 => ?_)
        obtain ⟨rfl, o_55⟩ := h_55
        have m_55 := hmu.tr o_55
        refine wp_aload_n (pc := 58) dX7_bestOf_58 rfl rfl ?_
        refine wp_iload_n (pc := 59) dX7_bestOf_59 rfl rfl ?_
        refine wp_iload_n (pc := 60) dX7_bestOf_60 rfl rfl ?_
        refine wp_iload (pc := 61) dX7_bestOf_61 rfl ?_
        refine wp_cvI3 (pc := 63) dX7_bestOf_63 mv_X7_286 (m_triedAt (m_55.rm h) hp hs (by omega) (by omega)) (Nat.le_of_ble_eq_true rfl) rfl (Nat.le_of_ble_eq_true rfl) (fun z_63 σ_63 h_63 => ?_)
        obtain ⟨rfl, o_63⟩ := h_63
        have m_63 := m_55.tr o_63
        refine wp_isub (pc := 66) dX7_bestOf_66 (by omega) ?_
        refine wp_istore (pc := 67) dX7_bestOf_67 (Nat.le_of_ble_eq_true rfl) rfl ?_
        refine wp_iinc (pc := 69) dX7_bestOf_69 rfl rfl (by omega) ?_
        refine wp_goto (pc := 72) 15 dX7_bestOf_72 (by decide) ?_
        refine wp_fgt [6] (ihk hk3 (by omega) _ _ m_63 ?_)
        rcases hw with c | c | c <;> rw [c.2] <;> omega
      refine wp_iload (pc := 15) dX7_bestOf_15 rfl ?_
      refine wp_iconst (pc := 17) dX7_bestOf_17 (by decide) ?_
      refine wp_icmp_ge (pc := 18) 75 dX7_bestOf_18 (by decide) (fun c_18 => ?_) (fun c_18 => ?_)
      · refine wp_iload (pc := 75) dX7_bestOf_75 rfl ?_
        refine wp_if_gt (pc := 77) 84 dX7_bestOf_77 (by decide) (fun c_77 => ?_) (fun c_77 => ?_)
        · refine wp_iload_n (pc := 84) dX7_bestOf_84 rfl rfl ?_
          refine wp_istore_n (pc := 85) dX7_bestOf_85 rfl (Nat.le_of_ble_eq_true rfl) rfl ?_
          refine wp_iinc (pc := 86) dX7_bestOf_86 rfl rfl (by omega) ?_
          refine wp_goto (pc := 89) 4 dX7_bestOf_89 (by decide) ?_
          refine wp_fgt [4, 5, 6] ?_
          have ih2 := ih hn6 (by omega) υ hmu
          rw [hbs] at ih2
          first
            | (rw [if_pos (by omega)] at ih2
               exact ih2)
            | (rw [if_neg (by omega)] at ih2
               exact ih2)
        · refine wp_iload_n (pc := 80) dX7_bestOf_80 rfl rfl ?_
          refine wp_goto (pc := 81) 85 dX7_bestOf_81 (by decide) ?_
          refine wp_istore_n (pc := 85) dX7_bestOf_85 rfl (Nat.le_of_ble_eq_true rfl) rfl ?_
          refine wp_iinc (pc := 86) dX7_bestOf_86 rfl rfl (by omega) ?_
          refine wp_goto (pc := 89) 4 dX7_bestOf_89 (by decide) ?_
          refine wp_fgt [4, 5, 6] ?_
          have ih2 := ih hn6 (by omega) υ hmu
          rw [hbs] at ih2
          first
            | (rw [if_pos (by omega)] at ih2
               exact ih2)
            | (rw [if_neg (by omega)] at ih2
               exact ih2)
      · refine wp_iload (pc := 21) dX7_bestOf_21 rfl ?_
        refine wp_if_ne (pc := 23) 75 dX7_bestOf_23 (by decide) (fun c_23 => ?_) (fun c_23 => ?_)
        · refine wp_iload (pc := 75) dX7_bestOf_75 rfl ?_
          refine wp_if_gt (pc := 77) 84 dX7_bestOf_77 (by decide) (fun c_77 => ?_) (fun c_77 => ?_)
          · refine wp_iload_n (pc := 84) dX7_bestOf_84 rfl rfl ?_
            refine wp_istore_n (pc := 85) dX7_bestOf_85 rfl (Nat.le_of_ble_eq_true rfl) rfl ?_
            refine wp_iinc (pc := 86) dX7_bestOf_86 rfl rfl (by omega) ?_
            refine wp_goto (pc := 89) 4 dX7_bestOf_89 (by decide) ?_
            refine wp_fgt [4, 5, 6] ?_
            have ih2 := ih hn6 (by omega) υ hmu
            rw [hbs] at ih2
            first
              | (rw [if_pos (by omega)] at ih2
                 exact ih2)
              | (rw [if_neg (by omega)] at ih2
                 exact ih2)
          · refine wp_iload_n (pc := 80) dX7_bestOf_80 rfl rfl ?_
            refine wp_goto (pc := 81) 85 dX7_bestOf_81 (by decide) ?_
            refine wp_istore_n (pc := 85) dX7_bestOf_85 rfl (Nat.le_of_ble_eq_true rfl) rfl ?_
            refine wp_iinc (pc := 86) dX7_bestOf_86 rfl rfl (by omega) ?_
            refine wp_goto (pc := 89) 4 dX7_bestOf_89 (by decide) ?_
            refine wp_fgt [4, 5, 6] ?_
            have ih2 := ih hn6 (by omega) υ hmu
            rw [hbs] at ih2
            first
              | (rw [if_pos (by omega)] at ih2
                 exact ih2)
              | (rw [if_neg (by omega)] at ih2
                 exact ih2)
        · refine wp_iload (pc := 26) dX7_bestOf_26 rfl ?_
          refine wp_if_ne (pc := 28) 35 dX7_bestOf_28 (by decide) (fun c_28 => ?_) (fun c_28 => ?_)
          · refine wp_iload (pc := 35) dX7_bestOf_35 rfl ?_
            refine wp_iconst (pc := 37) dX7_bestOf_37 (by decide) ?_
            refine wp_icmp_ne (pc := 38) 46 dX7_bestOf_38 (by decide) (fun c_38 => ?_) (fun c_38 => ?_)
            · refine wp_bipush (pc := 46) dX7_bestOf_46 (by decide) (by decide) ?_
              exact w48 (by omega) (by omega) _ (by omega)
            · refine wp_bipush (pc := 41) dX7_bestOf_41 (by decide) (by decide) ?_
              refine wp_goto (pc := 43) 48 dX7_bestOf_43 (by decide) ?_
              exact w48 (by omega) (by omega) _ (by omega)
          · refine wp_iconst (pc := 31) dX7_bestOf_31 (by decide) ?_
            refine wp_goto (pc := 32) 48 dX7_bestOf_32 (by decide) ?_
            exact w48 (by omega) (by omega) _ (by omega)
    refine wp_iload_n (pc := 4) dX7_bestOf_4 rfl rfl ?_
    refine wp_iconst (pc := 5) dX7_bestOf_5 (by decide) ?_
    refine wp_icmp_gt (pc := 6) 92 dX7_bestOf_6 (by decide) (fun c_6 => ?_) (fun c_6 => ?_)
    · refine wp_iload_n (pc := 92) dX7_bestOf_92 rfl rfl ?_
      refine wp_ireturn (pc := 93) dX7_bestOf_93 rfl ?_
      rw [show (n - 3).toNat = 3 by omega] at hB
      exact ⟨_, rfl, hB.symm, hmo⟩
    · refine wp_iconst (pc := 9) dX7_bestOf_9 (by decide) ?_
      refine wp_istore (pc := 10) dX7_bestOf_10 (Nat.le_of_ble_eq_true rfl) rfl ?_
      refine wp_iconst (pc := 12) dX7_bestOf_12 (by decide) ?_
      refine wp_istore (pc := 13) dX7_bestOf_13 (Nat.le_of_ble_eq_true rfl) rfl ?_
      exact inn (by omega) 0 (by decide) (by decide) τ 0 hmo (Or.inl ⟨rfl, rfl⟩)
  refine wp_iconst (pc := 0) dX7_bestOf_0 (by decide) ?_
  refine wp_istore_n (pc := 1) dX7_bestOf_1 rfl (Nat.le_of_ble_eq_true rfl) rfl ?_
  refine wp_iconst (pc := 2) dX7_bestOf_2 (by decide) ?_
  refine wp_istore_n (pc := 3) dX7_bestOf_3 rfl (Nat.le_of_ble_eq_true rfl) rfl ?_
  exact lp 3 (by decide) (by decide) σ MO.rf
set_option maxHeartbeats 4000000 in
set_option maxRecDepth 100000 in
theorem m_best {σ D S : Sto} {p : Int} (h : RM σ D S) : CtI yX7_best cX7_best 2 (some .int) 10 [mR 71, mI p] σ (fun z σ' => z = aBest D S p ∧ MO σ σ') := by
  refine ct_of rfl [some (mR 71), some (mI p)] (Nat.le_of_ble_eq_true rfl) rfl (fun hσ => ?_)
  show Wp cX7_best RX7 (some .int) 10 0 [some (mR 71), some (mI p)] [] _ _
  have n := h.n
  have hp := fun a b => h.p (p := p) a b
  refine wp_aload_n (pc := 0) dX7_best_0 rfl rfl ?_
  refine wp_iload_n (pc := 1) dX7_best_1 rfl rfl ?_
  refine wp_cvI1 (pc := 2) dX7_best_2 mv_X7_263 (m_isPar h) (Nat.le_of_ble_eq_true rfl) rfl (Nat.le_of_ble_eq_true rfl) (fun z_2 σ_2 h_2 => ?_)
  obtain ⟨y_2, e_2⟩ := h_2; have e2_2 := e_2.symm; subst e2_2
  refine wp_if_ne (pc := 5) 10 dX7_best_5 (by decide) (fun c_5 => ?_) (fun c_5 => ?_)
  · have q := hp (by omega) (by omega)
    refine wp_aload_n (pc := 10) dX7_best_10 rfl rfl ?_
    refine wp_iload_n (pc := 11) dX7_best_11 rfl rfl ?_
    refine wp_cvI1 (pc := 12) dX7_best_12 mv_X7_174 (m_parShape h (by omega)) (Nat.le_of_ble_eq_true rfl) rfl (Nat.le_of_ble_eq_true rfl) (fun z_12 σ_12 h_12 => ?_)
    obtain ⟨rfl, e_12⟩ := h_12; have e2_12 := e_12.symm; subst e2_12
    refine wp_bipush (pc := 15) dX7_best_15 (by decide) (by decide) ?_
    refine wp_icmp_ne (pc := 17) 25 dX7_best_17 (by decide) (fun c_17 => ?_) (fun c_17 => ?_)
    · refine wp_aload_n (pc := 25) dX7_best_25 rfl rfl ?_
      refine wp_iload_n (pc := 26) dX7_best_26 rfl rfl ?_
      refine wp_cvI1 (pc := 27) dX7_best_27 mv_X7_290 (m_bestOf h (by omega) (by omega)) (Nat.le_of_ble_eq_true rfl) rfl (Nat.le_of_ble_eq_true rfl) (fun z_27 σ_27 h_27 => ?_)
      obtain ⟨zz_27, o_27⟩ := h_27
      refine wp_ireturn (pc := 30) dX7_best_30 rfl ?_
      first
        | exact ⟨_, rfl, by unfold aBest; rw [if_neg (by omega), if_pos (by omega)], MO.rf⟩
        | exact ⟨_, rfl, by unfold aBest; rw [if_neg (by omega), if_neg (by omega)]; exact zz_27, o_27⟩
    · refine wp_bipush (pc := 20) dX7_best_20 (by decide) (by decide) ?_
      refine wp_goto (pc := 22) 30 dX7_best_22 (by decide) ?_
      refine wp_ireturn (pc := 30) dX7_best_30 rfl ?_
      first
        | exact ⟨_, rfl, by unfold aBest; rw [if_neg (by omega), if_pos (by omega)], MO.rf⟩
        | exact ⟨_, rfl, by unfold aBest; rw [if_neg (by omega), if_neg (by omega)]; exact zz_27, o_27⟩
  · refine wp_iconst (pc := 8) dX7_best_8 (by decide) ?_
    refine wp_ireturn (pc := 9) dX7_best_9 rfl ?_
    exact ⟨_, rfl, by unfold aBest; rw [if_pos (by omega)], MO.rf⟩
set_option maxHeartbeats 4000000 in
set_option maxRecDepth 100000 in
theorem m_tried {σ D S : Sto} {p n : Int} (h : RM σ D S) : CtI yX7_tried cX7_tried 3 (some .int) 9 [mR 71, mI p, mI n] σ (fun z σ' => z = aTried D S p n ∧ MO σ σ') := by
  refine ct_of rfl [some (mR 71), some (mI p), some (mI n)] (Nat.le_of_ble_eq_true rfl) rfl (fun hσ => ?_)
  show Wp cX7_tried RX7 (some .int) 9 0 [some (mR 71), some (mI p), some (mI n)] [] _ _
  have nn := h.n
  have hp := fun a b => h.p (p := p) a b
  refine wp_aload_n (pc := 0) dX7_tried_0 rfl rfl ?_
  refine wp_iload_n (pc := 1) dX7_tried_1 rfl rfl ?_
  refine wp_cvI1 (pc := 2) dX7_tried_2 mv_X7_263 (m_isPar h) (Nat.le_of_ble_eq_true rfl) rfl (Nat.le_of_ble_eq_true rfl) (fun z_2 σ_2 h_2 => ?_)
  obtain ⟨y_2, e_2⟩ := h_2; have e2_2 := e_2.symm; subst e2_2
  refine wp_if_eq (pc := 5) 22 dX7_tried_5 (by decide) (fun c_5 => ?_) (fun c_5 => ?_)
  · refine wp_iconst (pc := 22) dX7_tried_22 (by decide) ?_
    refine wp_ireturn (pc := 23) dX7_tried_23 rfl ?_
    exact ⟨_, rfl, by unfold aTried; rw [if_pos (by omega)], MO.rf⟩
  · refine wp_iload_n (pc := 8) dX7_tried_8 rfl rfl ?_
    refine wp_i2l (pc := 9) dX7_tried_9 ?_
    refine wp_ldc2 (pc := 10) (z := 2) dX7_tried_10 kc_X7_282 (by decide) (by decide) ?_
    refine wp_ldc2 (pc := 13) (z := 5) dX7_tried_13 kc_X7_293 (by decide) (by decide) ?_
    refine wp_csI3 (pc := 16) dX7_tried_16 ms_X7_73 m_in (Nat.le_of_ble_eq_true rfl) (Nat.le_of_ble_eq_true rfl) (fun z_16 σ_16 h_16 => ?_)
    obtain ⟨y_16, e_16⟩ := h_16; have e2_16 := e_16.symm; subst e2_16
    refine wp_if_ne (pc := 19) 24 dX7_tried_19 (by decide) (fun c_19 => ?_) (fun c_19 => ?_)
    · have q := hp (by omega) (by omega)
      refine wp_aload_n (pc := 24) dX7_tried_24 rfl rfl ?_
      refine wp_iload_n (pc := 25) dX7_tried_25 rfl rfl ?_
      refine wp_cvI1 (pc := 26) dX7_tried_26 mv_X7_174 (m_parShape h (by omega)) (Nat.le_of_ble_eq_true rfl) rfl (Nat.le_of_ble_eq_true rfl) (fun z_26 σ_26 h_26 => ?_)
      obtain ⟨rfl, e_26⟩ := h_26; have e2_26 := e_26.symm; subst e2_26
      refine wp_bipush (pc := 29) dX7_tried_29 (by decide) (by decide) ?_
      refine wp_icmp_ne (pc := 31) 39 dX7_tried_31 (by decide) (fun c_31 => ?_) (fun c_31 => ?_)
      · refine wp_aload_n (pc := 39) dX7_tried_39 rfl rfl ?_
        refine wp_iload_n (pc := 40) dX7_tried_40 rfl rfl ?_
        refine wp_iload_n (pc := 41) dX7_tried_41 rfl rfl ?_
        refine wp_iconst (pc := 42) dX7_tried_42 (by decide) ?_
        refine wp_cvI3 (pc := 43) dX7_tried_43 mv_X7_286 (m_triedAt h (by omega) (by omega) (by omega) (by omega)) (Nat.le_of_ble_eq_true rfl) rfl (Nat.le_of_ble_eq_true rfl) (fun z_43 σ_43 h_43 => ?_)
        obtain ⟨zz_43, o_43⟩ := h_43
        refine wp_ireturn (pc := 46) dX7_tried_46 rfl ?_
        first
          | exact ⟨_, rfl, by unfold aTried; rw [if_neg (by omega), if_pos (by omega)], MO.rf⟩
          | exact ⟨_, rfl, by unfold aTried; rw [if_neg (by omega), if_neg (by omega), zz_43]; exact (cfw_at (setD D p n) S (setD_ok h.2.2.2.1 (fun _ _ => by omega) (by omega))).1, o_43⟩
      · refine wp_bipush (pc := 34) dX7_tried_34 (by decide) (by decide) ?_
        refine wp_goto (pc := 36) 46 dX7_tried_36 (by decide) ?_
        refine wp_ireturn (pc := 46) dX7_tried_46 rfl ?_
        first
          | exact ⟨_, rfl, by unfold aTried; rw [if_neg (by omega), if_pos (by omega)], MO.rf⟩
          | exact ⟨_, rfl, by unfold aTried; rw [if_neg (by omega), if_neg (by omega), zz_43]; exact (cfw_at (setD D p n) S (setD_ok h.2.2.2.1 (fun _ _ => by omega) (by omega))).1, o_43⟩
    · refine wp_iconst (pc := 22) dX7_tried_22 (by decide) ?_
      refine wp_ireturn (pc := 23) dX7_tried_23 rfl ?_
      exact ⟨_, rfl, by unfold aTried; rw [if_pos (by omega)], MO.rf⟩
