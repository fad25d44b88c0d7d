set_option maxHeartbeats 4000000 in
set_option maxRecDepth 100000 in
theorem layM_line {τ D S : Sto} (h : OKD D S) (hL : LayM τ D S (D 0 0)) {l : Int} (l0 : 0 ≤ l) (hl : l < nL D S) : τ 84 l = own D S l ∧ (0 ≤ own D S l → τ 85 l = fstS D (own D S l) + lF D S l ∧ τ 86 l = lNw D S l ∧ τ 87 l = lI D S l) := by
  rcases own_bd D S l with q | q
  · have h4 := hL.2.2 l l0 hl (fun p p0 p1 hp => by have := own_in h p0 p1 hp.1 hp.2; omega)
    exact ⟨by rw [h4, q], fun h0 => by omega⟩
  · have h1 := own_at h q.1
    have h2 := LE_eq D S q.1
    have h3 := (hL.2.1 _ q.1 q.2).2.2 (l - LB D S (own D S l)) (by omega) (by omega)
    rw [show LB D S (own D S l) + (l - LB D S (own D S l)) = l by omega] at h3
    exact ⟨h3.1, fun _ => ⟨h3.2.1, h3.2.2.1, h3.2.2.2⟩⟩
set_option maxHeartbeats 4000000 in
set_option maxRecDepth 100000 in
theorem LayM.B {τ D S : Sto} (hL : LayM τ D S (D 0 0)) {p : Int} (hp : p < D 0 0) : ∀ q, 0 ≤ q → q ≤ p → τ 82 q = LB D S q := fun q q0 q1 => (hL.2.1 q q0 (by omega)).1
set_option maxHeartbeats 4000000 in
set_option maxRecDepth 100000 in
theorem m_isOver {σ D S : Sto} {l : Int} (h : RM σ D S) (hL : LayM σ D S (D 0 0)) (hl : 0 ≤ l ∧ l < nL D S) (ho : 0 ≤ own D S l) : CtI yX7_isOver cX7_isOver 2 (some .boolean) 6 [mR 71, mI l] σ (fun z σ' => (z = lO D S l ∧ (z = 0 ∨ z = 1)) ∧ σ' = σ) := by
  refine ct_of rfl [some (mR 71), some (mI l)] (Nat.le_of_ble_eq_true rfl) rfl (fun hσ => ?_)
  show Wp cX7_isOver RX7 (some .boolean) 6 0 [some (mR 71), some (mI l)] [] _ _
  have hD := h.2.2.2.1
  have nb := nL_bd hD
  obtain ⟨a, b⟩ := layM_line hD hL hl.1 hl.2
  obtain ⟨b1, b2, b3⟩ := b ho
  have ho2 := own_at hD ho
  have u := lU_bd hD h.2.2.2.2 ho
  have q := h.p ho ho2.1
  have eU : us (wdA D) (fstS D (own D S l) + lF D S l) (lNw D S l) = lU D S l := by unfold lU; rw [us_sh]
  have eR : roomS D S (LB D S) (own D S l) l = lR D S l := rfl
  have ez : ∀ z : Int, ((z = 1 ∧ lR D S l < lU D S l) ∨ (z = 0 ∧ ¬ lR D S l < lU D S l)) → z = lO D S l := fun z hz => by
    unfold lO
    rcases hz with c | c
    · rw [if_pos ⟨ho, c.2⟩]; exact c.1
    · rw [if_neg (fun w => c.2 w.2)]; exact c.1
  refine wp_aload_n (pc := 0) dX7_isOver_0 rfl rfl ?_
  refine wp_aload_n (pc := 1) dX7_isOver_1 rfl rfl ?_
  refine wp_getR (pc := 2) (q := 85) dX7_isOver_2 fl_X7_50 rfl ?_
  refine wp_iload_n (pc := 5) dX7_isOver_5 rfl rfl ?_
  refine wp_iald (pc := 6) 300 dX7_isOver_6 rfl (by omega) ?_
  rw [b1]
  refine wp_aload_n (pc := 7) dX7_isOver_7 rfl rfl ?_
  refine wp_getR (pc := 8) (q := 86) dX7_isOver_8 fl_X7_53 rfl ?_
  refine wp_iload_n (pc := 11) dX7_isOver_11 rfl rfl ?_
  refine wp_iald (pc := 12) 300 dX7_isOver_12 rfl (by omega) ?_
  rw [b2]
  refine wp_cvI2 (pc := 13) dX7_isOver_13 mv_X7_207 (m_usedBy h (by omega)) (Nat.le_of_ble_eq_true rfl) rfl (Nat.le_of_ble_eq_true rfl) (fun z_13 σ_13 h_13 => ?_)
  obtain ⟨rfl, e_13⟩ := h_13; have e2_13 := e_13.symm; subst e2_13
  rw [eU]
  refine wp_aload_n (pc := 16) dX7_isOver_16 rfl rfl ?_
  refine wp_aload_n (pc := 17) dX7_isOver_17 rfl rfl ?_
  refine wp_getR (pc := 18) (q := 84) dX7_isOver_18 fl_X7_47 rfl ?_
  refine wp_iload_n (pc := 21) dX7_isOver_21 rfl rfl ?_
  refine wp_iald (pc := 22) 300 dX7_isOver_22 rfl (by omega) ?_
  rw [a]
  refine wp_iload_n (pc := 23) dX7_isOver_23 rfl rfl ?_
  refine wp_cvI2 (pc := 24) dX7_isOver_24 mv_X7_204 (m_roomAt h ⟨ho, ho2.1⟩ (hL.B ho2.1) (by omega)) (Nat.le_of_ble_eq_true rfl) rfl (Nat.le_of_ble_eq_true rfl) (fun z_24 σ_24 h_24 => ?_)
  obtain ⟨rfl, e_24⟩ := h_24; have e2_24 := e_24.symm; subst e2_24
  rw [eR]
  refine wp_icmp_le (pc := 27) 34 dX7_isOver_27 (by decide) (fun c_27 => ?_) (fun c_27 => ?_)
  · refine wp_iconst (pc := 34) dX7_isOver_34 (by decide) ?_
    refine wp_zreturn (pc := 35) dX7_isOver_35 rfl (by omega) ?_
    refine ⟨_, rfl, ⟨ez _ (by omega), by omega⟩, rfl⟩
  · refine wp_iconst (pc := 30) dX7_isOver_30 (by decide) ?_
    refine wp_goto (pc := 31) 35 dX7_isOver_31 (by decide) ?_
    refine wp_zreturn (pc := 35) dX7_isOver_35 rfl (by omega) ?_
    refine ⟨_, rfl, ⟨ez _ (by omega), by omega⟩, rfl⟩
set_option maxHeartbeats 4000000 in
set_option maxRecDepth 100000 in
theorem m_isClash {σ D S : Sto} {l : Int} (h : RM σ D S) (hL : LayM σ D S (D 0 0)) (hl : 0 ≤ l ∧ l < nL D S) (ho : 0 ≤ own D S l) : CtI yX7_isClash cX7_isClash 4 (some .boolean) 4 [mR 71, mI l] σ (fun z σ' => (z = lX D S l ∧ (z = 0 ∨ z = 1)) ∧ σ' = σ) := by
  refine ct_of rfl [some (mR 71), some (mI l), none, none] (Nat.le_of_ble_eq_true rfl) rfl (fun hσ => ?_)
  show Wp cX7_isClash RX7 (some .boolean) 4 0 [some (mR 71), some (mI l), none, none] [] _ _
  have hD := h.2.2.2.1
  have nb := nL_bd hD
  have t := h.st
  have a := (layM_line hD hL hl.1 hl.2).1
  have ho2 := own_at hD ho
  have n := h.n
  have lp : ∀ q, q ≤ own D S l → 0 ≤ q → (D 5 5 = 0 ∨ q = 0) → ∀ v : Int, ((v = 1 ∧ 0 < mxI (fun q => rch D S q (l - LB D S q)) q) ∨ (v = 0 ∧ ¬ 0 < mxI (fun q => rch D S q (l - LB D S q)) q)) → Wp cX7_isClash RX7 (some .boolean) 4 4 [some (mR 71), some (mI l), some (mI v), some (mI q)] [] σ (fun v σ' => ∃ z, v = some (mI z) ∧ (fun z σ' => (z = lX D S l ∧ (z = 0 ∨ z = 1)) ∧ σ' = σ) z σ') := by
    refine up_ind _ (fun q hq ih q0 hc v hv => ?_)
    have hms := mxI_s (f := fun q => rch D S q (l - LB D S q)) q0
    have hbq := fun c => hL.2.1 q q0 (show q < D 0 0 from c)
    have hlq := fun c => LBb hD q0 (show q < D 0 0 from c)
    refine wp_iload_n (pc := 4) dX7_isClash_4 rfl rfl ?_
    refine wp_aload_n (pc := 5) dX7_isClash_5 rfl rfl ?_
    refine wp_getR (pc := 6) (q := 84) dX7_isClash_6 fl_X7_47 rfl ?_
    refine wp_iload_n (pc := 9) dX7_isClash_9 rfl rfl ?_
    refine wp_iald (pc := 10) 300 dX7_isClash_10 rfl (by omega) ?_
    rw [a]
    refine wp_icmp_ge (pc := 11) 57 dX7_isClash_11 (by decide) (fun c_11 => ?_) (fun c_11 => ?_)
    · refine wp_iload_n (pc := 57) dX7_isClash_57 rfl rfl ?_
      refine wp_zreturn (pc := 58) dX7_isClash_58 rfl (by omega) ?_
      refine ⟨_, rfl, ⟨?_, by omega⟩, rfl⟩
      have e1 : lX D S l = clsS D S (LB D S) (own D S l) l := by unfold lX; rw [if_neg (by omega)]
      rw [e1]
      unfold clsS rAh
      by_cases c5 : D 5 5 = 0
      · rw [show q = own D S l by omega] at hv
        rcases hv with c | c
        · rw [if_pos ⟨c5, c.2⟩]; exact c.1
        · rw [if_neg (fun w => c.2 w.2)]; exact c.1
      · rw [if_neg (fun w => c5 w.1)]
        have q00 : q = 0 := by omega
        rw [q00, mxI_0] at hv
        omega
    · have hb1 := (hbq (by omega)).1
      have hl1 := hlq (by omega)
      refine wp_aload_n (pc := 14) dX7_isClash_14 rfl rfl ?_
      refine wp_getR (pc := 15) (q := 72) dX7_isClash_15 fl_X7_7 rfl ?_
      refine wp_sipush (pc := 18) dX7_isClash_18 (by decide) (by decide) ?_
      refine wp_iald (pc := 21) 591 dX7_isClash_21 rfl (by omega) ?_
      rw [t.1.2.2.2.2.2]
      refine wp_if_ne (pc := 22) 57 dX7_isClash_22 (by decide) (fun c_22 => ?_) (fun c_22 => ?_)
      · refine wp_iload_n (pc := 57) dX7_isClash_57 rfl rfl ?_
        refine wp_zreturn (pc := 58) dX7_isClash_58 rfl (by omega) ?_
        refine ⟨_, rfl, ⟨?_, by omega⟩, rfl⟩
        have e1 : lX D S l = clsS D S (LB D S) (own D S l) l := by unfold lX; rw [if_neg (by omega)]
        rw [e1]
        unfold clsS rAh
        by_cases c5 : D 5 5 = 0
        · rw [show q = own D S l by omega] at hv
          rcases hv with c | c
          · rw [if_pos ⟨c5, c.2⟩]; exact c.1
          · rw [if_neg (fun w => c.2 w.2)]; exact c.1
        · rw [if_neg (fun w => c5 w.1)]
          have q00 : q = 0 := by omega
          rw [q00, mxI_0] at hv
          omega
      · refine wp_iload_n (pc := 25) dX7_isClash_25 rfl rfl ?_
        refine wp_if_ne (pc := 26) 45 dX7_isClash_26 (by decide) (fun c_26 => ?_) (fun c_26 => ?_)
        · refine wp_iconst (pc := 45) dX7_isClash_45 (by decide) ?_
          refine wp_goto (pc := 46) 50 dX7_isClash_46 (by decide) ?_
          refine wp_istore_n (pc := 50) dX7_isClash_50 rfl (Nat.le_of_ble_eq_true rfl) rfl ?_
          refine wp_iinc (pc := 51) dX7_isClash_51 rfl rfl (by omega) ?_
          refine wp_goto (pc := 54) 4 dX7_isClash_54 (by decide) ?_
          refine ih (by omega) (by omega) (by omega) _ ?_
          rw [hms]
          omega
        · refine wp_aload_n (pc := 29) dX7_isClash_29 rfl rfl ?_
          refine wp_iload_n (pc := 30) dX7_isClash_30 rfl rfl ?_
          refine wp_iload_n (pc := 31) dX7_isClash_31 rfl rfl ?_
          refine wp_aload_n (pc := 32) dX7_isClash_32 rfl rfl ?_
          refine wp_getR (pc := 33) (q := 82) dX7_isClash_33 fl_X7_41 rfl ?_
          refine wp_iload_n (pc := 36) dX7_isClash_36 rfl rfl ?_
          refine wp_iald (pc := 37) 9 dX7_isClash_37 rfl (by omega) ?_
          rw [hb1]
          refine wp_isub (pc := 38) dX7_isClash_38 (by omega) ?_
          refine wp_cvI2 (pc := 39) dX7_isClash_39 mv_X7_192 (m_reachOf h (by omega)) (Nat.le_of_ble_eq_true rfl) rfl (Nat.le_of_ble_eq_true rfl) (fun z_39 σ_39 h_39 => ?_)
          obtain ⟨rfl, e_39⟩ := h_39; have e2_39 := e_39.symm; subst e2_39
          refine wp_if_le (pc := 42) 49 dX7_isClash_42 (by decide) (fun c_42 => ?_) (fun c_42 => ?_)
          · refine wp_iconst (pc := 49) dX7_isClash_49 (by decide) ?_
            refine wp_istore_n (pc := 50) dX7_isClash_50 rfl (Nat.le_of_ble_eq_true rfl) rfl ?_
            refine wp_iinc (pc := 51) dX7_isClash_51 rfl rfl (by omega) ?_
            refine wp_goto (pc := 54) 4 dX7_isClash_54 (by decide) ?_
            refine ih (by omega) (by omega) (by omega) _ ?_
            rw [hms]
            omega
          · refine wp_iconst (pc := 45) dX7_isClash_45 (by decide) ?_
            refine wp_goto (pc := 46) 50 dX7_isClash_46 (by decide) ?_
            refine wp_istore_n (pc := 50) dX7_isClash_50 rfl (Nat.le_of_ble_eq_true rfl) rfl ?_
            refine wp_iinc (pc := 51) dX7_isClash_51 rfl rfl (by omega) ?_
            refine wp_goto (pc := 54) 4 dX7_isClash_54 (by decide) ?_
            refine ih (by omega) (by omega) (by omega) _ ?_
            rw [hms]
            omega
  refine wp_iconst (pc := 0) dX7_isClash_0 (by decide) ?_
  refine wp_istore_n (pc := 1) dX7_isClash_1 rfl (Nat.le_of_ble_eq_true rfl) rfl ?_
  refine wp_iconst (pc := 2) dX7_isClash_2 (by decide) ?_
  refine wp_istore_n (pc := 3) dX7_isClash_3 rfl (Nat.le_of_ble_eq_true rfl) rfl ?_
  exact lp 0 ho (by decide) (Or.inr rfl) 0 (Or.inr ⟨rfl, by rw [mxI_0]; decide⟩)
noncomputable def cfw (D S : Sto) (w l : Int) : Int := if w = 4 then 1 else if w = 5 then (if own D S l < 0 then 1 else 0) else if w = 6 then lX D S l else lO D S l
set_option maxHeartbeats 4000000 in
set_option maxRecDepth 100000 in
theorem cfw_01 (D S : Sto) (w l : Int) : cfw D S w l = 0 ∨ cfw D S w l = 1 := by
  unfold cfw
  split
  · right; rfl
  · split
    · split
      · right; rfl
      · left; rfl
    · split
      · exact lX_01 D S l
      · exact lO_01 D S l
set_option maxHeartbeats 4000000 in
set_option maxRecDepth 100000 in
theorem m_counted {σ D S : Sto} {w : Int} (h : RM σ D S) (hL : LayM σ D S (D 0 0)) (hw : 4 ≤ w ∧ w ≤ 7) : CtI yX7_counted cX7_counted 5 (some .int) 7 [mR 71, mI w] σ (fun z σ' => z = sumI (cfw D S w) (nL D S) ∧ σ' = σ) := by
  refine ct_of rfl [some (mR 71), some (mI w), none, none, none] (Nat.le_of_ble_eq_true rfl) rfl (fun hσ => ?_)
  show Wp cX7_counted RX7 (some .int) 7 0 [some (mR 71), some (mI w), none, none, none] [] _ _
  have hD := h.2.2.2.1
  have nb := nL_bd hD
  have e25 : σ 71 25 = nL D S := hL.1
  have lp : ∀ l, l ≤ nL D S → 0 ≤ l → Wp cX7_counted RX7 (some .int) 7 4 [some (mR 71), some (mI w), some (mI (sumI (cfw D S w) l)), some (mI l), none] [] σ (fun v σ' => ∃ z, v = some (mI z) ∧ (fun z σ' => z = sumI (cfw D S w) (nL D S) ∧ σ' = σ) z σ') := by
    refine up_ind _ (fun l hl ih l0 => ?_)
    have hb := sumI_bd (f := cfw D S w) (n := l) (c := 1) l0 (fun k _ _ => by have := cfw_01 D S w k; omega)
    have hs := sumI_s (f := cfw D S w) l0
    have a := fun c => (layM_line hD hL l0 (show l < nL D S from c)).1
    have hob := own_bd D S l
    have w84 : l < nL D S → ∀ v : Int, v = cfw D S w l → Wp cX7_counted RX7 (some .int) 7 84 [some (mR 71), some (mI w), some (mI (sumI (cfw D S w) l)), some (mI l), none] [mI v, mI (sumI (cfw D S w) l)] σ (fun v σ' => ∃ z, v = some (mI z) ∧ (fun z σ' => z = sumI (cfw D S w) (nL D S) ∧ σ' = σ) z σ') := by
      intro hln v hv
      have h01 := cfw_01 D S w l
      rw [hv]
      refine wp_iadd (pc := 84) dX7_counted_84 (by omega) ?_
      refine wp_istore_n (pc := 85) dX7_counted_85 rfl (Nat.le_of_ble_eq_true rfl) rfl ?_
      refine wp_iinc (pc := 86) dX7_counted_86 rfl rfl (by omega) ?_
      refine wp_goto (pc := 89) 4 dX7_counted_89 (by decide) ?_
      rw [← hs]
      exact ih hln (by omega)
    have w28 : l < nL D S → ∀ em : Int, ((em = 1 ∧ own D S l < 0) ∨ (em = 0 ∧ 0 ≤ own D S l)) → Wp cX7_counted RX7 (some .int) 7 28 [some (mR 71), some (mI w), some (mI (sumI (cfw D S w) l)), some (mI l), none] [mI em] σ (fun v σ' => ∃ z, v = some (mI z) ∧ (fun z σ' => z = sumI (cfw D S w) (nL D S) ∧ σ' = σ) z σ') := by
      intro hln em hem
      refine wp_istore (pc := 28) dX7_counted_28 (Nat.le_of_ble_eq_true rfl) rfl ?_
      refine wp_iload_n (pc := 30) dX7_counted_30 rfl rfl ?_
      refine wp_iload_n (pc := 31) dX7_counted_31 rfl rfl ?_
      refine wp_iconst (pc := 32) dX7_counted_32 (by decide) ?_
      refine wp_icmp_eq (pc := 33) 79 dX7_counted_33 (by decide) (fun c_33 => ?_) (fun c_33 => ?_)
      · refine wp_iconst (pc := 79) dX7_counted_79 (by decide) ?_
        refine wp_goto (pc := 80) 84 dX7_counted_80 (by decide) ?_
        refine wp_fgt [4] (w84 hln _ ?_)
        unfold cfw
        first
          | (exfalso; omega)
          | rw [if_pos (by omega)]
          | rw [if_neg (by omega), if_pos (by omega), if_pos (by omega)]
          | rw [if_neg (by omega), if_pos (by omega), if_neg (by omega)]
          | (rw [if_neg (by omega), if_neg (by omega), if_pos (by omega)]; omega)
          | (rw [if_neg (by omega), if_neg (by omega), if_neg (by omega)]; omega)
          | (rw [if_neg (by omega), if_neg (by omega)]
             by_cases c6 : w = 6
             · rw [if_pos c6]; unfold lX; rw [if_pos (by omega)]
             · rw [if_neg c6]; unfold lO; rw [if_neg (by omega)])
      · refine wp_iload_n (pc := 36) dX7_counted_36 rfl rfl ?_
        refine wp_iconst (pc := 37) dX7_counted_37 (by decide) ?_
        refine wp_icmp_ne (pc := 38) 49 dX7_counted_38 (by decide) (fun c_38 => ?_) (fun c_38 => ?_)
        · refine wp_iload (pc := 49) dX7_counted_49 rfl ?_
          refine wp_if_ne (pc := 51) 83 dX7_counted_51 (by decide) (fun c_51 => ?_) (fun c_51 => ?_)
          · refine wp_iconst (pc := 83) dX7_counted_83 (by decide) ?_
            refine wp_fgt [4] (w84 hln _ ?_)
            unfold cfw
            first
              | (exfalso; omega)
              | rw [if_pos (by omega)]
              | rw [if_neg (by omega), if_pos (by omega), if_pos (by omega)]
              | rw [if_neg (by omega), if_pos (by omega), if_neg (by omega)]
              | (rw [if_neg (by omega), if_neg (by omega), if_pos (by omega)]; omega)
              | (rw [if_neg (by omega), if_neg (by omega), if_neg (by omega)]; omega)
              | (rw [if_neg (by omega), if_neg (by omega)]
                 by_cases c6 : w = 6
                 · rw [if_pos c6]; unfold lX; rw [if_pos (by omega)]
                 · rw [if_neg c6]; unfold lO; rw [if_neg (by omega)])
          · refine wp_iload_n (pc := 54) dX7_counted_54 rfl rfl ?_
            refine wp_bipush (pc := 55) dX7_counted_55 (by decide) (by decide) ?_
            refine wp_icmp_ne (pc := 57) 71 dX7_counted_57 (by decide) (fun c_57 => ?_) (fun c_57 => ?_)
            · refine wp_aload_n (pc := 71) dX7_counted_71 rfl rfl ?_
              refine wp_iload_n (pc := 72) dX7_counted_72 rfl rfl ?_
              refine wp_cvI1 (pc := 73) dX7_counted_73 mv_X7_230 (m_isOver h hL ⟨l0, hln⟩ (by omega)) (Nat.le_of_ble_eq_true rfl) rfl (Nat.le_of_ble_eq_true rfl) (fun z_73 σ_73 h_73 => ?_)
              obtain ⟨zz_73, e_73⟩ := h_73; have e2_73 := e_73.symm; subst e2_73
              refine wp_if_eq (pc := 76) 83 dX7_counted_76 (by decide) (fun c_76 => ?_) (fun c_76 => ?_)
              · refine wp_iconst (pc := 83) dX7_counted_83 (by decide) ?_
                refine wp_fgt [4] (w84 hln _ ?_)
                unfold cfw
                first
                  | (exfalso; omega)
                  | rw [if_pos (by omega)]
                  | rw [if_neg (by omega), if_pos (by omega), if_pos (by omega)]
                  | rw [if_neg (by omega), if_pos (by omega), if_neg (by omega)]
                  | (rw [if_neg (by omega), if_neg (by omega), if_pos (by omega)]; omega)
                  | (rw [if_neg (by omega), if_neg (by omega), if_neg (by omega)]; omega)
                  | (rw [if_neg (by omega), if_neg (by omega)]
                     by_cases c6 : w = 6
                     · rw [if_pos c6]; unfold lX; rw [if_pos (by omega)]
                     · rw [if_neg c6]; unfold lO; rw [if_neg (by omega)])
              · refine wp_iconst (pc := 79) dX7_counted_79 (by decide) ?_
                refine wp_goto (pc := 80) 84 dX7_counted_80 (by decide) ?_
                refine wp_fgt [4] (w84 hln _ ?_)
                unfold cfw
                first
                  | (exfalso; omega)
                  | rw [if_pos (by omega)]
                  | rw [if_neg (by omega), if_pos (by omega), if_pos (by omega)]
                  | rw [if_neg (by omega), if_pos (by omega), if_neg (by omega)]
                  | (rw [if_neg (by omega), if_neg (by omega), if_pos (by omega)]; omega)
                  | (rw [if_neg (by omega), if_neg (by omega), if_neg (by omega)]; omega)
                  | (rw [if_neg (by omega), if_neg (by omega)]
                     by_cases c6 : w = 6
                     · rw [if_pos c6]; unfold lX; rw [if_pos (by omega)]
                     · rw [if_neg c6]; unfold lO; rw [if_neg (by omega)])
            · refine wp_aload_n (pc := 60) dX7_counted_60 rfl rfl ?_
              refine wp_iload_n (pc := 61) dX7_counted_61 rfl rfl ?_
              refine wp_cvI1 (pc := 62) dX7_counted_62 mv_X7_227 (m_isClash h hL ⟨l0, hln⟩ (by omega)) (Nat.le_of_ble_eq_true rfl) rfl (Nat.le_of_ble_eq_true rfl) (fun z_62 σ_62 h_62 => ?_)
              obtain ⟨zz_62, e_62⟩ := h_62; have e2_62 := e_62.symm; subst e2_62
              refine wp_if_eq (pc := 65) 83 dX7_counted_65 (by decide) (fun c_65 => ?_) (fun c_65 => ?_)
              · refine wp_iconst (pc := 83) dX7_counted_83 (by decide) ?_
                refine wp_fgt [4] (w84 hln _ ?_)
                unfold cfw
                first
                  | (exfalso; omega)
                  | rw [if_pos (by omega)]
                  | rw [if_neg (by omega), if_pos (by omega), if_pos (by omega)]
                  | rw [if_neg (by omega), if_pos (by omega), if_neg (by omega)]
                  | (rw [if_neg (by omega), if_neg (by omega), if_pos (by omega)]; omega)
                  | (rw [if_neg (by omega), if_neg (by omega), if_neg (by omega)]; omega)
                  | (rw [if_neg (by omega), if_neg (by omega)]
                     by_cases c6 : w = 6
                     · rw [if_pos c6]; unfold lX; rw [if_pos (by omega)]
                     · rw [if_neg c6]; unfold lO; rw [if_neg (by omega)])
              · refine wp_goto (pc := 68) 79 dX7_counted_68 (by decide) ?_
                refine wp_iconst (pc := 79) dX7_counted_79 (by decide) ?_
                refine wp_goto (pc := 80) 84 dX7_counted_80 (by decide) ?_
                refine wp_fgt [4] (w84 hln _ ?_)
                unfold cfw
                first
                  | (exfalso; omega)
                  | rw [if_pos (by omega)]
                  | rw [if_neg (by omega), if_pos (by omega), if_pos (by omega)]
                  | rw [if_neg (by omega), if_pos (by omega), if_neg (by omega)]
                  | (rw [if_neg (by omega), if_neg (by omega), if_pos (by omega)]; omega)
                  | (rw [if_neg (by omega), if_neg (by omega), if_neg (by omega)]; omega)
                  | (rw [if_neg (by omega), if_neg (by omega)]
                     by_cases c6 : w = 6
                     · rw [if_pos c6]; unfold lX; rw [if_pos (by omega)]
                     · rw [if_neg c6]; unfold lO; rw [if_neg (by omega)])
        · refine wp_iload (pc := 41) dX7_counted_41 rfl ?_
          refine wp_if_eq (pc := 43) 83 dX7_counted_43 (by decide) (fun c_43 => ?_) (fun c_43 => ?_)
          · refine wp_iconst (pc := 83) dX7_counted_83 (by decide) ?_
            refine wp_fgt [4] (w84 hln _ ?_)
            unfold cfw
            first
              | (exfalso; omega)
              | rw [if_pos (by omega)]
              | rw [if_neg (by omega), if_pos (by omega), if_pos (by omega)]
              | rw [if_neg (by omega), if_pos (by omega), if_neg (by omega)]
              | (rw [if_neg (by omega), if_neg (by omega), if_pos (by omega)]; omega)
              | (rw [if_neg (by omega), if_neg (by omega), if_neg (by omega)]; omega)
              | (rw [if_neg (by omega), if_neg (by omega)]
                 by_cases c6 : w = 6
                 · rw [if_pos c6]; unfold lX; rw [if_pos (by omega)]
                 · rw [if_neg c6]; unfold lO; rw [if_neg (by omega)])
          · refine wp_goto (pc := 46) 79 dX7_counted_46 (by decide) ?_
            refine wp_iconst (pc := 79) dX7_counted_79 (by decide) ?_
            refine wp_goto (pc := 80) 84 dX7_counted_80 (by decide) ?_
            refine wp_fgt [4] (w84 hln _ ?_)
            unfold cfw
            first
              | (exfalso; omega)
              | rw [if_pos (by omega)]
              | rw [if_neg (by omega), if_pos (by omega), if_pos (by omega)]
              | rw [if_neg (by omega), if_pos (by omega), if_neg (by omega)]
              | (rw [if_neg (by omega), if_neg (by omega), if_pos (by omega)]; omega)
              | (rw [if_neg (by omega), if_neg (by omega), if_neg (by omega)]; omega)
              | (rw [if_neg (by omega), if_neg (by omega)]
                 by_cases c6 : w = 6
                 · rw [if_pos c6]; unfold lX; rw [if_pos (by omega)]
                 · rw [if_neg c6]; unfold lO; rw [if_neg (by omega)])
    refine wp_iload_n (pc := 4) dX7_counted_4 rfl rfl ?_
    refine wp_aload_n (pc := 5) dX7_counted_5 rfl rfl ?_
    refine wp_getI (pc := 6) 25 dX7_counted_6 fl_X7_214 rfl rfl ?_
    refine wp_icmp_ge (pc := 9) 92 dX7_counted_9 (by decide) (fun c_9 => ?_) (fun c_9 => ?_)
    · refine wp_iload_n (pc := 92) dX7_counted_92 rfl rfl ?_
      refine wp_ireturn (pc := 93) dX7_counted_93 rfl ?_
      rw [show l = nL D S by omega]
      exact ⟨_, rfl, rfl, rfl⟩
    · refine wp_aload_n (pc := 12) dX7_counted_12 rfl rfl ?_
      refine wp_getR (pc := 13) (q := 84) dX7_counted_13 fl_X7_47 rfl ?_
      refine wp_iload_n (pc := 16) dX7_counted_16 rfl rfl ?_
      refine wp_iald (pc := 17) 300 dX7_counted_17 rfl (by omega) ?_
      rw [a (by omega)]
      refine wp_bipush (pc := 18) dX7_counted_18 (by decide) (by decide) ?_
      refine wp_icmp_ne (pc := 20) 27 dX7_counted_20 (by decide) (fun c_20 => ?_) (fun c_20 => ?_)
      · refine wp_iconst (pc := 27) dX7_counted_27 (by decide) ?_
        first
          | exact w28 (by omega) _ (Or.inl ⟨rfl, by omega⟩)
          | exact w28 (by omega) _ (Or.inr ⟨rfl, by omega⟩)
      · refine wp_iconst (pc := 23) dX7_counted_23 (by decide) ?_
        refine wp_goto (pc := 24) 28 dX7_counted_24 (by decide) ?_
        first
          | exact w28 (by omega) _ (Or.inl ⟨rfl, by omega⟩)
          | exact w28 (by omega) _ (Or.inr ⟨rfl, by omega⟩)
  refine wp_iconst (pc := 0) dX7_counted_0 (by decide) ?_
  refine wp_istore_n (pc := 1) dX7_counted_1 rfl (Nat.le_of_ble_eq_true rfl) rfl ?_
  refine wp_iconst (pc := 2) dX7_counted_2 (by decide) ?_
  refine wp_istore_n (pc := 3) dX7_counted_3 rfl (Nat.le_of_ble_eq_true rfl) rfl ?_
  exact lp 0 (by omega) (by decide)
set_option maxHeartbeats 4000000 in
set_option maxRecDepth 100000 in
theorem sumI_one {n : Int} (h : 0 ≤ n) : sumI (fun _ => 1) n = n := by
  have : ∀ m : Nat, sumN (fun _ => 1) m = m := by
    intro m
    induction m with
    | zero => rfl
    | succ m ih => simp only [sumN, ih]; omega
  unfold sumI
  rw [this]; omega
set_option maxHeartbeats 4000000 in
set_option maxRecDepth 100000 in
theorem cfw_at (D S : Sto) (h : OKD D S) : sumI (cfw D S 4) (nL D S) = nL D S ∧ sumI (cfw D S 5) (nL D S) = sumI (fun l => if own D S l < 0 then 1 else 0) (nL D S) ∧ sumI (cfw D S 6) (nL D S) = sX D S ∧ sumI (cfw D S 7) (nL D S) = sO D S := by
  refine ⟨?_, ?_, ?_, ?_⟩
  · rw [sumI_cong (g := fun _ => 1) (fun k _ _ => by unfold cfw; rw [if_pos rfl])]
    exact sumI_one (nL_bd h).1
  · exact sumI_cong (fun k _ _ => by unfold cfw; rw [if_neg (by decide), if_pos rfl])
  · exact sumI_cong (fun k _ _ => by unfold cfw; rw [if_neg (by decide), if_neg (by decide), if_pos rfl])
  · exact sumI_cong (fun k _ _ => by unfold cfw; rw [if_neg (by decide), if_neg (by decide), if_neg (by decide)])
set_option maxHeartbeats 4000000 in
set_option maxRecDepth 100000 in
theorem code_ext {c e : Int} (c0 : 0 ≤ c) (c1 : c < 1073741824) (e0 : 0 ≤ e) (e1 : e < 1073741824) (h : ∀ k, 0 ≤ k → k < 6 → ltr c k = ltr e k) : c = e := by
  have h0 := h 0 (by decide) (by decide)
  have h1 := h 1 (by decide) (by decide)
  have h2 := h 2 (by decide) (by decide)
  have h3 := h 3 (by decide) (by decide)
  have h4 := h 4 (by decide) (by decide)
  have h5 := h 5 (by decide) (by decide)
  unfold ltr at h0 h1 h2 h3 h4 h5
  rw [pl_eq (by decide) (by decide)] at h0 h1 h2 h3 h4 h5
  simp [pl] at h0 h1 h2 h3 h4 h5
  omega
def wl (D : Sto) (w k : Int) : Int := if k = 0 then nlt (D 4 w) else ltr (D 4 w) (k - 1)
set_option maxHeartbeats 4000000 in
set_option maxRecDepth 100000 in
theorem RM.wlk {σ D S : Sto} (h : RM σ D S) {w k : Int} (w0 : 0 ≤ w) (hw : w < tot D) (k0 : 0 ≤ k) (hk : k < 7) : σ 72 (25 + 7 * w + k) = wl D w k := by
  obtain ⟨a, b, -⟩ := h.w w0 hw
  unfold wl
  by_cases e : k = 0
  · rw [if_pos e, e, Int.add_zero]; exact a
  · rw [if_neg e, ← b (k - 1) (by omega) (by omega)]
    congr 1; omega
set_option maxHeartbeats 4000000 in
set_option maxRecDepth 100000 in
theorem m_isLikeWord {σ D S : Sto} {a b : Int} (h : RM σ D S) (ha : 0 ≤ a ∧ a < tot D) (hb : 0 ≤ b ∧ b < tot D) : CtI yX7_isLikeWord cX7_isLikeWord 5 (some .boolean) 0 [mR 71, mI a, mI b] σ (fun z σ' => ((z = 1 ∧ D 4 b = D 4 a) ∨ (z = 0 ∧ ¬ D 4 b = D 4 a)) ∧ σ' = σ) := by
  refine ct_of rfl [some (mR 71), some (mI a), some (mI b), none, none] (Nat.le_of_ble_eq_true rfl) rfl (fun hσ => ?_)
  show Wp cX7_isLikeWord RX7 (some .boolean) 0 0 [some (mR 71), some (mI a), some (mI b), none, none] [] _ _
  have n := h.n
  have oa := (h.w ha.1 ha.2).2.2.1
  have ob := (h.w hb.1 hb.2).2.2.1
  have lp : ∀ k, k ≤ 7 → 0 ≤ k → ∀ v : Int, ((v = 1 ∧ ∀ j, 0 ≤ j → j < k → wl D a j = wl D b j) ∨ (v = 0 ∧ ¬ D 4 b = D 4 a)) → Wp cX7_isLikeWord RX7 (some .boolean) 0 5 [some (mR 71), some (mI a), some (mI b), some (mI v), some (mI k)] [] σ (fun v σ' => ∃ z, v = some (mI z) ∧ (fun z σ' => ((z = 1 ∧ D 4 b = D 4 a) ∨ (z = 0 ∧ ¬ D 4 b = D 4 a)) ∧ σ' = σ) z σ') := by
    refine up_ind _ (fun k hk ih k0 v hv => ?_)
    have e1 := fun c => h.wlk ha.1 ha.2 k0 (show k < 7 from c)
    have e2 := fun c => h.wlk hb.1 hb.2 k0 (show k < 7 from c)
    refine wp_iload (pc := 5) dX7_isLikeWord_5 rfl ?_
    refine wp_bipush (pc := 7) dX7_isLikeWord_7 (by decide) (by decide) ?_
    refine wp_icmp_ge (pc := 9) 61 dX7_isLikeWord_9 (by decide) (fun c_9 => ?_) (fun c_9 => ?_)
    · refine wp_iload_n (pc := 61) dX7_isLikeWord_61 rfl rfl ?_
      refine wp_zreturn (pc := 62) dX7_isLikeWord_62 rfl (by rcases hv with c | c <;> omega) ?_
      refine ⟨_, rfl, ?_, rfl⟩
      rcases hv with c | c
      · left
        refine ⟨c.1, ?_⟩
        refine code_ext ob.1 ob.2.1 oa.1 oa.2.1 (fun j j0 j1 => ?_)
        have := c.2 (j + 1) (by omega) (by omega)
        unfold wl at this
        rw [if_neg (by omega), if_neg (by omega), show j + 1 - 1 = j by omega] at this
        exact this.symm
      · exact Or.inr c
    · refine wp_iload_n (pc := 12) dX7_isLikeWord_12 rfl rfl ?_
      refine wp_if_eq (pc := 13) 53 dX7_isLikeWord_13 (by decide) (fun c_13 => ?_) (fun c_13 => ?_)
      · refine wp_iconst (pc := 53) dX7_isLikeWord_53 (by decide) ?_
        refine wp_istore_n (pc := 54) dX7_isLikeWord_54 rfl (Nat.le_of_ble_eq_true rfl) rfl ?_
        refine wp_iinc (pc := 55) dX7_isLikeWord_55 rfl rfl (by omega) ?_
        refine wp_goto (pc := 58) 5 dX7_isLikeWord_58 (by decide) ?_
        refine ih (by omega) (by omega) _ ?_
        first
          | (right
             refine ⟨rfl, ?_⟩
             rcases hv with c | c
             · exact absurd c.1 (by omega)
             · exact c.2)
          | (right
             refine ⟨rfl, fun e => c_46 ?_⟩
             unfold wl
             rw [e])
          | (left
             refine ⟨rfl, fun j j0 j1 => ?_⟩
             by_cases e : j = k
             · rw [e]; exact c_46
             · rcases hv with c | c
               · exact c.2 j j0 (by omega)
               · exact absurd c.1 (by omega))
      · refine wp_aload_n (pc := 16) dX7_isLikeWord_16 rfl rfl ?_
        refine wp_getR (pc := 17) (q := 72) dX7_isLikeWord_17 fl_X7_7 rfl ?_
        refine wp_bipush (pc := 20) dX7_isLikeWord_20 (by decide) (by decide) ?_
        refine wp_bipush (pc := 22) dX7_isLikeWord_22 (by decide) (by decide) ?_
        refine wp_iload_n (pc := 24) dX7_isLikeWord_24 rfl rfl ?_
        refine wp_imul (pc := 25) dX7_isLikeWord_25 (by omega) ?_
        refine wp_iadd (pc := 26) dX7_isLikeWord_26 (by omega) ?_
        refine wp_iload (pc := 27) dX7_isLikeWord_27 rfl ?_
        refine wp_iadd (pc := 29) dX7_isLikeWord_29 (by omega) ?_
        refine wp_iald (pc := 30) 591 dX7_isLikeWord_30 rfl (by omega) ?_
        rw [e1 (by omega)]
        refine wp_aload_n (pc := 31) dX7_isLikeWord_31 rfl rfl ?_
        refine wp_getR (pc := 32) (q := 72) dX7_isLikeWord_32 fl_X7_7 rfl ?_
        refine wp_bipush (pc := 35) dX7_isLikeWord_35 (by decide) (by decide) ?_
        refine wp_bipush (pc := 37) dX7_isLikeWord_37 (by decide) (by decide) ?_
        refine wp_iload_n (pc := 39) dX7_isLikeWord_39 rfl rfl ?_
        refine wp_imul (pc := 40) dX7_isLikeWord_40 (by omega) ?_
        refine wp_iadd (pc := 41) dX7_isLikeWord_41 (by omega) ?_
        refine wp_iload (pc := 42) dX7_isLikeWord_42 rfl ?_
        refine wp_iadd (pc := 44) dX7_isLikeWord_44 (by omega) ?_
        refine wp_iald (pc := 45) 591 dX7_isLikeWord_45 rfl (by omega) ?_
        rw [e2 (by omega)]
        refine wp_icmp_ne (pc := 46) 53 dX7_isLikeWord_46 (by decide) (fun c_46 => ?_) (fun c_46 => ?_)
        · refine wp_iconst (pc := 53) dX7_isLikeWord_53 (by decide) ?_
          refine wp_istore_n (pc := 54) dX7_isLikeWord_54 rfl (Nat.le_of_ble_eq_true rfl) rfl ?_
          refine wp_iinc (pc := 55) dX7_isLikeWord_55 rfl rfl (by omega) ?_
          refine wp_goto (pc := 58) 5 dX7_isLikeWord_58 (by decide) ?_
          refine ih (by omega) (by omega) _ ?_
          first
            | (right
               refine ⟨rfl, ?_⟩
               rcases hv with c | c
               · exact absurd c.1 (by omega)
               · exact c.2)
            | (right
               refine ⟨rfl, fun e => c_46 ?_⟩
               unfold wl
               rw [e])
            | (left
               refine ⟨rfl, fun j j0 j1 => ?_⟩
               by_cases e : j = k
               · rw [e]; exact c_46
               · rcases hv with c | c
                 · exact c.2 j j0 (by omega)
                 · exact absurd c.1 (by omega))
        · refine wp_iconst (pc := 49) dX7_isLikeWord_49 (by decide) ?_
          refine wp_goto (pc := 50) 54 dX7_isLikeWord_50 (by decide) ?_
          refine wp_istore_n (pc := 54) dX7_isLikeWord_54 rfl (Nat.le_of_ble_eq_true rfl) rfl ?_
          refine wp_iinc (pc := 55) dX7_isLikeWord_55 rfl rfl (by omega) ?_
          refine wp_goto (pc := 58) 5 dX7_isLikeWord_58 (by decide) ?_
          refine ih (by omega) (by omega) _ ?_
          first
            | (right
               refine ⟨rfl, ?_⟩
               rcases hv with c | c
               · exact absurd c.1 (by omega)
               · exact c.2)
            | (right
               refine ⟨rfl, fun e => c_46 ?_⟩
               unfold wl
               rw [e])
            | (left
               refine ⟨rfl, fun j j0 j1 => ?_⟩
               by_cases e : j = k
               · rw [e]; exact c_46
               · rcases hv with c | c
                 · exact c.2 j j0 (by omega)
                 · exact absurd c.1 (by omega))
  refine wp_iconst (pc := 0) dX7_isLikeWord_0 (by decide) ?_
  refine wp_istore_n (pc := 1) dX7_isLikeWord_1 rfl (Nat.le_of_ble_eq_true rfl) rfl ?_
  refine wp_iconst (pc := 2) dX7_isLikeWord_2 (by decide) ?_
  refine wp_istore (pc := 3) dX7_isLikeWord_3 (Nat.le_of_ble_eq_true rfl) rfl ?_
  exact lp 0 (by decide) (by decide) 1 (Or.inl ⟨rfl, fun j j0 j1 => by omega⟩)
set_option maxHeartbeats 4000000 in
set_option maxRecDepth 100000 in
theorem m_likes {σ D S : Sto} {w m : Int} (h : RM σ D S) (hw : 0 ≤ w ∧ w < tot D) (hm : 0 ≤ m ∧ m ≤ tot D) : CtI yX7_likes cX7_likes 5 (some .int) 1 [mR 71, mI w, mI m] σ (fun z σ' => z = lkN (D 4) (D 4 w) m ∧ σ' = σ) := by
  refine ct_of rfl [some (mR 71), some (mI w), some (mI m), none, none] (Nat.le_of_ble_eq_true rfl) rfl (fun hσ => ?_)
  show Wp cX7_likes RX7 (some .int) 1 0 [some (mR 71), some (mI w), some (mI m), none, none] [] _ _
  have n := h.n
  have lp : ∀ k, k ≤ m → 0 ≤ k → Wp cX7_likes RX7 (some .int) 1 5 [some (mR 71), some (mI w), some (mI m), some (mI (lkN (D 4) (D 4 w) k)), some (mI k)] [] σ (fun v σ' => ∃ z, v = some (mI z) ∧ (fun z σ' => z = lkN (D 4) (D 4 w) m ∧ σ' = σ) z σ') := by
    refine up_ind _ (fun k hk ih k0 => ?_)
    have hb := lkN_bd (D 4) (D 4 w) k0
    have hs : lkN (D 4) (D 4 w) (k + 1) = lkN (D 4) (D 4 w) k + (if D 4 k = D 4 w then 1 else 0) := sumI_s k0
    refine wp_iload (pc := 5) dX7_likes_5 rfl ?_
    refine wp_iload_n (pc := 7) dX7_likes_7 rfl rfl ?_
    refine wp_icmp_ge (pc := 8) 35 dX7_likes_8 (by decide) (fun c_8 => ?_) (fun c_8 => ?_)
    · refine wp_iload_n (pc := 35) dX7_likes_35 rfl rfl ?_
      refine wp_ireturn (pc := 36) dX7_likes_36 rfl ?_
      rw [show k = m by omega]
      exact ⟨_, rfl, rfl, rfl⟩
    · refine wp_iload_n (pc := 11) dX7_likes_11 rfl rfl ?_
      refine wp_aload_n (pc := 12) dX7_likes_12 rfl rfl ?_
      refine wp_iload_n (pc := 13) dX7_likes_13 rfl rfl ?_
      refine wp_iload (pc := 14) dX7_likes_14 rfl ?_
      refine wp_cvI2 (pc := 16) dX7_likes_16 mv_X7_233 (m_isLikeWord h hw (by omega)) (Nat.le_of_ble_eq_true rfl) rfl (Nat.le_of_ble_eq_true rfl) (fun z_16 σ_16 h_16 => ?_)
      obtain ⟨y_16, e_16⟩ := h_16; have e2_16 := e_16.symm; subst e2_16
      refine wp_if_eq (pc := 19) 26 dX7_likes_19 (by decide) (fun c_19 => ?_) (fun c_19 => ?_)
      · refine wp_iconst (pc := 26) dX7_likes_26 (by decide) ?_
        refine wp_iadd (pc := 27) dX7_likes_27 (by omega) ?_
        refine wp_istore_n (pc := 28) dX7_likes_28 rfl (Nat.le_of_ble_eq_true rfl) rfl ?_
        refine wp_iinc (pc := 29) dX7_likes_29 rfl rfl (by omega) ?_
        refine wp_goto (pc := 32) 5 dX7_likes_32 (by decide) ?_
        have ih2 := ih (by omega) (by omega)
        rw [hs] at ih2
        first
          | (rw [if_pos (by omega)] at ih2
             exact ih2)
          | (rw [if_neg (by omega)] at ih2
             exact ih2)
      · refine wp_iconst (pc := 22) dX7_likes_22 (by decide) ?_
        refine wp_goto (pc := 23) 27 dX7_likes_23 (by decide) ?_
        refine wp_iadd (pc := 27) dX7_likes_27 (by omega) ?_
        refine wp_istore_n (pc := 28) dX7_likes_28 rfl (Nat.le_of_ble_eq_true rfl) rfl ?_
        refine wp_iinc (pc := 29) dX7_likes_29 rfl rfl (by omega) ?_
        refine wp_goto (pc := 32) 5 dX7_likes_32 (by decide) ?_
        have ih2 := ih (by omega) (by omega)
        rw [hs] at ih2
        first
          | (rw [if_pos (by omega)] at ih2
             exact ih2)
          | (rw [if_neg (by omega)] at ih2
             exact ih2)
  refine wp_iconst (pc := 0) dX7_likes_0 (by decide) ?_
  refine wp_istore_n (pc := 1) dX7_likes_1 rfl (Nat.le_of_ble_eq_true rfl) rfl ?_
  refine wp_iconst (pc := 2) dX7_likes_2 (by decide) ?_
  refine wp_istore (pc := 3) dX7_likes_3 (Nat.le_of_ble_eq_true rfl) rfl ?_
  exact lp 0 (by omega) (by decide)
set_option maxHeartbeats 4000000 in
set_option maxRecDepth 100000 in
theorem m_unlike {σ D S : Sto} (h : RM σ D S) : CtI yX7_unlike cX7_unlike 3 (some .int) 3 [mR 71] σ (fun z σ' => z = unN (D 4) (tot D) ∧ σ' = σ) := by
  refine ct_of rfl [some (mR 71), none, none] (Nat.le_of_ble_eq_true rfl) rfl (fun hσ => ?_)
  show Wp cX7_unlike RX7 (some .int) 3 0 [some (mR 71), none, none] [] _ _
  have n := h.n
  have lp : ∀ k, k ≤ tot D → 0 ≤ k → Wp cX7_unlike RX7 (some .int) 3 4 [some (mR 71), some (mI (unN (D 4) k)), some (mI k)] [] σ (fun v σ' => ∃ z, v = some (mI z) ∧ (fun z σ' => z = unN (D 4) (tot D) ∧ σ' = σ) z σ') := by
    refine up_ind _ (fun k hk ih k0 => ?_)
    have hb : 0 ≤ unN (D 4) k ∧ unN (D 4) k ≤ k * 1 := sumI_bd k0 (fun k _ _ => by split <;> omega)
    have hs : unN (D 4) (k + 1) = unN (D 4) k + (if lkN (D 4) (D 4 k) k = 0 then 1 else 0) := sumI_s k0
    refine wp_iload_n (pc := 4) dX7_unlike_4 rfl rfl ?_
    refine wp_aload_n (pc := 5) dX7_unlike_5 rfl rfl ?_
    refine wp_cvI0 (pc := 6) dX7_unlike_6 mv_X7_237 (m_allWords h) (Nat.le_of_ble_eq_true rfl) rfl (Nat.le_of_ble_eq_true rfl) (fun z_6 σ_6 h_6 => ?_)
    obtain ⟨rfl, e_6⟩ := h_6; have e2_6 := e_6.symm; subst e2_6
    refine wp_icmp_ge (pc := 9) 35 dX7_unlike_9 (by decide) (fun c_9 => ?_) (fun c_9 => ?_)
    · refine wp_iload_n (pc := 35) dX7_unlike_35 rfl rfl ?_
      refine wp_ireturn (pc := 36) dX7_unlike_36 rfl ?_
      rw [show k = tot D by omega]
      exact ⟨_, rfl, rfl, rfl⟩
    · refine wp_iload_n (pc := 12) dX7_unlike_12 rfl rfl ?_
      refine wp_aload_n (pc := 13) dX7_unlike_13 rfl rfl ?_
      refine wp_iload_n (pc := 14) dX7_unlike_14 rfl rfl ?_
      refine wp_iload_n (pc := 15) dX7_unlike_15 rfl rfl ?_
      refine wp_cvI2 (pc := 16) dX7_unlike_16 mv_X7_240 (m_likes h (by omega) (by omega)) (Nat.le_of_ble_eq_true rfl) rfl (Nat.le_of_ble_eq_true rfl) (fun z_16 σ_16 h_16 => ?_)
      obtain ⟨y_16, e_16⟩ := h_16; have e2_16 := e_16.symm; subst e2_16
      refine wp_if_ne (pc := 19) 26 dX7_unlike_19 (by decide) (fun c_19 => ?_) (fun c_19 => ?_)
      · refine wp_iconst (pc := 26) dX7_unlike_26 (by decide) ?_
        refine wp_iadd (pc := 27) dX7_unlike_27 (by omega) ?_
        refine wp_istore_n (pc := 28) dX7_unlike_28 rfl (Nat.le_of_ble_eq_true rfl) rfl ?_
        refine wp_iinc (pc := 29) dX7_unlike_29 rfl rfl (by omega) ?_
        refine wp_goto (pc := 32) 4 dX7_unlike_32 (by decide) ?_
        have ih2 := ih (by omega) (by omega)
        rw [hs] at ih2
        first
          | (rw [if_pos (by omega)] at ih2
             exact ih2)
          | (rw [if_neg (by omega)] at ih2
             exact ih2)
      · refine wp_iconst (pc := 22) dX7_unlike_22 (by decide) ?_
        refine wp_goto (pc := 23) 27 dX7_unlike_23 (by decide) ?_
        refine wp_iadd (pc := 27) dX7_unlike_27 (by omega) ?_
        refine wp_istore_n (pc := 28) dX7_unlike_28 rfl (Nat.le_of_ble_eq_true rfl) rfl ?_
        refine wp_iinc (pc := 29) dX7_unlike_29 rfl rfl (by omega) ?_
        refine wp_goto (pc := 32) 4 dX7_unlike_32 (by decide) ?_
        have ih2 := ih (by omega) (by omega)
        rw [hs] at ih2
        first
          | (rw [if_pos (by omega)] at ih2
             exact ih2)
          | (rw [if_neg (by omega)] at ih2
             exact ih2)
  refine wp_iconst (pc := 0) dX7_unlike_0 (by decide) ?_
  refine wp_istore_n (pc := 1) dX7_unlike_1 rfl (Nat.le_of_ble_eq_true rfl) rfl ?_
  refine wp_iconst (pc := 2) dX7_unlike_2 (by decide) ?_
  refine wp_istore_n (pc := 3) dX7_unlike_3 rfl (Nat.le_of_ble_eq_true rfl) rfl ?_
  exact lp 0 (by omega) (by decide)
