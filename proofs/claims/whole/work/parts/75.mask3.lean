set_option maxHeartbeats 4000000 in
set_option maxRecDepth 100000 in
theorem isLn_ex {D S : Sto} (h : OKD D S) (hS : OKS S) {p i : Int} (p0 : 0 ≤ p) (hp : p < D 0 0) (i0 : 0 ≤ i) (hi : i < D 1 p) : ∃ z, isLn D S p i z := by
  obtain ⟨c1, c2, c3⟩ := LC_ok h hS p0 hp
  have le := LE_eq D S p0
  have lb := LBb h p0 hp
  have key : ∀ m : Nat, (m : Int) ≤ LM D S p → i < sumI (LC D S p) m → ∃ t : Int, 0 ≤ t ∧ t < LM D S p ∧ sumI (LC D S p) t ≤ i ∧ i < sumI (LC D S p) (t + 1) := by
    intro m
    induction m with
    | zero => intro _ hz; rw [show ((0 : Nat) : Int) = 0 from rfl, sumI_0] at hz; omega
    | succ m ih =>
      intro hm hz
      by_cases c : i < sumI (LC D S p) m
      · exact ih (by omega) c
      · refine ⟨m, by omega, by omega, by omega, ?_⟩
        rw [show ((m + 1 : Nat) : Int) = (m : Int) + 1 by omega] at hz
        exact hz
  obtain ⟨t, t0, t1, t2, t3⟩ := key (LM D S p).toNat (by omega) (by rw [show (((LM D S p).toNat : Nat) : Int) = LM D S p by omega, c2]; exact hi)
  refine ⟨LB D S p + t, by omega, by omega, ?_, ?_⟩
  · rw [show LB D S p + t - LB D S p = t by omega]; exact t2
  · rw [show LB D S p + t - LB D S p = t by omega]; exact t3
set_option maxHeartbeats 4000000 in
set_option maxRecDepth 100000 in
theorem fst_mono {D S : Sto} (h : OKD D S) {q p : Int} (q0 : 0 ≤ q) (hq : q ≤ p) (hp : p ≤ D 0 0) : fstS D q ≤ fstS D p := sumI_mono q0 hq (fun k k0 k1 => by have := h.2.1 k k0 (by omega); omega)
set_option maxHeartbeats 4000000 in
set_option maxRecDepth 100000 in
theorem ln_at {D S : Sto} (h : OKD D S) (hS : OKS S) {p i z l : Int} (p0 : 0 ≤ p) (hp : p < D 0 0) (hz : isLn D S p i z) (ho : 0 ≤ own D S l) (i0 : 0 ≤ i) (hl : l ≤ z) : (l < z → fstS D (own D S l) + lF D S l + lNw D S l ≤ fstS D p + i) ∧ (l = z → own D S l = p ∧ lF D S l ≤ i ∧ i < lF D S l + lNw D S l ∧ lF D S l = sumI (LC D S p) (l - LB D S p)) := by
  obtain ⟨z1, z2, z3, z4⟩ := hz
  have oa := own_at h ho
  have u := lU_bd h hS ho
  obtain ⟨c1, c2, c3⟩ := LC_ok h hS p0 hp
  have le := LE_eq D S p0
  constructor
  · intro hlt
    by_cases hq : own D S l = p
    · have e1 : lF D S l = sumI (LC D S p) (l - LB D S p) := by unfold lF; rw [hq]
      have e2 : lNw D S l = LC D S p (l - LB D S p) := by unfold lNw; rw [hq]
      rw [hq] at oa ⊢
      have hs := sumI_s (f := LC D S p) (n := l - LB D S p) (by omega)
      have hm := sumI_mono (f := LC D S p) (m := l - LB D S p + 1) (n := z - LB D S p) (by omega) (by omega) (fun k k0 k1 => by have := c1 k k0 (by omega); omega)
      omega
    · by_cases hlt2 : own D S l < p
      · have hm := fst_mono h (q := own D S l + 1) (p := p) (by omega) (by omega) (by omega)
        have hs := fst_s D ho
        omega
      · exfalso
        have := LE_LB h p0 (show p < own D S l by omega) oa.1
        have := LBb h ho oa.1
        omega
  · intro e
    have hq : own D S l = p := own_in h p0 hp (by omega) (by omega)
    have e1 : lF D S l = sumI (LC D S p) (l - LB D S p) := by unfold lF; rw [hq]
    have e2 : lNw D S l = LC D S p (l - LB D S p) := by unfold lNw; rw [hq]
    have hs := sumI_s (f := LC D S p) (n := l - LB D S p) (by omega)
    rw [← e] at z3 z4
    refine ⟨hq, by omega, by omega, e1⟩
set_option maxHeartbeats 4000000 in
set_option maxRecDepth 100000 in
theorem m_lineOfWord {σ D S : Sto} {p i w : Int} (h : RM σ D S) (hL : LayM σ D S (D 0 0)) (hp : 0 ≤ p ∧ p < D 0 0) (hi : 0 ≤ i ∧ i < D 1 p) (hw : w = fstS D p + i) : CtI yX7_lineOfWord cX7_lineOfWord 3 (some .int) 0 [mR 71, mI w] σ (fun z σ' => isLn D S p i z ∧ σ' = σ) := by
  refine ct_of rfl [some (mR 71), some (mI w), none] (Nat.le_of_ble_eq_true rfl) rfl (fun hσ => ?_)
  show Wp cX7_lineOfWord RX7 (some .int) 0 0 [some (mR 71), some (mI w), none] [] _ _
  have hD := h.2.2.2.1
  have hS := h.2.2.2.2
  have n := h.n
  obtain ⟨z, hz⟩ := isLn_ex hD hS hp.1 hp.2 hi.1 hi.2
  have lb := LBb hD hp.1 hp.2
  have ln := LE_nL hD hp.1 hp.2
  have hz1 := hz.1
  have hz2 := hz.2.1
  have q := h.p hp.1 hp.2
  have lp : ∀ l, l ≤ z → 0 ≤ l → Wp cX7_lineOfWord RX7 (some .int) 0 2 [some (mR 71), some (mI w), some (mI l)] [] σ (fun v σ' => ∃ z, v = some (mI z) ∧ (fun z σ' => isLn D S p i z ∧ σ' = σ) z σ') := by
    refine up_ind _ (fun l hl ih l0 => ?_)
    obtain ⟨a, b⟩ := layM_line hD hL l0 (show l < nL D S by omega)
    have hob := own_bd D S l
    have hk := fun c => ln_at hD hS hp.1 hp.2 hz (l := l) c hi.1 hl
    have hu := fun c => lU_bd hD hS (l := l) c
    have hp2 := fun c d => h.p (p := own D S l) c d
    have hzo : l = z → own D S l = p := fun e => own_in hD hp.1 hp.2 (by omega) (by omega)
    refine wp_aload_n (pc := 2) dX7_lineOfWord_2 rfl rfl ?_
    refine wp_getR (pc := 3) (q := 84) dX7_lineOfWord_3 fl_X7_47 rfl ?_
    refine wp_iload_n (pc := 6) dX7_lineOfWord_6 rfl rfl ?_
    refine wp_iald (pc := 7) 300 dX7_lineOfWord_7 rfl (by omega) ?_
    rw [a]
    refine wp_bipush (pc := 8) dX7_lineOfWord_8 (by decide) (by decide) ?_
    refine wp_icmp_eq (pc := 10) 40 dX7_lineOfWord_10 (by decide) (fun c_10 => ?_) (fun c_10 => ?_)
    · refine wp_iinc (pc := 40) dX7_lineOfWord_40 rfl rfl (by omega) ?_
      refine wp_goto (pc := 43) 2 dX7_lineOfWord_43 (by decide) ?_
      refine ih ?_ (by omega)
      apply Classical.byContradiction
      intro hn
      have e : l = z := by omega
      first
        | (have := hzo e
           omega)
        | (have := hk2.2 e
           have e2 := this.1
           rw [e2] at c_20
           omega)
        | (have := hk2.2 e
           have e2 := this.1
           rw [e2] at c_37
           omega)
    · have ho : 0 ≤ own D S l := by omega
      obtain ⟨b1, b2, b3⟩ := b ho
      have hk2 := hk ho
      have hu2 := hu ho
      have hp3 := hp2 ho (by omega)
      refine wp_iload_n (pc := 13) dX7_lineOfWord_13 rfl rfl ?_
      refine wp_aload_n (pc := 14) dX7_lineOfWord_14 rfl rfl ?_
      refine wp_getR (pc := 15) (q := 85) dX7_lineOfWord_15 fl_X7_50 rfl ?_
      refine wp_iload_n (pc := 18) dX7_lineOfWord_18 rfl rfl ?_
      refine wp_iald (pc := 19) 300 dX7_lineOfWord_19 rfl (by omega) ?_
      rw [b1]
      refine wp_icmp_lt (pc := 20) 40 dX7_lineOfWord_20 (by decide) (fun c_20 => ?_) (fun c_20 => ?_)
      · refine wp_iinc (pc := 40) dX7_lineOfWord_40 rfl rfl (by omega) ?_
        refine wp_goto (pc := 43) 2 dX7_lineOfWord_43 (by decide) ?_
        refine ih ?_ (by omega)
        apply Classical.byContradiction
        intro hn
        have e : l = z := by omega
        first
          | (have := hzo e
             omega)
          | (have := hk2.2 e
             have e2 := this.1
             rw [e2] at c_20
             omega)
          | (have := hk2.2 e
             have e2 := this.1
             rw [e2] at c_37
             omega)
      · refine wp_iload_n (pc := 23) dX7_lineOfWord_23 rfl rfl ?_
        refine wp_aload_n (pc := 24) dX7_lineOfWord_24 rfl rfl ?_
        refine wp_getR (pc := 25) (q := 85) dX7_lineOfWord_25 fl_X7_50 rfl ?_
        refine wp_iload_n (pc := 28) dX7_lineOfWord_28 rfl rfl ?_
        refine wp_iald (pc := 29) 300 dX7_lineOfWord_29 rfl (by omega) ?_
        rw [b1]
        refine wp_aload_n (pc := 30) dX7_lineOfWord_30 rfl rfl ?_
        refine wp_getR (pc := 31) (q := 86) dX7_lineOfWord_31 fl_X7_53 rfl ?_
        refine wp_iload_n (pc := 34) dX7_lineOfWord_34 rfl rfl ?_
        refine wp_iald (pc := 35) 300 dX7_lineOfWord_35 rfl (by omega) ?_
        rw [b2]
        refine wp_iadd (pc := 36) dX7_lineOfWord_36 (by omega) ?_
        refine wp_icmp_lt (pc := 37) 46 dX7_lineOfWord_37 (by decide) (fun c_37 => ?_) (fun c_37 => ?_)
        · refine wp_iload_n (pc := 46) dX7_lineOfWord_46 rfl rfl ?_
          refine wp_ireturn (pc := 47) dX7_lineOfWord_47 rfl ?_
          have e : l = z := by
            apply Classical.byContradiction
            intro hn
            have := hk2.1 (by omega)
            omega
          rw [e]
          exact ⟨_, rfl, hz, rfl⟩
        · refine wp_iinc (pc := 40) dX7_lineOfWord_40 rfl rfl (by omega) ?_
          refine wp_goto (pc := 43) 2 dX7_lineOfWord_43 (by decide) ?_
          refine ih ?_ (by omega)
          apply Classical.byContradiction
          intro hn
          have e : l = z := by omega
          first
            | (have := hzo e
               omega)
            | (have := hk2.2 e
               have e2 := this.1
               rw [e2] at c_20
               omega)
            | (have := hk2.2 e
               have e2 := this.1
               rw [e2] at c_37
               omega)
  refine wp_iconst (pc := 0) dX7_lineOfWord_0 (by decide) ?_
  refine wp_istore_n (pc := 1) dX7_lineOfWord_1 rfl (Nat.le_of_ble_eq_true rfl) rfl ?_
  exact lp 0 (by omega) (by decide)
set_option maxHeartbeats 4000000 in
set_option maxRecDepth 100000 in
theorem m_beginOf {σ D S : Sto} {p i w : Int} (h : RM σ D S) (hL : LayM σ D S (D 0 0)) (hp : 0 ≤ p ∧ p < D 0 0) (hi : 0 ≤ i ∧ i < D 1 p) (hw : w = fstS D p + i) : CtI yX7_beginOf cX7_beginOf 4 (some .int) 2 [mR 71, mI w] σ (fun z σ' => (∃ l, isLn D S p i l ∧ z = plW D S p i l) ∧ σ' = σ) := by
  refine ct_of rfl [some (mR 71), some (mI w), none, none] (Nat.le_of_ble_eq_true rfl) rfl (fun hσ => ?_)
  show Wp cX7_beginOf RX7 (some .int) 2 0 [some (mR 71), some (mI w), none, none] [] _ _
  have hD := h.2.2.2.1
  have hS := h.2.2.2.2
  have n := h.n
  have lb := LBb hD hp.1 hp.2
  have ln := LE_nL hD hp.1 hp.2
  have nb := nL_bd hD
  have q := h.p hp.1 hp.2
  refine wp_aload_n (pc := 0) dX7_beginOf_0 rfl rfl ?_
  refine wp_iload_n (pc := 1) dX7_beginOf_1 rfl rfl ?_
  refine wp_cvI1 (pc := 2) dX7_beginOf_2 mv_X7_274 (m_lineOfWord h hL hp hi hw) (Nat.le_of_ble_eq_true rfl) rfl (Nat.le_of_ble_eq_true rfl) (fun z_2 σ_2 h_2 => ?_)
  obtain ⟨zz_2, e_2⟩ := h_2; have e2_2 := e_2.symm; subst e2_2
  have hz1 := zz_2.1
  have hz2 := zz_2.2.1
  have ho : own D S z_2 = p := own_in hD hp.1 hp.2 hz1 hz2
  have ho0 : 0 ≤ own D S z_2 := by omega
  obtain ⟨a, b⟩ := layM_line hD hL (l := z_2) (by omega) (by omega)
  obtain ⟨b1, b2, b3⟩ := b ho0
  obtain ⟨-, k1, k2, k3⟩ := (ln_at hD hS hp.1 hp.2 zz_2 ho0 hi.1 (Int.le_refl _)).2 rfl
  have u := lU_bd hD hS ho0
  have eI : lI D S z_2 = indS D S (LB D S) p z_2 := by unfold lI; rw [ho]
  rw [ho] at b1
  have hsb := sumI_bd (f := fun k => wdS D p (lF D S z_2 + k)) (n := i - lF D S z_2) (c := 18) (by omega) (fun k _ _ => wdS_bd D p _)
  have eu : us (wdA D) (fstS D p + lF D S z_2) (i - lF D S z_2) = sumI (fun k => wdS D p (lF D S z_2 + k)) (i - lF D S z_2) + (i - lF D S z_2 - 1) := by rw [← us_sh]; rfl
  have ep : plW D S p i z_2 = indS D S (LB D S) p z_2 + sumI (fun k => wdS D p (lF D S z_2 + k)) (i - lF D S z_2) + (i - lF D S z_2) := by unfold plW; rw [← k3]
  refine wp_istore_n (pc := 5) dX7_beginOf_5 rfl (Nat.le_of_ble_eq_true rfl) rfl ?_
  refine wp_iload_n (pc := 6) dX7_beginOf_6 rfl rfl ?_
  refine wp_aload_n (pc := 7) dX7_beginOf_7 rfl rfl ?_
  refine wp_getR (pc := 8) (q := 85) dX7_beginOf_8 fl_X7_50 rfl ?_
  refine wp_iload_n (pc := 11) dX7_beginOf_11 rfl rfl ?_
  refine wp_iald (pc := 12) 300 dX7_beginOf_12 rfl (by omega) ?_
  rw [b1]
  refine wp_isub (pc := 13) dX7_beginOf_13 (by omega) ?_
  rw [show w - (fstS D p + lF D S z_2) = i - lF D S z_2 by omega]
  refine wp_istore_n (pc := 14) dX7_beginOf_14 rfl (Nat.le_of_ble_eq_true rfl) rfl ?_
  refine wp_aload_n (pc := 15) dX7_beginOf_15 rfl rfl ?_
  refine wp_getR (pc := 16) (q := 87) dX7_beginOf_16 fl_X7_56 rfl ?_
  refine wp_iload_n (pc := 19) dX7_beginOf_19 rfl rfl ?_
  refine wp_iald (pc := 20) 300 dX7_beginOf_20 rfl (by omega) ?_
  rw [b3]
  refine wp_iload_n (pc := 21) dX7_beginOf_21 rfl rfl ?_
  refine wp_if_ne (pc := 22) 29 dX7_beginOf_22 (by decide) (fun c_22 => ?_) (fun c_22 => ?_)
  · refine wp_aload_n (pc := 29) dX7_beginOf_29 rfl rfl ?_
    refine wp_aload_n (pc := 30) dX7_beginOf_30 rfl rfl ?_
    refine wp_getR (pc := 31) (q := 85) dX7_beginOf_31 fl_X7_50 rfl ?_
    refine wp_iload_n (pc := 34) dX7_beginOf_34 rfl rfl ?_
    refine wp_iald (pc := 35) 300 dX7_beginOf_35 rfl (by omega) ?_
    rw [b1]
    refine wp_iload_n (pc := 36) dX7_beginOf_36 rfl rfl ?_
    refine wp_cvI2 (pc := 37) dX7_beginOf_37 mv_X7_207 (m_usedBy h (by omega)) (Nat.le_of_ble_eq_true rfl) rfl (Nat.le_of_ble_eq_true rfl) (fun z_37 σ_37 h_37 => ?_)
    obtain ⟨rfl, e_37⟩ := h_37; have e2_37 := e_37.symm; subst e2_37
    rw [eu]
    refine wp_iconst (pc := 40) dX7_beginOf_40 (by decide) ?_
    refine wp_iadd (pc := 41) dX7_beginOf_41 (by omega) ?_
    refine wp_iadd (pc := 42) dX7_beginOf_42 (by omega) ?_
    refine wp_ireturn (pc := 43) dX7_beginOf_43 rfl ?_
    refine ⟨_, rfl, ⟨z_2, zz_2, ?_⟩, rfl⟩
    rw [ep]
    first
      | omega
      | (rw [show i - lF D S z_2 = 0 by omega, sumI_0]; omega)
  · refine wp_iconst (pc := 25) dX7_beginOf_25 (by decide) ?_
    refine wp_goto (pc := 26) 42 dX7_beginOf_26 (by decide) ?_
    refine wp_iadd (pc := 42) dX7_beginOf_42 (by omega) ?_
    refine wp_ireturn (pc := 43) dX7_beginOf_43 rfl ?_
    refine ⟨_, rfl, ⟨z_2, zz_2, ?_⟩, rfl⟩
    rw [ep]
    first
      | omega
      | (rw [show i - lF D S z_2 = 0 by omega, sumI_0]; omega)
set_option maxHeartbeats 4000000 in
set_option maxRecDepth 100000 in
theorem m_word {σ D S : Sto} {p i w : Int} (h : RM σ D S) : CtI yX7_word cX7_word 5 (some .int) 8 [mR 71, mI p, mI i, mI w] σ (fun z σ' => z = aWord D S p i w ∧ MO σ σ') := by
  refine ct_of rfl [some (mR 71), some (mI p), some (mI i), some (mI w), none] (Nat.le_of_ble_eq_true rfl) rfl (fun hσ => ?_)
  show Wp cX7_word RX7 (some .int) 8 0 [some (mR 71), some (mI p), some (mI i), some (mI w), none] [] _ _
  have n := h.n
  have hp := fun a b => h.p (p := p) a b
  have hD := h.2.2.2.1
  have hS := h.2.2.2.2
  refine wp_aload_n (pc := 0) dX7_word_0 rfl rfl ?_
  refine wp_iload_n (pc := 1) dX7_word_1 rfl rfl ?_
  refine wp_cvI1 (pc := 2) dX7_word_2 mv_X7_263 (m_isPar h) (Nat.le_of_ble_eq_true rfl) rfl (Nat.le_of_ble_eq_true rfl) (fun z_2 σ_2 h_2 => ?_)
  obtain ⟨y_2, e_2⟩ := h_2; have e2_2 := e_2.symm; subst e2_2
  refine wp_if_eq (pc := 5) 24 dX7_word_5 (by decide) (fun c_5 => ?_) (fun c_5 => ?_)
  · refine wp_iconst (pc := 24) dX7_word_24 (by decide) ?_
    refine wp_ireturn (pc := 25) dX7_word_25 rfl ?_
    exact ⟨_, rfl, by unfold aWord; rw [if_pos (by omega)], MO.rf⟩
  · refine wp_iload_n (pc := 8) dX7_word_8 rfl rfl ?_
    refine wp_if_lt (pc := 9) 24 dX7_word_9 (by decide) (fun c_9 => ?_) (fun c_9 => ?_)
    · refine wp_iconst (pc := 24) dX7_word_24 (by decide) ?_
      refine wp_ireturn (pc := 25) dX7_word_25 rfl ?_
      exact ⟨_, rfl, by unfold aWord; rw [if_pos (by omega)], MO.rf⟩
    · refine wp_iload_n (pc := 12) dX7_word_12 rfl rfl ?_
      refine wp_i2l (pc := 13) dX7_word_13 ?_
      refine wp_lconst (pc := 14) (z := 0) dX7_word_14 (by decide) (by decide) ?_
      refine wp_ldc2 (pc := 15) (z := 4) dX7_word_15 kc_X7_277 (by decide) (by decide) ?_
      refine wp_csI3 (pc := 18) dX7_word_18 ms_X7_73 m_in (Nat.le_of_ble_eq_true rfl) (Nat.le_of_ble_eq_true rfl) (fun z_18 σ_18 h_18 => ?_)
      obtain ⟨y_18, e_18⟩ := h_18; have e2_18 := e_18.symm; subst e2_18
      refine wp_if_ne (pc := 21) 26 dX7_word_21 (by decide) (fun c_21 => ?_) (fun c_21 => ?_)
      · have q := hp (by omega) (by omega)
        refine wp_iload_n (pc := 26) dX7_word_26 rfl rfl ?_
        refine wp_aload_n (pc := 27) dX7_word_27 rfl rfl ?_
        refine wp_iload_n (pc := 28) dX7_word_28 rfl rfl ?_
        refine wp_cvI1 (pc := 29) dX7_word_29 mv_X7_171 (m_parWords h (by omega)) (Nat.le_of_ble_eq_true rfl) rfl (Nat.le_of_ble_eq_true rfl) (fun z_29 σ_29 h_29 => ?_)
        obtain ⟨rfl, e_29⟩ := h_29; have e2_29 := e_29.symm; subst e2_29
        refine wp_icmp_lt (pc := 32) 38 dX7_word_32 (by decide) (fun c_32 => ?_) (fun c_32 => ?_)
        · refine wp_aload_n (pc := 38) dX7_word_38 rfl rfl ?_
          refine wp_iload_n (pc := 39) dX7_word_39 rfl rfl ?_
          refine wp_cvI1 (pc := 40) dX7_word_40 mv_X7_201 (m_firstWord h (by omega)) (Nat.le_of_ble_eq_true rfl) rfl (Nat.le_of_ble_eq_true rfl) (fun z_40 σ_40 h_40 => ?_)
          obtain ⟨rfl, e_40⟩ := h_40; have e2_40 := e_40.symm; subst e2_40
          refine wp_iload_n (pc := 43) dX7_word_43 rfl rfl ?_
          refine wp_iadd (pc := 44) dX7_word_44 (by omega) ?_
          refine wp_istore (pc := 45) dX7_word_45 (Nat.le_of_ble_eq_true rfl) rfl ?_
          refine wp_aload_n (pc := 47) dX7_word_47 rfl rfl ?_
          refine wp_cvV0 (pc := 48) dX7_word_48 mv_X7_252 (m_lays h) (Nat.le_of_ble_eq_true rfl) rfl (Nat.le_of_ble_eq_true rfl) (fun σ_48 h_48 => ?_)
          obtain ⟨f_48, k_48, l_48⟩ := h_48; have o_48 : MO σ σ_48 := ⟨f_48, k_48⟩; have r_48 := o_48.rm h
          refine wp_iload_n (pc := 51) dX7_word_51 rfl rfl ?_
          refine wp_top (fun sw_52 esw_52 => ?_)
          rcases (show (sw_52 < 0 ∨ 3 < sw_52) ∨ sw_52 = 0 ∨ sw_52 = 1 ∨ sw_52 = 2 ∨ sw_52 = 3 by omega) with c_52 | c_52 | c_52 | c_52 | c_52
          · refine wp_tabOut (pc := 52) 123 dX7_word_52 c_52 (by decide) ?_
            refine wp_aload_n (pc := 123) dX7_word_123 rfl rfl ?_
            refine wp_iload (pc := 124) dX7_word_124 rfl ?_
            refine wp_cvI1 (pc := 126) dX7_word_126 mv_X7_279 (m_beginOf (p := p) (i := i) r_48 l_48 (by omega) (by omega) rfl) (Nat.le_of_ble_eq_true rfl) rfl (Nat.le_of_ble_eq_true rfl) (fun z_126 σ_126 h_126 => ?_)
            obtain ⟨⟨ll, z126, zz126⟩, e_126⟩ := h_126; have e2_126 := e_126.symm; subst e2_126
            refine wp_ireturn (pc := 129) dX7_word_129 rfl ?_
            exact ⟨_, rfl, by unfold aWord; rw [if_neg (by omega), if_neg (by omega), if_neg (by omega), if_neg (by omega), if_neg (by omega), if_neg (by omega), ← lnF_eq hD hS (by omega) (by omega) z126]; exact zz126, o_48⟩
          · refine wp_tabIn (pc := 52) (32) 84 dX7_word_52 (by omega) (by omega) (by rw [c_52]; rfl) (by decide) ?_
            obtain ⟨w1, w2, w3, w4, w5⟩ := r_48.w (w := fstS D p + i) (by omega) (by omega)
            refine wp_aload_n (pc := 84) dX7_word_84 rfl rfl ?_
            refine wp_getR (pc := 85) (q := 72) dX7_word_85 fl_X7_7 rfl ?_
            refine wp_bipush (pc := 88) dX7_word_88 (by decide) (by decide) ?_
            refine wp_bipush (pc := 90) dX7_word_90 (by decide) (by decide) ?_
            refine wp_iload (pc := 92) dX7_word_92 rfl ?_
            refine wp_imul (pc := 94) dX7_word_94 (by omega) ?_
            refine wp_iadd (pc := 95) dX7_word_95 (by omega) ?_
            refine wp_iald (pc := 96) 591 dX7_word_96 rfl (by omega) ?_
            refine wp_ireturn (pc := 97) dX7_word_97 rfl ?_
            exact ⟨_, rfl, by unfold aWord; rw [if_neg (by omega), if_neg (by omega), if_pos (by omega)]; exact w1, o_48⟩
          · refine wp_tabIn (pc := 52) (46) 98 dX7_word_52 (by omega) (by omega) (by rw [c_52]; rfl) (by decide) ?_
            refine wp_aload_n (pc := 98) dX7_word_98 rfl rfl ?_
            refine wp_iload (pc := 99) dX7_word_99 rfl ?_
            refine wp_cvI1 (pc := 101) dX7_word_101 mv_X7_195 (m_widthOf r_48 (by omega)) (Nat.le_of_ble_eq_true rfl) rfl (Nat.le_of_ble_eq_true rfl) (fun z_101 σ_101 h_101 => ?_)
            obtain ⟨zz_101, e_101⟩ := h_101; have e2_101 := e_101.symm; subst e2_101
            refine wp_ireturn (pc := 104) dX7_word_104 rfl ?_
            exact ⟨_, rfl, by unfold aWord; rw [if_neg (by omega), if_neg (by omega), if_neg (by omega), if_pos (by omega)]; exact zz_101, o_48⟩
          · refine wp_tabIn (pc := 52) (53) 105 dX7_word_52 (by omega) (by omega) (by rw [c_52]; rfl) (by decide) ?_
            refine wp_aload_n (pc := 105) dX7_word_105 rfl rfl ?_
            refine wp_iload (pc := 106) dX7_word_106 rfl ?_
            refine wp_aload_n (pc := 108) dX7_word_108 rfl rfl ?_
            refine wp_cvI0 (pc := 109) dX7_word_109 mv_X7_237 (m_allWords r_48) (Nat.le_of_ble_eq_true rfl) rfl (Nat.le_of_ble_eq_true rfl) (fun z_109 σ_109 h_109 => ?_)
            obtain ⟨rfl, e_109⟩ := h_109; have e2_109 := e_109.symm; subst e2_109
            refine wp_cvI2 (pc := 112) dX7_word_112 mv_X7_240 (m_likes r_48 (by omega) (by omega)) (Nat.le_of_ble_eq_true rfl) rfl (Nat.le_of_ble_eq_true rfl) (fun z_112 σ_112 h_112 => ?_)
            obtain ⟨zz_112, e_112⟩ := h_112; have e2_112 := e_112.symm; subst e2_112
            refine wp_ireturn (pc := 115) dX7_word_115 rfl ?_
            exact ⟨_, rfl, by unfold aWord; rw [if_neg (by omega), if_neg (by omega), if_neg (by omega), if_neg (by omega), if_pos (by omega)]; exact zz_112, o_48⟩
          · refine wp_tabIn (pc := 52) (64) 116 dX7_word_52 (by omega) (by omega) (by rw [c_52]; rfl) (by decide) ?_
            refine wp_aload_n (pc := 116) dX7_word_116 rfl rfl ?_
            refine wp_iload (pc := 117) dX7_word_117 rfl ?_
            refine wp_cvI1 (pc := 119) dX7_word_119 mv_X7_274 (m_lineOfWord (p := p) (i := i) r_48 l_48 (by omega) (by omega) rfl) (Nat.le_of_ble_eq_true rfl) rfl (Nat.le_of_ble_eq_true rfl) (fun z_119 σ_119 h_119 => ?_)
            obtain ⟨zz_119, e_119⟩ := h_119; have e2_119 := e_119.symm; subst e2_119
            refine wp_ireturn (pc := 122) dX7_word_122 rfl ?_
            exact ⟨_, rfl, by unfold aWord; rw [if_neg (by omega), if_neg (by omega), if_neg (by omega), if_neg (by omega), if_neg (by omega), if_pos (by omega)]; exact lnF_eq hD hS (by omega) (by omega) zz_119, o_48⟩
        · refine wp_bipush (pc := 35) dX7_word_35 (by decide) (by decide) ?_
          refine wp_ireturn (pc := 37) dX7_word_37 rfl ?_
          exact ⟨_, rfl, by unfold aWord; rw [if_neg (by omega), if_pos (by omega)], MO.rf⟩
      · refine wp_iconst (pc := 24) dX7_word_24 (by decide) ?_
        refine wp_ireturn (pc := 25) dX7_word_25 rfl ?_
        exact ⟨_, rfl, by unfold aWord; rw [if_pos (by omega)], MO.rf⟩
set_option maxHeartbeats 4000000 in
set_option maxRecDepth 100000 in
theorem m_line {σ D S : Sto} {l w : Int} (h : RM σ D S) : CtI yX7_line cX7_line 3 (some .int) 8 [mR 71, mI l, mI w] σ (fun z σ' => z = aLine D S l w ∧ MO σ σ') := by
  refine ct_of rfl [some (mR 71), some (mI l), some (mI w)] (Nat.le_of_ble_eq_true rfl) rfl (fun hσ => ?_)
  show Wp cX7_line RX7 (some .int) 8 0 [some (mR 71), some (mI l), some (mI w)] [] _ _
  have n := h.n
  have hD := h.2.2.2.1
  have hS := h.2.2.2.2
  have nb := nL_bd hD
  have hob := own_bd D S l
  refine wp_aload_n (pc := 0) dX7_line_0 rfl rfl ?_
  refine wp_cvV0 (pc := 1) dX7_line_1 mv_X7_252 (m_lays h) (Nat.le_of_ble_eq_true rfl) rfl (Nat.le_of_ble_eq_true rfl) (fun σ_1 h_1 => ?_)
  obtain ⟨f_1, k_1, l_1⟩ := h_1; have o_1 : MO σ σ_1 := ⟨f_1, k_1⟩; have r_1 := o_1.rm h
  have e25 : σ_1 71 25 = nL D S := l_1.1
  refine wp_iload_n (pc := 4) dX7_line_4 rfl rfl ?_
  refine wp_i2l (pc := 5) dX7_line_5 ?_
  refine wp_lconst (pc := 6) (z := 0) dX7_line_6 (by decide) (by decide) ?_
  refine wp_aload_n (pc := 7) dX7_line_7 rfl rfl ?_
  refine wp_getI (pc := 8) 25 dX7_line_8 fl_X7_214 rfl rfl ?_
  refine wp_iconst (pc := 11) dX7_line_11 (by decide) ?_
  refine wp_isub (pc := 12) dX7_line_12 (by omega) ?_
  refine wp_i2l (pc := 13) dX7_line_13 ?_
  refine wp_csI3 (pc := 14) dX7_line_14 ms_X7_73 m_in (Nat.le_of_ble_eq_true rfl) (Nat.le_of_ble_eq_true rfl) (fun z_14 σ_14 h_14 => ?_)
  obtain ⟨y_14, e_14⟩ := h_14; have e2_14 := e_14.symm; subst e2_14
  refine wp_if_eq (pc := 17) 32 dX7_line_17 (by decide) (fun c_17 => ?_) (fun c_17 => ?_)
  · refine wp_iconst (pc := 32) dX7_line_32 (by decide) ?_
    refine wp_ireturn (pc := 33) dX7_line_33 rfl ?_
    exact ⟨_, rfl, by unfold aLine; rw [if_pos (by omega)], o_1⟩
  · refine wp_iload_n (pc := 20) dX7_line_20 rfl rfl ?_
    refine wp_i2l (pc := 21) dX7_line_21 ?_
    refine wp_lconst (pc := 22) (z := 0) dX7_line_22 (by decide) (by decide) ?_
    refine wp_ldc2 (pc := 23) (z := 7) dX7_line_23 kc_X7_284 (by decide) (by decide) ?_
    refine wp_csI3 (pc := 26) dX7_line_26 ms_X7_73 m_in (Nat.le_of_ble_eq_true rfl) (Nat.le_of_ble_eq_true rfl) (fun z_26 σ_26 h_26 => ?_)
    obtain ⟨y_26, e_26⟩ := h_26; have e2_26 := e_26.symm; subst e2_26
    refine wp_if_ne (pc := 29) 34 dX7_line_29 (by decide) (fun c_29 => ?_) (fun c_29 => ?_)
    · obtain ⟨a, b⟩ := layM_line hD l_1 (l := l) (by omega) (by omega)
      refine wp_aload_n (pc := 34) dX7_line_34 rfl rfl ?_
      refine wp_getR (pc := 35) (q := 84) dX7_line_35 fl_X7_47 rfl ?_
      refine wp_iload_n (pc := 38) dX7_line_38 rfl rfl ?_
      refine wp_iald (pc := 39) 300 dX7_line_39 rfl (by omega) ?_
      rw [a]
      refine wp_bipush (pc := 40) dX7_line_40 (by decide) (by decide) ?_
      refine wp_icmp_ne (pc := 42) 48 dX7_line_42 (by decide) (fun c_42 => ?_) (fun c_42 => ?_)
      · have ho : 0 ≤ own D S l := by omega
        obtain ⟨b1, b2, b3⟩ := b ho
        have u := lU_bd hD hS ho
        have oa := own_at hD ho
        have q := r_1.p ho oa.1
        have eU : us (wdA D) (fstS D (own D S l) + lF D S l) (lNw D S l) = lU D S l := by unfold lU; rw [us_sh]
        refine wp_iload_n (pc := 48) dX7_line_48 rfl rfl ?_
        refine wp_top (fun sw_49 esw_49 => ?_)
        rcases (show (sw_49 < 0 ∨ 6 < sw_49) ∨ sw_49 = 0 ∨ sw_49 = 1 ∨ sw_49 = 2 ∨ sw_49 = 3 ∨ sw_49 = 4 ∨ sw_49 = 5 ∨ sw_49 = 6 by omega) with c_49 | c_49 | c_49 | c_49 | c_49 | c_49 | c_49 | c_49
        · refine wp_tabOut (pc := 49) 174 dX7_line_49 c_49 (by decide) ?_
          refine wp_aload_n (pc := 174) dX7_line_174 rfl rfl ?_
          refine wp_iload_n (pc := 175) dX7_line_175 rfl rfl ?_
          refine wp_cvI1 (pc := 176) dX7_line_176 mv_X7_227 (m_isClash r_1 l_1 (by omega) ho) (Nat.le_of_ble_eq_true rfl) rfl (Nat.le_of_ble_eq_true rfl) (fun z_176 σ_176 h_176 => ?_)
          obtain ⟨zz_176, e_176⟩ := h_176; have e2_176 := e_176.symm; subst e2_176
          refine wp_if_eq (pc := 179) 186 dX7_line_179 (by decide) (fun c_179 => ?_) (fun c_179 => ?_)
          · refine wp_iconst (pc := 186) dX7_line_186 (by decide) ?_
            refine wp_ireturn (pc := 187) dX7_line_187 rfl ?_
            exact ⟨_, rfl, by unfold aLine; rw [if_neg (by omega), if_neg (by omega), if_neg (by omega), if_neg (by omega), if_neg (by omega), if_neg (by omega), if_neg (by omega), if_neg (by omega), if_neg (by omega)]; omega, o_1⟩
          · refine wp_iconst (pc := 182) dX7_line_182 (by decide) ?_
            refine wp_goto (pc := 183) 187 dX7_line_183 (by decide) ?_
            refine wp_ireturn (pc := 187) dX7_line_187 rfl ?_
            exact ⟨_, rfl, by unfold aLine; rw [if_neg (by omega), if_neg (by omega), if_neg (by omega), if_neg (by omega), if_neg (by omega), if_neg (by omega), if_neg (by omega), if_neg (by omega), if_neg (by omega)]; omega, o_1⟩
        · refine wp_tabIn (pc := 49) (43) 92 dX7_line_49 (by omega) (by omega) (by rw [c_49]; rfl) (by decide) ?_
          refine wp_aload_n (pc := 92) dX7_line_92 rfl rfl ?_
          refine wp_getR (pc := 93) (q := 84) dX7_line_93 fl_X7_47 rfl ?_
          refine wp_iload_n (pc := 96) dX7_line_96 rfl rfl ?_
          refine wp_iald (pc := 97) 300 dX7_line_97 rfl (by omega) ?_
          refine wp_ireturn (pc := 98) dX7_line_98 rfl ?_
          exact ⟨_, rfl, by unfold aLine; rw [if_neg (by omega), if_neg (by omega), if_pos (by omega)]; exact a, o_1⟩
        · refine wp_tabIn (pc := 49) (50) 99 dX7_line_49 (by omega) (by omega) (by rw [c_49]; rfl) (by decide) ?_
          refine wp_aload_n (pc := 99) dX7_line_99 rfl rfl ?_
          refine wp_getR (pc := 100) (q := 85) dX7_line_100 fl_X7_50 rfl ?_
          refine wp_iload_n (pc := 103) dX7_line_103 rfl rfl ?_
          refine wp_iald (pc := 104) 300 dX7_line_104 rfl (by omega) ?_
          rw [b1]
          refine wp_aload_n (pc := 105) dX7_line_105 rfl rfl ?_
          refine wp_aload_n (pc := 106) dX7_line_106 rfl rfl ?_
          refine wp_getR (pc := 107) (q := 84) dX7_line_107 fl_X7_47 rfl ?_
          refine wp_iload_n (pc := 110) dX7_line_110 rfl rfl ?_
          refine wp_iald (pc := 111) 300 dX7_line_111 rfl (by omega) ?_
          rw [a]
          refine wp_cvI1 (pc := 112) dX7_line_112 mv_X7_201 (m_firstWord r_1 (by omega)) (Nat.le_of_ble_eq_true rfl) rfl (Nat.le_of_ble_eq_true rfl) (fun z_112 σ_112 h_112 => ?_)
          obtain ⟨rfl, e_112⟩ := h_112; have e2_112 := e_112.symm; subst e2_112
          refine wp_isub (pc := 115) dX7_line_115 (by omega) ?_
          refine wp_ireturn (pc := 116) dX7_line_116 rfl ?_
          exact ⟨_, rfl, by unfold aLine; rw [if_neg (by omega), if_neg (by omega), if_neg (by omega), if_pos (by omega)]; omega, o_1⟩
        · refine wp_tabIn (pc := 49) (68) 117 dX7_line_49 (by omega) (by omega) (by rw [c_49]; rfl) (by decide) ?_
          refine wp_aload_n (pc := 117) dX7_line_117 rfl rfl ?_
          refine wp_getR (pc := 118) (q := 86) dX7_line_118 fl_X7_53 rfl ?_
          refine wp_iload_n (pc := 121) dX7_line_121 rfl rfl ?_
          refine wp_iald (pc := 122) 300 dX7_line_122 rfl (by omega) ?_
          refine wp_ireturn (pc := 123) dX7_line_123 rfl ?_
          exact ⟨_, rfl, by unfold aLine; rw [if_neg (by omega), if_neg (by omega), if_neg (by omega), if_neg (by omega), if_pos (by omega)]; exact b2, o_1⟩
        · refine wp_tabIn (pc := 49) (75) 124 dX7_line_49 (by omega) (by omega) (by rw [c_49]; rfl) (by decide) ?_
          refine wp_aload_n (pc := 124) dX7_line_124 rfl rfl ?_
          refine wp_getR (pc := 125) (q := 87) dX7_line_125 fl_X7_56 rfl ?_
          refine wp_iload_n (pc := 128) dX7_line_128 rfl rfl ?_
          refine wp_iald (pc := 129) 300 dX7_line_129 rfl (by omega) ?_
          refine wp_ireturn (pc := 130) dX7_line_130 rfl ?_
          exact ⟨_, rfl, by unfold aLine; rw [if_neg (by omega), if_neg (by omega), if_neg (by omega), if_neg (by omega), if_neg (by omega), if_pos (by omega)]; exact b3, o_1⟩
        · refine wp_tabIn (pc := 49) (82) 131 dX7_line_49 (by omega) (by omega) (by rw [c_49]; rfl) (by decide) ?_
          refine wp_aload_n (pc := 131) dX7_line_131 rfl rfl ?_
          refine wp_aload_n (pc := 132) dX7_line_132 rfl rfl ?_
          refine wp_getR (pc := 133) (q := 84) dX7_line_133 fl_X7_47 rfl ?_
          refine wp_iload_n (pc := 136) dX7_line_136 rfl rfl ?_
          refine wp_iald (pc := 137) 300 dX7_line_137 rfl (by omega) ?_
          rw [a]
          refine wp_iload_n (pc := 138) dX7_line_138 rfl rfl ?_
          refine wp_cvI2 (pc := 139) dX7_line_139 mv_X7_204 (m_roomAt r_1 ⟨ho, oa.1⟩ (l_1.B oa.1) (by omega)) (Nat.le_of_ble_eq_true rfl) rfl (Nat.le_of_ble_eq_true rfl) (fun z_139 σ_139 h_139 => ?_)
          obtain ⟨zz_139, e_139⟩ := h_139; have e2_139 := e_139.symm; subst e2_139
          refine wp_ireturn (pc := 142) dX7_line_142 rfl ?_
          exact ⟨_, rfl, by unfold aLine; rw [if_neg (by omega), if_neg (by omega), if_neg (by omega), if_neg (by omega), if_neg (by omega), if_neg (by omega), if_pos (by omega)]; exact zz_139, o_1⟩
        · refine wp_tabIn (pc := 49) (94) 143 dX7_line_49 (by omega) (by omega) (by rw [c_49]; rfl) (by decide) ?_
          refine wp_aload_n (pc := 143) dX7_line_143 rfl rfl ?_
          refine wp_aload_n (pc := 144) dX7_line_144 rfl rfl ?_
          refine wp_getR (pc := 145) (q := 85) dX7_line_145 fl_X7_50 rfl ?_
          refine wp_iload_n (pc := 148) dX7_line_148 rfl rfl ?_
          refine wp_iald (pc := 149) 300 dX7_line_149 rfl (by omega) ?_
          rw [b1]
          refine wp_aload_n (pc := 150) dX7_line_150 rfl rfl ?_
          refine wp_getR (pc := 151) (q := 86) dX7_line_151 fl_X7_53 rfl ?_
          refine wp_iload_n (pc := 154) dX7_line_154 rfl rfl ?_
          refine wp_iald (pc := 155) 300 dX7_line_155 rfl (by omega) ?_
          rw [b2]
          refine wp_cvI2 (pc := 156) dX7_line_156 mv_X7_207 (m_usedBy r_1 (by omega)) (Nat.le_of_ble_eq_true rfl) rfl (Nat.le_of_ble_eq_true rfl) (fun z_156 σ_156 h_156 => ?_)
          obtain ⟨zz_156, e_156⟩ := h_156; have e2_156 := e_156.symm; subst e2_156
          refine wp_ireturn (pc := 159) dX7_line_159 rfl ?_
          exact ⟨_, rfl, by unfold aLine; rw [if_neg (by omega), if_neg (by omega), if_neg (by omega), if_neg (by omega), if_neg (by omega), if_neg (by omega), if_neg (by omega), if_pos (by omega)]; rw [zz_156]; exact eU, o_1⟩
        · refine wp_tabIn (pc := 49) (111) 160 dX7_line_49 (by omega) (by omega) (by rw [c_49]; rfl) (by decide) ?_
          refine wp_aload_n (pc := 160) dX7_line_160 rfl rfl ?_
          refine wp_iload_n (pc := 161) dX7_line_161 rfl rfl ?_
          refine wp_cvI1 (pc := 162) dX7_line_162 mv_X7_230 (m_isOver r_1 l_1 (by omega) ho) (Nat.le_of_ble_eq_true rfl) rfl (Nat.le_of_ble_eq_true rfl) (fun z_162 σ_162 h_162 => ?_)
          obtain ⟨zz_162, e_162⟩ := h_162; have e2_162 := e_162.symm; subst e2_162
          refine wp_if_eq (pc := 165) 172 dX7_line_165 (by decide) (fun c_165 => ?_) (fun c_165 => ?_)
          · refine wp_iconst (pc := 172) dX7_line_172 (by decide) ?_
            refine wp_ireturn (pc := 173) dX7_line_173 rfl ?_
            exact ⟨_, rfl, by unfold aLine; rw [if_neg (by omega), if_neg (by omega), if_neg (by omega), if_neg (by omega), if_neg (by omega), if_neg (by omega), if_neg (by omega), if_neg (by omega), if_pos (by omega)]; omega, o_1⟩
          · refine wp_iconst (pc := 168) dX7_line_168 (by decide) ?_
            refine wp_goto (pc := 169) 173 dX7_line_169 (by decide) ?_
            refine wp_ireturn (pc := 173) dX7_line_173 rfl ?_
            exact ⟨_, rfl, by unfold aLine; rw [if_neg (by omega), if_neg (by omega), if_neg (by omega), if_neg (by omega), if_neg (by omega), if_neg (by omega), if_neg (by omega), if_neg (by omega), if_pos (by omega)]; omega, o_1⟩
      · refine wp_bipush (pc := 45) dX7_line_45 (by decide) (by decide) ?_
        refine wp_ireturn (pc := 47) dX7_line_47 rfl ?_
        exact ⟨_, rfl, by unfold aLine; rw [if_neg (by omega), if_pos (by omega)], o_1⟩
    · refine wp_iconst (pc := 32) dX7_line_32 (by decide) ?_
      refine wp_ireturn (pc := 33) dX7_line_33 rfl ?_
      exact ⟨_, rfl, by unfold aLine; rw [if_pos (by omega)], o_1⟩
set_option maxHeartbeats 4000000 in
set_option maxRecDepth 100000 in
theorem sgA_s {c : Int → Int} {n : Int} {f : Nat} {i a : Int} : sgA c n (f + 1) i a = if n ≤ i then -4 else if a < nlt (c i) then ltr (c i) a else if a = nlt (c i) then (if i < n - 1 then 0 else -4) else sgA c n f (i + 1) (a - nlt (c i) - 1) := rfl
set_option maxHeartbeats 4000000 in
set_option maxRecDepth 100000 in
theorem m_sign {σ D S : Sto} {l k : Int} (h : RM σ D S) : CtI yX7_sign cX7_sign 6 (some .int) 8 [mR 71, mI l, mI k] σ (fun z σ' => z = aSign D S l k ∧ MO σ σ') := by
  refine ct_of rfl [some (mR 71), some (mI l), some (mI k), none, none, none] (Nat.le_of_ble_eq_true rfl) rfl (fun hσ => ?_)
  show Wp cX7_sign RX7 (some .int) 8 0 [some (mR 71), some (mI l), some (mI k), none, none, none] [] _ _
  refine wp_okl (fun hlv => ?_)
  have hk : okI k := hlv (mI k) (by simp)
  have n := h.n
  have hD := h.2.2.2.1
  have hS := h.2.2.2.2
  have nb := nL_bd hD
  have hob := own_bd D S l
  have lp : ∀ τ : Sto, MO σ τ → LayM τ D S (D 0 0) → 0 ≤ l → l < nL D S → 0 ≤ own D S l → ∀ i, i ≤ lNw D S l → 0 ≤ i → ∀ a : Int, ((0 ≤ a ∧ a ≤ 2147483647 ∧ aSign D S l k = sgA (fun j => D 4 (fstS D (own D S l) + lF D S l + j)) (lNw D S l) (lNw D S l - i).toNat i a) ∨ (i = lNw D S l ∧ aSign D S l k = -4)) → Wp cX7_sign RX7 (some .int) 8 31 [some (mR 71), some (mI l), some (mI k), some (mI a), some (mI i), none] [] τ (fun v σ' => ∃ z, v = some (mI z) ∧ (fun z σ' => z = aSign D S l k ∧ MO σ σ') z σ') := by
    intro τ hmo hL l0 l1 ho
    have hR := hmo.rm h
    obtain ⟨a84, b⟩ := layM_line hD hL l0 l1
    obtain ⟨b1, b2, b3⟩ := b ho
    have u := lU_bd hD hS ho
    have oa := own_at hD ho
    have q := hR.p ho oa.1
    refine up_ind _ (fun i hi ih i0 a hv => ?_)
    have hvn : i = lNw D S l → aSign D S l k = -4 := fun e => by
      rcases hv with c | c
      · rw [c.2.2, show (lNw D S l - i).toNat = 0 by omega]; rfl
      · exact c.2
    refine wp_aload_n (pc := 31) dX7_sign_31 rfl rfl ?_
    refine wp_getR (pc := 32) (q := 84) dX7_sign_32 fl_X7_47 rfl ?_
    refine wp_iload_n (pc := 35) dX7_sign_35 rfl rfl ?_
    refine wp_iald (pc := 36) 300 dX7_sign_36 rfl (by omega) ?_
    rw [a84]
    refine wp_bipush (pc := 37) dX7_sign_37 (by decide) (by decide) ?_
    refine wp_icmp_eq (pc := 39) 131 dX7_sign_39 (by decide) (fun c_39 => ?_) (fun c_39 => ?_)
    · omega
    · refine wp_iload (pc := 42) dX7_sign_42 rfl ?_
      refine wp_aload_n (pc := 44) dX7_sign_44 rfl rfl ?_
      refine wp_getR (pc := 45) (q := 86) dX7_sign_45 fl_X7_53 rfl ?_
      refine wp_iload_n (pc := 48) dX7_sign_48 rfl rfl ?_
      refine wp_iald (pc := 49) 300 dX7_sign_49 rfl (by omega) ?_
      rw [b2]
      refine wp_icmp_ge (pc := 50) 131 dX7_sign_50 (by decide) (fun c_50 => ?_) (fun c_50 => ?_)
      · refine wp_bipush (pc := 131) dX7_sign_131 (by decide) (by decide) ?_
        refine wp_ireturn (pc := 133) dX7_sign_133 rfl ?_
        exact ⟨_, rfl, (hvn (by omega)).symm, hmo⟩
      · have hil : i < lNw D S l := by omega
        obtain ⟨v1, v2, v3⟩ : 0 ≤ a ∧ a ≤ 2147483647 ∧ aSign D S l k = sgA (fun j => D 4 (fstS D (own D S l) + lF D S l + j)) (lNw D S l) (lNw D S l - i).toNat i a := by
          rcases hv with c | c
          · exact c
          · omega
        rw [show (lNw D S l - i).toNat = (lNw D S l - (i + 1)).toNat + 1 by omega, sgA_s, if_neg (by omega)] at v3
        obtain ⟨w1, w2, w3, w4, w5⟩ := hR.w (w := fstS D (own D S l) + lF D S l + i) (by omega) (by omega)
        refine wp_bipush (pc := 53) dX7_sign_53 (by decide) (by decide) ?_
        refine wp_bipush (pc := 55) dX7_sign_55 (by decide) (by decide) ?_
        refine wp_aload_n (pc := 57) dX7_sign_57 rfl rfl ?_
        refine wp_getR (pc := 58) (q := 85) dX7_sign_58 fl_X7_50 rfl ?_
        refine wp_iload_n (pc := 61) dX7_sign_61 rfl rfl ?_
        refine wp_iald (pc := 62) 300 dX7_sign_62 rfl (by omega) ?_
        rw [b1]
        refine wp_iload (pc := 63) dX7_sign_63 rfl ?_
        refine wp_iadd (pc := 65) dX7_sign_65 (by omega) ?_
        refine wp_imul (pc := 66) dX7_sign_66 (by omega) ?_
        refine wp_iadd (pc := 67) dX7_sign_67 (by omega) ?_
        refine wp_istore (pc := 68) dX7_sign_68 (Nat.le_of_ble_eq_true rfl) rfl ?_
        refine wp_iload_n (pc := 70) dX7_sign_70 rfl rfl ?_
        refine wp_aload_n (pc := 71) dX7_sign_71 rfl rfl ?_
        refine wp_getR (pc := 72) (q := 72) dX7_sign_72 fl_X7_7 rfl ?_
        refine wp_iload (pc := 75) dX7_sign_75 rfl ?_
        refine wp_iald (pc := 77) 591 dX7_sign_77 rfl (by omega) ?_
        rw [w1]
        refine wp_icmp_ge (pc := 78) 93 dX7_sign_78 (by decide) (fun c_78 => ?_) (fun c_78 => ?_)
        · refine wp_iload_n (pc := 93) dX7_sign_93 rfl rfl ?_
          refine wp_aload_n (pc := 94) dX7_sign_94 rfl rfl ?_
          refine wp_getR (pc := 95) (q := 72) dX7_sign_95 fl_X7_7 rfl ?_
          refine wp_iload (pc := 98) dX7_sign_98 rfl ?_
          refine wp_iald (pc := 100) 591 dX7_sign_100 rfl (by omega) ?_
          rw [w1]
          refine wp_isub (pc := 101) dX7_sign_101 (by omega) ?_
          refine wp_istore_n (pc := 102) dX7_sign_102 rfl (Nat.le_of_ble_eq_true rfl) rfl ?_
          refine wp_iload_n (pc := 103) dX7_sign_103 rfl rfl ?_
          refine wp_if_ne (pc := 104) 122 dX7_sign_104 (by decide) (fun c_104 => ?_) (fun c_104 => ?_)
          · refine wp_iinc (pc := 122) dX7_sign_122 rfl rfl (by omega) ?_
            refine wp_iinc (pc := 125) dX7_sign_125 rfl rfl (by omega) ?_
            refine wp_goto (pc := 128) 31 dX7_sign_128 (by decide) ?_
            refine wp_fgt [5] (ih hil (by omega) _ ?_)
            first
              | (left
                 refine ⟨by omega, by omega, ?_⟩
                 rw [v3, if_neg (by omega), if_neg (by omega)]
                 rfl)
              | (right
                 refine ⟨by omega, ?_⟩
                 rw [v3, if_neg (by omega), if_pos (by omega), if_neg (by omega)])
          · refine wp_iload (pc := 107) dX7_sign_107 rfl ?_
            refine wp_aload_n (pc := 109) dX7_sign_109 rfl rfl ?_
            refine wp_getR (pc := 110) (q := 86) dX7_sign_110 fl_X7_53 rfl ?_
            refine wp_iload_n (pc := 113) dX7_sign_113 rfl rfl ?_
            refine wp_iald (pc := 114) 300 dX7_sign_114 rfl (by omega) ?_
            rw [b2]
            refine wp_iconst (pc := 115) dX7_sign_115 (by decide) ?_
            refine wp_isub (pc := 116) dX7_sign_116 (by omega) ?_
            refine wp_icmp_ge (pc := 117) 122 dX7_sign_117 (by decide) (fun c_117 => ?_) (fun c_117 => ?_)
            · refine wp_iinc (pc := 122) dX7_sign_122 rfl rfl (by omega) ?_
              refine wp_iinc (pc := 125) dX7_sign_125 rfl rfl (by omega) ?_
              refine wp_goto (pc := 128) 31 dX7_sign_128 (by decide) ?_
              refine wp_fgt [5] (ih hil (by omega) _ ?_)
              first
                | (left
                   refine ⟨by omega, by omega, ?_⟩
                   rw [v3, if_neg (by omega), if_neg (by omega)]
                   rfl)
                | (right
                   refine ⟨by omega, ?_⟩
                   rw [v3, if_neg (by omega), if_pos (by omega), if_neg (by omega)])
            · refine wp_iconst (pc := 120) dX7_sign_120 (by decide) ?_
              refine wp_ireturn (pc := 121) dX7_sign_121 rfl ?_
              refine ⟨_, rfl, ?_, hmo⟩
              rw [v3, if_neg (by omega), if_pos (by omega), if_pos (by omega)]
        · refine wp_aload_n (pc := 81) dX7_sign_81 rfl rfl ?_
          refine wp_getR (pc := 82) (q := 72) dX7_sign_82 fl_X7_7 rfl ?_
          refine wp_iload (pc := 85) dX7_sign_85 rfl ?_
          refine wp_iconst (pc := 87) dX7_sign_87 (by decide) ?_
          refine wp_iadd (pc := 88) dX7_sign_88 (by omega) ?_
          refine wp_iload_n (pc := 89) dX7_sign_89 rfl rfl ?_
          refine wp_iadd (pc := 90) dX7_sign_90 (by omega) ?_
          refine wp_iald (pc := 91) 591 dX7_sign_91 rfl (by omega) ?_
          refine wp_ireturn (pc := 92) dX7_sign_92 rfl ?_
          refine ⟨_, rfl, ?_, hmo⟩
          rw [v3, if_pos (by omega)]
          exact w2 a (by omega) (by omega)
  have we : ∀ τ : Sto, MO σ τ → LayM τ D S (D 0 0) → 0 ≤ l → l < nL D S → own D S l < 0 → aSign D S l k = -4 → Wp cX7_sign RX7 (some .int) 8 31 [some (mR 71), some (mI l), some (mI k), some (mI k), some (mI 0), none] [] τ (fun v σ' => ∃ z, v = some (mI z) ∧ (fun z σ' => z = aSign D S l k ∧ MO σ σ') z σ') := by
    intro τ hmo hL l0 l1 ho es
    have a84 := (layM_line hD hL l0 l1).1
    refine wp_aload_n (pc := 31) dX7_sign_31 rfl rfl ?_
    refine wp_getR (pc := 32) (q := 84) dX7_sign_32 fl_X7_47 rfl ?_
    refine wp_iload_n (pc := 35) dX7_sign_35 rfl rfl ?_
    refine wp_iald (pc := 36) 300 dX7_sign_36 rfl (by omega) ?_
    rw [a84]
    refine wp_bipush (pc := 37) dX7_sign_37 (by decide) (by decide) ?_
    refine wp_icmp_eq (pc := 39) 131 dX7_sign_39 (by decide) (fun c_39 => ?_) (fun c_39 => ?_)
    · refine wp_bipush (pc := 131) dX7_sign_131 (by decide) (by decide) ?_
      refine wp_ireturn (pc := 133) dX7_sign_133 rfl ?_
      exact ⟨_, rfl, es.symm, hmo⟩
    · omega
  refine wp_aload_n (pc := 0) dX7_sign_0 rfl rfl ?_
  refine wp_cvV0 (pc := 1) dX7_sign_1 mv_X7_252 (m_lays h) (Nat.le_of_ble_eq_true rfl) rfl (Nat.le_of_ble_eq_true rfl) (fun σ_1 h_1 => ?_)
  obtain ⟨f_1, k_1, l_1⟩ := h_1; have o_1 : MO σ σ_1 := ⟨f_1, k_1⟩; have r_1 := o_1.rm h
  have e25 : σ_1 71 25 = nL D S := l_1.1
  refine wp_iload_n (pc := 4) dX7_sign_4 rfl rfl ?_
  refine wp_i2l (pc := 5) dX7_sign_5 ?_
  refine wp_lconst (pc := 6) (z := 0) dX7_sign_6 (by decide) (by decide) ?_
  refine wp_aload_n (pc := 7) dX7_sign_7 rfl rfl ?_
  refine wp_getI (pc := 8) 25 dX7_sign_8 fl_X7_214 rfl rfl ?_
  refine wp_iconst (pc := 11) dX7_sign_11 (by decide) ?_
  refine wp_isub (pc := 12) dX7_sign_12 (by omega) ?_
  refine wp_i2l (pc := 13) dX7_sign_13 ?_
  refine wp_csI3 (pc := 14) dX7_sign_14 ms_X7_73 m_in (Nat.le_of_ble_eq_true rfl) (Nat.le_of_ble_eq_true rfl) (fun z_14 σ_14 h_14 => ?_)
  obtain ⟨y_14, e_14⟩ := h_14; have e2_14 := e_14.symm; subst e2_14
  refine wp_if_eq (pc := 17) 24 dX7_sign_17 (by decide) (fun c_17 => ?_) (fun c_17 => ?_)
  · refine wp_iconst (pc := 24) dX7_sign_24 (by decide) ?_
    refine wp_ireturn (pc := 25) dX7_sign_25 rfl ?_
    exact ⟨_, rfl, by unfold aSign; rw [if_pos (by omega)], o_1⟩
  · refine wp_iload_n (pc := 20) dX7_sign_20 rfl rfl ?_
    refine wp_if_ge (pc := 21) 26 dX7_sign_21 (by decide) (fun c_21 => ?_) (fun c_21 => ?_)
    · refine wp_iload_n (pc := 26) dX7_sign_26 rfl rfl ?_
      refine wp_istore_n (pc := 27) dX7_sign_27 rfl (Nat.le_of_ble_eq_true rfl) rfl ?_
      refine wp_iconst (pc := 28) dX7_sign_28 (by decide) ?_
      refine wp_istore (pc := 29) dX7_sign_29 (Nat.le_of_ble_eq_true rfl) rfl ?_
      by_cases ho : 0 ≤ own D S l
      · have u := lU_bd hD hS ho
        refine lp σ_1 o_1 l_1 (by omega) (by omega) ho 0 (by omega) (by decide) k (Or.inl ⟨by omega, by have := hk.2; omega, ?_⟩)
        unfold aSign
        rw [if_neg (by omega), if_neg (by omega), Int.sub_zero]
      · have es : aSign D S l k = -4 := by unfold aSign; rw [if_neg (by omega), if_pos (by omega)]
        exact we σ_1 o_1 l_1 (by omega) (by omega) (by omega) es
    · refine wp_iconst (pc := 24) dX7_sign_24 (by decide) ?_
      refine wp_ireturn (pc := 25) dX7_sign_25 rfl ?_
      exact ⟨_, rfl, by unfold aSign; rw [if_pos (by omega)], o_1⟩
