set_option maxHeartbeats 4000000 in
set_option maxRecDepth 100000 in
theorem fstS_eq {σ D S : Sto} (hC : CI σ D S) (p : Int) : fstS D p = sumI (σ 16) p := by
  have n5 := hC.n.2.2.2.2.1
  exact sumI_cong (fun k _ _ => (n5 k).1)
set_option maxHeartbeats 4000000 in
set_option maxRecDepth 100000 in
theorem code_ok {σ D S : Sto} (hC : CI σ D S) {p i : Int} (a : 0 ≤ p) (b : p < σ 14 0) (c : 0 ≤ i) (d : i < σ 16 p) : okC (σ 15 (sumI (σ 16) p + i)) ∧ nlt (σ 15 (sumI (σ 16) p + i)) ≤ 6 := by
  have hB := hC.B
  have h1 := hB.first (p := p) a (by omega)
  have h2 := hB.first1 (p := p) a b
  have := hC.2.2.1.2.2.2.2.1 (sumI (σ 16) p + i) (by omega) (by rw [← hC.2.2.2.2.1]; omega)
  rw [(hC.n.2.2.2.2.1 _).2.2.2.1] at this
  exact ⟨this, (sumI_bd (f := fun k => if ltr (σ 15 (sumI (σ 16) p + i)) k = 0 then 0 else 1) (n := 6) (c := 1) (by decide) (fun k _ _ => by split <;> omega)).2⟩
set_option maxHeartbeats 4000000 in
set_option maxRecDepth 100000 in
theorem c_word {σ D S : Sto} {p i w : Int} (hC : CI σ D S) : CtI yX6_word cX6_word 5 (some .int) 5 [mR 0, mI p, mI i, mI w] σ (fun z σ' => z = aWord D S p i w ∧ Obs σ σ' ∧ CI σ' D S) := by
  refine ct_of rfl [some (mR 0), some (mI p), some (mI i), some (mI w), none] (Nat.le_of_ble_eq_true rfl) rfl (fun hσ => ?_)
  show Wp cX6_word RX6 (some .int) 5 0 [some (mR 0), some (mI p), some (mI i), some (mI w), none] [] _ _
  obtain ⟨n1, n2, n3, n4, n5, n6, n7⟩ := hC.n
  have hB := hC.B
  have n5p := n5 p
  have hD := hC.2.2.1
  have hS := hC.2.2.2.1
  have ef : D 4 (fstS D p + i) = σ 15 (sumI (σ 16) p + i) := by rw [(n5 _).2.2.2.1, fstS_eq hC]
  have e4 : D 4 = σ 15 := funext fun k => (n5 k).2.2.2.1
  refine wp_aload_n (pc := 0) dX6_word_0 rfl rfl ?_
  refine wp_iload_n (pc := 1) dX6_word_1 rfl rfl ?_
  refine wp_cvI1 (pc := 2) dX6_word_2 mv_X6_161 c_isPar (Nat.le_of_ble_eq_true rfl) rfl (Nat.le_of_ble_eq_true rfl) (fun z_2 σ_2 h_2 => ?_)
  obtain ⟨zz_2, e_2⟩ := h_2; have e2_2 := e_2.symm; subst e2_2; have y_2 : (z_2 = 1 ∧ 0 ≤ p ∧ p < σ 14 0) ∨ (z_2 = 0 ∧ ¬ (0 ≤ p ∧ p < σ 14 0)) := by split at zz_2 <;> omega
  refine wp_if_eq (pc := 5) 21 dX6_word_5 (by decide) (fun c_5 => ?_) (fun c_5 => ?_)
  · refine wp_iconst (pc := 21) dX6_word_21 (by decide) ?_
    refine wp_ireturn (pc := 22) dX6_word_22 rfl ?_
    exact ⟨_, rfl, by unfold aWord; rw [if_pos (by omega)], Obs.rf, hC⟩
  · refine wp_iload_n (pc := 8) dX6_word_8 rfl rfl ?_
    refine wp_if_lt (pc := 9) 21 dX6_word_9 (by decide) (fun c_9 => ?_) (fun c_9 => ?_)
    · refine wp_iconst (pc := 21) dX6_word_21 (by decide) ?_
      refine wp_ireturn (pc := 22) dX6_word_22 rfl ?_
      exact ⟨_, rfl, by unfold aWord; rw [if_pos (by omega)], Obs.rf, hC⟩
    · refine wp_iload_n (pc := 12) dX6_word_12 rfl rfl ?_
      refine wp_if_lt (pc := 13) 21 dX6_word_13 (by decide) (fun c_13 => ?_) (fun c_13 => ?_)
      · refine wp_iconst (pc := 21) dX6_word_21 (by decide) ?_
        refine wp_ireturn (pc := 22) dX6_word_22 rfl ?_
        exact ⟨_, rfl, by unfold aWord; rw [if_pos (by omega)], Obs.rf, hC⟩
      · refine wp_iload_n (pc := 16) dX6_word_16 rfl rfl ?_
        refine wp_iconst (pc := 17) dX6_word_17 (by decide) ?_
        refine wp_icmp_le (pc := 18) 23 dX6_word_18 (by decide) (fun c_18 => ?_) (fun c_18 => ?_)
        · refine wp_iload_n (pc := 23) dX6_word_23 rfl rfl ?_
          refine wp_aload_n (pc := 24) dX6_word_24 rfl rfl ?_
          refine wp_getR (pc := 25) (q := 14) dX6_word_25 fl_X6_23 rfl ?_
          refine wp_getR (pc := 28) (q := 16) dX6_word_28 fl_X6_164 rfl ?_
          refine wp_iload_n (pc := 31) dX6_word_31 rfl rfl ?_
          refine wp_iald (pc := 32) 8 dX6_word_32 rfl (by omega) ?_
          refine wp_icmp_lt (pc := 33) 39 dX6_word_33 (by decide) (fun c_33 => ?_) (fun c_33 => ?_)
          · refine wp_aload_n (pc := 39) dX6_word_39 rfl rfl ?_
            refine wp_getR (pc := 40) (q := 14) dX6_word_40 fl_X6_23 rfl ?_
            refine wp_iload_n (pc := 43) dX6_word_43 rfl rfl ?_
            refine wp_iload_n (pc := 44) dX6_word_44 rfl rfl ?_
            refine wp_cvI2 (pc := 45) dX6_word_45 mv_X6_179 (c_wordOf hB (by omega) (by omega)) (Nat.le_of_ble_eq_true rfl) rfl (Nat.le_of_ble_eq_true rfl) (fun z_45 σ_45 h_45 => ?_)
            obtain ⟨rfl, e_45⟩ := h_45; have e2_45 := e_45.symm; subst e2_45
            refine wp_istore (pc := 48) dX6_word_48 (Nat.le_of_ble_eq_true rfl) rfl ?_
            have hk := code_ok hC (p := p) (i := i) (by omega) (by omega) (by omega) (by omega)
            have hk0 := hk.1.1
            refine wp_iload_n (pc := 50) dX6_word_50 rfl rfl ?_
            refine wp_top (fun sw_51 esw_51 => ?_)
            rcases (show (sw_51 < 0 ∨ 3 < sw_51) ∨ sw_51 = 0 ∨ sw_51 = 1 ∨ sw_51 = 2 ∨ sw_51 = 3 by omega) with c_51 | c_51 | c_51 | c_51 | c_51
            · refine wp_tabOut (pc := 51) 112 dX6_word_51 c_51 (by decide) ?_
              refine wp_aload_n (pc := 112) dX6_word_112 rfl rfl ?_
              refine wp_cvR0 (pc := 113) dX6_word_113 mv_X6_122 (c_laid hC) (Nat.le_of_ble_eq_true rfl) rfl (Nat.le_of_ble_eq_true rfl) (fun z_113 σ_113 h_113 => ?_)
              obtain ⟨rfl, o_113, C_113, l_113⟩ := h_113
              refine wp_iload_n (pc := 116) dX6_word_116 rfl rfl ?_
              refine wp_iload_n (pc := 117) dX6_word_117 rfl rfl ?_
              refine wp_cvI2 (pc := 118) dX6_word_118 mv_X6_194 (c_placeOf C_113.1 C_113.2.1 hD hS C_113.2.2.2.2.1 l_113 (by omega) (by omega)) (Nat.le_of_ble_eq_true rfl) rfl (Nat.le_of_ble_eq_true rfl) (fun z_118 σ_118 h_118 => ?_)
              obtain ⟨⟨ll, z118, zz118⟩, e_118⟩ := h_118; have e2_118 := e_118.symm; subst e2_118
              refine wp_ireturn (pc := 121) dX6_word_121 rfl ?_
              exact ⟨_, rfl, by unfold aWord; rw [if_neg (by omega), if_neg (by omega), if_neg (by omega), if_neg (by omega), if_neg (by omega), if_neg (by omega), ← lnF_eq hD hS (by omega) (by omega) z118]; exact zz118, o_113, C_113⟩
            · refine wp_tabIn (pc := 51) (29) 80 dX6_word_51 (by omega) (by omega) (by rw [c_51]; rfl) (by decide) ?_
              refine wp_iload (pc := 80) dX6_word_80 rfl ?_
              refine wp_csI1 (pc := 82) dX6_word_82 ms_X6_182 (c_lettersIn (by omega)) (Nat.le_of_ble_eq_true rfl) (Nat.le_of_ble_eq_true rfl) (fun z_82 σ_82 h_82 => ?_)
              obtain ⟨rfl, e_82⟩ := h_82; have e2_82 := e_82.symm; subst e2_82
              refine wp_ireturn (pc := 85) dX6_word_85 rfl ?_
              exact ⟨_, rfl, by unfold aWord; rw [if_neg (by omega), if_neg (by omega), if_pos (by omega), ef], Obs.rf, hC⟩
            · refine wp_tabIn (pc := 51) (35) 86 dX6_word_51 (by omega) (by omega) (by rw [c_51]; rfl) (by decide) ?_
              refine wp_iload (pc := 86) dX6_word_86 rfl ?_
              refine wp_csI1 (pc := 88) dX6_word_88 ms_X6_185 (c_widthOf (by omega)) (Nat.le_of_ble_eq_true rfl) (Nat.le_of_ble_eq_true rfl) (fun z_88 σ_88 h_88 => ?_)
              obtain ⟨rfl, e_88⟩ := h_88; have e2_88 := e_88.symm; subst e2_88
              refine wp_ireturn (pc := 91) dX6_word_91 rfl ?_
              exact ⟨_, rfl, by unfold aWord; rw [if_neg (by omega), if_neg (by omega), if_neg (by omega), if_pos (by omega), ef], Obs.rf, hC⟩
            · refine wp_tabIn (pc := 51) (41) 92 dX6_word_51 (by omega) (by omega) (by rw [c_51]; rfl) (by decide) ?_
              refine wp_aload_n (pc := 92) dX6_word_92 rfl rfl ?_
              refine wp_getR (pc := 93) (q := 14) dX6_word_93 fl_X6_23 rfl ?_
              refine wp_iload (pc := 96) dX6_word_96 rfl ?_
              refine wp_cvI1 (pc := 98) dX6_word_98 mv_X6_188 (c_likeWords (by omega)) (Nat.le_of_ble_eq_true rfl) rfl (Nat.le_of_ble_eq_true rfl) (fun z_98 σ_98 h_98 => ?_)
              obtain ⟨rfl, e_98⟩ := h_98; have e2_98 := e_98.symm; subst e2_98
              refine wp_ireturn (pc := 101) dX6_word_101 rfl ?_
              exact ⟨_, rfl, by unfold aWord; rw [if_neg (by omega), if_neg (by omega), if_neg (by omega), if_neg (by omega), if_pos (by omega), ef, e4, ← hC.2.2.2.2.1], Obs.rf, hC⟩
            · refine wp_tabIn (pc := 51) (51) 102 dX6_word_51 (by omega) (by omega) (by rw [c_51]; rfl) (by decide) ?_
              refine wp_aload_n (pc := 102) dX6_word_102 rfl rfl ?_
              refine wp_cvR0 (pc := 103) dX6_word_103 mv_X6_122 (c_laid hC) (Nat.le_of_ble_eq_true rfl) rfl (Nat.le_of_ble_eq_true rfl) (fun z_103 σ_103 h_103 => ?_)
              obtain ⟨rfl, o_103, C_103, l_103⟩ := h_103
              refine wp_iload_n (pc := 106) dX6_word_106 rfl rfl ?_
              refine wp_iload_n (pc := 107) dX6_word_107 rfl rfl ?_
              refine wp_cvI2 (pc := 108) dX6_word_108 mv_X6_191 (c_lineWith hD hS l_103 (by omega) (by omega)) (Nat.le_of_ble_eq_true rfl) rfl (Nat.le_of_ble_eq_true rfl) (fun z_108 σ_108 h_108 => ?_)
              obtain ⟨z108, e_108⟩ := h_108; have e2_108 := e_108.symm; subst e2_108
              refine wp_ireturn (pc := 111) dX6_word_111 rfl ?_
              exact ⟨_, rfl, by unfold aWord; rw [if_neg (by omega), if_neg (by omega), if_neg (by omega), if_neg (by omega), if_neg (by omega), if_pos (by omega)]; exact lnF_eq hD hS (by omega) (by omega) z108, o_103, C_103⟩
          · refine wp_bipush (pc := 36) dX6_word_36 (by decide) (by decide) ?_
            refine wp_ireturn (pc := 38) dX6_word_38 rfl ?_
            exact ⟨_, rfl, by unfold aWord; rw [if_neg (by omega), if_pos (by omega)], Obs.rf, hC⟩
        · refine wp_iconst (pc := 21) dX6_word_21 (by decide) ?_
          refine wp_ireturn (pc := 22) dX6_word_22 rfl ?_
          exact ⟨_, rfl, by unfold aWord; rw [if_pos (by omega)], Obs.rf, hC⟩
set_option maxHeartbeats 4000000 in
set_option maxRecDepth 100000 in
theorem c_line {σ D S : Sto} {l w : Int} (hC : CI σ D S) : CtI yX6_line cX6_line 4 (some .int) 5 [mR 0, mI l, mI w] σ (fun z σ' => z = aLine D S l w ∧ Obs σ σ' ∧ CI σ' D S) := by
  refine ct_of rfl [some (mR 0), some (mI l), some (mI w), none] (Nat.le_of_ble_eq_true rfl) rfl (fun hσ => ?_)
  show Wp cX6_line RX6 (some .int) 5 0 [some (mR 0), some (mI l), some (mI w), none] [] _ _
  have hD := hC.2.2.1
  have hS := hC.2.2.2.1
  have hnl := nL_bd hD
  refine wp_aload_n (pc := 0) dX6_line_0 rfl rfl ?_
  refine wp_cvR0 (pc := 1) dX6_line_1 mv_X6_122 (c_laid hC) (Nat.le_of_ble_eq_true rfl) rfl (Nat.le_of_ble_eq_true rfl) (fun z_1 σ_1 h_1 => ?_)
  obtain ⟨rfl, o_1, C_1, l_1⟩ := h_1
  refine wp_astore_n (pc := 4) dX6_line_4 rfl (Nat.le_of_ble_eq_true rfl) rfl ?_
  have en : σ_1 49 3 = nL D S := l_1.1
  refine wp_iload_n (pc := 5) dX6_line_5 rfl rfl ?_
  refine wp_if_lt (pc := 6) 27 dX6_line_6 (by decide) (fun c_6 => ?_) (fun c_6 => ?_)
  · refine wp_iconst (pc := 27) dX6_line_27 (by decide) ?_
    refine wp_ireturn (pc := 28) dX6_line_28 rfl ?_
    refine ⟨_, rfl, ?_, o_1, C_1⟩
    unfold aLine
    first
      | (rw [if_pos (by omega)]; done)
      | (rw [if_neg (by omega), if_pos (by omega)]; done)
      | (rw [if_neg (by omega), if_neg (by omega), if_pos (by omega)]; omega)
      | (rw [if_neg (by omega), if_neg (by omega), if_neg (by omega), if_pos (by omega)]; omega)
      | (rw [if_neg (by omega), if_neg (by omega), if_neg (by omega), if_neg (by omega), if_pos (by omega)]; omega)
      | (rw [if_neg (by omega), if_neg (by omega), if_neg (by omega), if_neg (by omega), if_neg (by omega), if_pos (by omega)]; omega)
      | (rw [if_neg (by omega), if_neg (by omega), if_neg (by omega), if_neg (by omega), if_neg (by omega), if_neg (by omega), if_pos (by omega)]; omega)
      | (rw [if_neg (by omega), if_neg (by omega), if_neg (by omega), if_neg (by omega), if_neg (by omega), if_neg (by omega), if_neg (by omega), if_pos (by omega)]; omega)
      | (rw [if_neg (by omega), if_neg (by omega), if_neg (by omega), if_neg (by omega), if_neg (by omega), if_neg (by omega), if_neg (by omega), if_neg (by omega), if_pos (by omega)]; omega)
      | (have hx := lX_01 D S l; rw [if_neg (by omega), if_neg (by omega), if_neg (by omega), if_neg (by omega), if_neg (by omega), if_neg (by omega), if_neg (by omega), if_neg (by omega), if_neg (by omega)]; omega)
  · refine wp_iload_n (pc := 9) dX6_line_9 rfl rfl ?_
    refine wp_aload_n (pc := 10) dX6_line_10 rfl rfl ?_
    refine wp_getI (pc := 11) 3 dX6_line_11 fl_X6_126 rfl rfl ?_
    refine wp_icmp_ge (pc := 14) 27 dX6_line_14 (by decide) (fun c_14 => ?_) (fun c_14 => ?_)
    · refine wp_iconst (pc := 27) dX6_line_27 (by decide) ?_
      refine wp_ireturn (pc := 28) dX6_line_28 rfl ?_
      refine ⟨_, rfl, ?_, o_1, C_1⟩
      unfold aLine
      first
        | (rw [if_pos (by omega)]; done)
        | (rw [if_neg (by omega), if_pos (by omega)]; done)
        | (rw [if_neg (by omega), if_neg (by omega), if_pos (by omega)]; omega)
        | (rw [if_neg (by omega), if_neg (by omega), if_neg (by omega), if_pos (by omega)]; omega)
        | (rw [if_neg (by omega), if_neg (by omega), if_neg (by omega), if_neg (by omega), if_pos (by omega)]; omega)
        | (rw [if_neg (by omega), if_neg (by omega), if_neg (by omega), if_neg (by omega), if_neg (by omega), if_pos (by omega)]; omega)
        | (rw [if_neg (by omega), if_neg (by omega), if_neg (by omega), if_neg (by omega), if_neg (by omega), if_neg (by omega), if_pos (by omega)]; omega)
        | (rw [if_neg (by omega), if_neg (by omega), if_neg (by omega), if_neg (by omega), if_neg (by omega), if_neg (by omega), if_neg (by omega), if_pos (by omega)]; omega)
        | (rw [if_neg (by omega), if_neg (by omega), if_neg (by omega), if_neg (by omega), if_neg (by omega), if_neg (by omega), if_neg (by omega), if_neg (by omega), if_pos (by omega)]; omega)
        | (have hx := lX_01 D S l; rw [if_neg (by omega), if_neg (by omega), if_neg (by omega), if_neg (by omega), if_neg (by omega), if_neg (by omega), if_neg (by omega), if_neg (by omega), if_neg (by omega)]; omega)
    · refine wp_iload_n (pc := 17) dX6_line_17 rfl rfl ?_
      refine wp_if_lt (pc := 18) 27 dX6_line_18 (by decide) (fun c_18 => ?_) (fun c_18 => ?_)
      · refine wp_iconst (pc := 27) dX6_line_27 (by decide) ?_
        refine wp_ireturn (pc := 28) dX6_line_28 rfl ?_
        refine ⟨_, rfl, ?_, o_1, C_1⟩
        unfold aLine
        first
          | (rw [if_pos (by omega)]; done)
          | (rw [if_neg (by omega), if_pos (by omega)]; done)
          | (rw [if_neg (by omega), if_neg (by omega), if_pos (by omega)]; omega)
          | (rw [if_neg (by omega), if_neg (by omega), if_neg (by omega), if_pos (by omega)]; omega)
          | (rw [if_neg (by omega), if_neg (by omega), if_neg (by omega), if_neg (by omega), if_pos (by omega)]; omega)
          | (rw [if_neg (by omega), if_neg (by omega), if_neg (by omega), if_neg (by omega), if_neg (by omega), if_pos (by omega)]; omega)
          | (rw [if_neg (by omega), if_neg (by omega), if_neg (by omega), if_neg (by omega), if_neg (by omega), if_neg (by omega), if_pos (by omega)]; omega)
          | (rw [if_neg (by omega), if_neg (by omega), if_neg (by omega), if_neg (by omega), if_neg (by omega), if_neg (by omega), if_neg (by omega), if_pos (by omega)]; omega)
          | (rw [if_neg (by omega), if_neg (by omega), if_neg (by omega), if_neg (by omega), if_neg (by omega), if_neg (by omega), if_neg (by omega), if_neg (by omega), if_pos (by omega)]; omega)
          | (have hx := lX_01 D S l; rw [if_neg (by omega), if_neg (by omega), if_neg (by omega), if_neg (by omega), if_neg (by omega), if_neg (by omega), if_neg (by omega), if_neg (by omega), if_neg (by omega)]; omega)
      · refine wp_iload_n (pc := 21) dX6_line_21 rfl rfl ?_
        refine wp_bipush (pc := 22) dX6_line_22 (by decide) (by decide) ?_
        refine wp_icmp_le (pc := 24) 29 dX6_line_24 (by decide) (fun c_24 => ?_) (fun c_24 => ?_)
        · have hll := lay_line hD l_1 (l := l) (by omega) (by omega)
          refine wp_aload_n (pc := 29) dX6_line_29 rfl rfl ?_
          refine wp_getR (pc := 30) (q := 53) dX6_line_30 fl_X6_221 rfl ?_
          refine wp_iload_n (pc := 33) dX6_line_33 rfl rfl ?_
          refine wp_iald (pc := 34) 152 dX6_line_34 rfl (by omega) ?_
          refine wp_if_ge (pc := 35) 41 dX6_line_35 (by decide) (fun c_35 => ?_) (fun c_35 => ?_)
          · have hl2 := hll.2.2 (by omega)
            refine wp_iload_n (pc := 41) dX6_line_41 rfl rfl ?_
            refine wp_top (fun sw_42 esw_42 => ?_)
            rcases (show (sw_42 < 0 ∨ 6 < sw_42) ∨ sw_42 = 0 ∨ sw_42 = 1 ∨ sw_42 = 2 ∨ sw_42 = 3 ∨ sw_42 = 4 ∨ sw_42 = 5 ∨ sw_42 = 6 by omega) with c_42 | c_42 | c_42 | c_42 | c_42 | c_42 | c_42 | c_42
            · refine wp_tabOut (pc := 42) 140 dX6_line_42 c_42 (by decide) ?_
              refine wp_aload_n (pc := 140) dX6_line_140 rfl rfl ?_
              refine wp_getR (pc := 141) (q := 59) dX6_line_141 fl_X6_242 rfl ?_
              refine wp_iload_n (pc := 144) dX6_line_144 rfl rfl ?_
              refine wp_zald (pc := 145) 152 dX6_line_145 rfl (by omega) ?_
              refine wp_if_eq (pc := 146) 153 dX6_line_146 (by decide) (fun c_146 => ?_) (fun c_146 => ?_)
              · refine wp_iconst (pc := 153) dX6_line_153 (by decide) ?_
                refine wp_ireturn (pc := 154) dX6_line_154 rfl ?_
                refine ⟨_, rfl, ?_, o_1, C_1⟩
                unfold aLine
                first
                  | (rw [if_pos (by omega)]; done)
                  | (rw [if_neg (by omega), if_pos (by omega)]; done)
                  | (rw [if_neg (by omega), if_neg (by omega), if_pos (by omega)]; omega)
                  | (rw [if_neg (by omega), if_neg (by omega), if_neg (by omega), if_pos (by omega)]; omega)
                  | (rw [if_neg (by omega), if_neg (by omega), if_neg (by omega), if_neg (by omega), if_pos (by omega)]; omega)
                  | (rw [if_neg (by omega), if_neg (by omega), if_neg (by omega), if_neg (by omega), if_neg (by omega), if_pos (by omega)]; omega)
                  | (rw [if_neg (by omega), if_neg (by omega), if_neg (by omega), if_neg (by omega), if_neg (by omega), if_neg (by omega), if_pos (by omega)]; omega)
                  | (rw [if_neg (by omega), if_neg (by omega), if_neg (by omega), if_neg (by omega), if_neg (by omega), if_neg (by omega), if_neg (by omega), if_pos (by omega)]; omega)
                  | (rw [if_neg (by omega), if_neg (by omega), if_neg (by omega), if_neg (by omega), if_neg (by omega), if_neg (by omega), if_neg (by omega), if_neg (by omega), if_pos (by omega)]; omega)
                  | (have hx := lX_01 D S l; rw [if_neg (by omega), if_neg (by omega), if_neg (by omega), if_neg (by omega), if_neg (by omega), if_neg (by omega), if_neg (by omega), if_neg (by omega), if_neg (by omega)]; omega)
              · refine wp_iconst (pc := 149) dX6_line_149 (by decide) ?_
                refine wp_goto (pc := 150) 154 dX6_line_150 (by decide) ?_
                refine wp_ireturn (pc := 154) dX6_line_154 rfl ?_
                refine ⟨_, rfl, ?_, o_1, C_1⟩
                unfold aLine
                first
                  | (rw [if_pos (by omega)]; done)
                  | (rw [if_neg (by omega), if_pos (by omega)]; done)
                  | (rw [if_neg (by omega), if_neg (by omega), if_pos (by omega)]; omega)
                  | (rw [if_neg (by omega), if_neg (by omega), if_neg (by omega), if_pos (by omega)]; omega)
                  | (rw [if_neg (by omega), if_neg (by omega), if_neg (by omega), if_neg (by omega), if_pos (by omega)]; omega)
                  | (rw [if_neg (by omega), if_neg (by omega), if_neg (by omega), if_neg (by omega), if_neg (by omega), if_pos (by omega)]; omega)
                  | (rw [if_neg (by omega), if_neg (by omega), if_neg (by omega), if_neg (by omega), if_neg (by omega), if_neg (by omega), if_pos (by omega)]; omega)
                  | (rw [if_neg (by omega), if_neg (by omega), if_neg (by omega), if_neg (by omega), if_neg (by omega), if_neg (by omega), if_neg (by omega), if_pos (by omega)]; omega)
                  | (rw [if_neg (by omega), if_neg (by omega), if_neg (by omega), if_neg (by omega), if_neg (by omega), if_neg (by omega), if_neg (by omega), if_neg (by omega), if_pos (by omega)]; omega)
                  | (have hx := lX_01 D S l; rw [if_neg (by omega), if_neg (by omega), if_neg (by omega), if_neg (by omega), if_neg (by omega), if_neg (by omega), if_neg (by omega), if_neg (by omega), if_neg (by omega)]; omega)
            · refine wp_tabIn (pc := 42) (42) 84 dX6_line_42 (by omega) (by omega) (by rw [c_42]; rfl) (by decide) ?_
              refine wp_aload_n (pc := 84) dX6_line_84 rfl rfl ?_
              refine wp_getR (pc := 85) (q := 53) dX6_line_85 fl_X6_221 rfl ?_
              refine wp_iload_n (pc := 88) dX6_line_88 rfl rfl ?_
              refine wp_iald (pc := 89) 152 dX6_line_89 rfl (by omega) ?_
              refine wp_ireturn (pc := 90) dX6_line_90 rfl ?_
              refine ⟨_, rfl, ?_, o_1, C_1⟩
              unfold aLine
              first
                | (rw [if_pos (by omega)]; done)
                | (rw [if_neg (by omega), if_pos (by omega)]; done)
                | (rw [if_neg (by omega), if_neg (by omega), if_pos (by omega)]; omega)
                | (rw [if_neg (by omega), if_neg (by omega), if_neg (by omega), if_pos (by omega)]; omega)
                | (rw [if_neg (by omega), if_neg (by omega), if_neg (by omega), if_neg (by omega), if_pos (by omega)]; omega)
                | (rw [if_neg (by omega), if_neg (by omega), if_neg (by omega), if_neg (by omega), if_neg (by omega), if_pos (by omega)]; omega)
                | (rw [if_neg (by omega), if_neg (by omega), if_neg (by omega), if_neg (by omega), if_neg (by omega), if_neg (by omega), if_pos (by omega)]; omega)
                | (rw [if_neg (by omega), if_neg (by omega), if_neg (by omega), if_neg (by omega), if_neg (by omega), if_neg (by omega), if_neg (by omega), if_pos (by omega)]; omega)
                | (rw [if_neg (by omega), if_neg (by omega), if_neg (by omega), if_neg (by omega), if_neg (by omega), if_neg (by omega), if_neg (by omega), if_neg (by omega), if_pos (by omega)]; omega)
                | (have hx := lX_01 D S l; rw [if_neg (by omega), if_neg (by omega), if_neg (by omega), if_neg (by omega), if_neg (by omega), if_neg (by omega), if_neg (by omega), if_neg (by omega), if_neg (by omega)]; omega)
            · refine wp_tabIn (pc := 42) (49) 91 dX6_line_42 (by omega) (by omega) (by rw [c_42]; rfl) (by decide) ?_
              refine wp_aload_n (pc := 91) dX6_line_91 rfl rfl ?_
              refine wp_getR (pc := 92) (q := 54) dX6_line_92 fl_X6_224 rfl ?_
              refine wp_iload_n (pc := 95) dX6_line_95 rfl rfl ?_
              refine wp_iald (pc := 96) 152 dX6_line_96 rfl (by omega) ?_
              refine wp_ireturn (pc := 97) dX6_line_97 rfl ?_
              refine ⟨_, rfl, ?_, o_1, C_1⟩
              unfold aLine
              first
                | (rw [if_pos (by omega)]; done)
                | (rw [if_neg (by omega), if_pos (by omega)]; done)
                | (rw [if_neg (by omega), if_neg (by omega), if_pos (by omega)]; omega)
                | (rw [if_neg (by omega), if_neg (by omega), if_neg (by omega), if_pos (by omega)]; omega)
                | (rw [if_neg (by omega), if_neg (by omega), if_neg (by omega), if_neg (by omega), if_pos (by omega)]; omega)
                | (rw [if_neg (by omega), if_neg (by omega), if_neg (by omega), if_neg (by omega), if_neg (by omega), if_pos (by omega)]; omega)
                | (rw [if_neg (by omega), if_neg (by omega), if_neg (by omega), if_neg (by omega), if_neg (by omega), if_neg (by omega), if_pos (by omega)]; omega)
                | (rw [if_neg (by omega), if_neg (by omega), if_neg (by omega), if_neg (by omega), if_neg (by omega), if_neg (by omega), if_neg (by omega), if_pos (by omega)]; omega)
                | (rw [if_neg (by omega), if_neg (by omega), if_neg (by omega), if_neg (by omega), if_neg (by omega), if_neg (by omega), if_neg (by omega), if_neg (by omega), if_pos (by omega)]; omega)
                | (have hx := lX_01 D S l; rw [if_neg (by omega), if_neg (by omega), if_neg (by omega), if_neg (by omega), if_neg (by omega), if_neg (by omega), if_neg (by omega), if_neg (by omega), if_neg (by omega)]; omega)
            · refine wp_tabIn (pc := 42) (56) 98 dX6_line_42 (by omega) (by omega) (by rw [c_42]; rfl) (by decide) ?_
              refine wp_aload_n (pc := 98) dX6_line_98 rfl rfl ?_
              refine wp_getR (pc := 99) (q := 55) dX6_line_99 fl_X6_227 rfl ?_
              refine wp_iload_n (pc := 102) dX6_line_102 rfl rfl ?_
              refine wp_iald (pc := 103) 152 dX6_line_103 rfl (by omega) ?_
              refine wp_ireturn (pc := 104) dX6_line_104 rfl ?_
              refine ⟨_, rfl, ?_, o_1, C_1⟩
              unfold aLine
              first
                | (rw [if_pos (by omega)]; done)
                | (rw [if_neg (by omega), if_pos (by omega)]; done)
                | (rw [if_neg (by omega), if_neg (by omega), if_pos (by omega)]; omega)
                | (rw [if_neg (by omega), if_neg (by omega), if_neg (by omega), if_pos (by omega)]; omega)
                | (rw [if_neg (by omega), if_neg (by omega), if_neg (by omega), if_neg (by omega), if_pos (by omega)]; omega)
                | (rw [if_neg (by omega), if_neg (by omega), if_neg (by omega), if_neg (by omega), if_neg (by omega), if_pos (by omega)]; omega)
                | (rw [if_neg (by omega), if_neg (by omega), if_neg (by omega), if_neg (by omega), if_neg (by omega), if_neg (by omega), if_pos (by omega)]; omega)
                | (rw [if_neg (by omega), if_neg (by omega), if_neg (by omega), if_neg (by omega), if_neg (by omega), if_neg (by omega), if_neg (by omega), if_pos (by omega)]; omega)
                | (rw [if_neg (by omega), if_neg (by omega), if_neg (by omega), if_neg (by omega), if_neg (by omega), if_neg (by omega), if_neg (by omega), if_neg (by omega), if_pos (by omega)]; omega)
                | (have hx := lX_01 D S l; rw [if_neg (by omega), if_neg (by omega), if_neg (by omega), if_neg (by omega), if_neg (by omega), if_neg (by omega), if_neg (by omega), if_neg (by omega), if_neg (by omega)]; omega)
            · refine wp_tabIn (pc := 42) (63) 105 dX6_line_42 (by omega) (by omega) (by rw [c_42]; rfl) (by decide) ?_
              refine wp_aload_n (pc := 105) dX6_line_105 rfl rfl ?_
              refine wp_getR (pc := 106) (q := 56) dX6_line_106 fl_X6_230 rfl ?_
              refine wp_iload_n (pc := 109) dX6_line_109 rfl rfl ?_
              refine wp_iald (pc := 110) 152 dX6_line_110 rfl (by omega) ?_
              refine wp_ireturn (pc := 111) dX6_line_111 rfl ?_
              refine ⟨_, rfl, ?_, o_1, C_1⟩
              unfold aLine
              first
                | (rw [if_pos (by omega)]; done)
                | (rw [if_neg (by omega), if_pos (by omega)]; done)
                | (rw [if_neg (by omega), if_neg (by omega), if_pos (by omega)]; omega)
                | (rw [if_neg (by omega), if_neg (by omega), if_neg (by omega), if_pos (by omega)]; omega)
                | (rw [if_neg (by omega), if_neg (by omega), if_neg (by omega), if_neg (by omega), if_pos (by omega)]; omega)
                | (rw [if_neg (by omega), if_neg (by omega), if_neg (by omega), if_neg (by omega), if_neg (by omega), if_pos (by omega)]; omega)
                | (rw [if_neg (by omega), if_neg (by omega), if_neg (by omega), if_neg (by omega), if_neg (by omega), if_neg (by omega), if_pos (by omega)]; omega)
                | (rw [if_neg (by omega), if_neg (by omega), if_neg (by omega), if_neg (by omega), if_neg (by omega), if_neg (by omega), if_neg (by omega), if_pos (by omega)]; omega)
                | (rw [if_neg (by omega), if_neg (by omega), if_neg (by omega), if_neg (by omega), if_neg (by omega), if_neg (by omega), if_neg (by omega), if_neg (by omega), if_pos (by omega)]; omega)
                | (have hx := lX_01 D S l; rw [if_neg (by omega), if_neg (by omega), if_neg (by omega), if_neg (by omega), if_neg (by omega), if_neg (by omega), if_neg (by omega), if_neg (by omega), if_neg (by omega)]; omega)
            · refine wp_tabIn (pc := 42) (70) 112 dX6_line_42 (by omega) (by omega) (by rw [c_42]; rfl) (by decide) ?_
              refine wp_aload_n (pc := 112) dX6_line_112 rfl rfl ?_
              refine wp_getR (pc := 113) (q := 57) dX6_line_113 fl_X6_233 rfl ?_
              refine wp_iload_n (pc := 116) dX6_line_116 rfl rfl ?_
              refine wp_iald (pc := 117) 152 dX6_line_117 rfl (by omega) ?_
              refine wp_ireturn (pc := 118) dX6_line_118 rfl ?_
              refine ⟨_, rfl, ?_, o_1, C_1⟩
              unfold aLine
              first
                | (rw [if_pos (by omega)]; done)
                | (rw [if_neg (by omega), if_pos (by omega)]; done)
                | (rw [if_neg (by omega), if_neg (by omega), if_pos (by omega)]; omega)
                | (rw [if_neg (by omega), if_neg (by omega), if_neg (by omega), if_pos (by omega)]; omega)
                | (rw [if_neg (by omega), if_neg (by omega), if_neg (by omega), if_neg (by omega), if_pos (by omega)]; omega)
                | (rw [if_neg (by omega), if_neg (by omega), if_neg (by omega), if_neg (by omega), if_neg (by omega), if_pos (by omega)]; omega)
                | (rw [if_neg (by omega), if_neg (by omega), if_neg (by omega), if_neg (by omega), if_neg (by omega), if_neg (by omega), if_pos (by omega)]; omega)
                | (rw [if_neg (by omega), if_neg (by omega), if_neg (by omega), if_neg (by omega), if_neg (by omega), if_neg (by omega), if_neg (by omega), if_pos (by omega)]; omega)
                | (rw [if_neg (by omega), if_neg (by omega), if_neg (by omega), if_neg (by omega), if_neg (by omega), if_neg (by omega), if_neg (by omega), if_neg (by omega), if_pos (by omega)]; omega)
                | (have hx := lX_01 D S l; rw [if_neg (by omega), if_neg (by omega), if_neg (by omega), if_neg (by omega), if_neg (by omega), if_neg (by omega), if_neg (by omega), if_neg (by omega), if_neg (by omega)]; omega)
            · refine wp_tabIn (pc := 42) (77) 119 dX6_line_42 (by omega) (by omega) (by rw [c_42]; rfl) (by decide) ?_
              refine wp_aload_n (pc := 119) dX6_line_119 rfl rfl ?_
              refine wp_getR (pc := 120) (q := 58) dX6_line_120 fl_X6_236 rfl ?_
              refine wp_iload_n (pc := 123) dX6_line_123 rfl rfl ?_
              refine wp_iald (pc := 124) 152 dX6_line_124 rfl (by omega) ?_
              refine wp_ireturn (pc := 125) dX6_line_125 rfl ?_
              refine ⟨_, rfl, ?_, o_1, C_1⟩
              unfold aLine
              first
                | (rw [if_pos (by omega)]; done)
                | (rw [if_neg (by omega), if_pos (by omega)]; done)
                | (rw [if_neg (by omega), if_neg (by omega), if_pos (by omega)]; omega)
                | (rw [if_neg (by omega), if_neg (by omega), if_neg (by omega), if_pos (by omega)]; omega)
                | (rw [if_neg (by omega), if_neg (by omega), if_neg (by omega), if_neg (by omega), if_pos (by omega)]; omega)
                | (rw [if_neg (by omega), if_neg (by omega), if_neg (by omega), if_neg (by omega), if_neg (by omega), if_pos (by omega)]; omega)
                | (rw [if_neg (by omega), if_neg (by omega), if_neg (by omega), if_neg (by omega), if_neg (by omega), if_neg (by omega), if_pos (by omega)]; omega)
                | (rw [if_neg (by omega), if_neg (by omega), if_neg (by omega), if_neg (by omega), if_neg (by omega), if_neg (by omega), if_neg (by omega), if_pos (by omega)]; omega)
                | (rw [if_neg (by omega), if_neg (by omega), if_neg (by omega), if_neg (by omega), if_neg (by omega), if_neg (by omega), if_neg (by omega), if_neg (by omega), if_pos (by omega)]; omega)
                | (have hx := lX_01 D S l; rw [if_neg (by omega), if_neg (by omega), if_neg (by omega), if_neg (by omega), if_neg (by omega), if_neg (by omega), if_neg (by omega), if_neg (by omega), if_neg (by omega)]; omega)
            · refine wp_tabIn (pc := 42) (84) 126 dX6_line_42 (by omega) (by omega) (by rw [c_42]; rfl) (by decide) ?_
              refine wp_aload_n (pc := 126) dX6_line_126 rfl rfl ?_
              refine wp_iload_n (pc := 127) dX6_line_127 rfl rfl ?_
              refine wp_cvI1 (pc := 128) dX6_line_128 mv_X6_239 (c_isOver_49 (by omega)) (Nat.le_of_ble_eq_true rfl) rfl (Nat.le_of_ble_eq_true rfl) (fun z_128 σ_128 h_128 => ?_)
              obtain ⟨zz_128, e_128⟩ := h_128; have e2_128 := e_128.symm; subst e2_128
              rw [hll.1, hl2.2.2.2.1, hl2.2.2.2.2] at zz_128
              have hlo : z_128 = lO D S l := zz_128
              have hl01 := lO_01 D S l
              refine wp_if_eq (pc := 131) 138 dX6_line_131 (by decide) (fun c_131 => ?_) (fun c_131 => ?_)
              · refine wp_iconst (pc := 138) dX6_line_138 (by decide) ?_
                refine wp_ireturn (pc := 139) dX6_line_139 rfl ?_
                refine ⟨_, rfl, ?_, o_1, C_1⟩
                unfold aLine
                first
                  | (rw [if_pos (by omega)]; done)
                  | (rw [if_neg (by omega), if_pos (by omega)]; done)
                  | (rw [if_neg (by omega), if_neg (by omega), if_pos (by omega)]; omega)
                  | (rw [if_neg (by omega), if_neg (by omega), if_neg (by omega), if_pos (by omega)]; omega)
                  | (rw [if_neg (by omega), if_neg (by omega), if_neg (by omega), if_neg (by omega), if_pos (by omega)]; omega)
                  | (rw [if_neg (by omega), if_neg (by omega), if_neg (by omega), if_neg (by omega), if_neg (by omega), if_pos (by omega)]; omega)
                  | (rw [if_neg (by omega), if_neg (by omega), if_neg (by omega), if_neg (by omega), if_neg (by omega), if_neg (by omega), if_pos (by omega)]; omega)
                  | (rw [if_neg (by omega), if_neg (by omega), if_neg (by omega), if_neg (by omega), if_neg (by omega), if_neg (by omega), if_neg (by omega), if_pos (by omega)]; omega)
                  | (rw [if_neg (by omega), if_neg (by omega), if_neg (by omega), if_neg (by omega), if_neg (by omega), if_neg (by omega), if_neg (by omega), if_neg (by omega), if_pos (by omega)]; omega)
                  | (have hx := lX_01 D S l; rw [if_neg (by omega), if_neg (by omega), if_neg (by omega), if_neg (by omega), if_neg (by omega), if_neg (by omega), if_neg (by omega), if_neg (by omega), if_neg (by omega)]; omega)
              · refine wp_iconst (pc := 134) dX6_line_134 (by decide) ?_
                refine wp_goto (pc := 135) 139 dX6_line_135 (by decide) ?_
                refine wp_ireturn (pc := 139) dX6_line_139 rfl ?_
                refine ⟨_, rfl, ?_, o_1, C_1⟩
                unfold aLine
                first
                  | (rw [if_pos (by omega)]; done)
                  | (rw [if_neg (by omega), if_pos (by omega)]; done)
                  | (rw [if_neg (by omega), if_neg (by omega), if_pos (by omega)]; omega)
                  | (rw [if_neg (by omega), if_neg (by omega), if_neg (by omega), if_pos (by omega)]; omega)
                  | (rw [if_neg (by omega), if_neg (by omega), if_neg (by omega), if_neg (by omega), if_pos (by omega)]; omega)
                  | (rw [if_neg (by omega), if_neg (by omega), if_neg (by omega), if_neg (by omega), if_neg (by omega), if_pos (by omega)]; omega)
                  | (rw [if_neg (by omega), if_neg (by omega), if_neg (by omega), if_neg (by omega), if_neg (by omega), if_neg (by omega), if_pos (by omega)]; omega)
                  | (rw [if_neg (by omega), if_neg (by omega), if_neg (by omega), if_neg (by omega), if_neg (by omega), if_neg (by omega), if_neg (by omega), if_pos (by omega)]; omega)
                  | (rw [if_neg (by omega), if_neg (by omega), if_neg (by omega), if_neg (by omega), if_neg (by omega), if_neg (by omega), if_neg (by omega), if_neg (by omega), if_pos (by omega)]; omega)
                  | (have hx := lX_01 D S l; rw [if_neg (by omega), if_neg (by omega), if_neg (by omega), if_neg (by omega), if_neg (by omega), if_neg (by omega), if_neg (by omega), if_neg (by omega), if_neg (by omega)]; omega)
          · refine wp_bipush (pc := 38) dX6_line_38 (by decide) (by decide) ?_
            refine wp_ireturn (pc := 40) dX6_line_40 rfl ?_
            refine ⟨_, rfl, ?_, o_1, C_1⟩
            unfold aLine
            first
              | (rw [if_pos (by omega)]; done)
              | (rw [if_neg (by omega), if_pos (by omega)]; done)
              | (rw [if_neg (by omega), if_neg (by omega), if_pos (by omega)]; omega)
              | (rw [if_neg (by omega), if_neg (by omega), if_neg (by omega), if_pos (by omega)]; omega)
              | (rw [if_neg (by omega), if_neg (by omega), if_neg (by omega), if_neg (by omega), if_pos (by omega)]; omega)
              | (rw [if_neg (by omega), if_neg (by omega), if_neg (by omega), if_neg (by omega), if_neg (by omega), if_pos (by omega)]; omega)
              | (rw [if_neg (by omega), if_neg (by omega), if_neg (by omega), if_neg (by omega), if_neg (by omega), if_neg (by omega), if_pos (by omega)]; omega)
              | (rw [if_neg (by omega), if_neg (by omega), if_neg (by omega), if_neg (by omega), if_neg (by omega), if_neg (by omega), if_neg (by omega), if_pos (by omega)]; omega)
              | (rw [if_neg (by omega), if_neg (by omega), if_neg (by omega), if_neg (by omega), if_neg (by omega), if_neg (by omega), if_neg (by omega), if_neg (by omega), if_pos (by omega)]; omega)
              | (have hx := lX_01 D S l; rw [if_neg (by omega), if_neg (by omega), if_neg (by omega), if_neg (by omega), if_neg (by omega), if_neg (by omega), if_neg (by omega), if_neg (by omega), if_neg (by omega)]; omega)
        · refine wp_iconst (pc := 27) dX6_line_27 (by decide) ?_
          refine wp_ireturn (pc := 28) dX6_line_28 rfl ?_
          refine ⟨_, rfl, ?_, o_1, C_1⟩
          unfold aLine
          first
            | (rw [if_pos (by omega)]; done)
            | (rw [if_neg (by omega), if_pos (by omega)]; done)
            | (rw [if_neg (by omega), if_neg (by omega), if_pos (by omega)]; omega)
            | (rw [if_neg (by omega), if_neg (by omega), if_neg (by omega), if_pos (by omega)]; omega)
            | (rw [if_neg (by omega), if_neg (by omega), if_neg (by omega), if_neg (by omega), if_pos (by omega)]; omega)
            | (rw [if_neg (by omega), if_neg (by omega), if_neg (by omega), if_neg (by omega), if_neg (by omega), if_pos (by omega)]; omega)
            | (rw [if_neg (by omega), if_neg (by omega), if_neg (by omega), if_neg (by omega), if_neg (by omega), if_neg (by omega), if_pos (by omega)]; omega)
            | (rw [if_neg (by omega), if_neg (by omega), if_neg (by omega), if_neg (by omega), if_neg (by omega), if_neg (by omega), if_neg (by omega), if_pos (by omega)]; omega)
            | (rw [if_neg (by omega), if_neg (by omega), if_neg (by omega), if_neg (by omega), if_neg (by omega), if_neg (by omega), if_neg (by omega), if_neg (by omega), if_pos (by omega)]; omega)
            | (have hx := lX_01 D S l; rw [if_neg (by omega), if_neg (by omega), if_neg (by omega), if_neg (by omega), if_neg (by omega), if_neg (by omega), if_neg (by omega), if_neg (by omega), if_neg (by omega)]; omega)
set_option maxHeartbeats 4000000 in
set_option maxRecDepth 100000 in
theorem c_sign {σ D S : Sto} {l k : Int} (hC : CI σ D S) : CtI yX6_sign cX6_sign 10 (some .int) 5 [mR 0, mI l, mI k] σ (fun z σ' => z = aSign D S l k ∧ Obs σ σ' ∧ CI σ' D S) := by
  refine ct_of rfl [some (mR 0), some (mI l), some (mI k), none, none, none, none, none, none, none] (Nat.le_of_ble_eq_true rfl) rfl (fun hσ => ?_)
  show Wp cX6_sign RX6 (some .int) 5 0 [some (mR 0), some (mI l), some (mI k), none, none, none, none, none, none, none] [] _ _
  refine wp_okl (fun hokl => ?_)
  have hkb : okI k := hokl (mI k) (by simp)
  have hD := hC.2.2.1
  have hS := hC.2.2.2.1
  have hnl := nL_bd hD
  have lp : ∀ σ_1 : Sto, Obs σ σ_1 → CI σ_1 D S → Lay49 σ_1 D S → 0 ≤ l → l < nL D S → 0 ≤ own D S l → 0 ≤ k → ∀ i, i ≤ lNw D S l → 0 ≤ i → ∀ (a : Int) (l7 l8 l9 : Option MV), noL [some (mR 0), some (mI l), some (mI k), some (mR 49), some (mI (own D S l)), some (mI a), some (mI i), l7, l8, l9] 8 = true → noL [some (mR 0), some (mI l), some (mI k), some (mR 49), some (mI (own D S l)), some (mI a), some (mI i), l7, l8, l9] 9 = true → 0 ≤ a → a ≤ k → sgA (fun j => D 4 (fstS D (own D S l) + lF D S l + j)) (lNw D S l) (lNw D S l - i).toNat i a = sgA (fun j => D 4 (fstS D (own D S l) + lF D S l + j)) (lNw D S l) (lNw D S l).toNat 0 k → Wp cX6_sign RX6 (some .int) 5 45 [some (mR 0), some (mI l), some (mI k), some (mR 49), some (mI (own D S l)), some (mI a), some (mI i), l7, l8, l9] [] σ_1 (fun v σ' => ∃ z, v = some (mI z) ∧ (fun z σ' => z = aSign D S l k ∧ Obs σ σ' ∧ CI σ' D S) z σ') := by
    intro σ_1 o_1 C_1 l_1 h0 h1 hown hk0
    obtain ⟨n1, n2, n3, n4, n5, n6, n7⟩ := C_1.n
    have hB := C_1.B
    have hll := lay_line hD l_1 (l := l) h0 h1
    have hl2 := hll.2.2 hown
    have hub := lU_bd hD hS hown
    have hoa := own_at hD hown
    have n5o := n5 (own D S l)
    have hsz9 := hB.sz (p := own D S l) (by omega) (by omega)
    have hasg : aSign D S l k = sgA (fun j => D 4 (fstS D (own D S l) + lF D S l + j)) (lNw D S l) (lNw D S l).toNat 0 k := by unfold aSign; rw [if_neg (by omega), if_neg (by omega)]
    refine up_ind _ (fun i hi ih i0 a l7 l8 l9 hno8 hno9 ha hak heq => ?_)
    have ef : D 4 (fstS D (own D S l) + lF D S l + i) = σ_1 15 (sumI (σ_1 16) (own D S l) + (lF D S l + i)) := by rw [(n5 _).2.2.2.1, fstS_eq C_1]; congr 1; omega
    refine wp_iload (pc := 45) dX6_sign_45 rfl ?_
    refine wp_aload_n (pc := 47) dX6_sign_47 rfl rfl ?_
    refine wp_getR (pc := 48) (q := 55) dX6_sign_48 fl_X6_227 rfl ?_
    refine wp_iload_n (pc := 51) dX6_sign_51 rfl rfl ?_
    refine wp_iald (pc := 52) 152 dX6_sign_52 rfl (by omega) ?_
    rw [hl2.2.1]
    refine wp_icmp_ge (pc := 53) 155 dX6_sign_53 (by decide) (fun c_53 => ?_) (fun c_53 => ?_)
    · refine wp_bipush (pc := 155) dX6_sign_155 (by decide) (by decide) ?_
      refine wp_ireturn (pc := 157) dX6_sign_157 rfl ?_
      refine ⟨_, rfl, ?_, o_1, C_1⟩
      have e : (lNw D S l - i).toNat = 0 := by omega
      rw [hasg, ← heq, e]
      rfl
    · refine wp_aload_n (pc := 56) dX6_sign_56 rfl rfl ?_
      refine wp_getR (pc := 57) (q := 14) dX6_sign_57 fl_X6_23 rfl ?_
      refine wp_iload (pc := 60) dX6_sign_60 rfl ?_
      refine wp_aload_n (pc := 62) dX6_sign_62 rfl rfl ?_
      refine wp_getR (pc := 63) (q := 54) dX6_sign_63 fl_X6_224 rfl ?_
      refine wp_iload_n (pc := 66) dX6_sign_66 rfl rfl ?_
      refine wp_iald (pc := 67) 152 dX6_sign_67 rfl (by omega) ?_
      rw [hl2.1]
      refine wp_iload (pc := 68) dX6_sign_68 rfl ?_
      refine wp_iadd (pc := 70) dX6_sign_70 (by omega) ?_
      refine wp_cvI2 (pc := 71) dX6_sign_71 mv_X6_179 (c_wordOf hB (by omega) (by omega)) (Nat.le_of_ble_eq_true rfl) rfl (Nat.le_of_ble_eq_true rfl) (fun z_71 σ_71 h_71 => ?_)
      obtain ⟨rfl, e_71⟩ := h_71; have e2_71 := e_71.symm; subst e2_71
      refine wp_istore (pc := 74) dX6_sign_74 (Nat.le_of_ble_eq_true rfl) rfl ?_
      have hkk := code_ok C_1 (p := own D S l) (i := lF D S l + i) (by omega) (by omega) (by omega) (by omega)
      have hkk0 := hkk.1.1
      have hkk1 := hkk.1.2.2.1
      obtain ⟨f9, hf9⟩ : ∃ f9, (lNw D S l - i).toNat = f9 + 1 := ⟨(lNw D S l - i).toNat - 1, by omega⟩
      have hf8 : f9 = (lNw D S l - (i + 1)).toNat := by omega
      rw [hf9] at heq
      simp only [sgA] at heq
      rw [if_neg (by omega), ef] at heq
      refine wp_iload (pc := 76) dX6_sign_76 rfl ?_
      refine wp_csI1 (pc := 78) dX6_sign_78 ms_X6_182 (c_lettersIn (by omega)) (Nat.le_of_ble_eq_true rfl) (Nat.le_of_ble_eq_true rfl) (fun z_78 σ_78 h_78 => ?_)
      obtain ⟨rfl, e_78⟩ := h_78; have e2_78 := e_78.symm; subst e2_78
      refine wp_istore (pc := 81) dX6_sign_81 (Nat.le_of_ble_eq_true rfl) rfl ?_
      refine wp_iload (pc := 83) dX6_sign_83 rfl ?_
      refine wp_iload (pc := 85) dX6_sign_85 rfl ?_
      refine wp_icmp_ge (pc := 87) 98 dX6_sign_87 (by decide) (fun c_87 => ?_) (fun c_87 => ?_)
      · refine wp_iload (pc := 98) dX6_sign_98 rfl ?_
        refine wp_aload_n (pc := 100) dX6_sign_100 rfl rfl ?_
        refine wp_getR (pc := 101) (q := 55) dX6_sign_101 fl_X6_227 rfl ?_
        refine wp_iload_n (pc := 104) dX6_sign_104 rfl rfl ?_
        refine wp_iald (pc := 105) 152 dX6_sign_105 rfl (by omega) ?_
        rw [hl2.2.1]
        refine wp_iconst (pc := 106) dX6_sign_106 (by decide) ?_
        refine wp_isub (pc := 107) dX6_sign_107 (by omega) ?_
        refine wp_icmp_ne (pc := 108) 115 dX6_sign_108 (by decide) (fun c_108 => ?_) (fun c_108 => ?_)
        · refine wp_iconst (pc := 115) dX6_sign_115 (by decide) ?_
          refine wp_istore (pc := 116) dX6_sign_116 (Nat.le_of_ble_eq_true rfl) rfl ?_
          refine wp_iload (pc := 118) dX6_sign_118 rfl ?_
          refine wp_iload (pc := 120) dX6_sign_120 rfl ?_
          refine wp_icmp_ne (pc := 122) 132 dX6_sign_122 (by decide) (fun c_122 => ?_) (fun c_122 => ?_)
          · refine wp_iload (pc := 132) dX6_sign_132 rfl ?_
            refine wp_iload (pc := 134) dX6_sign_134 rfl ?_
            refine wp_iconst (pc := 136) dX6_sign_136 (by decide) ?_
            refine wp_iadd (pc := 137) dX6_sign_137 (by omega) ?_
            refine wp_isub (pc := 138) dX6_sign_138 (by omega) ?_
            refine wp_istore (pc := 139) dX6_sign_139 (Nat.le_of_ble_eq_true rfl) rfl ?_
            refine wp_iload (pc := 141) dX6_sign_141 rfl ?_
            refine wp_if_ge (pc := 143) 149 dX6_sign_143 (by decide) (fun c_143 => ?_) (fun c_143 => ?_)
            · refine wp_iinc (pc := 149) dX6_sign_149 rfl rfl (by omega) ?_
              refine wp_goto (pc := 152) 45 dX6_sign_152 (by decide) ?_
              refine ih (by omega) (by omega) _ _ _ _ rfl rfl (by omega) (by omega) ?_
              rw [if_neg (by omega), if_neg (by omega)] at heq
              rw [← hf8, ← heq]
              congr 1
              omega
            · refine wp_bipush (pc := 146) dX6_sign_146 (by decide) (by decide) ?_
              refine wp_ireturn (pc := 148) dX6_sign_148 rfl ?_
              refine ⟨_, rfl, ?_, o_1, C_1⟩
              rw [hasg, ← heq, if_neg (by omega), if_pos (by omega), if_neg (by omega)]
          · refine wp_iload (pc := 125) dX6_sign_125 rfl ?_
            refine wp_if_ne (pc := 127) 132 dX6_sign_127 (by decide) (fun c_127 => ?_) (fun c_127 => ?_)
            · refine wp_iload (pc := 132) dX6_sign_132 rfl ?_
              refine wp_iload (pc := 134) dX6_sign_134 rfl ?_
              refine wp_iconst (pc := 136) dX6_sign_136 (by decide) ?_
              refine wp_iadd (pc := 137) dX6_sign_137 (by omega) ?_
              refine wp_isub (pc := 138) dX6_sign_138 (by omega) ?_
              refine wp_istore (pc := 139) dX6_sign_139 (Nat.le_of_ble_eq_true rfl) rfl ?_
              refine wp_iload (pc := 141) dX6_sign_141 rfl ?_
              refine wp_if_ge (pc := 143) 149 dX6_sign_143 (by decide) (fun c_143 => ?_) (fun c_143 => ?_)
              · refine wp_iinc (pc := 149) dX6_sign_149 rfl rfl (by omega) ?_
                refine wp_goto (pc := 152) 45 dX6_sign_152 (by decide) ?_
                refine ih (by omega) (by omega) _ _ _ _ rfl rfl (by omega) (by omega) ?_
                rw [if_neg (by omega), if_neg (by omega)] at heq
                rw [← hf8, ← heq]
                congr 1
                omega
              · refine wp_bipush (pc := 146) dX6_sign_146 (by decide) (by decide) ?_
                refine wp_ireturn (pc := 148) dX6_sign_148 rfl ?_
                refine ⟨_, rfl, ?_, o_1, C_1⟩
                rw [hasg, ← heq, if_neg (by omega), if_pos (by omega), if_neg (by omega)]
            · refine wp_iconst (pc := 130) dX6_sign_130 (by decide) ?_
              refine wp_ireturn (pc := 131) dX6_sign_131 rfl ?_
              refine ⟨_, rfl, ?_, o_1, C_1⟩
              rw [hasg, ← heq, if_neg (by omega), if_pos (by omega), if_pos (by omega)]
        · refine wp_iconst (pc := 111) dX6_sign_111 (by decide) ?_
          refine wp_goto (pc := 112) 116 dX6_sign_112 (by decide) ?_
          refine wp_istore (pc := 116) dX6_sign_116 (Nat.le_of_ble_eq_true rfl) rfl ?_
          refine wp_iload (pc := 118) dX6_sign_118 rfl ?_
          refine wp_iload (pc := 120) dX6_sign_120 rfl ?_
          refine wp_icmp_ne (pc := 122) 132 dX6_sign_122 (by decide) (fun c_122 => ?_) (fun c_122 => ?_)
          · refine wp_iload (pc := 132) dX6_sign_132 rfl ?_
            refine wp_iload (pc := 134) dX6_sign_134 rfl ?_
            refine wp_iconst (pc := 136) dX6_sign_136 (by decide) ?_
            refine wp_iadd (pc := 137) dX6_sign_137 (by omega) ?_
            refine wp_isub (pc := 138) dX6_sign_138 (by omega) ?_
            refine wp_istore (pc := 139) dX6_sign_139 (Nat.le_of_ble_eq_true rfl) rfl ?_
            refine wp_iload (pc := 141) dX6_sign_141 rfl ?_
            refine wp_if_ge (pc := 143) 149 dX6_sign_143 (by decide) (fun c_143 => ?_) (fun c_143 => ?_)
            · refine wp_iinc (pc := 149) dX6_sign_149 rfl rfl (by omega) ?_
              refine wp_goto (pc := 152) 45 dX6_sign_152 (by decide) ?_
              refine ih (by omega) (by omega) _ _ _ _ rfl rfl (by omega) (by omega) ?_
              rw [if_neg (by omega), if_neg (by omega)] at heq
              rw [← hf8, ← heq]
              congr 1
              omega
            · refine wp_bipush (pc := 146) dX6_sign_146 (by decide) (by decide) ?_
              refine wp_ireturn (pc := 148) dX6_sign_148 rfl ?_
              refine ⟨_, rfl, ?_, o_1, C_1⟩
              rw [hasg, ← heq, if_neg (by omega), if_pos (by omega), if_neg (by omega)]
          · refine wp_iload (pc := 125) dX6_sign_125 rfl ?_
            refine wp_if_ne (pc := 127) 132 dX6_sign_127 (by decide) (fun c_127 => ?_) (fun c_127 => ?_)
            · refine wp_iload (pc := 132) dX6_sign_132 rfl ?_
              refine wp_iload (pc := 134) dX6_sign_134 rfl ?_
              refine wp_iconst (pc := 136) dX6_sign_136 (by decide) ?_
              refine wp_iadd (pc := 137) dX6_sign_137 (by omega) ?_
              refine wp_isub (pc := 138) dX6_sign_138 (by omega) ?_
              refine wp_istore (pc := 139) dX6_sign_139 (Nat.le_of_ble_eq_true rfl) rfl ?_
              refine wp_iload (pc := 141) dX6_sign_141 rfl ?_
              refine wp_if_ge (pc := 143) 149 dX6_sign_143 (by decide) (fun c_143 => ?_) (fun c_143 => ?_)
              · refine wp_iinc (pc := 149) dX6_sign_149 rfl rfl (by omega) ?_
                refine wp_goto (pc := 152) 45 dX6_sign_152 (by decide) ?_
                refine ih (by omega) (by omega) _ _ _ _ rfl rfl (by omega) (by omega) ?_
                rw [if_neg (by omega), if_neg (by omega)] at heq
                rw [← hf8, ← heq]
                congr 1
                omega
              · refine wp_bipush (pc := 146) dX6_sign_146 (by decide) (by decide) ?_
                refine wp_ireturn (pc := 148) dX6_sign_148 rfl ?_
                refine ⟨_, rfl, ?_, o_1, C_1⟩
                rw [hasg, ← heq, if_neg (by omega), if_pos (by omega), if_neg (by omega)]
            · refine wp_iconst (pc := 130) dX6_sign_130 (by decide) ?_
              refine wp_ireturn (pc := 131) dX6_sign_131 rfl ?_
              refine ⟨_, rfl, ?_, o_1, C_1⟩
              rw [hasg, ← heq, if_neg (by omega), if_pos (by omega), if_pos (by omega)]
      · refine wp_iload (pc := 90) dX6_sign_90 rfl ?_
        refine wp_iload (pc := 92) dX6_sign_92 rfl ?_
        refine wp_csI2 (pc := 94) dX6_sign_94 ms_X6_197 (c_letterOf (by omega)) (Nat.le_of_ble_eq_true rfl) (Nat.le_of_ble_eq_true rfl) (fun z_94 σ_94 h_94 => ?_)
        obtain ⟨rfl, e_94⟩ := h_94; have e2_94 := e_94.symm; subst e2_94
        refine wp_ireturn (pc := 97) dX6_sign_97 rfl ?_
        refine ⟨_, rfl, ?_, o_1, C_1⟩
        rw [hasg, ← heq, if_pos (by omega)]
  refine wp_aload_n (pc := 0) dX6_sign_0 rfl rfl ?_
  refine wp_cvR0 (pc := 1) dX6_sign_1 mv_X6_122 (c_laid hC) (Nat.le_of_ble_eq_true rfl) rfl (Nat.le_of_ble_eq_true rfl) (fun z_1 σ_1 h_1 => ?_)
  obtain ⟨rfl, o_1, C_1, l_1⟩ := h_1
  refine wp_astore_n (pc := 4) dX6_sign_4 rfl (Nat.le_of_ble_eq_true rfl) rfl ?_
  have en : σ_1 49 3 = nL D S := l_1.1
  refine wp_iload_n (pc := 5) dX6_sign_5 rfl rfl ?_
  refine wp_if_lt (pc := 6) 21 dX6_sign_6 (by decide) (fun c_6 => ?_) (fun c_6 => ?_)
  · refine wp_iconst (pc := 21) dX6_sign_21 (by decide) ?_
    refine wp_ireturn (pc := 22) dX6_sign_22 rfl ?_
    exact ⟨_, rfl, by unfold aSign; rw [if_pos (by omega)], o_1, C_1⟩
  · refine wp_iload_n (pc := 9) dX6_sign_9 rfl rfl ?_
    refine wp_aload_n (pc := 10) dX6_sign_10 rfl rfl ?_
    refine wp_getI (pc := 11) 3 dX6_sign_11 fl_X6_126 rfl rfl ?_
    refine wp_icmp_ge (pc := 14) 21 dX6_sign_14 (by decide) (fun c_14 => ?_) (fun c_14 => ?_)
    · refine wp_iconst (pc := 21) dX6_sign_21 (by decide) ?_
      refine wp_ireturn (pc := 22) dX6_sign_22 rfl ?_
      exact ⟨_, rfl, by unfold aSign; rw [if_pos (by omega)], o_1, C_1⟩
    · refine wp_iload_n (pc := 17) dX6_sign_17 rfl rfl ?_
      refine wp_if_ge (pc := 18) 23 dX6_sign_18 (by decide) (fun c_18 => ?_) (fun c_18 => ?_)
      · have hll := lay_line hD l_1 (l := l) (by omega) (by omega)
        refine wp_aload_n (pc := 23) dX6_sign_23 rfl rfl ?_
        refine wp_getR (pc := 24) (q := 53) dX6_sign_24 fl_X6_221 rfl ?_
        refine wp_iload_n (pc := 27) dX6_sign_27 rfl rfl ?_
        refine wp_iald (pc := 28) 152 dX6_sign_28 rfl (by omega) ?_
        rw [hll.1]
        refine wp_istore (pc := 29) dX6_sign_29 (Nat.le_of_ble_eq_true rfl) rfl ?_
        refine wp_iload (pc := 31) dX6_sign_31 rfl ?_
        refine wp_if_ge (pc := 33) 39 dX6_sign_33 (by decide) (fun c_33 => ?_) (fun c_33 => ?_)
        · refine wp_iload_n (pc := 39) dX6_sign_39 rfl rfl ?_
          refine wp_istore (pc := 40) dX6_sign_40 (Nat.le_of_ble_eq_true rfl) rfl ?_
          refine wp_iconst (pc := 42) dX6_sign_42 (by decide) ?_
          refine wp_istore (pc := 43) dX6_sign_43 (Nat.le_of_ble_eq_true rfl) rfl ?_
          exact lp σ_1 o_1 C_1 l_1 (by omega) (by omega) (by omega) (by omega) 0 (by have := (lU_bd hD hS (l := l) (by omega)); omega) (by omega) k none none none rfl rfl (by omega) (by omega) (by rw [show lNw D S l - 0 = lNw D S l by omega])
        · refine wp_bipush (pc := 36) dX6_sign_36 (by decide) (by decide) ?_
          refine wp_ireturn (pc := 38) dX6_sign_38 rfl ?_
          exact ⟨_, rfl, by unfold aSign; rw [if_neg (by omega), if_pos (by omega)], o_1, C_1⟩
      · refine wp_iconst (pc := 21) dX6_sign_21 (by decide) ?_
        refine wp_ireturn (pc := 22) dX6_sign_22 rfl ?_
        exact ⟨_, rfl, by unfold aSign; rw [if_pos (by omega)], o_1, C_1⟩
