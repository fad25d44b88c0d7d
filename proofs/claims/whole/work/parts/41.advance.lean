set_option maxHeartbeats 4000000 in
set_option maxRecDepth 100000 in
theorem c_takeFigures {σ : Sto} {s : Int} (hR : RdI σ) (h4 : σ 38 4 = s) (h6 : σ 38 6 = s) (h8 : σ 38 8 = 0) : CtV yX4_takeFigures cX4_takeFigures 1 none 0 [mR 38] σ (fun σ' => Frm [38] σ σ' ∧ σ' 38 4 = rn (σ 1) 48 57 (σ 38 3) s ∧ σ' 38 8 = fig (σ 1) s (rn (σ 1) 48 57 (σ 38 3) s - s) ∧ σ' 38 5 = (if 2 < rn (σ 1) 48 57 (σ 38 3) s - s then 0 else 2) ∧ ∀ k, k ≠ 4 → k ≠ 8 → k ≠ 5 → σ' 38 k = σ 38 k) := by
  refine ct_of rfl [some (mR 38)] (Nat.le_of_ble_eq_true rfl) rfl (fun hσ => ?_)
  show Wp cX4_takeFigures RX4 none 0 0 [some (mR 38)] [] _ _
  obtain ⟨r1, r2, r3⟩ := hR
  have lp : ∀ y, y ≤ σ 38 3 → s ≤ y → ∀ τ : Sto, rn (σ 1) 48 57 (σ 38 3) s = rn (σ 1) 48 57 (σ 38 3) y → (s < y → 48 ≤ σ 1 s ∧ σ 1 s ≤ 57) → Frm [38] σ τ → τ 38 4 = y → τ 38 8 = fig (σ 1) s (y - s) → (∀ k, k ≠ 4 → k ≠ 8 → τ 38 k = σ 38 k) → Wp cX4_takeFigures RX4 none 0 0 [some (mR 38)] [] τ (fun v σ' => v = none ∧ (fun σ' => Frm [38] σ σ' ∧ σ' 38 4 = rn (σ 1) 48 57 (σ 38 3) s ∧ σ' 38 8 = fig (σ 1) s (rn (σ 1) 48 57 (σ 38 3) s - s) ∧ σ' 38 5 = (if 2 < rn (σ 1) 48 57 (σ 38 3) s - s then 0 else 2) ∧ ∀ k, k ≠ 4 → k ≠ 8 → k ≠ 5 → σ' 38 k = σ 38 k) σ') := by
    refine up_ind (σ 38 3) (fun y hy ih ys τ hrn hfs hF t4 t8 tk => ?_)
    have t3 := tk 3 (by decide) (by decide)
    have t6 := tk 6 (by decide) (by decide)
    have e1 : τ 1 (τ 38 4) = σ 1 y := by rw [t4, hF 1 (by decide)]
    have hyb := fun q => r3 y (by omega) q
    have hfg : y - s < 2 → 0 ≤ τ 38 8 ∧ τ 38 8 ≤ 9 ∧ ((y = s ∧ τ 38 8 = 0) ∨ (y = s + 1 ∧ τ 38 8 = σ 1 s - 48)) := fun q => by
      rw [t8]
      unfold fig
      by_cases h0 : y = s
      · rw [if_pos (by omega)]; omega
      · have := hfs (by omega)
        rw [if_neg (by omega), if_pos (by omega)]; omega
    have nxt : ∀ υ : Sto, y < σ 38 3 → 48 ≤ σ 1 y → σ 1 y ≤ 57 → Frm [38] σ υ → υ 38 4 = y + 1 → υ 38 8 = fig (σ 1) s (y + 1 - s) → (∀ k, k ≠ 4 → k ≠ 8 → υ 38 k = σ 38 k) → Wp cX4_takeFigures RX4 none 0 0 [some (mR 38)] [] υ (fun v σ' => v = none ∧ (fun σ' => Frm [38] σ σ' ∧ σ' 38 4 = rn (σ 1) 48 57 (σ 38 3) s ∧ σ' 38 8 = fig (σ 1) s (rn (σ 1) 48 57 (σ 38 3) s - s) ∧ σ' 38 5 = (if 2 < rn (σ 1) 48 57 (σ 38 3) s - s then 0 else 2) ∧ ∀ k, k ≠ 4 → k ≠ 8 → k ≠ 5 → σ' 38 k = σ 38 k) σ') := fun υ q1 q2 q3 q4 q5 q6 q7 => by
      refine ih q1 (by omega) υ (hrn.trans (rn_go q1 q2 q3)) (fun _ => ?_) q4 q5 q6 q7
      by_cases h0 : y = s
      · rw [← h0]; exact ⟨q2, q3⟩
      · exact hfs (by omega)
    have fin : (σ 38 3 ≤ y ∨ ¬ (48 ≤ σ 1 y ∧ σ 1 y ≤ 57)) → Wp cX4_takeFigures RX4 none 0 89 [some (mR 38)] [] τ (fun v σ' => v = none ∧ (fun σ' => Frm [38] σ σ' ∧ σ' 38 4 = rn (σ 1) 48 57 (σ 38 3) s ∧ σ' 38 8 = fig (σ 1) s (rn (σ 1) 48 57 (σ 38 3) s - s) ∧ σ' 38 5 = (if 2 < rn (σ 1) 48 57 (σ 38 3) s - s then 0 else 2) ∧ ∀ k, k ≠ 4 → k ≠ 8 → k ≠ 5 → σ' 38 k = σ 38 k) σ') := fun hst => by
      rw [rn_stop hst] at hrn
      refine wp_aload_n (pc := 89) dX4_takeFigures_89 rfl rfl ?_
      refine wp_aload_n (pc := 90) dX4_takeFigures_90 rfl rfl ?_
      refine wp_getI (pc := 91) 4 dX4_takeFigures_91 fl_X4_36 rfl rfl ?_
      refine wp_aload_n (pc := 94) dX4_takeFigures_94 rfl rfl ?_
      refine wp_getI (pc := 95) 6 dX4_takeFigures_95 fl_X4_62 rfl rfl ?_
      refine wp_isub (pc := 98) dX4_takeFigures_98 (by omega) ?_
      refine wp_iconst (pc := 99) dX4_takeFigures_99 (by decide) ?_
      refine wp_icmp_le (pc := 100) 107 dX4_takeFigures_100 (by decide) (fun c_100 => ?_) (fun c_100 => ?_)
      · refine wp_iconst (pc := 107) dX4_takeFigures_107 (by decide) ?_
        refine wp_putI (pc := 108) 5 dX4_takeFigures_108 fl_X4_55 ⟨rfl, rfl⟩ rfl rfl ?_
        refine wp_return (pc := 111) dX4_takeFigures_111 rfl ?_
        refine ⟨rfl, hF.up (by decide), ?_, ?_, ?_, fun k k4 k8 k5 => ?_⟩
        · rw [upd2_k (by decide), hrn]; exact t4
        · rw [upd2_k (by decide), hrn]; exact t8
        · rw [upd2_eq, hrn]; first | rw [if_pos (by omega)] | rw [if_neg (by omega)]
        · rw [upd2_k k5]; exact tk k k4 k8
      · refine wp_iconst (pc := 103) dX4_takeFigures_103 (by decide) ?_
        refine wp_goto (pc := 104) 108 dX4_takeFigures_104 (by decide) ?_
        refine wp_putI (pc := 108) 5 dX4_takeFigures_108 fl_X4_55 ⟨rfl, rfl⟩ rfl rfl ?_
        refine wp_return (pc := 111) dX4_takeFigures_111 rfl ?_
        refine ⟨rfl, hF.up (by decide), ?_, ?_, ?_, fun k k4 k8 k5 => ?_⟩
        · rw [upd2_k (by decide), hrn]; exact t4
        · rw [upd2_k (by decide), hrn]; exact t8
        · rw [upd2_eq, hrn]; first | rw [if_pos (by omega)] | rw [if_neg (by omega)]
        · rw [upd2_k k5]; exact tk k k4 k8
    refine wp_aload_n (pc := 0) dX4_takeFigures_0 rfl rfl ?_
    refine wp_getI (pc := 1) 4 dX4_takeFigures_1 fl_X4_36 rfl rfl ?_
    refine wp_aload_n (pc := 4) dX4_takeFigures_4 rfl rfl ?_
    refine wp_getI (pc := 5) 3 dX4_takeFigures_5 fl_X4_33 rfl rfl ?_
    refine wp_icmp_ge (pc := 8) 89 dX4_takeFigures_8 (by decide) (fun c_8 => ?_) (fun c_8 => ?_)
    · exact fin (by omega)
    · refine wp_aload_n (pc := 11) dX4_takeFigures_11 rfl rfl ?_
      refine wp_getR (pc := 12) (q := 1) dX4_takeFigures_12 fl_X4_9 rfl ?_
      refine wp_aload_n (pc := 15) dX4_takeFigures_15 rfl rfl ?_
      refine wp_getI (pc := 16) 4 dX4_takeFigures_16 fl_X4_36 rfl rfl ?_
      refine wp_bald (pc := 19) 400 dX4_takeFigures_19 rfl (by omega) ?_
      refine wp_bipush (pc := 20) dX4_takeFigures_20 (by decide) (by decide) ?_
      refine wp_icmp_lt (pc := 22) 89 dX4_takeFigures_22 (by decide) (fun c_22 => ?_) (fun c_22 => ?_)
      · exact fin (by omega)
      · refine wp_aload_n (pc := 25) dX4_takeFigures_25 rfl rfl ?_
        refine wp_getR (pc := 26) (q := 1) dX4_takeFigures_26 fl_X4_9 rfl ?_
        refine wp_aload_n (pc := 29) dX4_takeFigures_29 rfl rfl ?_
        refine wp_getI (pc := 30) 4 dX4_takeFigures_30 fl_X4_36 rfl rfl ?_
        refine wp_bald (pc := 33) 400 dX4_takeFigures_33 rfl (by omega) ?_
        refine wp_bipush (pc := 34) dX4_takeFigures_34 (by decide) (by decide) ?_
        refine wp_icmp_gt (pc := 36) 89 dX4_takeFigures_36 (by decide) (fun c_36 => ?_) (fun c_36 => ?_)
        · exact fin (by omega)
        · refine wp_aload_n (pc := 39) dX4_takeFigures_39 rfl rfl ?_
          refine wp_getI (pc := 40) 4 dX4_takeFigures_40 fl_X4_36 rfl rfl ?_
          refine wp_aload_n (pc := 43) dX4_takeFigures_43 rfl rfl ?_
          refine wp_getI (pc := 44) 6 dX4_takeFigures_44 fl_X4_62 rfl rfl ?_
          refine wp_isub (pc := 47) dX4_takeFigures_47 (by omega) ?_
          refine wp_iconst (pc := 48) dX4_takeFigures_48 (by decide) ?_
          refine wp_icmp_ge (pc := 49) 76 dX4_takeFigures_49 (by decide) (fun c_49 => ?_) (fun c_49 => ?_)
          · refine wp_aload_n (pc := 76) dX4_takeFigures_76 rfl rfl ?_
            refine wp_dup (pc := 77) dX4_takeFigures_77 (fun _ h => by cases h) ?_
            refine wp_getI (pc := 78) 4 dX4_takeFigures_78 fl_X4_36 rfl rfl ?_
            refine wp_iconst (pc := 81) dX4_takeFigures_81 (by decide) ?_
            refine wp_iadd (pc := 82) dX4_takeFigures_82 (by omega) ?_
            refine wp_putI (pc := 83) 4 dX4_takeFigures_83 fl_X4_36 ⟨rfl, rfl⟩ rfl rfl ?_
            refine wp_goto (pc := 86) 0 dX4_takeFigures_86 (by decide) ?_
            refine nxt _ (by omega) (by omega) (by omega) ?_ ?_ ?_ (fun k k4 k8 => ?_)
            · first | exact (hF.up (by decide)).up (by decide) | exact hF.up (by decide)
            · rw [upd2_eq]; first | (rw [upd2_k (by decide)]; omega) | omega
            · rw [upd2_k (by decide)]
              unfold fig
              first
              | (rw [upd2_eq]
                 have hq := hfg (by omega)
                 by_cases h0 : y = s
                 · rw [if_neg (by omega), if_pos (by omega)]
                   rw [h0] at e1
                   omega
                 · rw [if_neg (by omega), if_neg (by omega)]
                   rw [show y = s + 1 by omega] at e1
                   omega)
              | (rw [t8]
                 unfold fig
                 rw [if_neg (by omega), if_neg (by omega), if_neg (by omega), if_neg (by omega)])
            · rw [upd2_k k4]; first | (rw [upd2_k k8]; exact tk k k4 k8) | exact tk k k4 k8
          · refine wp_aload_n (pc := 52) dX4_takeFigures_52 rfl rfl ?_
            refine wp_aload_n (pc := 53) dX4_takeFigures_53 rfl rfl ?_
            refine wp_getI (pc := 54) 8 dX4_takeFigures_54 fl_X4_107 rfl rfl ?_
            refine wp_bipush (pc := 57) dX4_takeFigures_57 (by decide) (by decide) ?_
            refine wp_imul (pc := 59) dX4_takeFigures_59 (by omega) ?_
            refine wp_aload_n (pc := 60) dX4_takeFigures_60 rfl rfl ?_
            refine wp_getR (pc := 61) (q := 1) dX4_takeFigures_61 fl_X4_9 rfl ?_
            refine wp_aload_n (pc := 64) dX4_takeFigures_64 rfl rfl ?_
            refine wp_getI (pc := 65) 4 dX4_takeFigures_65 fl_X4_36 rfl rfl ?_
            refine wp_bald (pc := 68) 400 dX4_takeFigures_68 rfl (by omega) ?_
            refine wp_iadd (pc := 69) dX4_takeFigures_69 (by omega) ?_
            refine wp_bipush (pc := 70) dX4_takeFigures_70 (by decide) (by decide) ?_
            refine wp_isub (pc := 72) dX4_takeFigures_72 (by omega) ?_
            refine wp_putI (pc := 73) 8 dX4_takeFigures_73 fl_X4_107 ⟨rfl, rfl⟩ rfl rfl ?_
            refine wp_aload_n (pc := 76) dX4_takeFigures_76 rfl rfl ?_
            refine wp_dup (pc := 77) dX4_takeFigures_77 (fun _ h => by cases h) ?_
            refine wp_getI (pc := 78) 4 dX4_takeFigures_78 fl_X4_36 rfl rfl ?_
            rw [upd2_k (r := 38) (k := 8) (k' := 4) (by decide)]
            refine wp_iconst (pc := 81) dX4_takeFigures_81 (by decide) ?_
            refine wp_iadd (pc := 82) dX4_takeFigures_82 (by omega) ?_
            refine wp_putI (pc := 83) 4 dX4_takeFigures_83 fl_X4_36 ⟨rfl, rfl⟩ rfl rfl ?_
            refine wp_goto (pc := 86) 0 dX4_takeFigures_86 (by decide) ?_
            refine nxt _ (by omega) (by omega) (by omega) ?_ ?_ ?_ (fun k k4 k8 => ?_)
            · first | exact (hF.up (by decide)).up (by decide) | exact hF.up (by decide)
            · rw [upd2_eq]; first | (rw [upd2_k (by decide)]; omega) | omega
            · rw [upd2_k (by decide)]
              unfold fig
              first
              | (rw [upd2_eq]
                 have hq := hfg (by omega)
                 by_cases h0 : y = s
                 · rw [if_neg (by omega), if_pos (by omega)]
                   rw [h0] at e1
                   omega
                 · rw [if_neg (by omega), if_neg (by omega)]
                   rw [show y = s + 1 by omega] at e1
                   omega)
              | (rw [t8]
                 unfold fig
                 rw [if_neg (by omega), if_neg (by omega), if_neg (by omega), if_neg (by omega)])
            · rw [upd2_k k4]; first | (rw [upd2_k k8]; exact tk k k4 k8) | exact tk k k4 k8
  exact lp s (by omega) (by omega) σ rfl (fun q => absurd q (by omega)) Frm.rf h4 (by rw [h8]; unfold fig; rw [if_pos (by omega)]) (fun _ _ _ => rfl)
