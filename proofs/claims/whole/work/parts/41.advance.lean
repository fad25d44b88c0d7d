set_option maxHeartbeats 4000000 in
set_option maxRecDepth 100000 in
theorem c_takeFigures {σ : Sto} {s : Int} (hR : RdI σ) (h4 : σ 38 4 = s) (h6 : σ 38 6 = s) (h8 : σ 38 8 = 0) : CtV yX4_takeFigures cX4_takeFigures 1 none 0 [mR 38] σ (fun σ' => Frm [38] σ σ' ∧ σ' 38 4 = rn (σ 1) 48 57 (σ 38 3) s ∧ σ' 38 8 = fig (σ 1) s (rn (σ 1) 48 57 (σ 38 3) s - s) ∧ σ' 38 5 = (if 2 < rn (σ 1) 48 57 (σ 38 3) s - s then 0 else 2) ∧ ∀ k, k ≠ 4 → k ≠ 8 → k ≠ 5 → σ' 38 k = σ 38 k) := by
  refine ct_of rfl [some (mR 38)] (Nat.le_of_ble_eq_true rfl) rfl (fun hσ => ?_)
  show Wp cX4_takeFigures RX4 none 0 0 [some (mR 38)] [] _ _
  obtain ⟨r1, r2, r3⟩ := hR
  have lp : ∀ y, y ≤ σ 38 3 → s ≤ y → ∀ τ : Sto, rn (σ 1) 48 57 (σ 38 3) s = rn (σ 1) 48 57 (σ 38 3) y → (s < y → 48 ≤ σ 1 s ∧ σ 1 s ≤ 57) → Frm [38] σ τ → τ 38 4 = y → τ 38 8 = fig (σ 1) s (y - s) → (∀ k, k ≠ 4 → k ≠ 8 → τ 38 k = σ 38 k) → Wp cX4_takeFigures RX4 none 0 0 [some (mR 38)] [] τ (fun v σ' => v = none ∧ (fun σ' => Frm [38] σ σ' ∧ σ' 38 4 = rn (σ 1) 48 57 (σ 38 3) s ∧ σ' 38 8 = fig (σ 1) s (rn (σ 1) 48 57 (σ 38 3) s - s) ∧ σ' 38 5 = (if 2 < rn (σ 1) 48 57 (σ 38 3) s - s then 0 else 2) ∧ ∀ k, k ≠ 4 → k ≠ 8 → k ≠ 5 → σ' 38 k = σ 38 k) σ') := by
    refine up_ind (σ 38 3) (fun y hy ih ys τ hrn hfs hF t4 t8 tk => ?_)
    have t3 := tk 3 (by decide) (by decide)
    have t6 := tk 6 (by decide) (by decide)
    have e1 : τ 1 (τ 38 4) = σ 1 y := by rw [t4, hF 1 (by decide)]
    have hyb := fun q => r3 y (by omega) q
    have hfg : y - s < 2 → 0 ≤ τ 38 8 ∧ τ 38 8 ≤ 9 ∧ ((y = s ∧ τ 38 8 = 0) ∨ (y = s + 1 ∧ τ 38 8 = σ 1 s - 48)) := fun q => by
      rw [t8]
      unfold fig
      by_cases h0 : y = s
      · rw [if_pos (by omega)]; omega
      · have := hfs (by omega)
        rw [if_neg (by omega), if_pos (by omega)]; omega
    have nxt : ∀ υ : Sto, y < σ 38 3 → 48 ≤ σ 1 y → σ 1 y ≤ 57 → Frm [38] σ υ → υ 38 4 = y + 1 → υ 38 8 = fig (σ 1) s (y + 1 - s) → (∀ k, k ≠ 4 → k ≠ 8 → υ 38 k = σ 38 k) → Wp cX4_takeFigures RX4 none 0 0 [some (mR 38)] [] υ (fun v σ' => v = none ∧ (fun σ' => Frm [38] σ σ' ∧ σ' 38 4 = rn (σ 1) 48 57 (σ 38 3) s ∧ σ' 38 8 = fig (σ 1) s (rn (σ 1) 48 57 (σ 38 3) s - s) ∧ σ' 38 5 = (if 2 < rn (σ 1) 48 57 (σ 38 3) s - s then 0 else 2) ∧ ∀ k, k ≠ 4 → k ≠ 8 → k ≠ 5 → σ' 38 k = σ 38 k) σ') := fun υ q1 q2 q3 q4 q5 q6 q7 => by
      refine ih q1 (by omega) υ (hrn.trans (rn_go q1 q2 q3)) (fun _ => ?_) q4 q5 q6 q7
      by_cases h0 : y = s
      · rw [← h0]; exact ⟨q2, q3⟩
      · exact hfs (by omega)
    have fin : (σ 38 3 ≤ y ∨ ¬ (48 ≤ σ 1 y ∧ σ 1 y ≤ 57)) → Wp cX4_takeFigures RX4 none 0 89 [some (mR 38)] [] τ (fun v σ' => v = none ∧ (fun σ' => Frm [38] σ σ' ∧ σ' 38 4 = rn (σ 1) 48 57 (σ 38 3) s ∧ σ' 38 8 = fig (σ 1) s (rn (σ 1) 48 57 (σ 38 3) s - s) ∧ σ' 38 5 = (if 2 < rn (σ 1) 48 57 (σ 38 3) s - s then 0 else 2) ∧ ∀ k, k ≠ 4 → k ≠ 8 → k ≠ 5 → σ' 38 k = σ 38 k) σ') := fun hst => by
      rw [rn_stop hst] at hrn
      refine wp_aload_n (pc := 89) dX4_takeFigures_89 rfl rfl ?_
      refine wp_aload_n (pc := 90) dX4_takeFigures_90 rfl rfl ?_
      refine wp_getI (pc := 91) 4 dX4_takeFigures_91 fl_X4_36 rfl rfl ?_
      refine wp_aload_n (pc := 94) dX4_takeFigures_94 rfl rfl ?_
      refine wp_getI (pc := 95) 6 dX4_takeFigures_95 fl_X4_62 rfl rfl ?_
      refine wp_isub (pc := 98) dX4_takeFigures_98 (by omega) ?_
      refine wp_iconst (pc := 99) dX4_takeFigures_99 (by decide) ?_
      refine wp_icmp_le (pc := 100) 107 dX4_takeFigures_100 (by decide) (fun c_100 => ?_) (fun c_100 => ?_)
      · refine wp_iconst (pc := 107) dX4_takeFigures_107 (by decide) ?_
        refine wp_putI (pc := 108) 5 dX4_takeFigures_108 fl_X4_55 ⟨rfl, rfl⟩ rfl rfl ?_
        refine wp_return (pc := 111) dX4_takeFigures_111 rfl ?_
        refine ⟨rfl, hF.up (by decide), ?_, ?_, ?_, fun k k4 k8 k5 => ?_⟩
        · rw [upd2_k (by decide), hrn]; exact t4
        · rw [upd2_k (by decide), hrn]; exact t8
        · rw [upd2_eq, hrn]; first | rw [if_pos (by omega)] | rw [if_neg (by omega)]
        · rw [upd2_k k5]; exact tk k k4 k8
      · refine wp_iconst (pc := 103) dX4_takeFigures_103 (by decide) ?_
        refine wp_goto (pc := 104) 108 dX4_takeFigures_104 (by decide) ?_
        refine wp_putI (pc := 108) 5 dX4_takeFigures_108 fl_X4_55 ⟨rfl, rfl⟩ rfl rfl ?_
        refine wp_return (pc := 111) dX4_takeFigures_111 rfl ?_
        refine ⟨rfl, hF.up (by decide), ?_, ?_, ?_, fun k k4 k8 k5 => ?_⟩
        · rw [upd2_k (by decide), hrn]; exact t4
        · rw [upd2_k (by decide), hrn]; exact t8
        · rw [upd2_eq, hrn]; first | rw [if_pos (by omega)] | rw [if_neg (by omega)]
        · rw [upd2_k k5]; exact tk k k4 k8
    refine wp_aload_n (pc := 0) dX4_takeFigures_0 rfl rfl ?_
    refine wp_getI (pc := 1) 4 dX4_takeFigures_1 fl_X4_36 rfl rfl ?_
    refine wp_aload_n (pc := 4) dX4_takeFigures_4 rfl rfl ?_
    refine wp_getI (pc := 5) 3 dX4_takeFigures_5 fl_X4_33 rfl rfl ?_
    refine wp_icmp_ge (pc := 8) 89 dX4_takeFigures_8 (by decide) (fun c_8 => ?_) (fun c_8 => ?_)
    · exact fin (by omega)
    · refine wp_aload_n (pc := 11) dX4_takeFigures_11 rfl rfl ?_
      refine wp_getR (pc := 12) (q := 1) dX4_takeFigures_12 fl_X4_9 rfl ?_
      refine wp_aload_n (pc := 15) dX4_takeFigures_15 rfl rfl ?_
      refine wp_getI (pc := 16) 4 dX4_takeFigures_16 fl_X4_36 rfl rfl ?_
      refine wp_bald (pc := 19) 400 dX4_takeFigures_19 rfl (by omega) ?_
      refine wp_bipush (pc := 20) dX4_takeFigures_20 (by decide) (by decide) ?_
      refine wp_icmp_lt (pc := 22) 89 dX4_takeFigures_22 (by decide) (fun c_22 => ?_) (fun c_22 => ?_)
      · exact fin (by omega)
      · refine wp_aload_n (pc := 25) dX4_takeFigures_25 rfl rfl ?_
        refine wp_getR (pc := 26) (q := 1) dX4_takeFigures_26 fl_X4_9 rfl ?_
        refine wp_aload_n (pc := 29) dX4_takeFigures_29 rfl rfl ?_
        refine wp_getI (pc := 30) 4 dX4_takeFigures_30 fl_X4_36 rfl rfl ?_
        refine wp_bald (pc := 33) 400 dX4_takeFigures_33 rfl (by omega) ?_
        refine wp_bipush (pc := 34) dX4_takeFigures_34 (by decide) (by decide) ?_
        refine wp_icmp_gt (pc := 36) 89 dX4_takeFigures_36 (by decide) (fun c_36 => ?_) (fun c_36 => ?_)
        · exact fin (by omega)
        · refine wp_aload_n (pc := 39) dX4_takeFigures_39 rfl rfl ?_
          refine wp_getI (pc := 40) 4 dX4_takeFigures_40 fl_X4_36 rfl rfl ?_
          refine wp_aload_n (pc := 43) dX4_takeFigures_43 rfl rfl ?_
          refine wp_getI (pc := 44) 6 dX4_takeFigures_44 fl_X4_62 rfl rfl ?_
          refine wp_isub (pc := 47) dX4_takeFigures_47 (by omega) ?_
          refine wp_iconst (pc := 48) dX4_takeFigures_48 (by decide) ?_
          refine wp_icmp_ge (pc := 49) 76 dX4_takeFigures_49 (by decide) (fun c_49 => ?_) (fun c_49 => ?_)
          · refine wp_aload_n (pc := 76) dX4_takeFigures_76 rfl rfl ?_
            refine wp_dup (pc := 77) dX4_takeFigures_77 (fun _ h => by cases h) ?_
            refine wp_getI (pc := 78) 4 dX4_takeFigures_78 fl_X4_36 rfl rfl ?_
            refine wp_iconst (pc := 81) dX4_takeFigures_81 (by decide) ?_
            refine wp_iadd (pc := 82) dX4_takeFigures_82 (by omega) ?_
            refine wp_putI (pc := 83) 4 dX4_takeFigures_83 fl_X4_36 ⟨rfl, rfl⟩ rfl rfl ?_
            refine wp_goto (pc := 86) 0 dX4_takeFigures_86 (by decide) ?_
            refine nxt _ (by omega) (by omega) (by omega) ?_ ?_ ?_ (fun k k4 k8 => ?_)
            · first | exact (hF.up (by decide)).up (by decide) | exact hF.up (by decide)
            · rw [upd2_eq]; first | (rw [upd2_k (by decide)]; omega) | omega
            · rw [upd2_k (by decide)]
              unfold fig
              first
              | (rw [upd2_eq]
                 have hq := hfg (by omega)
                 by_cases h0 : y = s
                 · rw [if_neg (by omega), if_pos (by omega)]
                   rw [h0] at e1
                   omega
                 · rw [if_neg (by omega), if_neg (by omega)]
                   rw [show y = s + 1 by omega] at e1
                   omega)
              | (rw [t8]
                 unfold fig
                 rw [if_neg (by omega), if_neg (by omega), if_neg (by omega), if_neg (by omega)])
            · rw [upd2_k k4]; first | (rw [upd2_k k8]; exact tk k k4 k8) | exact tk k k4 k8
          · refine wp_aload_n (pc := 52) dX4_takeFigures_52 rfl rfl ?_
            refine wp_aload_n (pc := 53) dX4_takeFigures_53 rfl rfl ?_
            refine wp_getI (pc := 54) 8 dX4_takeFigures_54 fl_X4_107 rfl rfl ?_
            refine wp_bipush (pc := 57) dX4_takeFigures_57 (by decide) (by decide) ?_
            refine wp_imul (pc := 59) dX4_takeFigures_59 (by omega) ?_
            refine wp_aload_n (pc := 60) dX4_takeFigures_60 rfl rfl ?_
            refine wp_getR (pc := 61) (q := 1) dX4_takeFigures_61 fl_X4_9 rfl ?_
            refine wp_aload_n (pc := 64) dX4_takeFigures_64 rfl rfl ?_
            refine wp_getI (pc := 65) 4 dX4_takeFigures_65 fl_X4_36 rfl rfl ?_
            refine wp_bald (pc := 68) 400 dX4_takeFigures_68 rfl (by omega) ?_
            refine wp_iadd (pc := 69) dX4_takeFigures_69 (by omega) ?_
            refine wp_bipush (pc := 70) dX4_takeFigures_70 (by decide) (by decide) ?_
            refine wp_isub (pc := 72) dX4_takeFigures_72 (by omega) ?_
            refine wp_putI (pc := 73) 8 dX4_takeFigures_73 fl_X4_107 ⟨rfl, rfl⟩ rfl rfl ?_
            refine wp_aload_n (pc := 76) dX4_takeFigures_76 rfl rfl ?_
            refine wp_dup (pc := 77) dX4_takeFigures_77 (fun _ h => by cases h) ?_
            refine wp_getI (pc := 78) 4 dX4_takeFigures_78 fl_X4_36 rfl rfl ?_
            rw [upd2_k (r := 38) (k := 8) (k' := 4) (by decide)]
            refine wp_iconst (pc := 81) dX4_takeFigures_81 (by decide) ?_
            refine wp_iadd (pc := 82) dX4_takeFigures_82 (by omega) ?_
            refine wp_putI (pc := 83) 4 dX4_takeFigures_83 fl_X4_36 ⟨rfl, rfl⟩ rfl rfl ?_
            refine wp_goto (pc := 86) 0 dX4_takeFigures_86 (by decide) ?_
            refine nxt _ (by omega) (by omega) (by omega) ?_ ?_ ?_ (fun k k4 k8 => ?_)
            · first | exact (hF.up (by decide)).up (by decide) | exact hF.up (by decide)
            · rw [upd2_eq]; first | (rw [upd2_k (by decide)]; omega) | omega
            · rw [upd2_k (by decide)]
              unfold fig
              first
              | (rw [upd2_eq]
                 have hq := hfg (by omega)
                 by_cases h0 : y = s
                 · rw [if_neg (by omega), if_pos (by omega)]
                   rw [h0] at e1
                   omega
                 · rw [if_neg (by omega), if_neg (by omega)]
                   rw [show y = s + 1 by omega] at e1
                   omega)
              | (rw [t8]
                 unfold fig
                 rw [if_neg (by omega), if_neg (by omega), if_neg (by omega), if_neg (by omega)])
            · rw [upd2_k k4]; first | (rw [upd2_k k8]; exact tk k k4 k8) | exact tk k k4 k8
  exact lp s (by omega) (by omega) σ rfl (fun q => absurd q (by omega)) Frm.rf h4 (by rw [h8]; unfold fig; rw [if_pos (by omega)]) (fun _ _ _ => rfl)
set_option maxHeartbeats 4000000 in
set_option maxRecDepth 100000 in
theorem c_advance {σ : Sto} {x : Int} (hR : RdI σ) (h4 : σ 38 4 = x) : CtV yX4_advance cX4_advance 1 none 1 [mR 38] σ (fun σ' => Frm [38] σ σ' ∧ σ' 38 4 = tkE (σ 1) (σ 38 3) x ∧ σ' 38 5 = tkK (σ 1) (σ 38 3) x ∧ σ' 38 6 = tkS (σ 1) (σ 38 3) x ∧ σ' 38 7 = tkE (σ 1) (σ 38 3) x - tkS (σ 1) (σ 38 3) x ∧ σ' 38 8 = tkN (σ 1) (σ 38 3) x ∧ ∀ k, (k < 4 ∨ 8 < k) → σ' 38 k = σ 38 k) := by
  refine ct_of rfl [some (mR 38)] (Nat.le_of_ble_eq_true rfl) rfl (fun hσ => ?_)
  show Wp cX4_advance RX4 none 1 0 [some (mR 38)] [] _ _
  obtain ⟨r1, r2, r3⟩ := hR
  have fin : ∀ (τ : Sto) (s e : Int), Frm [38] σ τ → tkS (σ 1) (σ 38 3) x = s → tkE (σ 1) (σ 38 3) x = e → τ 38 4 = e → τ 38 5 = tkK (σ 1) (σ 38 3) x → τ 38 6 = s → τ 38 8 = tkN (σ 1) (σ 38 3) x → (0 ≤ s ∧ s ≤ 400) → (0 ≤ e ∧ e ≤ 400) → (∀ k, (k < 4 ∨ 8 < k) → τ 38 k = σ 38 k) → Wp cX4_advance RX4 none 1 207 [some (mR 38)] [] τ (fun v σ' => v = none ∧ (fun σ' => Frm [38] σ σ' ∧ σ' 38 4 = tkE (σ 1) (σ 38 3) x ∧ σ' 38 5 = tkK (σ 1) (σ 38 3) x ∧ σ' 38 6 = tkS (σ 1) (σ 38 3) x ∧ σ' 38 7 = tkE (σ 1) (σ 38 3) x - tkS (σ 1) (σ 38 3) x ∧ σ' 38 8 = tkN (σ 1) (σ 38 3) x ∧ ∀ k, (k < 4 ∨ 8 < k) → σ' 38 k = σ 38 k) σ') := by
    intro τ s e hF hs he t4 t5 t6 t8 b1 b2 tk
    refine wp_aload_n (pc := 207) dX4_advance_207 rfl rfl ?_
    refine wp_aload_n (pc := 208) dX4_advance_208 rfl rfl ?_
    refine wp_getI (pc := 209) 4 dX4_advance_209 fl_X4_36 rfl rfl ?_
    refine wp_aload_n (pc := 212) dX4_advance_212 rfl rfl ?_
    refine wp_getI (pc := 213) 6 dX4_advance_213 fl_X4_62 rfl rfl ?_
    refine wp_isub (pc := 216) dX4_advance_216 (by omega) ?_
    refine wp_putI (pc := 217) 7 dX4_advance_217 fl_X4_110 ⟨rfl, rfl⟩ rfl rfl ?_
    refine wp_return (pc := 220) dX4_advance_220 rfl ?_
    refine ⟨rfl, hF.up (by decide), ?_, ?_, ?_, ?_, ?_, fun k hk => ?_⟩
    · rw [upd2_k (by decide), he]; exact t4
    · rw [upd2_k (by decide)]; exact t5
    · rw [upd2_k (by decide), hs]; exact t6
    · rw [upd2_eq, hs, he]; omega
    · rw [upd2_k (by decide)]; exact t8
    · rw [upd2_k (by omega)]; exact tk k hk
  have mid : ∀ (τ : Sto) (s : Int), Frm [38] σ τ → tkS (σ 1) (σ 38 3) x = s → 0 ≤ s → s ≤ σ 38 3 → τ 38 4 = s → (∀ k, k ≠ 4 → τ 38 k = σ 38 k) → Wp cX4_advance RX4 none 1 38 [some (mR 38)] [] τ (fun v σ' => v = none ∧ (fun σ' => Frm [38] σ σ' ∧ σ' 38 4 = tkE (σ 1) (σ 38 3) x ∧ σ' 38 5 = tkK (σ 1) (σ 38 3) x ∧ σ' 38 6 = tkS (σ 1) (σ 38 3) x ∧ σ' 38 7 = tkE (σ 1) (σ 38 3) x - tkS (σ 1) (σ 38 3) x ∧ σ' 38 8 = tkN (σ 1) (σ 38 3) x ∧ ∀ k, (k < 4 ∨ 8 < k) → σ' 38 k = σ 38 k) σ') := by
    intro τ s hF hs s0 s1 t4 tk
    have t3 := tk 3 (by decide)
    have e1 : τ 1 = σ 1 := hF 1 (by decide)
    have tE : tkE (σ 1) (σ 38 3) x = if σ 38 3 ≤ s then s else if 97 ≤ σ 1 s ∧ σ 1 s ≤ 122 then rn (σ 1) 97 122 (σ 38 3) s else if 48 ≤ σ 1 s ∧ σ 1 s ≤ 57 then rn (σ 1) 48 57 (σ 38 3) s else s + 1 := by unfold tkE; rw [hs]
    have tK : tkK (σ 1) (σ 38 3) x = if σ 38 3 ≤ s then 5 else if 97 ≤ σ 1 s ∧ σ 1 s ≤ 122 then 1 else if 48 ≤ σ 1 s ∧ σ 1 s ≤ 57 then (if 2 < tkE (σ 1) (σ 38 3) x - s then 0 else 2) else if σ 1 s = 58 then 3 else if σ 1 s = 59 then 4 else 0 := by unfold tkK; rw [hs]
    have tN : tkN (σ 1) (σ 38 3) x = if σ 38 3 ≤ s then 0 else if 97 ≤ σ 1 s ∧ σ 1 s ≤ 122 then 0 else if 48 ≤ σ 1 s ∧ σ 1 s ≤ 57 then fig (σ 1) s (tkE (σ 1) (σ 38 3) x - s) else 0 := by unfold tkN; rw [hs]
    have sv : s < σ 38 3 → 0 ≤ σ 1 s ∧ σ 1 s ≤ 127 := fun q => r3 s s0 q
    have let86 : ∀ y, y ≤ σ 38 3 → s ≤ y → s < σ 38 3 → (97 ≤ σ 1 s ∧ σ 1 s ≤ 122) → ∀ υ : Sto, rn (σ 1) 97 122 (σ 38 3) s = rn (σ 1) 97 122 (σ 38 3) y → Frm [38] σ υ → υ 38 4 = y → υ 38 5 = 1 → υ 38 6 = s → υ 38 8 = 0 → (∀ k, (k < 4 ∨ 8 < k) → υ 38 k = σ 38 k) → Wp cX4_advance RX4 none 1 86 [some (mR 38)] [] υ (fun v σ' => v = none ∧ (fun σ' => Frm [38] σ σ' ∧ σ' 38 4 = tkE (σ 1) (σ 38 3) x ∧ σ' 38 5 = tkK (σ 1) (σ 38 3) x ∧ σ' 38 6 = tkS (σ 1) (σ 38 3) x ∧ σ' 38 7 = tkE (σ 1) (σ 38 3) x - tkS (σ 1) (σ 38 3) x ∧ σ' 38 8 = tkN (σ 1) (σ 38 3) x ∧ ∀ k, (k < 4 ∨ 8 < k) → σ' 38 k = σ 38 k) σ') := by
      refine up_ind (σ 38 3) (fun y hy ih ys hsn hlt υ hrn hG u4 u5 u6 u8 uk => ?_)
      have u3 := uk 3 (by decide)
      have u1 : υ 1 (υ 38 4) = σ 1 y := by rw [u4, hG 1 (by decide)]
      have stp : (σ 38 3 ≤ y ∨ ¬ (97 ≤ σ 1 y ∧ σ 1 y ≤ 122)) → Wp cX4_advance RX4 none 1 207 [some (mR 38)] [] υ (fun v σ' => v = none ∧ (fun σ' => Frm [38] σ σ' ∧ σ' 38 4 = tkE (σ 1) (σ 38 3) x ∧ σ' 38 5 = tkK (σ 1) (σ 38 3) x ∧ σ' 38 6 = tkS (σ 1) (σ 38 3) x ∧ σ' 38 7 = tkE (σ 1) (σ 38 3) x - tkS (σ 1) (σ 38 3) x ∧ σ' 38 8 = tkN (σ 1) (σ 38 3) x ∧ ∀ k, (k < 4 ∨ 8 < k) → σ' 38 k = σ 38 k) σ') := fun hst => by
        rw [rn_stop hst] at hrn
        exact fin υ s y hG hs (by rw [tE, if_neg (by omega), if_pos hlt]; exact hrn) u4 (by rw [tK, if_neg (by omega), if_pos hlt]; exact u5) u6 (by rw [tN, if_neg (by omega), if_pos hlt]; exact u8) (by omega) (by omega) uk
      refine wp_aload_n (pc := 86) dX4_advance_86 rfl rfl ?_
      refine wp_getI (pc := 87) 4 dX4_advance_87 fl_X4_36 rfl rfl ?_
      refine wp_aload_n (pc := 90) dX4_advance_90 rfl rfl ?_
      refine wp_getI (pc := 91) 3 dX4_advance_91 fl_X4_33 rfl rfl ?_
      refine wp_icmp_ge (pc := 94) 207 dX4_advance_94 (by decide) (fun c_94 => ?_) (fun c_94 => ?_)
      · first
          | exact stp (by omega)
          | exact stp (Or.inr (fun q => by rw [u1, if_pos q] at zz_102; omega))
      · refine wp_aload_n (pc := 97) dX4_advance_97 rfl rfl ?_
        refine wp_aload_n (pc := 98) dX4_advance_98 rfl rfl ?_
        refine wp_getI (pc := 99) 4 dX4_advance_99 fl_X4_36 rfl rfl ?_
        refine wp_cvI1 (pc := 102) dX4_advance_102 mv_X4_143 (c_isLetter (by omega)) (Nat.le_of_ble_eq_true rfl) rfl (Nat.le_of_ble_eq_true rfl) (fun z_102 σ_102 h_102 => ?_)
        obtain ⟨zz_102, e_102⟩ := h_102; have e2_102 := e_102.symm; subst e2_102
        refine wp_if_eq (pc := 105) 207 dX4_advance_105 (by decide) (fun c_105 => ?_) (fun c_105 => ?_)
        · first
            | exact stp (by omega)
            | exact stp (Or.inr (fun q => by rw [u1, if_pos q] at zz_102; omega))
        · refine wp_aload_n (pc := 108) dX4_advance_108 rfl rfl ?_
          refine wp_dup (pc := 109) dX4_advance_109 (fun _ h => by cases h) ?_
          refine wp_getI (pc := 110) 4 dX4_advance_110 fl_X4_36 rfl rfl ?_
          refine wp_iconst (pc := 113) dX4_advance_113 (by decide) ?_
          refine wp_iadd (pc := 114) dX4_advance_114 (by omega) ?_
          refine wp_putI (pc := 115) 4 dX4_advance_115 fl_X4_36 ⟨rfl, rfl⟩ rfl rfl ?_
          refine wp_goto (pc := 118) 86 dX4_advance_118 (by decide) ?_
          have hq : 97 ≤ σ 1 y ∧ σ 1 y ≤ 122 := by
            by_cases q : 97 ≤ σ 1 y ∧ σ 1 y ≤ 122
            · exact q
            · rw [u1, if_neg q] at zz_102; omega
          refine ih (by omega) (by omega) hsn hlt _ (hrn.trans (rn_go (by omega) hq.1 hq.2)) (hG.up (by decide)) ?_ ?_ ?_ ?_ (fun k hk => ?_)
          · rw [upd2_eq]; omega
          · rw [upd2_k (by decide)]; exact u5
          · rw [upd2_k (by decide)]; exact u6
          · rw [upd2_k (by decide)]; exact u8
          · rw [upd2_k (by omega)]; exact uk k hk
    have e2 : ∀ υ : Sto, Frm [38] σ υ → υ 38 4 = s → υ 1 (υ 38 4) = σ 1 s := fun υ hG hq => by rw [hq, hG 1 (by decide)]
    have f9 : Frm [38] σ (upd2 (upd2 τ 38 6 (τ 38 4)) 38 8 0) := (hF.up (by decide)).up (by decide)
    obtain ⟨υ, hυ⟩ : ∃ υ, υ = upd2 (upd2 τ 38 6 (τ 38 4)) 38 8 0 := ⟨_, rfl⟩
    rw [← hυ] at f9
    have v4 : υ 38 4 = s := by rw [hυ]; simp [upd2]; exact t4
    have v6 : υ 38 6 = s := by rw [hυ]; simp [upd2]; exact t4
    have v8 : υ 38 8 = 0 := by rw [hυ]; simp [upd2]
    have vk : ∀ k, (k < 4 ∨ 8 < k) → υ 38 k = σ 38 k := fun k hk => by rw [hυ, upd2_k (by omega), upd2_k (by omega)]; exact tk k (by omega)
    have v3 := vk 3 (by decide)
    have v1 := e2 υ f9 v4
    have w51 : Wp cX4_advance RX4 none 1 51 [some (mR 38)] [] υ (fun v σ' => v = none ∧ (fun σ' => Frm [38] σ σ' ∧ σ' 38 4 = tkE (σ 1) (σ 38 3) x ∧ σ' 38 5 = tkK (σ 1) (σ 38 3) x ∧ σ' 38 6 = tkS (σ 1) (σ 38 3) x ∧ σ' 38 7 = tkE (σ 1) (σ 38 3) x - tkS (σ 1) (σ 38 3) x ∧ σ' 38 8 = tkN (σ 1) (σ 38 3) x ∧ ∀ k, (k < 4 ∨ 8 < k) → σ' 38 k = σ 38 k) σ') := by
      refine wp_aload_n (pc := 51) dX4_advance_51 rfl rfl ?_
      refine wp_getI (pc := 52) 4 dX4_advance_52 fl_X4_36 rfl rfl ?_
      refine wp_aload_n (pc := 55) dX4_advance_55 rfl rfl ?_
      refine wp_getI (pc := 56) 3 dX4_advance_56 fl_X4_33 rfl rfl ?_
      refine wp_icmp_lt (pc := 59) 70 dX4_advance_59 (by decide) (fun c_59 => ?_) (fun c_59 => ?_)
      · refine wp_aload_n (pc := 70) dX4_advance_70 rfl rfl ?_
        refine wp_aload_n (pc := 71) dX4_advance_71 rfl rfl ?_
        refine wp_getI (pc := 72) 4 dX4_advance_72 fl_X4_36 rfl rfl ?_
        refine wp_cvI1 (pc := 75) dX4_advance_75 mv_X4_143 (c_isLetter (by omega)) (Nat.le_of_ble_eq_true rfl) rfl (Nat.le_of_ble_eq_true rfl) (fun z_75 σ_75 h_75 => ?_)
        have y_75 : (z_75 = 1 ∧ 97 ≤ σ 1 s ∧ σ 1 s ≤ 122) ∨ (z_75 = 0 ∧ ¬ (97 ≤ σ 1 s ∧ σ 1 s ≤ 122)) := by
          obtain ⟨zz_75, -⟩ := h_75
          rw [v1] at zz_75
          split at zz_75 <;> omega
        obtain ⟨zz_75, e_75⟩ := h_75; have e2_75 := e_75.symm; subst e2_75
        refine wp_if_eq (pc := 78) 121 dX4_advance_78 (by decide) (fun c_78 => ?_) (fun c_78 => ?_)
        · refine wp_aload_n (pc := 121) dX4_advance_121 rfl rfl ?_
          refine wp_getR (pc := 122) (q := 1) dX4_advance_122 fl_X4_9 rfl ?_
          refine wp_aload_n (pc := 125) dX4_advance_125 rfl rfl ?_
          refine wp_getI (pc := 126) 4 dX4_advance_126 fl_X4_36 rfl rfl ?_
          refine wp_bald (pc := 129) 400 dX4_advance_129 rfl (by omega) ?_
          refine wp_bipush (pc := 130) dX4_advance_130 (by decide) (by decide) ?_
          refine wp_icmp_lt (pc := 132) 156 dX4_advance_132 (by decide) (fun c_132 => ?_) (fun c_132 => ?_)
          · refine wp_aload_n (pc := 156) dX4_advance_156 rfl rfl ?_
            refine wp_aload_n (pc := 157) dX4_advance_157 rfl rfl ?_
            refine wp_getR (pc := 158) (q := 1) dX4_advance_158 fl_X4_9 rfl ?_
            refine wp_aload_n (pc := 161) dX4_advance_161 rfl rfl ?_
            refine wp_getI (pc := 162) 4 dX4_advance_162 fl_X4_36 rfl rfl ?_
            refine wp_bald (pc := 165) 400 dX4_advance_165 rfl (by omega) ?_
            refine wp_bipush (pc := 166) dX4_advance_166 (by decide) (by decide) ?_
            refine wp_icmp_ne (pc := 168) 175 dX4_advance_168 (by decide) (fun c_168 => ?_) (fun c_168 => ?_)
            · refine wp_aload_n (pc := 175) dX4_advance_175 rfl rfl ?_
              refine wp_getR (pc := 176) (q := 1) dX4_advance_176 fl_X4_9 rfl ?_
              refine wp_aload_n (pc := 179) dX4_advance_179 rfl rfl ?_
              refine wp_getI (pc := 180) 4 dX4_advance_180 fl_X4_36 rfl rfl ?_
              refine wp_bald (pc := 183) 400 dX4_advance_183 rfl (by omega) ?_
              refine wp_bipush (pc := 184) dX4_advance_184 (by decide) (by decide) ?_
              refine wp_icmp_ne (pc := 186) 193 dX4_advance_186 (by decide) (fun c_186 => ?_) (fun c_186 => ?_)
              · refine wp_iconst (pc := 193) dX4_advance_193 (by decide) ?_
                refine wp_putI (pc := 194) 5 dX4_advance_194 fl_X4_55 ⟨rfl, rfl⟩ rfl rfl ?_
                refine wp_aload_n (pc := 197) dX4_advance_197 rfl rfl ?_
                refine wp_dup (pc := 198) dX4_advance_198 (fun _ h => by cases h) ?_
                refine wp_getI (pc := 199) 4 dX4_advance_199 fl_X4_36 rfl rfl ?_
                rw [upd2_k (r := 38) (k := 5) (k' := 4) (by decide)]
                refine wp_iconst (pc := 202) dX4_advance_202 (by decide) ?_
                refine wp_iadd (pc := 203) dX4_advance_203 (by omega) ?_
                refine wp_putI (pc := 204) 4 dX4_advance_204 fl_X4_36 ⟨rfl, rfl⟩ rfl rfl ?_
                first
                  | exact fin _ s _ (f9.tr g1) hs rfl (by rw [hE]; exact g2) (by rw [tK, if_neg (by omega), if_neg (by omega), if_pos hd, hE]; exact g4) (by rw [g5 6 (by decide) (by decide) (by decide)]; exact v6) (by rw [tN, if_neg (by omega), if_neg (by omega), if_pos hd, hE]; exact g3) (by omega) (by omega) (fun k hk => by rw [g5 k (by omega) (by omega) (by omega)]; exact vk k hk)
                  | exact fin _ s s (f9.up (by decide)) hs (by rw [tE, if_pos (by omega)]) (by rw [upd2_k (by decide)]; exact v4) (by rw [upd2_eq, tK, if_pos (by omega)]) (by rw [upd2_k (by decide)]; exact v6) (by rw [upd2_k (by decide), tN, if_pos (by omega)]; exact v8) (by omega) (by omega) (fun k hk => by rw [upd2_k (by omega)]; exact vk k hk)
                  | (have hnl : ¬ (97 ≤ σ 1 s ∧ σ 1 s ≤ 122) := by omega
                     have hnd : ¬ (48 ≤ σ 1 s ∧ σ 1 s ≤ 57) := by omega
                     refine fin _ s (s + 1) ((f9.up (by decide)).up (by decide)) hs (by rw [tE, if_neg (by omega), if_neg hnl, if_neg hnd]) (by rw [upd2_eq]; first | omega | (rw [upd2_k (by decide)]; omega)) ?_ (by rw [upd2_k (by decide), upd2_k (by decide)]; exact v6) (by rw [upd2_k (by decide), upd2_k (by decide), tN, if_neg (by omega), if_neg hnl, if_neg hnd]; exact v8) (by omega) (by omega) (fun k hk => by rw [upd2_k (by omega), upd2_k (by omega)]; exact vk k hk)
                     rw [upd2_k (by decide), upd2_eq, tK, if_neg (by omega), if_neg hnl, if_neg hnd]
                     first | (exfalso; omega) | rw [if_pos (by omega)] | rw [if_neg (by omega), if_pos (by omega)] | rw [if_neg (by omega), if_neg (by omega)])
              · refine wp_iconst (pc := 189) dX4_advance_189 (by decide) ?_
                refine wp_goto (pc := 190) 194 dX4_advance_190 (by decide) ?_
                refine wp_putI (pc := 194) 5 dX4_advance_194 fl_X4_55 ⟨rfl, rfl⟩ rfl rfl ?_
                refine wp_aload_n (pc := 197) dX4_advance_197 rfl rfl ?_
                refine wp_dup (pc := 198) dX4_advance_198 (fun _ h => by cases h) ?_
                refine wp_getI (pc := 199) 4 dX4_advance_199 fl_X4_36 rfl rfl ?_
                rw [upd2_k (r := 38) (k := 5) (k' := 4) (by decide)]
                refine wp_iconst (pc := 202) dX4_advance_202 (by decide) ?_
                refine wp_iadd (pc := 203) dX4_advance_203 (by omega) ?_
                refine wp_putI (pc := 204) 4 dX4_advance_204 fl_X4_36 ⟨rfl, rfl⟩ rfl rfl ?_
                first
                  | exact fin _ s _ (f9.tr g1) hs rfl (by rw [hE]; exact g2) (by rw [tK, if_neg (by omega), if_neg (by omega), if_pos hd, hE]; exact g4) (by rw [g5 6 (by decide) (by decide) (by decide)]; exact v6) (by rw [tN, if_neg (by omega), if_neg (by omega), if_pos hd, hE]; exact g3) (by omega) (by omega) (fun k hk => by rw [g5 k (by omega) (by omega) (by omega)]; exact vk k hk)
                  | exact fin _ s s (f9.up (by decide)) hs (by rw [tE, if_pos (by omega)]) (by rw [upd2_k (by decide)]; exact v4) (by rw [upd2_eq, tK, if_pos (by omega)]) (by rw [upd2_k (by decide)]; exact v6) (by rw [upd2_k (by decide), tN, if_pos (by omega)]; exact v8) (by omega) (by omega) (fun k hk => by rw [upd2_k (by omega)]; exact vk k hk)
                  | (have hnl : ¬ (97 ≤ σ 1 s ∧ σ 1 s ≤ 122) := by omega
                     have hnd : ¬ (48 ≤ σ 1 s ∧ σ 1 s ≤ 57) := by omega
                     refine fin _ s (s + 1) ((f9.up (by decide)).up (by decide)) hs (by rw [tE, if_neg (by omega), if_neg hnl, if_neg hnd]) (by rw [upd2_eq]; first | omega | (rw [upd2_k (by decide)]; omega)) ?_ (by rw [upd2_k (by decide), upd2_k (by decide)]; exact v6) (by rw [upd2_k (by decide), upd2_k (by decide), tN, if_neg (by omega), if_neg hnl, if_neg hnd]; exact v8) (by omega) (by omega) (fun k hk => by rw [upd2_k (by omega), upd2_k (by omega)]; exact vk k hk)
                     rw [upd2_k (by decide), upd2_eq, tK, if_neg (by omega), if_neg hnl, if_neg hnd]
                     first | (exfalso; omega) | rw [if_pos (by omega)] | rw [if_neg (by omega), if_pos (by omega)] | rw [if_neg (by omega), if_neg (by omega)])
            · refine wp_iconst (pc := 171) dX4_advance_171 (by decide) ?_
              refine wp_goto (pc := 172) 194 dX4_advance_172 (by decide) ?_
              refine wp_putI (pc := 194) 5 dX4_advance_194 fl_X4_55 ⟨rfl, rfl⟩ rfl rfl ?_
              refine wp_aload_n (pc := 197) dX4_advance_197 rfl rfl ?_
              refine wp_dup (pc := 198) dX4_advance_198 (fun _ h => by cases h) ?_
              refine wp_getI (pc := 199) 4 dX4_advance_199 fl_X4_36 rfl rfl ?_
              rw [upd2_k (r := 38) (k := 5) (k' := 4) (by decide)]
              refine wp_iconst (pc := 202) dX4_advance_202 (by decide) ?_
              refine wp_iadd (pc := 203) dX4_advance_203 (by omega) ?_
              refine wp_putI (pc := 204) 4 dX4_advance_204 fl_X4_36 ⟨rfl, rfl⟩ rfl rfl ?_
              first
                | exact fin _ s _ (f9.tr g1) hs rfl (by rw [hE]; exact g2) (by rw [tK, if_neg (by omega), if_neg (by omega), if_pos hd, hE]; exact g4) (by rw [g5 6 (by decide) (by decide) (by decide)]; exact v6) (by rw [tN, if_neg (by omega), if_neg (by omega), if_pos hd, hE]; exact g3) (by omega) (by omega) (fun k hk => by rw [g5 k (by omega) (by omega) (by omega)]; exact vk k hk)
                | exact fin _ s s (f9.up (by decide)) hs (by rw [tE, if_pos (by omega)]) (by rw [upd2_k (by decide)]; exact v4) (by rw [upd2_eq, tK, if_pos (by omega)]) (by rw [upd2_k (by decide)]; exact v6) (by rw [upd2_k (by decide), tN, if_pos (by omega)]; exact v8) (by omega) (by omega) (fun k hk => by rw [upd2_k (by omega)]; exact vk k hk)
                | (have hnl : ¬ (97 ≤ σ 1 s ∧ σ 1 s ≤ 122) := by omega
                   have hnd : ¬ (48 ≤ σ 1 s ∧ σ 1 s ≤ 57) := by omega
                   refine fin _ s (s + 1) ((f9.up (by decide)).up (by decide)) hs (by rw [tE, if_neg (by omega), if_neg hnl, if_neg hnd]) (by rw [upd2_eq]; first | omega | (rw [upd2_k (by decide)]; omega)) ?_ (by rw [upd2_k (by decide), upd2_k (by decide)]; exact v6) (by rw [upd2_k (by decide), upd2_k (by decide), tN, if_neg (by omega), if_neg hnl, if_neg hnd]; exact v8) (by omega) (by omega) (fun k hk => by rw [upd2_k (by omega), upd2_k (by omega)]; exact vk k hk)
                   rw [upd2_k (by decide), upd2_eq, tK, if_neg (by omega), if_neg hnl, if_neg hnd]
                   first | (exfalso; omega) | rw [if_pos (by omega)] | rw [if_neg (by omega), if_pos (by omega)] | rw [if_neg (by omega), if_neg (by omega)])
          · refine wp_aload_n (pc := 135) dX4_advance_135 rfl rfl ?_
            refine wp_getR (pc := 136) (q := 1) dX4_advance_136 fl_X4_9 rfl ?_
            refine wp_aload_n (pc := 139) dX4_advance_139 rfl rfl ?_
            refine wp_getI (pc := 140) 4 dX4_advance_140 fl_X4_36 rfl rfl ?_
            refine wp_bald (pc := 143) 400 dX4_advance_143 rfl (by omega) ?_
            refine wp_bipush (pc := 144) dX4_advance_144 (by decide) (by decide) ?_
            refine wp_icmp_gt (pc := 146) 156 dX4_advance_146 (by decide) (fun c_146 => ?_) (fun c_146 => ?_)
            · refine wp_aload_n (pc := 156) dX4_advance_156 rfl rfl ?_
              refine wp_aload_n (pc := 157) dX4_advance_157 rfl rfl ?_
              refine wp_getR (pc := 158) (q := 1) dX4_advance_158 fl_X4_9 rfl ?_
              refine wp_aload_n (pc := 161) dX4_advance_161 rfl rfl ?_
              refine wp_getI (pc := 162) 4 dX4_advance_162 fl_X4_36 rfl rfl ?_
              refine wp_bald (pc := 165) 400 dX4_advance_165 rfl (by omega) ?_
              refine wp_bipush (pc := 166) dX4_advance_166 (by decide) (by decide) ?_
              refine wp_icmp_ne (pc := 168) 175 dX4_advance_168 (by decide) (fun c_168 => ?_) (fun c_168 => ?_)
              · refine wp_aload_n (pc := 175) dX4_advance_175 rfl rfl ?_
                refine wp_getR (pc := 176) (q := 1) dX4_advance_176 fl_X4_9 rfl ?_
                refine wp_aload_n (pc := 179) dX4_advance_179 rfl rfl ?_
                refine wp_getI (pc := 180) 4 dX4_advance_180 fl_X4_36 rfl rfl ?_
                refine wp_bald (pc := 183) 400 dX4_advance_183 rfl (by omega) ?_
                refine wp_bipush (pc := 184) dX4_advance_184 (by decide) (by decide) ?_
                refine wp_icmp_ne (pc := 186) 193 dX4_advance_186 (by decide) (fun c_186 => ?_) (fun c_186 => ?_)
                · refine wp_iconst (pc := 193) dX4_advance_193 (by decide) ?_
                  refine wp_putI (pc := 194) 5 dX4_advance_194 fl_X4_55 ⟨rfl, rfl⟩ rfl rfl ?_
                  refine wp_aload_n (pc := 197) dX4_advance_197 rfl rfl ?_
                  refine wp_dup (pc := 198) dX4_advance_198 (fun _ h => by cases h) ?_
                  refine wp_getI (pc := 199) 4 dX4_advance_199 fl_X4_36 rfl rfl ?_
                  rw [upd2_k (r := 38) (k := 5) (k' := 4) (by decide)]
                  refine wp_iconst (pc := 202) dX4_advance_202 (by decide) ?_
                  refine wp_iadd (pc := 203) dX4_advance_203 (by omega) ?_
                  refine wp_putI (pc := 204) 4 dX4_advance_204 fl_X4_36 ⟨rfl, rfl⟩ rfl rfl ?_
                  first
                    | exact fin _ s _ (f9.tr g1) hs rfl (by rw [hE]; exact g2) (by rw [tK, if_neg (by omega), if_neg (by omega), if_pos hd, hE]; exact g4) (by rw [g5 6 (by decide) (by decide) (by decide)]; exact v6) (by rw [tN, if_neg (by omega), if_neg (by omega), if_pos hd, hE]; exact g3) (by omega) (by omega) (fun k hk => by rw [g5 k (by omega) (by omega) (by omega)]; exact vk k hk)
                    | exact fin _ s s (f9.up (by decide)) hs (by rw [tE, if_pos (by omega)]) (by rw [upd2_k (by decide)]; exact v4) (by rw [upd2_eq, tK, if_pos (by omega)]) (by rw [upd2_k (by decide)]; exact v6) (by rw [upd2_k (by decide), tN, if_pos (by omega)]; exact v8) (by omega) (by omega) (fun k hk => by rw [upd2_k (by omega)]; exact vk k hk)
                    | (have hnl : ¬ (97 ≤ σ 1 s ∧ σ 1 s ≤ 122) := by omega
                       have hnd : ¬ (48 ≤ σ 1 s ∧ σ 1 s ≤ 57) := by omega
                       refine fin _ s (s + 1) ((f9.up (by decide)).up (by decide)) hs (by rw [tE, if_neg (by omega), if_neg hnl, if_neg hnd]) (by rw [upd2_eq]; first | omega | (rw [upd2_k (by decide)]; omega)) ?_ (by rw [upd2_k (by decide), upd2_k (by decide)]; exact v6) (by rw [upd2_k (by decide), upd2_k (by decide), tN, if_neg (by omega), if_neg hnl, if_neg hnd]; exact v8) (by omega) (by omega) (fun k hk => by rw [upd2_k (by omega), upd2_k (by omega)]; exact vk k hk)
                       rw [upd2_k (by decide), upd2_eq, tK, if_neg (by omega), if_neg hnl, if_neg hnd]
                       first | (exfalso; omega) | rw [if_pos (by omega)] | rw [if_neg (by omega), if_pos (by omega)] | rw [if_neg (by omega), if_neg (by omega)])
                · refine wp_iconst (pc := 189) dX4_advance_189 (by decide) ?_
                  refine wp_goto (pc := 190) 194 dX4_advance_190 (by decide) ?_
                  refine wp_putI (pc := 194) 5 dX4_advance_194 fl_X4_55 ⟨rfl, rfl⟩ rfl rfl ?_
                  refine wp_aload_n (pc := 197) dX4_advance_197 rfl rfl ?_
                  refine wp_dup (pc := 198) dX4_advance_198 (fun _ h => by cases h) ?_
                  refine wp_getI (pc := 199) 4 dX4_advance_199 fl_X4_36 rfl rfl ?_
                  rw [upd2_k (r := 38) (k := 5) (k' := 4) (by decide)]
                  refine wp_iconst (pc := 202) dX4_advance_202 (by decide) ?_
                  refine wp_iadd (pc := 203) dX4_advance_203 (by omega) ?_
                  refine wp_putI (pc := 204) 4 dX4_advance_204 fl_X4_36 ⟨rfl, rfl⟩ rfl rfl ?_
                  first
                    | exact fin _ s _ (f9.tr g1) hs rfl (by rw [hE]; exact g2) (by rw [tK, if_neg (by omega), if_neg (by omega), if_pos hd, hE]; exact g4) (by rw [g5 6 (by decide) (by decide) (by decide)]; exact v6) (by rw [tN, if_neg (by omega), if_neg (by omega), if_pos hd, hE]; exact g3) (by omega) (by omega) (fun k hk => by rw [g5 k (by omega) (by omega) (by omega)]; exact vk k hk)
                    | exact fin _ s s (f9.up (by decide)) hs (by rw [tE, if_pos (by omega)]) (by rw [upd2_k (by decide)]; exact v4) (by rw [upd2_eq, tK, if_pos (by omega)]) (by rw [upd2_k (by decide)]; exact v6) (by rw [upd2_k (by decide), tN, if_pos (by omega)]; exact v8) (by omega) (by omega) (fun k hk => by rw [upd2_k (by omega)]; exact vk k hk)
                    | (have hnl : ¬ (97 ≤ σ 1 s ∧ σ 1 s ≤ 122) := by omega
                       have hnd : ¬ (48 ≤ σ 1 s ∧ σ 1 s ≤ 57) := by omega
                       refine fin _ s (s + 1) ((f9.up (by decide)).up (by decide)) hs (by rw [tE, if_neg (by omega), if_neg hnl, if_neg hnd]) (by rw [upd2_eq]; first | omega | (rw [upd2_k (by decide)]; omega)) ?_ (by rw [upd2_k (by decide), upd2_k (by decide)]; exact v6) (by rw [upd2_k (by decide), upd2_k (by decide), tN, if_neg (by omega), if_neg hnl, if_neg hnd]; exact v8) (by omega) (by omega) (fun k hk => by rw [upd2_k (by omega), upd2_k (by omega)]; exact vk k hk)
                       rw [upd2_k (by decide), upd2_eq, tK, if_neg (by omega), if_neg hnl, if_neg hnd]
                       first | (exfalso; omega) | rw [if_pos (by omega)] | rw [if_neg (by omega), if_pos (by omega)] | rw [if_neg (by omega), if_neg (by omega)])
              · refine wp_iconst (pc := 171) dX4_advance_171 (by decide) ?_
                refine wp_goto (pc := 172) 194 dX4_advance_172 (by decide) ?_
                refine wp_putI (pc := 194) 5 dX4_advance_194 fl_X4_55 ⟨rfl, rfl⟩ rfl rfl ?_
                refine wp_aload_n (pc := 197) dX4_advance_197 rfl rfl ?_
                refine wp_dup (pc := 198) dX4_advance_198 (fun _ h => by cases h) ?_
                refine wp_getI (pc := 199) 4 dX4_advance_199 fl_X4_36 rfl rfl ?_
                rw [upd2_k (r := 38) (k := 5) (k' := 4) (by decide)]
                refine wp_iconst (pc := 202) dX4_advance_202 (by decide) ?_
                refine wp_iadd (pc := 203) dX4_advance_203 (by omega) ?_
                refine wp_putI (pc := 204) 4 dX4_advance_204 fl_X4_36 ⟨rfl, rfl⟩ rfl rfl ?_
                first
                  | exact fin _ s _ (f9.tr g1) hs rfl (by rw [hE]; exact g2) (by rw [tK, if_neg (by omega), if_neg (by omega), if_pos hd, hE]; exact g4) (by rw [g5 6 (by decide) (by decide) (by decide)]; exact v6) (by rw [tN, if_neg (by omega), if_neg (by omega), if_pos hd, hE]; exact g3) (by omega) (by omega) (fun k hk => by rw [g5 k (by omega) (by omega) (by omega)]; exact vk k hk)
                  | exact fin _ s s (f9.up (by decide)) hs (by rw [tE, if_pos (by omega)]) (by rw [upd2_k (by decide)]; exact v4) (by rw [upd2_eq, tK, if_pos (by omega)]) (by rw [upd2_k (by decide)]; exact v6) (by rw [upd2_k (by decide), tN, if_pos (by omega)]; exact v8) (by omega) (by omega) (fun k hk => by rw [upd2_k (by omega)]; exact vk k hk)
                  | (have hnl : ¬ (97 ≤ σ 1 s ∧ σ 1 s ≤ 122) := by omega
                     have hnd : ¬ (48 ≤ σ 1 s ∧ σ 1 s ≤ 57) := by omega
                     refine fin _ s (s + 1) ((f9.up (by decide)).up (by decide)) hs (by rw [tE, if_neg (by omega), if_neg hnl, if_neg hnd]) (by rw [upd2_eq]; first | omega | (rw [upd2_k (by decide)]; omega)) ?_ (by rw [upd2_k (by decide), upd2_k (by decide)]; exact v6) (by rw [upd2_k (by decide), upd2_k (by decide), tN, if_neg (by omega), if_neg hnl, if_neg hnd]; exact v8) (by omega) (by omega) (fun k hk => by rw [upd2_k (by omega), upd2_k (by omega)]; exact vk k hk)
                     rw [upd2_k (by decide), upd2_eq, tK, if_neg (by omega), if_neg hnl, if_neg hnd]
                     first | (exfalso; omega) | rw [if_pos (by omega)] | rw [if_neg (by omega), if_pos (by omega)] | rw [if_neg (by omega), if_neg (by omega)])
            · refine wp_aload_n (pc := 149) dX4_advance_149 rfl rfl ?_
              refine wp_cvV0 (pc := 150) dX4_advance_150 mv_X4_146 (c_takeFigures (s := s) ⟨by omega, by omega, fun k k0 k1 => by rw [f9 1 (by decide)]; exact r3 k k0 (by omega)⟩ v4 v6 v8) (Nat.le_of_ble_eq_true rfl) rfl (Nat.le_of_ble_eq_true rfl) (fun σ_150 h_150 => ?_)
              obtain ⟨g1, g2, g3, g4, g5⟩ := h_150
              rw [f9 1 (by decide), v3] at g2 g3 g4
              have hd : 48 ≤ σ 1 s ∧ σ 1 s ≤ 57 := by omega
              have hE : tkE (σ 1) (σ 38 3) x = rn (σ 1) 48 57 (σ 38 3) s := by rw [tE, if_neg (by omega), if_neg (by omega), if_pos hd]
              have hbd := rn_bd (t := σ 1) (lo := 48) (hi := 57) (n := σ 38 3) s (by omega)
              refine wp_goto (pc := 153) 207 dX4_advance_153 (by decide) ?_
              first
                | exact fin _ s _ (f9.tr g1) hs rfl (by rw [hE]; exact g2) (by rw [tK, if_neg (by omega), if_neg (by omega), if_pos hd, hE]; exact g4) (by rw [g5 6 (by decide) (by decide) (by decide)]; exact v6) (by rw [tN, if_neg (by omega), if_neg (by omega), if_pos hd, hE]; exact g3) (by omega) (by omega) (fun k hk => by rw [g5 k (by omega) (by omega) (by omega)]; exact vk k hk)
                | exact fin _ s s (f9.up (by decide)) hs (by rw [tE, if_pos (by omega)]) (by rw [upd2_k (by decide)]; exact v4) (by rw [upd2_eq, tK, if_pos (by omega)]) (by rw [upd2_k (by decide)]; exact v6) (by rw [upd2_k (by decide), tN, if_pos (by omega)]; exact v8) (by omega) (by omega) (fun k hk => by rw [upd2_k (by omega)]; exact vk k hk)
                | (have hnl : ¬ (97 ≤ σ 1 s ∧ σ 1 s ≤ 122) := by omega
                   have hnd : ¬ (48 ≤ σ 1 s ∧ σ 1 s ≤ 57) := by omega
                   refine fin _ s (s + 1) ((f9.up (by decide)).up (by decide)) hs (by rw [tE, if_neg (by omega), if_neg hnl, if_neg hnd]) (by rw [upd2_eq]; first | omega | (rw [upd2_k (by decide)]; omega)) ?_ (by rw [upd2_k (by decide), upd2_k (by decide)]; exact v6) (by rw [upd2_k (by decide), upd2_k (by decide), tN, if_neg (by omega), if_neg hnl, if_neg hnd]; exact v8) (by omega) (by omega) (fun k hk => by rw [upd2_k (by omega), upd2_k (by omega)]; exact vk k hk)
                   rw [upd2_k (by decide), upd2_eq, tK, if_neg (by omega), if_neg hnl, if_neg hnd]
                   first | (exfalso; omega) | rw [if_pos (by omega)] | rw [if_neg (by omega), if_pos (by omega)] | rw [if_neg (by omega), if_neg (by omega)])
        · refine wp_aload_n (pc := 81) dX4_advance_81 rfl rfl ?_
          refine wp_iconst (pc := 82) dX4_advance_82 (by decide) ?_
          refine wp_putI (pc := 83) 5 dX4_advance_83 fl_X4_55 ⟨rfl, rfl⟩ rfl rfl ?_
          exact let86 s (by omega) (by omega) (by omega) (by omega) _ rfl (f9.up (by decide)) (by rw [upd2_k (by decide)]; exact v4) upd2_eq (by rw [upd2_k (by decide)]; exact v6) (by rw [upd2_k (by decide)]; exact v8) (fun k hk => by rw [upd2_k (by omega)]; exact vk k hk)
      · refine wp_aload_n (pc := 62) dX4_advance_62 rfl rfl ?_
        refine wp_iconst (pc := 63) dX4_advance_63 (by decide) ?_
        refine wp_putI (pc := 64) 5 dX4_advance_64 fl_X4_55 ⟨rfl, rfl⟩ rfl rfl ?_
        refine wp_goto (pc := 67) 207 dX4_advance_67 (by decide) ?_
        first
          | exact fin _ s _ (f9.tr g1) hs rfl (by rw [hE]; exact g2) (by rw [tK, if_neg (by omega), if_neg (by omega), if_pos hd, hE]; exact g4) (by rw [g5 6 (by decide) (by decide) (by decide)]; exact v6) (by rw [tN, if_neg (by omega), if_neg (by omega), if_pos hd, hE]; exact g3) (by omega) (by omega) (fun k hk => by rw [g5 k (by omega) (by omega) (by omega)]; exact vk k hk)
          | exact fin _ s s (f9.up (by decide)) hs (by rw [tE, if_pos (by omega)]) (by rw [upd2_k (by decide)]; exact v4) (by rw [upd2_eq, tK, if_pos (by omega)]) (by rw [upd2_k (by decide)]; exact v6) (by rw [upd2_k (by decide), tN, if_pos (by omega)]; exact v8) (by omega) (by omega) (fun k hk => by rw [upd2_k (by omega)]; exact vk k hk)
          | (have hnl : ¬ (97 ≤ σ 1 s ∧ σ 1 s ≤ 122) := by omega
             have hnd : ¬ (48 ≤ σ 1 s ∧ σ 1 s ≤ 57) := by omega
             refine fin _ s (s + 1) ((f9.up (by decide)).up (by decide)) hs (by rw [tE, if_neg (by omega), if_neg hnl, if_neg hnd]) (by rw [upd2_eq]; first | omega | (rw [upd2_k (by decide)]; omega)) ?_ (by rw [upd2_k (by decide), upd2_k (by decide)]; exact v6) (by rw [upd2_k (by decide), upd2_k (by decide), tN, if_neg (by omega), if_neg hnl, if_neg hnd]; exact v8) (by omega) (by omega) (fun k hk => by rw [upd2_k (by omega), upd2_k (by omega)]; exact vk k hk)
             rw [upd2_k (by decide), upd2_eq, tK, if_neg (by omega), if_neg hnl, if_neg hnd]
             first | (exfalso; omega) | rw [if_pos (by omega)] | rw [if_neg (by omega), if_pos (by omega)] | rw [if_neg (by omega), if_neg (by omega)])
    refine wp_aload_n (pc := 38) dX4_advance_38 rfl rfl ?_
    refine wp_aload_n (pc := 39) dX4_advance_39 rfl rfl ?_
    refine wp_getI (pc := 40) 4 dX4_advance_40 fl_X4_36 rfl rfl ?_
    refine wp_putI (pc := 43) 6 dX4_advance_43 fl_X4_62 ⟨rfl, rfl⟩ rfl rfl ?_
    refine wp_aload_n (pc := 46) dX4_advance_46 rfl rfl ?_
    refine wp_iconst (pc := 47) dX4_advance_47 (by decide) ?_
    refine wp_putI (pc := 48) 8 dX4_advance_48 fl_X4_107 ⟨rfl, rfl⟩ rfl rfl ?_
    rw [← hυ]
    exact w51
  have lp : ∀ y, y ≤ σ 38 3 → x ≤ y → ∀ τ : Sto, rn (σ 1) 32 32 (σ 38 3) x = rn (σ 1) 32 32 (σ 38 3) y → Frm [38] σ τ → τ 38 4 = y → (∀ k, k ≠ 4 → τ 38 k = σ 38 k) → Wp cX4_advance RX4 none 1 0 [some (mR 38)] [] τ (fun v σ' => v = none ∧ (fun σ' => Frm [38] σ σ' ∧ σ' 38 4 = tkE (σ 1) (σ 38 3) x ∧ σ' 38 5 = tkK (σ 1) (σ 38 3) x ∧ σ' 38 6 = tkS (σ 1) (σ 38 3) x ∧ σ' 38 7 = tkE (σ 1) (σ 38 3) x - tkS (σ 1) (σ 38 3) x ∧ σ' 38 8 = tkN (σ 1) (σ 38 3) x ∧ ∀ k, (k < 4 ∨ 8 < k) → σ' 38 k = σ 38 k) σ') := by
    refine up_ind (σ 38 3) (fun y hy ih ys τ hrn hF t4 tk => ?_)
    have t3 := tk 3 (by decide)
    have e1 : τ 1 (τ 38 4) = σ 1 y := by rw [t4, hF 1 (by decide)]
    have stp : (σ 38 3 ≤ y ∨ ¬ (32 ≤ σ 1 y ∧ σ 1 y ≤ 32)) → Wp cX4_advance RX4 none 1 38 [some (mR 38)] [] τ (fun v σ' => v = none ∧ (fun σ' => Frm [38] σ σ' ∧ σ' 38 4 = tkE (σ 1) (σ 38 3) x ∧ σ' 38 5 = tkK (σ 1) (σ 38 3) x ∧ σ' 38 6 = tkS (σ 1) (σ 38 3) x ∧ σ' 38 7 = tkE (σ 1) (σ 38 3) x - tkS (σ 1) (σ 38 3) x ∧ σ' 38 8 = tkN (σ 1) (σ 38 3) x ∧ ∀ k, (k < 4 ∨ 8 < k) → σ' 38 k = σ 38 k) σ') := fun hst => by
      rw [rn_stop hst] at hrn
      exact mid τ y hF hrn (by omega) hy t4 tk
    refine wp_aload_n (pc := 0) dX4_advance_0 rfl rfl ?_
    refine wp_getI (pc := 1) 4 dX4_advance_1 fl_X4_36 rfl rfl ?_
    refine wp_aload_n (pc := 4) dX4_advance_4 rfl rfl ?_
    refine wp_getI (pc := 5) 3 dX4_advance_5 fl_X4_33 rfl rfl ?_
    refine wp_icmp_ge (pc := 8) 38 dX4_advance_8 (by decide) (fun c_8 => ?_) (fun c_8 => ?_)
    · exact stp (by omega)
    · refine wp_aload_n (pc := 11) dX4_advance_11 rfl rfl ?_
      refine wp_getR (pc := 12) (q := 1) dX4_advance_12 fl_X4_9 rfl ?_
      refine wp_aload_n (pc := 15) dX4_advance_15 rfl rfl ?_
      refine wp_getI (pc := 16) 4 dX4_advance_16 fl_X4_36 rfl rfl ?_
      refine wp_bald (pc := 19) 400 dX4_advance_19 rfl (by omega) ?_
      refine wp_bipush (pc := 20) dX4_advance_20 (by decide) (by decide) ?_
      refine wp_icmp_ne (pc := 22) 38 dX4_advance_22 (by decide) (fun c_22 => ?_) (fun c_22 => ?_)
      · exact stp (by omega)
      · refine wp_aload_n (pc := 25) dX4_advance_25 rfl rfl ?_
        refine wp_dup (pc := 26) dX4_advance_26 (fun _ h => by cases h) ?_
        refine wp_getI (pc := 27) 4 dX4_advance_27 fl_X4_36 rfl rfl ?_
        refine wp_iconst (pc := 30) dX4_advance_30 (by decide) ?_
        refine wp_iadd (pc := 31) dX4_advance_31 (by omega) ?_
        refine wp_putI (pc := 32) 4 dX4_advance_32 fl_X4_36 ⟨rfl, rfl⟩ rfl rfl ?_
        refine wp_goto (pc := 35) 0 dX4_advance_35 (by decide) ?_
        refine ih (by omega) (by omega) _ (hrn.trans (rn_go (by omega) (by omega) (by omega))) (hF.up (by decide)) ?_ (fun k hk => ?_)
        · rw [upd2_eq]; omega
        · rw [upd2_k hk]; exact tk k hk
  exact lp x (by omega) (by omega) σ rfl Frm.rf h4 (fun _ _ => rfl)
