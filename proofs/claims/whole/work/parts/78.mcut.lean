set_option maxHeartbeats 4000000 in
set_option maxRecDepth 100000 in
theorem m_parWords0 {σ : Sto} {p : Int} (hp : 0 ≤ p ∧ p < 8) : CtI yX7_parWords cX7_parWords 2 (some .int) 0 [mR 71, mI p] σ (fun z σ' => z = σ 72 (1 + 3 * p + 2) ∧ σ' = σ) := by
  refine ct_of rfl [some (mR 71), some (mI p)] (Nat.le_of_ble_eq_true rfl) rfl (fun hσ => ?_)
  show Wp cX7_parWords RX7 (some .int) 0 0 [some (mR 71), some (mI p)] [] _ _
  refine wp_aload_n (pc := 0) dX7_parWords_0 rfl rfl ?_
  refine wp_getR (pc := 1) (q := 72) dX7_parWords_1 fl_X7_7 rfl ?_
  refine wp_iconst (pc := 4) dX7_parWords_4 (by decide) ?_
  refine wp_iconst (pc := 5) dX7_parWords_5 (by decide) ?_
  refine wp_iload_n (pc := 6) dX7_parWords_6 rfl rfl ?_
  refine wp_imul (pc := 7) dX7_parWords_7 (by omega) ?_
  refine wp_iadd (pc := 8) dX7_parWords_8 (by omega) ?_
  refine wp_iconst (pc := 9) dX7_parWords_9 (by decide) ?_
  refine wp_iadd (pc := 10) dX7_parWords_10 (by omega) ?_
  refine wp_iald (pc := 11) 591 dX7_parWords_11 rfl (by omega) ?_
  refine wp_ireturn (pc := 12) dX7_parWords_12 rfl ?_
  exact ⟨_, rfl, rfl, rfl⟩
set_option maxHeartbeats 4000000 in
set_option maxRecDepth 100000 in
theorem m_cut {σ D S : Sto} {p i : Int} (h : RM σ D S) : CtI yX7_cut cX7_cut 4 (some .int) 2 [mR 71, mI p, mI i] σ (fun z σ' => (¬ ((0 ≤ p ∧ p < D 0 0) ∧ 0 < i ∧ i < D 1 p) ∧ z = -1 ∧ σ' = σ) ∨ (((0 ≤ p ∧ p < D 0 0) ∧ 0 < i ∧ i < D 1 p) ∧ D 0 0 = 8 ∧ z = -3 ∧ σ' = σ) ∨ (((0 ≤ p ∧ p < D 0 0) ∧ 0 < i ∧ i < D 1 p) ∧ D 0 0 < 8 ∧ z = D 0 0 + 1 ∧ (∀ D', cutP D D' p i → RM σ' D' S) ∧ Frm [72] σ σ')) := by
  refine ct_of rfl [some (mR 71), some (mI p), some (mI i), none] (Nat.le_of_ble_eq_true rfl) rfl (fun hσ => ?_)
  show Wp cX7_cut RX7 (some .int) 2 0 [some (mR 71), some (mI p), some (mI i), none] [] _ _
  have nn := h.n
  have hpp := fun a b => h.p (p := p) a b
  have lp : (0 ≤ p ∧ p < D 0 0) → (0 < i ∧ i < D 1 p) → D 0 0 < 8 → ∀ c, 3 * p + 3 ≤ c → c ≤ 3 * D 0 0 → ∀ τ : Sto, Frm [72] σ τ → (∀ x, τ 72 x = if c + 3 < x ∧ x ≤ 3 * D 0 0 + 3 then σ 72 (x - 3) else σ 72 x) → Wp cX7_cut RX7 (some .int) 2 54 [some (mR 71), some (mI p), some (mI i), some (mI c)] [] τ (fun v σ' => ∃ z, v = some (mI z) ∧ (fun z σ' => (¬ ((0 ≤ p ∧ p < D 0 0) ∧ 0 < i ∧ i < D 1 p) ∧ z = -1 ∧ σ' = σ) ∨ (((0 ≤ p ∧ p < D 0 0) ∧ 0 < i ∧ i < D 1 p) ∧ D 0 0 = 8 ∧ z = -3 ∧ σ' = σ) ∨ (((0 ≤ p ∧ p < D 0 0) ∧ 0 < i ∧ i < D 1 p) ∧ D 0 0 < 8 ∧ z = D 0 0 + 1 ∧ (∀ D', cutP D D' p i → RM σ' D' S) ∧ Frm [72] σ σ')) z σ') := by
    intro hp hi h8
    have q := hpp hp.1 hp.2
    refine down_ind _ (fun c hc ih hc2 τ hF hA => ?_)
    have hA0 := hA (1 + 3 * p + 2)
    rw [if_neg (by omega)] at hA0
    refine wp_iload_n (pc := 54) dX7_cut_54 rfl rfl ?_
    refine wp_iconst (pc := 55) dX7_cut_55 (by decide) ?_
    refine wp_iconst (pc := 56) dX7_cut_56 (by decide) ?_
    refine wp_iload_n (pc := 57) dX7_cut_57 rfl rfl ?_
    refine wp_imul (pc := 58) dX7_cut_58 (by omega) ?_
    refine wp_iadd (pc := 59) dX7_cut_59 (by omega) ?_
    refine wp_iconst (pc := 60) dX7_cut_60 (by decide) ?_
    refine wp_iadd (pc := 61) dX7_cut_61 (by omega) ?_
    refine wp_icmp_lt (pc := 62) 85 dX7_cut_62 (by decide) (fun c_62 => ?_) (fun c_62 => ?_)
    · have ec : c = 3 * p + 3 := by omega
      subst ec
      refine wp_aload_n (pc := 85) dX7_cut_85 rfl rfl ?_
      refine wp_getR (pc := 86) (q := 72) dX7_cut_86 fl_X7_7 rfl ?_
      refine wp_iconst (pc := 89) dX7_cut_89 (by decide) ?_
      refine wp_iconst (pc := 90) dX7_cut_90 (by decide) ?_
      refine wp_iload_n (pc := 91) dX7_cut_91 rfl rfl ?_
      refine wp_imul (pc := 92) dX7_cut_92 (by omega) ?_
      refine wp_iadd (pc := 93) dX7_cut_93 (by omega) ?_
      refine wp_iconst (pc := 94) dX7_cut_94 (by decide) ?_
      refine wp_iadd (pc := 95) dX7_cut_95 (by omega) ?_
      refine wp_bipush (pc := 96) dX7_cut_96 (by decide) (by decide) ?_
      refine wp_iast (pc := 98) 591 dX7_cut_98 rfl (by omega) ?_
      refine wp_aload_n (pc := 99) dX7_cut_99 rfl rfl ?_
      refine wp_getR (pc := 100) (q := 72) dX7_cut_100 fl_X7_7 rfl ?_
      refine wp_iconst (pc := 103) dX7_cut_103 (by decide) ?_
      refine wp_iconst (pc := 104) dX7_cut_104 (by decide) ?_
      refine wp_iload_n (pc := 105) dX7_cut_105 rfl rfl ?_
      refine wp_imul (pc := 106) dX7_cut_106 (by omega) ?_
      refine wp_iadd (pc := 107) dX7_cut_107 (by omega) ?_
      refine wp_iconst (pc := 108) dX7_cut_108 (by decide) ?_
      refine wp_iadd (pc := 109) dX7_cut_109 (by omega) ?_
      refine wp_iconst (pc := 110) dX7_cut_110 (by decide) ?_
      refine wp_iast (pc := 111) 591 dX7_cut_111 rfl (by omega) ?_
      refine wp_aload_n (pc := 112) dX7_cut_112 rfl rfl ?_
      refine wp_getR (pc := 113) (q := 72) dX7_cut_113 fl_X7_7 rfl ?_
      refine wp_iconst (pc := 116) dX7_cut_116 (by decide) ?_
      refine wp_iconst (pc := 117) dX7_cut_117 (by decide) ?_
      refine wp_iload_n (pc := 118) dX7_cut_118 rfl rfl ?_
      refine wp_imul (pc := 119) dX7_cut_119 (by omega) ?_
      refine wp_iadd (pc := 120) dX7_cut_120 (by omega) ?_
      refine wp_iconst (pc := 121) dX7_cut_121 (by decide) ?_
      refine wp_iadd (pc := 122) dX7_cut_122 (by omega) ?_
      refine wp_aload_n (pc := 123) dX7_cut_123 rfl rfl ?_
      refine wp_iload_n (pc := 124) dX7_cut_124 rfl rfl ?_
      refine wp_cvI1 (pc := 125) dX7_cut_125 mv_X7_171 (m_parWords0 (by omega)) (Nat.le_of_ble_eq_true rfl) rfl (Nat.le_of_ble_eq_true rfl) (fun z_125 σ_125 h_125 => ?_)
      obtain ⟨rfl, e_125⟩ := h_125; have e2_125 := e_125.symm; subst e2_125
      rw [upd2_k (show 1 + 3 * p + 2 ≠ 1 + 3 * p + 4 by omega), upd2_k (show 1 + 3 * p + 2 ≠ 1 + 3 * p + 3 by omega), hA0, q.2.2.1]
      refine wp_iload_n (pc := 128) dX7_cut_128 rfl rfl ?_
      refine wp_isub (pc := 129) dX7_cut_129 (by omega) ?_
      refine wp_iast (pc := 130) 591 dX7_cut_130 rfl (by omega) ?_
      refine wp_aload_n (pc := 131) dX7_cut_131 rfl rfl ?_
      refine wp_getR (pc := 132) (q := 72) dX7_cut_132 fl_X7_7 rfl ?_
      refine wp_iconst (pc := 135) dX7_cut_135 (by decide) ?_
      refine wp_iconst (pc := 136) dX7_cut_136 (by decide) ?_
      refine wp_iload_n (pc := 137) dX7_cut_137 rfl rfl ?_
      refine wp_imul (pc := 138) dX7_cut_138 (by omega) ?_
      refine wp_iadd (pc := 139) dX7_cut_139 (by omega) ?_
      refine wp_iconst (pc := 140) dX7_cut_140 (by decide) ?_
      refine wp_iadd (pc := 141) dX7_cut_141 (by omega) ?_
      refine wp_iload_n (pc := 142) dX7_cut_142 rfl rfl ?_
      refine wp_iast (pc := 143) 591 dX7_cut_143 rfl (by omega) ?_
      refine wp_sto (fun υ hυ => ?_)
      have A2 : ∀ x, υ 72 x = if x = 1 + 3 * p + 2 then i else if x = 1 + 3 * p + 5 then D 1 p - i else if x = 1 + 3 * p + 4 then 0 else if x = 1 + 3 * p + 3 then -4 else if 3 * p + 3 + 3 < x ∧ x ≤ 3 * D 0 0 + 3 then σ 72 (x - 3) else σ 72 x := fun x => by
        rw [hυ]
        simp only [upd2, true_and]
        rw [hA x]
      have F2 : Frm [72] σ υ := by rw [hυ]; exact (((hF.up (by decide)).up (by decide)).up (by decide)).up (by decide)
      have A0 : υ 72 0 = D 0 0 := by rw [A2, if_neg (by omega), if_neg (by omega), if_neg (by omega), if_neg (by omega), if_neg (by omega)]; exact nn.2.2.1
      refine wp_aload_n (pc := 144) dX7_cut_144 rfl rfl ?_
      refine wp_getR (pc := 145) (q := 72) dX7_cut_145 fl_X7_7 rfl ?_
      refine wp_iconst (pc := 148) dX7_cut_148 (by decide) ?_
      refine wp_dup2 (pc := 149) dX7_cut_149 (fun _ h => by cases h) (fun _ h => by cases h) ?_
      refine wp_iald (pc := 150) 591 dX7_cut_150 rfl (by omega) ?_
      rw [A0]
      refine wp_iconst (pc := 151) dX7_cut_151 (by decide) ?_
      refine wp_iadd (pc := 152) dX7_cut_152 (by omega) ?_
      refine wp_iast (pc := 153) 591 dX7_cut_153 rfl (by omega) ?_
      refine wp_aload_n (pc := 154) dX7_cut_154 rfl rfl ?_
      refine wp_getR (pc := 155) (q := 72) dX7_cut_155 fl_X7_7 rfl ?_
      refine wp_iconst (pc := 158) dX7_cut_158 (by decide) ?_
      refine wp_iald (pc := 159) 591 dX7_cut_159 rfl (by omega) ?_
      rw [upd2_eq (r := 72) (k := 0)]
      refine wp_ireturn (pc := 160) dX7_cut_160 rfl ?_
      refine ⟨_, rfl, Or.inr (Or.inr ⟨⟨hp, hi⟩, h8, rfl, fun D' hD' => ?_, F2.up (by decide)⟩)⟩
      obtain ⟨o1, o2⟩ := hD'.ok h.2.2.2.1 hp h8 hi
      obtain ⟨c0, c4, c5, cq⟩ := hD'
      have hb := h.2.2.2.1.tt
      have e74 : upd2 υ 72 0 (D 0 0 + 1) 74 = σ 74 := by funext k; rw [upd2_r (by decide), F2 74 (by decide)]
      have e71 : upd2 υ 72 0 (D 0 0 + 1) 71 3 = σ 71 3 := by rw [upd2_r (by decide), F2 71 (by decide)]
      refine ⟨⟨?_, fun x x0 x1 => ?_, fun w w0 w1 => ?_, fun j j0 j1 => ?_⟩, by rw [e74]; exact h.2.1, by rw [e71]; exact h.2.2.1, o1, h.2.2.2.2⟩
      · rw [upd2_eq, c0]
      · rw [c0] at x1
        obtain ⟨d1, d2, d3⟩ := cq x x0 (by omega)
        rw [d1, d2, d3, upd2_k (by omega), upd2_k (by omega), upd2_k (by omega), A2, A2, A2]
        rcases (show x < p ∨ x = p ∨ x = p + 1 ∨ p + 1 < x by omega) with c | c | c | c
        · have qx := h.p x0 (show x < D 0 0 by omega)
          refine ⟨?_, ?_, ?_⟩
          · rw [if_neg (by omega), if_neg (by omega), if_neg (by omega), if_neg (by omega), if_neg (by omega), if_pos (by omega)]; exact qx.1
          · rw [if_neg (by omega), if_neg (by omega), if_neg (by omega), if_neg (by omega), if_neg (by omega), if_pos (by omega)]; exact qx.2.1
          · rw [if_neg (by omega), if_neg (by omega), if_neg (by omega), if_neg (by omega), if_neg (by omega), if_pos (by omega)]; exact qx.2.2.1
        · rw [c]
          refine ⟨?_, ?_, ?_⟩
          · rw [if_neg (by omega), if_neg (by omega), if_neg (by omega), if_neg (by omega), if_neg (by omega), if_pos (by omega)]; exact q.1
          · rw [if_neg (by omega), if_neg (by omega), if_neg (by omega), if_neg (by omega), if_neg (by omega), if_pos (by omega)]; exact q.2.1
          · rw [if_pos rfl, if_neg (by omega), if_pos rfl]
        · rw [c]
          refine ⟨?_, ?_, ?_⟩
          · rw [if_neg (by omega), if_neg (by omega), if_neg (by omega), if_pos (by omega), if_neg (by omega), if_pos rfl]
          · rw [if_neg (by omega), if_neg (by omega), if_pos (by omega), if_neg (by omega), if_pos rfl]
          · rw [if_neg (by omega), if_pos (by omega), if_neg (by omega), if_neg (by omega), if_pos rfl]
        · have qx := h.p (p := x - 1) (by omega) (by omega)
          refine ⟨?_, ?_, ?_⟩
          · rw [if_neg (by omega), if_neg (by omega), if_neg (by omega), if_neg (by omega), if_pos (by omega), if_neg (by omega), if_neg (by omega), show 1 + 3 * x - 3 = 1 + 3 * (x - 1) by omega]; exact qx.1
          · rw [if_neg (by omega), if_neg (by omega), if_neg (by omega), if_neg (by omega), if_pos (by omega), if_neg (by omega), if_neg (by omega), show 1 + 3 * x + 1 - 3 = 1 + 3 * (x - 1) + 1 by omega]; exact qx.2.1
          · rw [if_neg (by omega), if_neg (by omega), if_neg (by omega), if_neg (by omega), if_pos (by omega), if_neg (by omega), if_neg (by omega), if_neg (by omega), show 1 + 3 * x + 2 - 3 = 1 + 3 * (x - 1) + 2 by omega]; exact qx.2.2.1
      · rw [o2] at w1
        obtain ⟨w2, w3, -⟩ := h.w w0 w1
        rw [c4, upd2_k (by omega), A2, if_neg (by omega), if_neg (by omega), if_neg (by omega), if_neg (by omega), if_neg (by omega)]
        refine ⟨w2, fun j j0 j1 => ?_⟩
        rw [upd2_k (by omega), A2, if_neg (by omega), if_neg (by omega), if_neg (by omega), if_neg (by omega), if_neg (by omega)]
        exact w3 j j0 j1
      · rw [c5, upd2_k (by omega), A2, if_neg (by omega), if_neg (by omega), if_neg (by omega), if_neg (by omega), if_neg (by omega)]
        exact h.1.2.2.2 j j0 j1
    · refine wp_aload_n (pc := 65) dX7_cut_65 rfl rfl ?_
      refine wp_getR (pc := 66) (q := 72) dX7_cut_66 fl_X7_7 rfl ?_
      refine wp_iload_n (pc := 69) dX7_cut_69 rfl rfl ?_
      refine wp_iconst (pc := 70) dX7_cut_70 (by decide) ?_
      refine wp_iadd (pc := 71) dX7_cut_71 (by omega) ?_
      refine wp_aload_n (pc := 72) dX7_cut_72 rfl rfl ?_
      refine wp_getR (pc := 73) (q := 72) dX7_cut_73 fl_X7_7 rfl ?_
      refine wp_iload_n (pc := 76) dX7_cut_76 rfl rfl ?_
      refine wp_iald (pc := 77) 591 dX7_cut_77 rfl (by omega) ?_
      refine wp_iast (pc := 78) 591 dX7_cut_78 rfl (by omega) ?_
      refine wp_iinc (pc := 79) dX7_cut_79 rfl rfl (by omega) ?_
      refine wp_goto (pc := 82) 54 dX7_cut_82 (by decide) ?_
      refine ih (by omega) (by omega) _ (hF.up (by decide)) (fun x => ?_)
      by_cases hx : x = c + 3
      · rw [hx, upd2_eq, hA c, if_neg (by omega), if_pos (by omega), show c + 3 - 3 = c by omega]
      · rw [upd2_k hx, hA x]
        by_cases h1 : c + 3 < x ∧ x ≤ 3 * D 0 0 + 3
        · rw [if_pos h1, if_pos (by omega)]
        · rw [if_neg h1, if_neg (by omega)]
  refine wp_aload_n (pc := 0) dX7_cut_0 rfl rfl ?_
  refine wp_iload_n (pc := 1) dX7_cut_1 rfl rfl ?_
  refine wp_cvI1 (pc := 2) dX7_cut_2 mv_X7_263 (m_isPar h) (Nat.le_of_ble_eq_true rfl) rfl (Nat.le_of_ble_eq_true rfl) (fun z_2 σ_2 h_2 => ?_)
  obtain ⟨y_2, e_2⟩ := h_2; have e2_2 := e_2.symm; subst e2_2
  refine wp_if_eq (pc := 5) 25 dX7_cut_5 (by decide) (fun c_5 => ?_) (fun c_5 => ?_)
  · refine wp_iconst (pc := 25) dX7_cut_25 (by decide) ?_
    refine wp_ireturn (pc := 26) dX7_cut_26 rfl ?_
    exact ⟨_, rfl, Or.inl ⟨by omega, rfl, rfl⟩⟩
  · have q := hpp (by omega) (by omega)
    refine wp_iload_n (pc := 8) dX7_cut_8 rfl rfl ?_
    refine wp_i2l (pc := 9) dX7_cut_9 ?_
    refine wp_lconst (pc := 10) (z := 1) dX7_cut_10 (by decide) (by decide) ?_
    refine wp_aload_n (pc := 11) dX7_cut_11 rfl rfl ?_
    refine wp_iload_n (pc := 12) dX7_cut_12 rfl rfl ?_
    refine wp_cvI1 (pc := 13) dX7_cut_13 mv_X7_171 (m_parWords h (by omega)) (Nat.le_of_ble_eq_true rfl) rfl (Nat.le_of_ble_eq_true rfl) (fun z_13 σ_13 h_13 => ?_)
    obtain ⟨rfl, e_13⟩ := h_13; have e2_13 := e_13.symm; subst e2_13
    refine wp_iconst (pc := 16) dX7_cut_16 (by decide) ?_
    refine wp_isub (pc := 17) dX7_cut_17 (by omega) ?_
    refine wp_i2l (pc := 18) dX7_cut_18 ?_
    refine wp_csI3 (pc := 19) dX7_cut_19 ms_X7_73 m_in (Nat.le_of_ble_eq_true rfl) (Nat.le_of_ble_eq_true rfl) (fun z_19 σ_19 h_19 => ?_)
    obtain ⟨y_19, e_19⟩ := h_19; have e2_19 := e_19.symm; subst e2_19
    refine wp_if_ne (pc := 22) 27 dX7_cut_22 (by decide) (fun c_22 => ?_) (fun c_22 => ?_)
    · refine wp_aload_n (pc := 27) dX7_cut_27 rfl rfl ?_
      refine wp_getR (pc := 28) (q := 72) dX7_cut_28 fl_X7_7 rfl ?_
      refine wp_iconst (pc := 31) dX7_cut_31 (by decide) ?_
      refine wp_iald (pc := 32) 591 dX7_cut_32 rfl (by omega) ?_
      rw [nn.2.2.1]
      refine wp_bipush (pc := 33) dX7_cut_33 (by decide) (by decide) ?_
      refine wp_icmp_ne (pc := 35) 41 dX7_cut_35 (by decide) (fun c_35 => ?_) (fun c_35 => ?_)
      · refine wp_iconst (pc := 41) dX7_cut_41 (by decide) ?_
        refine wp_iconst (pc := 42) dX7_cut_42 (by decide) ?_
        refine wp_aload_n (pc := 43) dX7_cut_43 rfl rfl ?_
        refine wp_getR (pc := 44) (q := 72) dX7_cut_44 fl_X7_7 rfl ?_
        refine wp_iconst (pc := 47) dX7_cut_47 (by decide) ?_
        refine wp_iald (pc := 48) 591 dX7_cut_48 rfl (by omega) ?_
        rw [nn.2.2.1]
        refine wp_imul (pc := 49) dX7_cut_49 (by omega) ?_
        refine wp_iadd (pc := 50) dX7_cut_50 (by omega) ?_
        refine wp_iconst (pc := 51) dX7_cut_51 (by decide) ?_
        refine wp_isub (pc := 52) dX7_cut_52 (by omega) ?_
        refine wp_istore_n (pc := 53) dX7_cut_53 rfl (Nat.le_of_ble_eq_true rfl) rfl ?_
        exact lp (by omega) (by omega) (by omega) _ (by omega) (by omega) σ Frm.rf (fun x => by rw [if_neg (by omega)])
      · refine wp_bipush (pc := 38) dX7_cut_38 (by decide) (by decide) ?_
        refine wp_ireturn (pc := 40) dX7_cut_40 rfl ?_
        exact ⟨_, rfl, Or.inr (Or.inl ⟨by omega, by omega, rfl, rfl⟩)⟩
    · refine wp_iconst (pc := 25) dX7_cut_25 (by decide) ?_
      refine wp_ireturn (pc := 26) dX7_cut_26 rfl ?_
      exact ⟨_, rfl, Or.inl ⟨by omega, rfl, rfl⟩⟩
set_option maxHeartbeats 4000000 in
set_option maxRecDepth 100000 in
theorem m_join {σ D S : Sto} {p : Int} (h : RM σ D S) : CtI yX7_join cX7_join 3 (some .int) 2 [mR 71, mI p] σ (fun z σ' => (¬ (0 ≤ p ∧ p < D 0 0) ∧ z = -1 ∧ σ' = σ) ∨ ((0 ≤ p ∧ p < D 0 0) ∧ p + 1 = D 0 0 ∧ z = -4 ∧ σ' = σ) ∨ ((0 ≤ p ∧ p + 1 < D 0 0) ∧ z = D 1 p + D 1 (p + 1) ∧ (∀ D', uniP D D' p → RM σ' D' S) ∧ Frm [72] σ σ')) := by
  refine ct_of rfl [some (mR 71), some (mI p), none] (Nat.le_of_ble_eq_true rfl) rfl (fun hσ => ?_)
  show Wp cX7_join RX7 (some .int) 2 0 [some (mR 71), some (mI p), none] [] _ _
  have nn := h.n
  have hpp := fun a b => h.p (p := p) a b
  have hp2 := fun a b => h.p (p := p + 1) a b
  have lp : (0 ≤ p ∧ p + 1 < D 0 0) → ∀ c, c ≤ 3 * D 0 0 - 2 → 1 + 3 * p + 3 ≤ c → ∀ τ : Sto, Frm [72] σ τ → (∀ x, τ 72 x = if x = 1 + 3 * p + 2 then D 1 p + D 1 (p + 1) else if 1 + 3 * p + 3 ≤ x ∧ x < c then σ 72 (x + 3) else σ 72 x) → Wp cX7_join RX7 (some .int) 2 55 [some (mR 71), some (mI p), some (mI c)] [] τ (fun v σ' => ∃ z, v = some (mI z) ∧ (fun z σ' => (¬ (0 ≤ p ∧ p < D 0 0) ∧ z = -1 ∧ σ' = σ) ∨ ((0 ≤ p ∧ p < D 0 0) ∧ p + 1 = D 0 0 ∧ z = -4 ∧ σ' = σ) ∨ ((0 ≤ p ∧ p + 1 < D 0 0) ∧ z = D 1 p + D 1 (p + 1) ∧ (∀ D', uniP D D' p → RM σ' D' S) ∧ Frm [72] σ σ')) z σ') := by
    intro hp
    have q := hpp (by omega) (by omega)
    have q2 := hp2 (by omega) (by omega)
    refine up_ind _ (fun c hc ih hc2 τ hF hA => ?_)
    have hA0 := hA 0
    rw [if_neg (by omega), if_neg (by omega), nn.2.2.1] at hA0
    refine wp_iload_n (pc := 55) dX7_join_55 rfl rfl ?_
    refine wp_iconst (pc := 56) dX7_join_56 (by decide) ?_
    refine wp_iconst (pc := 57) dX7_join_57 (by decide) ?_
    refine wp_aload_n (pc := 58) dX7_join_58 rfl rfl ?_
    refine wp_getR (pc := 59) (q := 72) dX7_join_59 fl_X7_7 rfl ?_
    refine wp_iconst (pc := 62) dX7_join_62 (by decide) ?_
    refine wp_iald (pc := 63) 591 dX7_join_63 rfl (by omega) ?_
    rw [hA0]
    refine wp_imul (pc := 64) dX7_join_64 (by omega) ?_
    refine wp_iadd (pc := 65) dX7_join_65 (by omega) ?_
    refine wp_iconst (pc := 66) dX7_join_66 (by decide) ?_
    refine wp_isub (pc := 67) dX7_join_67 (by omega) ?_
    refine wp_icmp_ge (pc := 68) 91 dX7_join_68 (by decide) (fun c_68 => ?_) (fun c_68 => ?_)
    · have ec : c = 3 * D 0 0 - 2 := by omega
      refine wp_aload_n (pc := 91) dX7_join_91 rfl rfl ?_
      refine wp_getR (pc := 92) (q := 72) dX7_join_92 fl_X7_7 rfl ?_
      refine wp_iconst (pc := 95) dX7_join_95 (by decide) ?_
      refine wp_dup2 (pc := 96) dX7_join_96 (fun _ h => by cases h) (fun _ h => by cases h) ?_
      refine wp_iald (pc := 97) 591 dX7_join_97 rfl (by omega) ?_
      rw [hA0]
      refine wp_iconst (pc := 98) dX7_join_98 (by decide) ?_
      refine wp_isub (pc := 99) dX7_join_99 (by omega) ?_
      refine wp_iast (pc := 100) 591 dX7_join_100 rfl (by omega) ?_
      refine wp_aload_n (pc := 101) dX7_join_101 rfl rfl ?_
      refine wp_iload_n (pc := 102) dX7_join_102 rfl rfl ?_
      refine wp_cvI1 (pc := 103) dX7_join_103 mv_X7_171 (m_parWords0 (by omega)) (Nat.le_of_ble_eq_true rfl) rfl (Nat.le_of_ble_eq_true rfl) (fun z_103 σ_103 h_103 => ?_)
      obtain ⟨rfl, e_103⟩ := h_103; have e2_103 := e_103.symm; subst e2_103
      rw [upd2_k (show 1 + 3 * p + 2 ≠ 0 by omega), hA, if_pos rfl]
      refine wp_ireturn (pc := 106) dX7_join_106 rfl ?_
      refine ⟨_, rfl, Or.inr (Or.inr ⟨hp, rfl, fun D' hD' => ?_, hF.up (by decide)⟩)⟩
      obtain ⟨o1, o2⟩ := hD'.ok h.2.2.2.1 hp
      obtain ⟨c0, c4, c5, cq⟩ := hD'
      have hb := h.2.2.2.1.tt
      have e74 : upd2 τ 72 0 (D 0 0 - 1) 74 = σ 74 := by funext k; rw [upd2_r (by decide), hF 74 (by decide)]
      have e71 : upd2 τ 72 0 (D 0 0 - 1) 71 3 = σ 71 3 := by rw [upd2_r (by decide), hF 71 (by decide)]
      refine ⟨⟨?_, fun x x0 x1 => ?_, fun w w0 w1 => ?_, fun j j0 j1 => ?_⟩, by rw [e74]; exact h.2.1, by rw [e71]; exact h.2.2.1, o1, h.2.2.2.2⟩
      · rw [upd2_eq, c0]
      · rw [c0] at x1
        obtain ⟨d1, d2, d3⟩ := cq x x0 (by omega)
        rw [d1, d2, d3, upd2_k (by omega), upd2_k (by omega), upd2_k (by omega), hA, hA, hA]
        rcases (show x < p ∨ x = p ∨ p < x by omega) with c | c | c
        · have qx := h.p x0 (show x < D 0 0 by omega)
          refine ⟨?_, ?_, ?_⟩
          · rw [if_neg (by omega), if_neg (by omega), if_pos (by omega)]; exact qx.1
          · rw [if_neg (by omega), if_neg (by omega), if_pos (by omega)]; exact qx.2.1
          · rw [if_neg (by omega), if_neg (by omega), if_pos (by omega)]; exact qx.2.2.1
        · rw [c]
          refine ⟨?_, ?_, ?_⟩
          · rw [if_neg (by omega), if_neg (by omega), if_pos (by omega)]; exact q.1
          · rw [if_neg (by omega), if_neg (by omega), if_pos (by omega)]; exact q.2.1
          · rw [if_pos rfl, if_neg (by omega), if_pos rfl]
        · have qx := h.p (p := x + 1) (by omega) (by omega)
          refine ⟨?_, ?_, ?_⟩
          · rw [if_neg (by omega), if_pos (by omega), if_neg (by omega), show 1 + 3 * x + 3 = 1 + 3 * (x + 1) by omega]; exact qx.1
          · rw [if_neg (by omega), if_pos (by omega), if_neg (by omega), show 1 + 3 * x + 1 + 3 = 1 + 3 * (x + 1) + 1 by omega]; exact qx.2.1
          · rw [if_neg (by omega), if_pos (by omega), if_neg (by omega), if_neg (by omega), show 1 + 3 * x + 2 + 3 = 1 + 3 * (x + 1) + 2 by omega]; exact qx.2.2.1
      · rw [o2] at w1
        obtain ⟨w2, w3, -⟩ := h.w w0 w1
        rw [c4, upd2_k (by omega), hA, if_neg (by omega), if_neg (by omega)]
        refine ⟨w2, fun j j0 j1 => ?_⟩
        rw [upd2_k (by omega), hA, if_neg (by omega), if_neg (by omega)]
        exact w3 j j0 j1
      · rw [c5, upd2_k (by omega), hA, if_neg (by omega), if_neg (by omega)]
        exact h.1.2.2.2 j j0 j1
    · refine wp_aload_n (pc := 71) dX7_join_71 rfl rfl ?_
      refine wp_getR (pc := 72) (q := 72) dX7_join_72 fl_X7_7 rfl ?_
      refine wp_iload_n (pc := 75) dX7_join_75 rfl rfl ?_
      refine wp_aload_n (pc := 76) dX7_join_76 rfl rfl ?_
      refine wp_getR (pc := 77) (q := 72) dX7_join_77 fl_X7_7 rfl ?_
      refine wp_iload_n (pc := 80) dX7_join_80 rfl rfl ?_
      refine wp_iconst (pc := 81) dX7_join_81 (by decide) ?_
      refine wp_iadd (pc := 82) dX7_join_82 (by omega) ?_
      refine wp_iald (pc := 83) 591 dX7_join_83 rfl (by omega) ?_
      refine wp_iast (pc := 84) 591 dX7_join_84 rfl (by omega) ?_
      refine wp_iinc (pc := 85) dX7_join_85 rfl rfl (by omega) ?_
      refine wp_goto (pc := 88) 55 dX7_join_88 (by decide) ?_
      refine ih (by omega) (by omega) _ (hF.up (by decide)) (fun x => ?_)
      by_cases hx : x = c
      · rw [hx, upd2_eq, hA (c + 3), if_neg (by omega), if_neg (by omega), if_neg (by omega), if_pos (by omega)]
      · rw [upd2_k hx, hA x]
        by_cases h0 : x = 1 + 3 * p + 2
        · rw [if_pos h0, if_pos h0]
        · rw [if_neg h0, if_neg h0]
          by_cases h1 : 1 + 3 * p + 3 ≤ x ∧ x < c
          · rw [if_pos h1, if_pos (by omega)]
          · rw [if_neg h1, if_neg (by omega)]
  refine wp_aload_n (pc := 0) dX7_join_0 rfl rfl ?_
  refine wp_iload_n (pc := 1) dX7_join_1 rfl rfl ?_
  refine wp_cvI1 (pc := 2) dX7_join_2 mv_X7_263 (m_isPar h) (Nat.le_of_ble_eq_true rfl) rfl (Nat.le_of_ble_eq_true rfl) (fun z_2 σ_2 h_2 => ?_)
  obtain ⟨y_2, e_2⟩ := h_2; have e2_2 := e_2.symm; subst e2_2
  refine wp_if_ne (pc := 5) 10 dX7_join_5 (by decide) (fun c_5 => ?_) (fun c_5 => ?_)
  · refine wp_iload_n (pc := 10) dX7_join_10 rfl rfl ?_
    refine wp_aload_n (pc := 11) dX7_join_11 rfl rfl ?_
    refine wp_getR (pc := 12) (q := 72) dX7_join_12 fl_X7_7 rfl ?_
    refine wp_iconst (pc := 15) dX7_join_15 (by decide) ?_
    refine wp_iald (pc := 16) 591 dX7_join_16 rfl (by omega) ?_
    rw [nn.2.2.1]
    refine wp_iconst (pc := 17) dX7_join_17 (by decide) ?_
    refine wp_isub (pc := 18) dX7_join_18 (by omega) ?_
    refine wp_icmp_ne (pc := 19) 25 dX7_join_19 (by decide) (fun c_19 => ?_) (fun c_19 => ?_)
    · have q := hpp (by omega) (by omega)
      have q2 := hp2 (by omega) (by omega)
      refine wp_aload_n (pc := 25) dX7_join_25 rfl rfl ?_
      refine wp_getR (pc := 26) (q := 72) dX7_join_26 fl_X7_7 rfl ?_
      refine wp_iconst (pc := 29) dX7_join_29 (by decide) ?_
      refine wp_iconst (pc := 30) dX7_join_30 (by decide) ?_
      refine wp_iload_n (pc := 31) dX7_join_31 rfl rfl ?_
      refine wp_imul (pc := 32) dX7_join_32 (by omega) ?_
      refine wp_iadd (pc := 33) dX7_join_33 (by omega) ?_
      refine wp_iconst (pc := 34) dX7_join_34 (by decide) ?_
      refine wp_iadd (pc := 35) dX7_join_35 (by omega) ?_
      refine wp_dup2 (pc := 36) dX7_join_36 (fun _ h => by cases h) (fun _ h => by cases h) ?_
      refine wp_iald (pc := 37) 591 dX7_join_37 rfl (by omega) ?_
      rw [q.2.2.1]
      refine wp_aload_n (pc := 38) dX7_join_38 rfl rfl ?_
      refine wp_iload_n (pc := 39) dX7_join_39 rfl rfl ?_
      refine wp_iconst (pc := 40) dX7_join_40 (by decide) ?_
      refine wp_iadd (pc := 41) dX7_join_41 (by omega) ?_
      refine wp_cvI1 (pc := 42) dX7_join_42 mv_X7_171 (m_parWords h (by omega)) (Nat.le_of_ble_eq_true rfl) rfl (Nat.le_of_ble_eq_true rfl) (fun z_42 σ_42 h_42 => ?_)
      obtain ⟨rfl, e_42⟩ := h_42; have e2_42 := e_42.symm; subst e2_42
      refine wp_iadd (pc := 45) dX7_join_45 (by omega) ?_
      refine wp_iast (pc := 46) 591 dX7_join_46 rfl (by omega) ?_
      refine wp_iconst (pc := 47) dX7_join_47 (by decide) ?_
      refine wp_iconst (pc := 48) dX7_join_48 (by decide) ?_
      refine wp_iload_n (pc := 49) dX7_join_49 rfl rfl ?_
      refine wp_imul (pc := 50) dX7_join_50 (by omega) ?_
      refine wp_iadd (pc := 51) dX7_join_51 (by omega) ?_
      refine wp_iconst (pc := 52) dX7_join_52 (by decide) ?_
      refine wp_iadd (pc := 53) dX7_join_53 (by omega) ?_
      refine wp_istore_n (pc := 54) dX7_join_54 rfl (Nat.le_of_ble_eq_true rfl) rfl ?_
      exact lp (by omega) _ (by omega) (by omega) _ (Frm.rf.up (by decide)) (fun x => by
        by_cases hx : x = 1 + 3 * p + 2
        · rw [hx, upd2_eq, if_pos rfl]
        · rw [upd2_k hx, if_neg hx, if_neg (by omega)])
    · refine wp_bipush (pc := 22) dX7_join_22 (by decide) (by decide) ?_
      refine wp_ireturn (pc := 24) dX7_join_24 rfl ?_
      exact ⟨_, rfl, Or.inr (Or.inl ⟨by omega, by omega, rfl, rfl⟩)⟩
  · refine wp_iconst (pc := 8) dX7_join_8 (by decide) ?_
    refine wp_ireturn (pc := 9) dX7_join_9 rfl ?_
    exact ⟨_, rfl, Or.inl ⟨by omega, rfl, rfl⟩⟩
