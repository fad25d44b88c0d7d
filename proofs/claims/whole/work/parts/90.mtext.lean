set_option maxHeartbeats 4000000 in
set_option maxRecDepth 100000 in
theorem PR.cp {P P' : Int → Int} {D S : Sto} (h : PR P D) (hD : OKD D S) (e : ∀ x, 0 ≤ x → x < 591 → P' x = P x) : PR P' D := by
  have hb := hD.tt
  obtain ⟨a, b, c, d⟩ := h
  refine ⟨by rw [e 0 (by decide) (by decide)]; exact a, fun p p0 p1 => ?_, fun w w0 w1 => ?_, fun k k0 k1 => by rw [e _ (by omega) (by omega)]; exact d k k0 k1⟩
  · rw [e _ (by omega) (by omega), e _ (by omega) (by omega), e _ (by omega) (by omega)]; exact b p p0 p1
  · rw [e _ (by omega) (by omega)]
    refine ⟨(c w w0 w1).1, fun k k0 k1 => ?_⟩
    rw [e _ (by omega) (by omega)]; exact (c w w0 w1).2 k k0 k1
set_option maxHeartbeats 4000000 in
set_option maxRecDepth 100000 in
theorem SR.cp {P P' : Int → Int} {S : Sto} (h : SR P S) (hS : OKS S) (e : ∀ x, 0 ≤ x → x < 19 * S 0 0 → P' x = P x) : SR P' S := by
  intro g g0 g1
  obtain ⟨a, b, c, d⟩ := h g g0 g1
  have hs := (hS.2 g g0 g1).2.2.1
  refine ⟨by rw [e _ (by omega) (by omega)]; exact a, by rw [e _ (by omega) (by omega)]; exact b, by rw [e _ (by omega) (by omega)]; exact c, fun i i0 i1 => ?_⟩
  rw [e _ (by omega) (by omega), e _ (by omega) (by omega)]
  exact d i i0 i1
set_option maxHeartbeats 4000000 in
set_option maxRecDepth 100000 in
theorem m_text {σ D S : Sto} {t : Int → Int} {n : Int} {s0 : PS} {R : PS × Int} (h : RM σ D S) (h9 : σ 71 9 = n) (hn : 0 ≤ n ∧ n ≤ 400) (ht : ∀ k, 0 ≤ k → k < n → σ 78 k = t k) (hb : ∀ k, 0 ≤ k → k < n → 0 ≤ t k ∧ t k ≤ 127) (hN : NT σ) (h0 : ST0 D s0) (hR : R = pAll t n 401 0 s0) : CtI yX7_text cX7_text 3 (some .int) 6 [mR 71] σ (fun z σ' => Frm [71, 72, 73, 74, 75, 77, 81] σ σ' ∧ σ' 71 9 = 0 ∧ ((¬ R.1.f = 0 ∧ z = -10 - R.1.b ∧ σ' 71 10 = R.1.f ∧ RM σ' D S ∧ σ' 77 = σ 77) ∨ (R.1.f = 0 ∧ z = R.2 ∧ σ' 71 10 = 0 ∧ PR (σ' 72) R.1.D ∧ SR (σ' 74) R.1.S ∧ σ' 71 3 = R.1.S 0 0 ∧ σ' 77 0 = 0 ∧ σ' 77 1 = 0))) := by
  refine ct_of rfl [some (mR 71), none, none] (Nat.le_of_ble_eq_true rfl) rfl (fun hσ => ?_)
  show Wp cX7_text RX7 (some .int) 6 0 [some (mR 71), none, none] [] _ _
  have hst := h.st
  have hpg0 := h0.ok (n := n) h.2.2.2.1 hn.1
  -- what is told is taken
  have w153 : ∀ (l : Int) (q : PS), R = (q, l) → PG n q → ∀ (υ : Sto), Frm [71, 72, 73, 75, 81] σ υ → (∀ k, (k < 5 ∨ (5 < k ∧ k < 9) ∨ 15 < k) → υ 71 k = σ 71 k) → υ 71 9 = 0 → υ 71 10 = 0 → υ 71 5 = q.S 0 0 → PR (υ 72) q.D → SR (υ 75) q.S → ∀ c, c ≤ 19 * q.S 0 0 → 0 ≤ c → ∀ τ : Sto, Frm [74] υ τ → (∀ x, 0 ≤ x → x < c → τ 74 x = υ 75 x) → Wp cX7_text RX7 (some .int) 6 153 [some (mR 71), some (mI l), some (mI c)] [] τ (fun v σ' => ∃ z, v = some (mI z) ∧ (fun z σ' => Frm [71, 72, 73, 74, 75, 77, 81] σ σ' ∧ σ' 71 9 = 0 ∧ ((¬ R.1.f = 0 ∧ z = -10 - R.1.b ∧ σ' 71 10 = R.1.f ∧ RM σ' D S ∧ σ' 77 = σ 77) ∨ (R.1.f = 0 ∧ z = R.2 ∧ σ' 71 10 = 0 ∧ PR (σ' 72) R.1.D ∧ SR (σ' 74) R.1.S ∧ σ' 71 3 = R.1.S 0 0 ∧ σ' 77 0 = 0 ∧ σ' 77 1 = 0))) z σ') := by
    intro l q hRq hq υ hF hk u9 u10 u5 hP hS
    have hS0 := hq.2.2.2.1
    refine up_ind _ (fun c hc ih c0 τ hFt hx => ?_)
    have t5 : τ 71 5 = q.S 0 0 := by rw [hFt 71 (by decide)]; exact u5
    have t75 : τ 75 = υ 75 := hFt 75 (by decide)
    refine wp_iload_n (pc := 153) dX7_text_153 rfl rfl ?_
    refine wp_bipush (pc := 154) dX7_text_154 (by decide) (by decide) ?_
    refine wp_aload_n (pc := 156) dX7_text_156 rfl rfl ?_
    refine wp_getI (pc := 157) 5 dX7_text_157 fl_X7_131 rfl rfl ?_
    rw [t5]
    refine wp_imul (pc := 160) dX7_text_160 (by omega) ?_
    refine wp_icmp_ge (pc := 161) 182 dX7_text_161 (by decide) (fun c_161 => ?_) (fun c_161 => ?_)
    · refine wp_aload_n (pc := 182) dX7_text_182 rfl rfl ?_
      refine wp_aload_n (pc := 183) dX7_text_183 rfl rfl ?_
      refine wp_getI (pc := 184) 5 dX7_text_184 fl_X7_131 rfl rfl ?_
      rw [t5]
      refine wp_putI (pc := 187) 3 dX7_text_187 fl_X7_168 ⟨rfl, rfl⟩ rfl rfl ?_
      refine wp_aload_n (pc := 190) dX7_text_190 rfl rfl ?_
      refine wp_getR (pc := 191) (q := 77) dX7_text_191 fl_X7_25 rfl ?_
      refine wp_iconst (pc := 194) dX7_text_194 (by decide) ?_
      refine wp_iconst (pc := 195) dX7_text_195 (by decide) ?_
      refine wp_zast (pc := 196) 2 dX7_text_196 rfl (by omega) (by omega) ?_
      refine wp_aload_n (pc := 197) dX7_text_197 rfl rfl ?_
      refine wp_getR (pc := 198) (q := 77) dX7_text_198 fl_X7_25 rfl ?_
      refine wp_iconst (pc := 201) dX7_text_201 (by decide) ?_
      refine wp_iconst (pc := 202) dX7_text_202 (by decide) ?_
      refine wp_zast (pc := 203) 2 dX7_text_203 rfl (by omega) (by omega) ?_
      refine wp_iload_n (pc := 204) dX7_text_204 rfl rfl ?_
      refine wp_ireturn (pc := 205) dX7_text_205 rfl ?_
      refine ⟨_, rfl, ?_, ?_, Or.inr ?_⟩
      · exact ((((hF.mono (by decide)).tr (hFt.mono (by decide))).up (by decide)).up (by decide)).up (by decide)
      · rw [upd2_r (by decide), upd2_r (by decide), upd2_k (by decide), hFt 71 (by decide)]; exact u9
      · rw [hRq]
        have r72 : upd2 (upd2 (upd2 τ 71 3 (q.S 0 0)) 77 0 0) 77 1 0 72 = υ 72 := by funext k; rw [upd2_r (by decide), upd2_r (by decide), upd2_r (by decide), hFt 72 (by decide)]
        have r74 : upd2 (upd2 (upd2 τ 71 3 (q.S 0 0)) 77 0 0) 77 1 0 74 = τ 74 := by funext k; rw [upd2_r (by decide), upd2_r (by decide), upd2_r (by decide)]
        refine ⟨hq.2.1, rfl, ?_, by rw [r72]; exact hP, ?_, ?_, ?_, upd2_eq⟩
        · rw [upd2_r (by decide), upd2_r (by decide), upd2_k (by decide), hFt 71 (by decide)]; exact u10
        · rw [r74]; exact hS.cp hq.2.2.2 (fun x x0 x1 => hx x x0 (by omega))
        · rw [upd2_r (by decide), upd2_r (by decide), upd2_eq]
        · rw [upd2_k (by decide), upd2_eq]
    · refine wp_aload_n (pc := 164) dX7_text_164 rfl rfl ?_
      refine wp_getR (pc := 165) (q := 74) dX7_text_165 fl_X7_16 rfl ?_
      refine wp_iload_n (pc := 168) dX7_text_168 rfl rfl ?_
      refine wp_aload_n (pc := 169) dX7_text_169 rfl rfl ?_
      refine wp_getR (pc := 170) (q := 75) dX7_text_170 fl_X7_19 rfl ?_
      refine wp_iload_n (pc := 173) dX7_text_173 rfl rfl ?_
      refine wp_iald (pc := 174) 114 dX7_text_174 rfl (by omega) ?_
      rw [t75]
      refine wp_iast (pc := 175) 114 dX7_text_175 rfl (by omega) ?_
      refine wp_iinc (pc := 176) dX7_text_176 rfl rfl (by omega) ?_
      refine wp_goto (pc := 179) 153 dX7_text_179 (by decide) ?_
      refine ih (by omega) (by omega) _ (hFt.up (by decide)) (fun x x0 x1 => ?_)
      by_cases e : x = c
      · rw [e, upd2_eq]
      · rw [upd2_k e]; exact hx x x0 (by omega)
  have w126 : ∀ (l : Int) (q : PS), R = (q, l) → PG n q → ∀ (υ : Sto), Frm [71, 73, 75, 81] σ υ → (∀ k, (k < 5 ∨ (5 < k ∧ k < 9) ∨ 15 < k) → υ 71 k = σ 71 k) → υ 71 9 = 0 → υ 71 10 = 0 → υ 71 5 = q.S 0 0 → PR (υ 73) q.D → SR (υ 75) q.S → ∀ c, c ≤ 591 → 0 ≤ c → ∀ τ : Sto, Frm [72] υ τ → (∀ x, 0 ≤ x → x < c → τ 72 x = υ 73 x) → Wp cX7_text RX7 (some .int) 6 126 [some (mR 71), some (mI l), some (mI c)] [] τ (fun v σ' => ∃ z, v = some (mI z) ∧ (fun z σ' => Frm [71, 72, 73, 74, 75, 77, 81] σ σ' ∧ σ' 71 9 = 0 ∧ ((¬ R.1.f = 0 ∧ z = -10 - R.1.b ∧ σ' 71 10 = R.1.f ∧ RM σ' D S ∧ σ' 77 = σ 77) ∨ (R.1.f = 0 ∧ z = R.2 ∧ σ' 71 10 = 0 ∧ PR (σ' 72) R.1.D ∧ SR (σ' 74) R.1.S ∧ σ' 71 3 = R.1.S 0 0 ∧ σ' 77 0 = 0 ∧ σ' 77 1 = 0))) z σ') := by
    intro l q hRq hq υ hF hk u9 u10 u5 hP hS
    refine up_ind _ (fun c hc ih c0 τ hFt hx => ?_)
    have t73 : τ 73 = υ 73 := hFt 73 (by decide)
    have t71 : τ 71 = υ 71 := hFt 71 (by decide)
    refine wp_iload_n (pc := 126) dX7_text_126 rfl rfl ?_
    refine wp_sipush (pc := 127) dX7_text_127 (by decide) (by decide) ?_
    refine wp_icmp_ge (pc := 130) 151 dX7_text_130 (by decide) (fun c_130 => ?_) (fun c_130 => ?_)
    · refine wp_iconst (pc := 151) dX7_text_151 (by decide) ?_
      refine wp_istore_n (pc := 152) dX7_text_152 rfl (Nat.le_of_ble_eq_true rfl) rfl ?_
      refine w153 l q hRq hq τ ((hF.mono (by decide)).tr (hFt.mono (by decide))) (by rw [t71]; exact hk) (by rw [t71]; exact u9) (by rw [t71]; exact u10) (by rw [t71]; exact u5) (hP.cp hq.2.2.1 (fun x x0 x1 => hx x x0 (by omega))) (by rw [hFt 75 (by decide)]; exact hS) 0 (by have := hq.2.2.2.1; omega) (by decide) τ Frm.rf (fun x x0 x1 => by omega)
    · refine wp_aload_n (pc := 133) dX7_text_133 rfl rfl ?_
      refine wp_getR (pc := 134) (q := 72) dX7_text_134 fl_X7_7 rfl ?_
      refine wp_iload_n (pc := 137) dX7_text_137 rfl rfl ?_
      refine wp_aload_n (pc := 138) dX7_text_138 rfl rfl ?_
      refine wp_getR (pc := 139) (q := 73) dX7_text_139 fl_X7_13 rfl ?_
      refine wp_iload_n (pc := 142) dX7_text_142 rfl rfl ?_
      refine wp_iald (pc := 143) 591 dX7_text_143 rfl (by omega) ?_
      rw [t73]
      refine wp_iast (pc := 144) 591 dX7_text_144 rfl (by omega) ?_
      refine wp_iinc (pc := 145) dX7_text_145 rfl rfl (by omega) ?_
      refine wp_goto (pc := 148) 126 dX7_text_148 (by decide) ?_
      refine ih (by omega) (by omega) _ (hFt.up (by decide)) (fun x x0 x1 => ?_)
      by_cases e : x = c
      · rw [e, upd2_eq]
      · rw [upd2_k e]; exact hx x x0 (by omega)
  -- at the end of the text
  have w104g : ∀ (l : Int) (q : PS) (τ : Sto), R = (q, l) → PG n q → Frm [71, 73, 75, 81] σ τ → (∀ k, (k < 5 ∨ (5 < k ∧ k < 10) ∨ 15 < k) → τ 71 k = σ 71 k) → MG t n τ q (q.S 0 0) → Wp cX7_text RX7 (some .int) 6 104 [some (mR 71), some (mI l), none] [] τ (fun v σ' => ∃ z, v = some (mI z) ∧ (fun z σ' => Frm [71, 72, 73, 74, 75, 77, 81] σ σ' ∧ σ' 71 9 = 0 ∧ ((¬ R.1.f = 0 ∧ z = -10 - R.1.b ∧ σ' 71 10 = R.1.f ∧ RM σ' D S ∧ σ' 77 = σ 77) ∨ (R.1.f = 0 ∧ z = R.2 ∧ σ' 71 10 = 0 ∧ PR (σ' 72) R.1.D ∧ SR (σ' 74) R.1.S ∧ σ' 71 3 = R.1.S 0 0 ∧ σ' 77 0 = 0 ∧ σ' 77 1 = 0))) z σ') := by
    intro l q τ hRq hq hF hk hgq
    have q10 := hgq.2.2.1
    refine wp_aload_n (pc := 104) dX7_text_104 rfl rfl ?_
    refine wp_iconst (pc := 105) dX7_text_105 (by decide) ?_
    refine wp_putI (pc := 106) 9 dX7_text_106 fl_X7_77 ⟨rfl, rfl⟩ rfl rfl ?_
    refine wp_aload_n (pc := 109) dX7_text_109 rfl rfl ?_
    refine wp_getI (pc := 110) 10 dX7_text_110 fl_X7_81 rfl rfl ?_
    rw [upd2_k (r := 71) (k := 9) (k' := 10) (by decide)]
    refine wp_if_le (pc := 113) 124 dX7_text_113 (by decide) (fun c_113 => ?_) (fun c_113 => ?_)
    · refine wp_iconst (pc := 124) dX7_text_124 (by decide) ?_
      refine wp_istore_n (pc := 125) dX7_text_125 rfl (Nat.le_of_ble_eq_true rfl) rfl ?_
      refine w126 l q hRq hq _ (hF.up (by decide)) (fun k hk2 => by rw [upd2_k (by omega)]; exact hk k (by omega)) upd2_eq (by rw [upd2_k (by decide)]; exact q10) (by rw [upd2_k (by decide)]; exact hgq.1.2.2.2.2.2.2.2.2.1) ?_ ?_ 0 (by decide) (by decide) _ Frm.rf (fun x x0 x1 => by omega)
      · rw [show upd2 τ 71 9 0 73 = τ 73 from funext fun k => upd2_r (by decide)]; exact hgq.1.2.2.2.2.2.2.1
      · rw [show upd2 τ 71 9 0 75 = τ 75 from funext fun k => upd2_r (by decide)]; exact hgq.1.2.2.2.2.2.2.2.1
    · omega
  have w104b : ∀ (l : Int) (τ : Sto), ¬ R.1.f = 0 → Frm [71, 73, 75, 81] σ τ → (∀ k, (k < 5 ∨ (5 < k ∧ k < 10) ∨ 15 < k) → τ 71 k = σ 71 k) → MSb t n τ R.1 → Wp cX7_text RX7 (some .int) 6 104 [some (mR 71), some (mI l), none] [] τ (fun v σ' => ∃ z, v = some (mI z) ∧ (fun z σ' => Frm [71, 72, 73, 74, 75, 77, 81] σ σ' ∧ σ' 71 9 = 0 ∧ ((¬ R.1.f = 0 ∧ z = -10 - R.1.b ∧ σ' 71 10 = R.1.f ∧ RM σ' D S ∧ σ' 77 = σ 77) ∨ (R.1.f = 0 ∧ z = R.2 ∧ σ' 71 10 = 0 ∧ PR (σ' 72) R.1.D ∧ SR (σ' 74) R.1.S ∧ σ' 71 3 = R.1.S 0 0 ∧ σ' 77 0 = 0 ∧ σ' 77 1 = 0))) z σ') := by
    intro l τ hRf hF hk hbad
    obtain ⟨a, b, c⟩ := hbad
    have c2 : τ 71 10 = R.1.f ∧ τ 71 11 = R.1.b := by
      rcases c with c | c
      · exact c.2
      · exact absurd c.1 hRf
    refine wp_aload_n (pc := 104) dX7_text_104 rfl rfl ?_
    refine wp_iconst (pc := 105) dX7_text_105 (by decide) ?_
    refine wp_putI (pc := 106) 9 dX7_text_106 fl_X7_77 ⟨rfl, rfl⟩ rfl rfl ?_
    refine wp_aload_n (pc := 109) dX7_text_109 rfl rfl ?_
    refine wp_getI (pc := 110) 10 dX7_text_110 fl_X7_81 rfl rfl ?_
    rw [upd2_k (r := 71) (k := 9) (k' := 10) (by decide)]
    refine wp_if_le (pc := 113) 124 dX7_text_113 (by decide) (fun c_113 => ?_) (fun c_113 => ?_)
    · omega
    · refine wp_bipush (pc := 116) dX7_text_116 (by decide) (by decide) ?_
      refine wp_aload_n (pc := 118) dX7_text_118 rfl rfl ?_
      refine wp_getI (pc := 119) 11 dX7_text_119 fl_X7_87 rfl rfl ?_
      rw [upd2_k (r := 71) (k := 9) (k' := 11) (by decide)]
      refine wp_isub (pc := 122) dX7_text_122 (by omega) ?_
      refine wp_ireturn (pc := 123) dX7_text_123 rfl ?_
      refine ⟨_, rfl, (hF.up (by decide)).mono (by decide), upd2_eq, Or.inl ⟨hRf, by omega, by rw [upd2_k (by decide)]; exact c2.1, ?_, by funext k; rw [upd2_r (by decide), hF 77 (by decide)]⟩⟩
      exact h.kp (by funext k; rw [upd2_r (by decide), hF 72 (by decide)]) (by funext k; rw [upd2_r (by decide), hF 74 (by decide)]) (by rw [upd2_k (by decide)]; exact hk 3 (by decide))
  have w80b : ∀ (l : Int) (τ : Sto), ¬ R.1.f = 0 → Frm [71, 73, 75, 81] σ τ → (∀ k, (k < 5 ∨ (5 < k ∧ k < 10) ∨ 15 < k) → τ 71 k = σ 71 k) → MSb t n τ R.1 → Wp cX7_text RX7 (some .int) 6 80 [some (mR 71), some (mI l), none] [] τ (fun v σ' => ∃ z, v = some (mI z) ∧ (fun z σ' => Frm [71, 72, 73, 74, 75, 77, 81] σ σ' ∧ σ' 71 9 = 0 ∧ ((¬ R.1.f = 0 ∧ z = -10 - R.1.b ∧ σ' 71 10 = R.1.f ∧ RM σ' D S ∧ σ' 77 = σ 77) ∨ (R.1.f = 0 ∧ z = R.2 ∧ σ' 71 10 = 0 ∧ PR (σ' 72) R.1.D ∧ SR (σ' 74) R.1.S ∧ σ' 71 3 = R.1.S 0 0 ∧ σ' 77 0 = 0 ∧ σ' 77 1 = 0))) z σ') := by
    intro l τ hRf hF hk hbad
    have h10 := hbad.1
    refine wp_aload_n (pc := 80) dX7_text_80 rfl rfl ?_
    refine wp_getI (pc := 81) 10 dX7_text_81 fl_X7_81 rfl rfl ?_
    refine wp_if_ne (pc := 84) 104 dX7_text_84 (by decide) (fun c_84 => ?_) (fun c_84 => ?_)
    · exact w104b l τ hRf hF hk hbad
    · omega
  have lp : ∀ l, l ≤ 400 → 0 ≤ l → ∀ (τ : Sto) (q : PS), Frm [71, 73, 75, 81] σ τ → (∀ k, (k < 5 ∨ (5 < k ∧ k < 10) ∨ 15 < k) → τ 71 k = σ 71 k) → MG t n τ q (q.S 0 0) → PG n q → l ≤ q.x → R = pAll t n ((400 - l).toNat + 1) l q → Wp cX7_text RX7 (some .int) 6 80 [some (mR 71), some (mI l), none] [] τ (fun v σ' => ∃ z, v = some (mI z) ∧ (fun z σ' => Frm [71, 72, 73, 74, 75, 77, 81] σ σ' ∧ σ' 71 9 = 0 ∧ ((¬ R.1.f = 0 ∧ z = -10 - R.1.b ∧ σ' 71 10 = R.1.f ∧ RM σ' D S ∧ σ' 77 = σ 77) ∨ (R.1.f = 0 ∧ z = R.2 ∧ σ' 71 10 = 0 ∧ PR (σ' 72) R.1.D ∧ SR (σ' 74) R.1.S ∧ σ' 71 3 = R.1.S 0 0 ∧ σ' 77 0 = 0 ∧ σ' 77 1 = 0))) z σ') := by
    refine up_ind 400 (fun l hl ih l0 τ q hF hk hgq hq hlx he => ?_)
    have q10 := hgq.2.2.1
    have hts := tokS hgq
    have hx := hq.1
    have hend := fun z => tkK_end (t := t) (n := n) (x := q.x) z
    rw [pAll_s] at he
    refine wp_aload_n (pc := 80) dX7_text_80 rfl rfl ?_
    refine wp_getI (pc := 81) 10 dX7_text_81 fl_X7_81 rfl rfl ?_
    refine wp_if_ne (pc := 84) 104 dX7_text_84 (by decide) (fun c_84 => ?_) (fun c_84 => ?_)
    · first
        | (exfalso; omega)
        | (rw [if_pos (by omega)] at he
           exact w104g l q τ he hq hF hk hgq)
    · refine wp_aload_n (pc := 87) dX7_text_87 rfl rfl ?_
      refine wp_getI (pc := 88) 14 dX7_text_88 fl_X7_100 rfl rfl ?_
      refine wp_if_eq (pc := 91) 104 dX7_text_91 (by decide) (fun c_91 => ?_) (fun c_91 => ?_)
      · first
          | (exfalso; omega)
          | (rw [if_pos (by omega)] at he
             exact w104g l q τ he hq hF hk hgq)
      · refine wp_aload_n (pc := 94) dX7_text_94 rfl rfl ?_
        refine wp_cvV0 (pc := 95) dX7_text_95 mv_X7_165 (m_readsLine hgq hq rfl) (Nat.le_of_ble_eq_true rfl) rfl (Nat.le_of_ble_eq_true rfl) (fun σ_95 h_95 => ?_)
        obtain ⟨f95, m95⟩ := h_95
        refine wp_iinc (pc := 98) dX7_text_98 rfl rfl (by omega) ?_
        refine wp_goto (pc := 101) 80 dX7_text_101 (by decide) ?_
        have F95 := hF.tr f95.1
        have K95 : ∀ k, (k < 5 ∨ (5 < k ∧ k < 10) ∨ 15 < k) → σ_95 71 k = σ 71 k := fun k hk2 => (f95.2 k hk2).trans (hk k hk2)
        have hl4 : l < 400 := by omega
        rw [if_neg (by omega)] at he
        by_cases hf : (pLin t n q).f = 0
        · rw [if_neg (fun z => z hf), show (400 - l).toNat = (400 - (l + 1)).toNat + 1 by omega] at he
          obtain ⟨g1, g2⟩ := pLin_ok hq hf
          rcases m95 with m1 | m1
          · exact ih hl4 (by omega) σ_95 _ F95 K95 m1 g1 (by omega) he
          · have hk3 : tkK t n (pLin t n q).x = 0 := by
              rcases m1.2.2 with e | e
              · exact absurd hf e.1
              · exact e.2.1
            have e2 : pLin t n (pLin t n q) = (pLin t n q).bad t n 2 := by
              generalize pLin t n q = qq at *
              unfold pLin
              rw [if_pos (Or.inl (by omega))]
            rw [pAll_s, if_neg (by omega), e2, if_pos (bad_f (by decide))] at he
            refine w80b _ σ_95 ?_ F95 K95 ?_
            · rw [he]; exact bad_f (by decide)
            · rw [he]; exact m1.on hf
        · rw [if_pos hf] at he
          rcases m95 with m1 | m1
          · exact absurd m1.1.2.2.2.2.2.2.2.2.2.2 hf
          · refine w80b _ σ_95 ?_ F95 K95 ?_
            · rw [he]; exact hf
            · rw [he]; exact m1
  -- the beginning
  have w55 : ∀ (υ : Sto), Frm [71, 73] σ υ → (∀ k, (k < 5 ∨ (5 < k ∧ k < 10) ∨ 15 < k) → υ 71 k = σ 71 k) → υ 71 10 = 0 → υ 71 12 = 0 → υ 71 5 = 0 → (∀ x, 0 ≤ x → x < 591 → υ 73 x = if x < 585 then 0 else σ 72 x) → ∀ k, k ≤ 6 → 0 ≤ k → ∀ τ : Sto, Frm [81] υ τ → (∀ j, 0 ≤ j → j < k → τ 81 j = 0) → Wp cX7_text RX7 (some .int) 6 55 [some (mR 71), some (mI k), none] [] τ (fun v σ' => ∃ z, v = some (mI z) ∧ (fun z σ' => Frm [71, 72, 73, 74, 75, 77, 81] σ σ' ∧ σ' 71 9 = 0 ∧ ((¬ R.1.f = 0 ∧ z = -10 - R.1.b ∧ σ' 71 10 = R.1.f ∧ RM σ' D S ∧ σ' 77 = σ 77) ∨ (R.1.f = 0 ∧ z = R.2 ∧ σ' 71 10 = 0 ∧ PR (σ' 72) R.1.D ∧ SR (σ' 74) R.1.S ∧ σ' 71 3 = R.1.S 0 0 ∧ σ' 77 0 = 0 ∧ σ' 77 1 = 0))) z σ') := by
    intro υ hF hk u10 u12 u5 hd
    refine up_ind 6 (fun k hk6 ih k0 τ hFt hz => ?_)
    have t71 : τ 71 = υ 71 := hFt 71 (by decide)
    have hMB : k = 6 → MB t n τ s0 0 := fun e6 => by
      obtain ⟨z1, z2, z3, z4, z5, z6⟩ := h0
      have htot : tot s0.D = 0 := by unfold tot; rw [z4, sumI_0]
      refine ⟨hn, by rw [t71, hk 9 (by decide)]; exact h9, by rw [hFt 78 (by decide), hF 78 (by decide)]; exact ht, hb, by omega, fun w w0 w1 => ?_, ⟨?_, fun p p0 p1 => by omega, fun w w0 w1 => by omega, fun j j0 j1 => ?_⟩, fun g g0 g1 => by omega, by rw [t71]; exact u5, ?_, z2⟩
      · rw [hz w w0 (by omega), z3 w w0 w1]; exact ⟨rfl, Or.inl rfl⟩
      · rw [hFt 73 (by decide), hd 0 (by decide) (by decide), if_pos (by decide), z4]
      · rw [hFt 73 (by decide), hd _ (by omega) (by omega), if_neg (by omega), z5 j j0 j1]
        exact h.1.2.2.2 j j0 j1
      · unfold NT at *
        rw [hFt 79 (by decide), hFt 80 (by decide), hF 79 (by decide), hF 80 (by decide)]; exact hN
    refine wp_iload_n (pc := 55) dX7_text_55 rfl rfl ?_
    refine wp_bipush (pc := 56) dX7_text_56 (by decide) (by decide) ?_
    refine wp_icmp_ge (pc := 58) 74 dX7_text_58 (by decide) (fun c_58 => ?_) (fun c_58 => ?_)
    · refine wp_iconst (pc := 74) dX7_text_74 (by decide) ?_
      refine wp_istore_n (pc := 75) dX7_text_75 rfl (Nat.le_of_ble_eq_true rfl) rfl ?_
      refine wp_aload_n (pc := 76) dX7_text_76 rfl rfl ?_
      have hMB2 := hMB (by omega)
      refine wp_cvV0 (pc := 77) dX7_text_77 mv_X7_115 (m_readsU (t := t) (n := n) (cnt := 0) (q := s0) (by rw [t71]; omega) (fun _ => ⟨hMB2, by rw [t71, u12, h0.1]⟩)) (Nat.le_of_ble_eq_true rfl) rfl (Nat.le_of_ble_eq_true rfl) (fun σ_77 h_77 => ?_)
      obtain ⟨f77, q77⟩ := h_77
      have m77 : MS t n σ_77 s0 0 := by
        rcases q77 with c | c
        · exact c.2
        · rw [t71] at c; omega
      have F77 : Frm [71, 73, 75, 81] σ σ_77 := ((hF.mono (by decide)).tr (hFt.mono (by decide))).tr (f77.1.mono (by decide))
      have K77 : ∀ k, (k < 5 ∨ (5 < k ∧ k < 10) ∨ 15 < k) → σ_77 71 k = σ 71 k := fun k hk2 => by rw [f77.2 k (by omega), t71]; exact hk k hk2
      rcases m77 with m1 | m1
      · exact lp 0 (by decide) (by decide) σ_77 s0 F77 K77 (by rw [h0.2.2.2.2.2]; exact m1) hpg0 (by rw [h0.1]; exact Int.le_refl _) hR
      · have hk3 : tkK t n s0.x = 0 := by
          rcases m1.2.2 with e | e
          · exact absurd h0.2.1 e.1
          · exact e.2.1
        have e2 : pLin t n s0 = s0.bad t n 2 := by unfold pLin; rw [if_pos (Or.inl (by omega))]
        have he : R = (s0.bad t n 2, 0) := by rw [hR, pAll_s, if_neg (by omega), e2, if_pos (bad_f (by decide))]
        refine w80b _ σ_77 ?_ F77 K77 ?_
        · rw [he]; exact bad_f (by decide)
        · rw [he]; exact m1.on h0.2.1
    · refine wp_aload_n (pc := 61) dX7_text_61 rfl rfl ?_
      refine wp_getR (pc := 62) (q := 81) dX7_text_62 fl_X7_38 rfl ?_
      refine wp_iload_n (pc := 65) dX7_text_65 rfl rfl ?_
      refine wp_iconst (pc := 66) dX7_text_66 (by decide) ?_
      refine wp_zast (pc := 67) 6 dX7_text_67 rfl (by omega) (by omega) ?_
      refine wp_iinc (pc := 68) dX7_text_68 rfl rfl (by omega) ?_
      refine wp_goto (pc := 71) 55 dX7_text_71 (by decide) ?_
      refine ih (by omega) (by omega) _ (hFt.up (by decide)) (fun j j0 j1 => ?_)
      by_cases e : j = k
      · rw [e, upd2_eq]
      · rw [upd2_k e]; exact hz j j0 (by omega)
  have w17 : ∀ c, c ≤ 591 → 0 ≤ c → ∀ τ : Sto, Frm [71, 73] σ τ → (∀ k, (k < 5 ∨ (5 < k ∧ k < 10) ∨ 15 < k) → τ 71 k = σ 71 k) → τ 71 10 = 0 → τ 71 12 = 0 → τ 71 5 = 0 → (∀ x, 0 ≤ x → x < c → τ 73 x = if x < 585 then 0 else σ 72 x) → Wp cX7_text RX7 (some .int) 6 17 [some (mR 71), some (mI c), none] [] τ (fun v σ' => ∃ z, v = some (mI z) ∧ (fun z σ' => Frm [71, 72, 73, 74, 75, 77, 81] σ σ' ∧ σ' 71 9 = 0 ∧ ((¬ R.1.f = 0 ∧ z = -10 - R.1.b ∧ σ' 71 10 = R.1.f ∧ RM σ' D S ∧ σ' 77 = σ 77) ∨ (R.1.f = 0 ∧ z = R.2 ∧ σ' 71 10 = 0 ∧ PR (σ' 72) R.1.D ∧ SR (σ' 74) R.1.S ∧ σ' 71 3 = R.1.S 0 0 ∧ σ' 77 0 = 0 ∧ σ' 77 1 = 0))) z σ') := by
    refine up_ind 591 (fun c hc ih c0 τ hF hk t10 t12 t5 hd => ?_)
    have w46 : ∀ v : Int, c < 591 → v = (if c < 585 then 0 else σ 72 c) → Wp cX7_text RX7 (some .int) 6 46 [some (mR 71), some (mI c), none] [mI v, mI c, mR 73] τ (fun v σ' => ∃ z, v = some (mI z) ∧ (fun z σ' => Frm [71, 72, 73, 74, 75, 77, 81] σ σ' ∧ σ' 71 9 = 0 ∧ ((¬ R.1.f = 0 ∧ z = -10 - R.1.b ∧ σ' 71 10 = R.1.f ∧ RM σ' D S ∧ σ' 77 = σ 77) ∨ (R.1.f = 0 ∧ z = R.2 ∧ σ' 71 10 = 0 ∧ PR (σ' 72) R.1.D ∧ SR (σ' 74) R.1.S ∧ σ' 71 3 = R.1.S 0 0 ∧ σ' 77 0 = 0 ∧ σ' 77 1 = 0))) z σ') := by
      intro v hc9 hv
      refine wp_iast (pc := 46) 591 dX7_text_46 rfl (by omega) ?_
      refine wp_iinc (pc := 47) dX7_text_47 rfl rfl (by omega) ?_
      refine wp_goto (pc := 50) 17 dX7_text_50 (by decide) ?_
      refine ih hc9 (by omega) _ (hF.up (by decide)) (fun k hk2 => by rw [upd2_r (by decide)]; exact hk k hk2) (by rw [upd2_r (by decide)]; exact t10) (by rw [upd2_r (by decide)]; exact t12) (by rw [upd2_r (by decide)]; exact t5) (fun x x0 x1 => ?_)
      by_cases e : x = c
      · rw [e, upd2_eq]; exact hv
      · rw [upd2_k e]; exact hd x x0 (by omega)
    refine wp_iload_n (pc := 17) dX7_text_17 rfl rfl ?_
    refine wp_sipush (pc := 18) dX7_text_18 (by decide) (by decide) ?_
    refine wp_icmp_ge (pc := 21) 53 dX7_text_21 (by decide) (fun c_21 => ?_) (fun c_21 => ?_)
    · refine wp_iconst (pc := 53) dX7_text_53 (by decide) ?_
      refine wp_istore_n (pc := 54) dX7_text_54 rfl (Nat.le_of_ble_eq_true rfl) rfl ?_
      exact w55 τ hF hk t10 t12 t5 (fun x x0 x1 => hd x x0 (by omega)) 0 (by decide) (by decide) τ Frm.rf (fun j j0 j1 => by omega)
    · refine wp_aload_n (pc := 24) dX7_text_24 rfl rfl ?_
      refine wp_getR (pc := 25) (q := 73) dX7_text_25 fl_X7_13 rfl ?_
      refine wp_iload_n (pc := 28) dX7_text_28 rfl rfl ?_
      refine wp_iload_n (pc := 29) dX7_text_29 rfl rfl ?_
      refine wp_sipush (pc := 30) dX7_text_30 (by decide) (by decide) ?_
      refine wp_icmp_ge (pc := 33) 40 dX7_text_33 (by decide) (fun c_33 => ?_) (fun c_33 => ?_)
      · refine wp_aload_n (pc := 40) dX7_text_40 rfl rfl ?_
        refine wp_getR (pc := 41) (q := 72) dX7_text_41 fl_X7_7 rfl ?_
        refine wp_iload_n (pc := 44) dX7_text_44 rfl rfl ?_
        refine wp_iald (pc := 45) 591 dX7_text_45 rfl (by omega) ?_
        first
          | exact w46 _ (by omega) (by rw [if_pos (by omega)])
          | exact w46 _ (by omega) (by rw [if_neg (by omega), hF 72 (by decide)])
      · refine wp_iconst (pc := 36) dX7_text_36 (by decide) ?_
        refine wp_goto (pc := 37) 46 dX7_text_37 (by decide) ?_
        first
          | exact w46 _ (by omega) (by rw [if_pos (by omega)])
          | exact w46 _ (by omega) (by rw [if_neg (by omega), hF 72 (by decide)])
  refine wp_aload_n (pc := 0) dX7_text_0 rfl rfl ?_
  refine wp_iconst (pc := 1) dX7_text_1 (by decide) ?_
  refine wp_putI (pc := 2) 10 dX7_text_2 fl_X7_81 ⟨rfl, rfl⟩ rfl rfl ?_
  refine wp_aload_n (pc := 5) dX7_text_5 rfl rfl ?_
  refine wp_iconst (pc := 6) dX7_text_6 (by decide) ?_
  refine wp_putI (pc := 7) 12 dX7_text_7 fl_X7_90 ⟨rfl, rfl⟩ rfl rfl ?_
  refine wp_aload_n (pc := 10) dX7_text_10 rfl rfl ?_
  refine wp_iconst (pc := 11) dX7_text_11 (by decide) ?_
  refine wp_putI (pc := 12) 5 dX7_text_12 fl_X7_131 ⟨rfl, rfl⟩ rfl rfl ?_
  refine wp_iconst (pc := 15) dX7_text_15 (by decide) ?_
  refine wp_istore_n (pc := 16) dX7_text_16 rfl (Nat.le_of_ble_eq_true rfl) rfl ?_
  refine w17 0 (by decide) (by decide) _ (((Frm.rf.up (by decide)).up (by decide)).up (by decide)) (fun k hk => by rw [upd2_k (by omega), upd2_k (by omega), upd2_k (by omega)]) ?_ ?_ upd2_eq (fun x x0 x1 => by omega)
  · rw [upd2_k (by decide), upd2_k (by decide), upd2_eq]
  · rw [upd2_k (by decide), upd2_eq]
