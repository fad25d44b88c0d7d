set_option maxHeartbeats 4000000 in
set_option maxRecDepth 100000 in
theorem c_layPar_49 {τ D S : Sto} {p : Int} (hDe : DC τ = D) (hSe : SC τ = S) (hD : OKD D S) (hS : OKS S) (ht : τ 14 1 = tot D) (hp : 0 ≤ p ∧ p < τ 14 0) (hR : RK τ 50 52 D S (p + 1)) (hL : τ 49 3 = LB D S p) (hw : ∀ w, 0 ≤ w → w < tot D → τ 44 w = wid (τ 15 w)) : CtV yX2_layPar cX2_layPar 7 none 2 [mR 49, mI p] τ (fun σ' => Frm [43, 45, 46, 47, 48, 49, 53, 54, 55, 56, 57, 58, 59] τ σ' ∧ σ' 49 3 = LE D S p ∧ LPf σ' 53 54 55 56 57 58 59 D S p ∧ ∀ x, x < LB D S p → σ' 53 x = τ 53 x ∧ σ' 54 x = τ 54 x ∧ σ' 55 x = τ 55 x ∧ σ' 56 x = τ 56 x ∧ σ' 57 x = τ 57 x ∧ σ' 58 x = τ 58 x ∧ σ' 59 x = τ 59 x) := by
  refine ct_of rfl [some (mR 49), some (mI p), none, none, none, none, none] (Nat.le_of_ble_eq_true rfl) rfl (fun hσ => ?_)
  show Wp cX2_layPar RX2 none 2 0 [some (mR 49), some (mI p), none, none, none, none, none] [] _ _
  have hB : PgB τ := by subst hDe; subst hSe; exact PgB_of hD ht
  have h8 : τ 14 0 ≤ 8 := by rw [← hDe] at hD; exact hD.1.2
  have h20 : 20 ≤ τ 19 0 ∧ τ 19 0 ≤ 99 := by rw [← hDe] at hD; exact hD.2.2.2.2.2.1
  have hD00 : D 0 0 = τ 14 0 := by rw [← hDe]; rfl
  have hD1 : D 1 p = τ 16 p := by rw [← hDe]; rfl
  have hb1 := LBb hD (p := p) hp.1 (by omega)
  have hsz : 1 ≤ τ 16 p := by rw [← hD1]; exact hD.2.1 p hp.1 (by omega)
  have hf0 := fst_bd hD (p := p) hp.1 (by omega)
  have hf1 := fst_bd hD (p := p + 1) (by omega) (by omega)
  have hf2 : fstS D (p + 1) = fstS D p + τ 16 p := by rw [← hD1]; exact fst_s D hp.1
  have h80 := hD.2.2.1
  have hw2 : ∀ i, 0 ≤ i → i < τ 16 p → τ 44 (fstS D p + i) = wdS D p i := fun i i0 i1 => by rw [hw _ (by omega) (by omega), ← hDe]; rfl
  obtain ⟨hG, hm1, hm2⟩ := LG_ok D S (p := p) (by omega)
  rw [hD1] at hm2
  obtain ⟨hc1, hc2, hc3⟩ := LC_ok hD hS (p := p) hp.1 (by omega)
  have hE := LE_eq D S (p := p) hp.1
  have hrm : ∀ t, 0 ≤ rmS D S p t ∧ rmS D S p t ≤ 99 := fun t => roomS_bd hD hS _ _ hp.1 (by omega)
  -- the lines
  have lp4 : ∀ t, t ≤ LM D S p → 0 ≤ t → ∀ υ : Sto, Frm [43, 45, 46, 47, 48, 49, 53, 54, 55, 56, 57, 58, 59] τ υ → υ 49 3 = LB D S p + t → (∀ k, 0 ≤ k → k < LM D S p → υ 46 k = LC D S p k ∧ υ 56 (LB D S p + k) = indS D S (LB D S) p (LB D S p + k) ∧ υ 57 (LB D S p + k) = rmS D S p k) → (∀ k, 0 ≤ k → k < t → υ 53 (LB D S p + k) = p ∧ υ 54 (LB D S p + k) = sumI (LC D S p) k ∧ υ 55 (LB D S p + k) = LC D S p k ∧ υ 58 (LB D S p + k) = us (wdS D p) (sumI (LC D S p) k) (LC D S p k) ∧ υ 59 (LB D S p + k) = clsS D S (LB D S) p (LB D S p + k)) → (∀ x, x < LB D S p → υ 53 x = τ 53 x ∧ υ 54 x = τ 54 x ∧ υ 55 x = τ 55 x ∧ υ 56 x = τ 56 x ∧ υ 57 x = τ 57 x ∧ υ 58 x = τ 58 x ∧ υ 59 x = τ 59 x) → Wp cX2_layPar RX2 none 2 152 [some (mR 49), some (mI p), some (mI (fstS D p)), some (mI (τ 16 p)), some (mI (LM D S p)), some (mI (sumI (LC D S p) t)), some (mI t)] [] υ (fun v σ' => v = none ∧ (fun σ' => Frm [43, 45, 46, 47, 48, 49, 53, 54, 55, 56, 57, 58, 59] τ σ' ∧ σ' 49 3 = LE D S p ∧ LPf σ' 53 54 55 56 57 58 59 D S p ∧ ∀ x, x < LB D S p → σ' 53 x = τ 53 x ∧ σ' 54 x = τ 54 x ∧ σ' 55 x = τ 55 x ∧ σ' 56 x = τ 56 x ∧ σ' 57 x = τ 57 x ∧ σ' 58 x = τ 58 x ∧ σ' 59 x = τ 59 x) σ') := by
    refine up_ind (LM D S p) (fun t hmt ih t0 υ hF eL hk hd ho => ?_)
    have hct := hc3 t t0 hmt
    refine wp_iload (pc := 152) dX2_layPar_152 rfl ?_
    refine wp_iload (pc := 154) dX2_layPar_154 rfl ?_
    refine wp_icmp_ge (pc := 156) 211 dX2_layPar_156 (by decide) (fun c_156 => ?_) (fun c_156 => ?_)
    · refine wp_return (pc := 211) dX2_layPar_211 rfl ?_
      have et : t = LM D S p := by omega
      subst et
      refine ⟨rfl, hF, by omega, fun k k0 k1 => ?_, ho⟩
      have h1 := hk k k0 k1
      have h2 := hd k k0 k1
      exact ⟨h2.1, h2.2.1, h2.2.2.1, h1.2.1, h1.2.2, h2.2.2.2.1, h2.2.2.2.2⟩
    · refine wp_aload_n (pc := 159) dX2_layPar_159 rfl rfl ?_
      refine wp_getI (pc := 160) 3 dX2_layPar_160 fl_X2_55 rfl rfl ?_
      rw [eL]
      refine wp_sipush (pc := 163) dX2_layPar_163 (by decide) (by decide) ?_
      refine wp_icmp_ge (pc := 166) 211 dX2_layPar_166 (by decide) (fun c_166 => ?_) (fun c_166 => ?_)
      · omega
      · have hkt := hk t t0 (by omega)
        have hct1 := hc3 (t + 1) (by omega) (by omega)
        have hst := sumI_s (f := LC D S p) t0
        have hcp := hc1 t t0 (by omega)
        have hsz16 : D 1 p ≤ τ 16 p := by rw [← hDe]; exact Int.le_refl _
        refine wp_aload_n (pc := 169) dX2_layPar_169 rfl rfl ?_
        refine wp_iload_n (pc := 170) dX2_layPar_170 rfl rfl ?_
        refine wp_iload (pc := 171) dX2_layPar_171 rfl ?_
        refine wp_aload_n (pc := 173) dX2_layPar_173 rfl rfl ?_
        refine wp_getR (pc := 174) (q := 43) dX2_layPar_174 fl_X2_51 rfl ?_
        refine wp_getR (pc := 177) (q := 46) dX2_layPar_177 fl_X2_124 rfl ?_
        refine wp_iload (pc := 180) dX2_layPar_180 rfl ?_
        refine wp_iald (pc := 182) 80 dX2_layPar_182 rfl (by omega) ?_
        rw [hkt.1]
        refine wp_iload_n (pc := 183) dX2_layPar_183 rfl rfl ?_
        refine wp_iload (pc := 184) dX2_layPar_184 rfl ?_
        refine wp_iadd (pc := 186) dX2_layPar_186 (by omega) ?_
        refine wp_cvV4 (pc := 187) dX2_layPar_187 mv_X2_127 (c_addLine_49 (D := D) (S := S) (n := LB D S p + t) hD hS (by omega) (fun q q0 q1 => by have := hR q q0 (by omega); rw [hF 50 (by decide), hF 52 (by decide)]; exact this) eL.symm (by omega) (by omega) (fun k k0 k1 => by rw [hF 44 (by decide), show fstS D p + sumI (LC D S p) t + k = fstS D p + (sumI (LC D S p) t + k) by omega, hw2 _ (by omega) (by omega)]; exact wdS_bd D p _) (by rw [hF 19 (by decide), ← hDe]; rfl)) (Nat.le_of_ble_eq_true rfl) rfl (Nat.le_of_ble_eq_true rfl) (fun σ_187 h_187 => ?_)
        have e46 : σ_187 46 = υ 46 := by rw [h_187]; rw [upd2_out (by decide), upd2_out (by decide), upd2_out (by decide), upd2_out (by decide), upd2_out (by decide), upd2_out (by decide)]
        refine wp_iload (pc := 190) dX2_layPar_190 rfl ?_
        refine wp_aload_n (pc := 192) dX2_layPar_192 rfl rfl ?_
        refine wp_getR (pc := 193) (q := 43) dX2_layPar_193 fl_X2_51 rfl ?_
        refine wp_getR (pc := 196) (q := 46) dX2_layPar_196 fl_X2_124 rfl ?_
        refine wp_iload (pc := 199) dX2_layPar_199 rfl ?_
        refine wp_iald (pc := 201) 80 dX2_layPar_201 rfl (by omega) ?_
        rw [e46, hkt.1]
        refine wp_iadd (pc := 202) dX2_layPar_202 (by omega) ?_
        refine wp_istore (pc := 203) dX2_layPar_203 (Nat.le_of_ble_eq_true rfl) rfl ?_
        refine wp_iinc (pc := 205) dX2_layPar_205 rfl rfl (by omega) ?_
        refine wp_goto (pc := 208) 152 dX2_layPar_208 (by decide) ?_
        have eu : us (υ 44) (fstS D p + sumI (LC D S p) t) (LC D S p t) = us (wdS D p) (sumI (LC D S p) t) (LC D S p t) := by
          unfold us
          rw [hF 44 (by decide), sumI_cong (g := fun k => wdS D p (sumI (LC D S p) t + k)) (fun k k0 k1 => by rw [show fstS D p + sumI (LC D S p) t + k = fstS D p + (sumI (LC D S p) t + k) by omega]; exact hw2 _ (by omega) (by omega))]
        have ih2 := ih (by omega) (by omega) σ_187 (by rw [h_187]; exact (((((hF.up (by decide)).up (by decide)).up (by decide)).up (by decide)).up (by decide)).up (by decide)) (by rw [h_187, upd2_eq]; omega) (fun k k0 k1 => ?_) (fun k k0 k1 => ?_) (fun x hx => ?_)
        · rw [hst] at ih2
          exact ih2
        · have := hk k k0 k1
          rw [h_187]
          simp [upd2, this]
        · rw [h_187, eu]
          by_cases e : k = t
          · subst e
            simp [upd2]
          · have := hd k k0 (by omega)
            have hne : ¬ LB D S p + k = LB D S p + t := by omega
            simp [upd2, e, this]
        · have := ho x hx
          have hne : ¬ x = LB D S p + t := by omega
          rw [h_187]
          simp [upd2, hne, this]
  have h146 : ∀ υ : Sto, Frm [43, 45, 46, 47, 48, 56, 57] τ υ → (∀ k, 0 ≤ k → k < LM D S p → υ 46 k = LC D S p k ∧ υ 56 (LB D S p + k) = indS D S (LB D S) p (LB D S p + k) ∧ υ 57 (LB D S p + k) = rmS D S p k) → (∀ x, x < LB D S p → υ 56 x = τ 56 x ∧ υ 57 x = τ 57 x) → ∀ l5 l6 : Option MV, noL [some (mR 49), some (mI p), some (mI (fstS D p)), some (mI (τ 16 p)), some (mI (LM D S p)), l5, l6] 6 = true → Wp cX2_layPar RX2 none 2 146 [some (mR 49), some (mI p), some (mI (fstS D p)), some (mI (τ 16 p)), some (mI (LM D S p)), l5, l6] [] υ (fun v σ' => v = none ∧ (fun σ' => Frm [43, 45, 46, 47, 48, 49, 53, 54, 55, 56, 57, 58, 59] τ σ' ∧ σ' 49 3 = LE D S p ∧ LPf σ' 53 54 55 56 57 58 59 D S p ∧ ∀ x, x < LB D S p → σ' 53 x = τ 53 x ∧ σ' 54 x = τ 54 x ∧ σ' 55 x = τ 55 x ∧ σ' 56 x = τ 56 x ∧ σ' 57 x = τ 57 x ∧ σ' 58 x = τ 58 x ∧ σ' 59 x = τ 59 x) σ') := by
    intro υ hF hk ho l5 l6 hn
    refine wp_iconst (pc := 146) dX2_layPar_146 (by decide) ?_
    refine wp_istore (pc := 147) dX2_layPar_147 (Nat.le_of_ble_eq_true rfl) rfl ?_
    refine wp_iconst (pc := 149) dX2_layPar_149 (by decide) ?_
    refine wp_istore (pc := 150) dX2_layPar_150 (Nat.le_of_ble_eq_true rfl) rfl ?_
    exact lp4 0 (by omega) (by omega) υ (hF.mono (by decide)) (by rw [hF 49 (by decide), hL]; omega) hk (fun k k0 k1 => absurd k1 (by omega)) (fun x hx => ⟨by rw [hF 53 (by decide)], by rw [hF 54 (by decide)], by rw [hF 55 (by decide)], (ho x hx).1, (ho x hx).2, by rw [hF 58 (by decide)], by rw [hF 59 (by decide)]⟩)
  have h115 : ∀ υ : Sto, Frm [45, 56, 57] τ υ → (∀ k, 0 ≤ k → k < τ 16 p → υ 56 (LB D S p + k) = indS D S (LB D S) p (LB D S p + k) ∧ υ 57 (LB D S p + k) = rmS D S p k ∧ υ 45 k = rmS D S p k) → (∀ x, x < LB D S p → υ 56 x = τ 56 x ∧ υ 57 x = τ 57 x) → ∀ (x4 : Int) (l5 l6 : Option MV), noL [some (mR 49), some (mI p), some (mI (fstS D p)), some (mI (τ 16 p)), some (mI x4), l5, l6] 6 = true → Wp cX2_layPar RX2 none 2 115 [some (mR 49), some (mI p), some (mI (fstS D p)), some (mI (τ 16 p)), some (mI x4), l5, l6] [] υ (fun v σ' => v = none ∧ (fun σ' => Frm [43, 45, 46, 47, 48, 49, 53, 54, 55, 56, 57, 58, 59] τ σ' ∧ σ' 49 3 = LE D S p ∧ LPf σ' 53 54 55 56 57 58 59 D S p ∧ ∀ x, x < LB D S p → σ' 53 x = τ 53 x ∧ σ' 54 x = τ 54 x ∧ σ' 55 x = τ 55 x ∧ σ' 56 x = τ 56 x ∧ σ' 57 x = τ 57 x ∧ σ' 58 x = τ 58 x ∧ σ' 59 x = τ 59 x) σ') := by
    intro υ hF hk ho x4 l5 l6 hn
    refine wp_aload_n (pc := 115) dX2_layPar_115 rfl rfl ?_
    refine wp_getR (pc := 116) (q := 43) dX2_layPar_116 fl_X2_51 rfl ?_
    refine wp_iload_n (pc := 119) dX2_layPar_119 rfl rfl ?_
    refine wp_iload_n (pc := 120) dX2_layPar_120 rfl rfl ?_
    refine wp_cvI2 (pc := 121) dX2_layPar_121 mv_X2_118 (c_breakFirst (by omega) (fun i i0 i1 => by rw [hF 44 (by decide), hw2 i i0 i1]; exact wdS_bd D p i)) (Nat.le_of_ble_eq_true rfl) rfl (Nat.le_of_ble_eq_true rfl) (fun z_121 σ_121 h_121 => ?_)
    obtain ⟨f121, a5, a6, a7, g121, b1, b2, b3⟩ := h_121
    have hG2 : Grd (wdS D p) (rmS D S p) (τ 16 p) (sumI (σ_121 46)) z_121 := Grd_cong (fun i i0 i1 => by rw [hF 44 (by decide)]; exact hw2 i i0 i1) (fun t t0 t1 => (hk t t0 (by omega)).2.2) g121
    have hG3 : Grd (wdS D p) (rmS D S p) (D 1 p) (sumI (σ_121 46)) z_121 := by rw [show D 1 p = τ 16 p by rw [← hDe]; rfl]; exact hG2
    have hgp := gPr_eq (fun k _ _ => (wdS_bd D p k).1) hG3
    have ez : z_121 = LM D S p := hgp.1.symm
    subst ez
    have f2 : Frm [43, 45, 46, 56, 57] τ σ_121 := (hF.mono (by decide)).tr (f121.mono (by decide))
    have hk2 : ∀ k, 0 ≤ k → k < LM D S p → σ_121 56 (LB D S p + k) = indS D S (LB D S) p (LB D S p + k) ∧ σ_121 57 (LB D S p + k) = rmS D S p k := fun k k0 k1 => by rw [f121 56 (by decide), f121 57 (by decide)]; exact ⟨(hk k k0 (by omega)).1, (hk k k0 (by omega)).2.1⟩
    have ho2 : ∀ x, x < LB D S p → σ_121 56 x = τ 56 x ∧ σ_121 57 x = τ 57 x := fun x hx => by rw [f121 56 (by decide), f121 57 (by decide)]; exact ho x hx
    refine wp_istore (pc := 124) dX2_layPar_124 (Nat.le_of_ble_eq_true rfl) rfl ?_
    refine wp_aload_n (pc := 126) dX2_layPar_126 rfl rfl ?_
    refine wp_getR (pc := 127) (q := 14) dX2_layPar_127 fl_X2_43 rfl ?_
    refine wp_getR (pc := 130) (q := 19) dX2_layPar_130 fl_X2_80 rfl ?_
    refine wp_iconst (pc := 133) dX2_layPar_133 (by decide) ?_
    refine wp_iald (pc := 134) 6 dX2_layPar_134 rfl (by omega) ?_
    rw [f2 19 (by decide)]
    refine wp_iconst (pc := 135) dX2_layPar_135 (by decide) ?_
    refine wp_icmp_ne (pc := 136) 146 dX2_layPar_136 (by decide) (fun c_136 => ?_) (fun c_136 => ?_)
    · first
        | exact h146 σ_143 ((f2.mono (by decide)).tr (f143.mono (by decide))) (fun k k0 k1 => ⟨by rw [k143 k k0 k1]; unfold LC; rw [if_pos (show D 5 4 = 1 by rw [← hDe]; show τ 19 4 = 1; omega), show D 1 p = τ 16 p by rw [← hDe]; rfl], by rw [f143 56 (by decide)]; exact (hk2 k k0 k1).1, by rw [f143 57 (by decide)]; exact (hk2 k k0 k1).2⟩) (fun x hx => by rw [f143 56 (by decide), f143 57 (by decide)]; exact ho2 x hx) _ _ hn
        | exact h146 σ_121 (f2.mono (by decide)) (fun k k0 k1 => ⟨by unfold LC; rw [if_neg (show ¬ D 5 4 = 1 by rw [← hDe]; show ¬ τ 19 4 = 1; omega), hgp.2 (k + 1) (by omega) (by omega), hgp.2 k k0 (by omega), sumI_s k0]; omega, (hk2 k k0 k1).1, (hk2 k k0 k1).2⟩) ho2 _ _ hn
    · refine wp_aload_n (pc := 139) dX2_layPar_139 rfl rfl ?_
      refine wp_getR (pc := 140) (q := 43) dX2_layPar_140 fl_X2_51 rfl ?_
      refine wp_cvV0 (pc := 143) dX2_layPar_143 mv_X2_121 (c_breakEvenly (f := fstS D p) (n := τ 16 p) (m := LM D S p) (sp := τ 16 p - LM D S p + 1) (wd := wdS D p) (rm := rmS D S p) a5 a6 a7 (by omega) rfl (fun i i0 i1 => by rw [f2 44 (by decide)]; exact (hw2 i i0 i1).symm) (fun t t0 t1 => by rw [f121 45 (by decide)]; exact (hk t t0 (by omega)).2.2.symm) (fun i i0 i1 => wdS_bd D p i) hrm hG2 b3) (Nat.le_of_ble_eq_true rfl) rfl (Nat.le_of_ble_eq_true rfl) (fun σ_143 h_143 => ?_)
      obtain ⟨f143, k143⟩ := h_143
      first
        | exact h146 σ_143 ((f2.mono (by decide)).tr (f143.mono (by decide))) (fun k k0 k1 => ⟨by rw [k143 k k0 k1]; unfold LC; rw [if_pos (show D 5 4 = 1 by rw [← hDe]; show τ 19 4 = 1; omega), show D 1 p = τ 16 p by rw [← hDe]; rfl], by rw [f143 56 (by decide)]; exact (hk2 k k0 k1).1, by rw [f143 57 (by decide)]; exact (hk2 k k0 k1).2⟩) (fun x hx => by rw [f143 56 (by decide), f143 57 (by decide)]; exact ho2 x hx) _ _ hn
        | exact h146 σ_121 (f2.mono (by decide)) (fun k k0 k1 => ⟨by unfold LC; rw [if_neg (show ¬ D 5 4 = 1 by rw [← hDe]; show ¬ τ 19 4 = 1; omega), hgp.2 (k + 1) (by omega) (by omega), hgp.2 k k0 (by omega), sumI_s k0]; omega, (hk2 k k0 k1).1, (hk2 k k0 k1).2⟩) ho2 _ _ hn
  have lp1 : ∀ t, t ≤ τ 16 p → 0 ≤ t → ∀ (υ : Sto) (l5 l6 : Option MV), (noL [some (mR 49), some (mI p), some (mI (fstS D p)), some (mI (τ 16 p)), some (mI t), l5, l6] 6 = true) → Frm [45, 56, 57] τ υ → (∀ k, 0 ≤ k → k < t → υ 56 (LB D S p + k) = indS D S (LB D S) p (LB D S p + k) ∧ υ 57 (LB D S p + k) = rmS D S p k ∧ υ 45 k = rmS D S p k) → (∀ x, x < LB D S p → υ 56 x = τ 56 x ∧ υ 57 x = τ 57 x) → Wp cX2_layPar RX2 none 2 22 [some (mR 49), some (mI p), some (mI (fstS D p)), some (mI (τ 16 p)), some (mI t), l5, l6] [] υ (fun v σ' => v = none ∧ (fun σ' => Frm [43, 45, 46, 47, 48, 49, 53, 54, 55, 56, 57, 58, 59] τ σ' ∧ σ' 49 3 = LE D S p ∧ LPf σ' 53 54 55 56 57 58 59 D S p ∧ ∀ x, x < LB D S p → σ' 53 x = τ 53 x ∧ σ' 54 x = τ 54 x ∧ σ' 55 x = τ 55 x ∧ σ' 56 x = τ 56 x ∧ σ' 57 x = τ 57 x ∧ σ' 58 x = τ 58 x ∧ σ' 59 x = τ 59 x) σ') := by
    refine up_ind (τ 16 p) (fun t hmt ih t0 υ l5 l6 hn hF hk ho => ?_)
    have eDC : DC υ = D := by rw [← hDe]; exact (DC_frm hF (by decide)).1
    have e19 : υ 19 = τ 19 := hF 19 (by decide)
    have eL : υ 49 = τ 49 := hF 49 (by decide)
    refine wp_iload (pc := 22) dX2_layPar_22 rfl ?_
    refine wp_iload_n (pc := 24) dX2_layPar_24 rfl rfl ?_
    refine wp_icmp_ge (pc := 25) 115 dX2_layPar_25 (by decide) (fun c_25 => ?_) (fun c_25 => ?_)
    · exact h115 υ hF (fun k k0 k1 => hk k k0 (by omega)) ho _ _ _ hn
    · refine wp_aload_n (pc := 28) dX2_layPar_28 rfl rfl ?_
      refine wp_getI (pc := 29) 3 dX2_layPar_29 fl_X2_55 rfl rfl ?_
      rw [eL, hL]
      refine wp_iload (pc := 32) dX2_layPar_32 rfl ?_
      refine wp_iadd (pc := 34) dX2_layPar_34 (by omega) ?_
      refine wp_sipush (pc := 35) dX2_layPar_35 (by decide) (by decide) ?_
      refine wp_icmp_ge (pc := 38) 115 dX2_layPar_38 (by decide) (fun c_38 => ?_) (fun c_38 => ?_)
      · omega
      · refine wp_aload_n (pc := 41) dX2_layPar_41 rfl rfl ?_
        refine wp_getI (pc := 42) 3 dX2_layPar_42 fl_X2_55 rfl rfl ?_
        rw [eL, hL]
        refine wp_iload (pc := 45) dX2_layPar_45 rfl ?_
        refine wp_iadd (pc := 47) dX2_layPar_47 (by omega) ?_
        refine wp_istore (pc := 48) dX2_layPar_48 (Nat.le_of_ble_eq_true rfl) rfl ?_
        refine wp_aload_n (pc := 50) dX2_layPar_50 rfl rfl ?_
        refine wp_getR (pc := 51) (q := 56) dX2_layPar_51 fl_X2_30 rfl ?_
        refine wp_iload (pc := 54) dX2_layPar_54 rfl ?_
        refine wp_aload_n (pc := 56) dX2_layPar_56 rfl rfl ?_
        refine wp_iload_n (pc := 57) dX2_layPar_57 rfl rfl ?_
        refine wp_iload (pc := 58) dX2_layPar_58 rfl ?_
        refine wp_cvI2 (pc := 60) dX2_layPar_60 mv_X2_114 (c_indentAt_49 (S := S) (by rw [eDC]; exact hD) hS (by rw [hF 14 (by decide)]; exact hp) (by omega) (by rw [eDC]; intro q q0 q1; rw [hF 50 (by decide), hF 52 (by decide)]; exact hR q q0 q1)) (Nat.le_of_ble_eq_true rfl) rfl (Nat.le_of_ble_eq_true rfl) (fun z_60 σ_60 h_60 => ?_)
        obtain ⟨rfl, e_60⟩ := h_60; have e2_60 := e_60.symm; subst e2_60
        rw [eDC]
        have hib := indS_bd hD hS (LB D S) (LB D S p + t) hp.1 (show p < D 0 0 by rw [← hDe]; exact hp.2)
        refine wp_iast (pc := 63) 152 dX2_layPar_63 rfl (by omega) ?_
        refine wp_aload_n (pc := 64) dX2_layPar_64 rfl rfl ?_
        refine wp_getR (pc := 65) (q := 57) dX2_layPar_65 fl_X2_33 rfl ?_
        refine wp_iload (pc := 68) dX2_layPar_68 rfl ?_
        refine wp_iconst (pc := 70) dX2_layPar_70 (by decide) ?_
        refine wp_aload_n (pc := 71) dX2_layPar_71 rfl rfl ?_
        refine wp_getR (pc := 72) (q := 14) dX2_layPar_72 fl_X2_43 rfl ?_
        refine wp_getR (pc := 75) (q := 19) dX2_layPar_75 fl_X2_80 rfl ?_
        refine wp_iconst (pc := 78) dX2_layPar_78 (by decide) ?_
        refine wp_iald (pc := 79) 6 dX2_layPar_79 rfl (by omega) ?_
        rw [upd2_r (r := 56) (r' := 19) (by decide)]
        rw [e19]
        refine wp_aload_n (pc := 80) dX2_layPar_80 rfl rfl ?_
        refine wp_getR (pc := 81) (q := 56) dX2_layPar_81 fl_X2_30 rfl ?_
        refine wp_iload (pc := 84) dX2_layPar_84 rfl ?_
        refine wp_iald (pc := 86) 152 dX2_layPar_86 rfl (by omega) ?_
        rw [upd2_eq]
        refine wp_isub (pc := 87) dX2_layPar_87 (by omega) ?_
        refine wp_max (pc := 88) dX2_layPar_88 mx_X2_97 (by decide) (Nat.le_of_ble_eq_true rfl) ?_
        rw [show max 0 (τ 19 0 - indS D S (LB D S) p (LB D S p + t)) = rmS D S p t by rw [← hDe]; rfl]
        refine wp_iast (pc := 91) 152 dX2_layPar_91 rfl (by omega) ?_
        refine wp_aload_n (pc := 92) dX2_layPar_92 rfl rfl ?_
        refine wp_getR (pc := 93) (q := 43) dX2_layPar_93 fl_X2_51 rfl ?_
        refine wp_getR (pc := 96) (q := 45) dX2_layPar_96 fl_X2_117 rfl ?_
        refine wp_iload (pc := 99) dX2_layPar_99 rfl ?_
        refine wp_aload_n (pc := 101) dX2_layPar_101 rfl rfl ?_
        refine wp_getR (pc := 102) (q := 57) dX2_layPar_102 fl_X2_33 rfl ?_
        refine wp_iload (pc := 105) dX2_layPar_105 rfl ?_
        refine wp_iald (pc := 107) 152 dX2_layPar_107 rfl (by omega) ?_
        rw [upd2_eq]
        refine wp_iast (pc := 108) 80 dX2_layPar_108 rfl (by omega) ?_
        refine wp_iinc (pc := 109) dX2_layPar_109 rfl rfl (by omega) ?_
        refine wp_goto (pc := 112) 22 dX2_layPar_112 (by decide) ?_
        refine ih (by omega) (by omega) _ _ _ (by cases l6 <;> rfl) (((hF.up (by decide)).up (by decide)).up (by decide)) (fun k k0 k1 => ?_) (fun x hx => ?_)
        · by_cases e : k = t
          · subst e; simp [upd2]
          · have := hk k k0 (by omega)
            simp [upd2, e, this]
        · have := ho x hx
          have hne : ¬ x = LB D S p + t := by omega
          simp [upd2, hne, this]
  refine wp_aload_n (pc := 0) dX2_layPar_0 rfl rfl ?_
  refine wp_getR (pc := 1) (q := 14) dX2_layPar_1 fl_X2_43 rfl ?_
  refine wp_iload_n (pc := 4) dX2_layPar_4 rfl rfl ?_
  refine wp_cvI1 (pc := 5) dX2_layPar_5 mv_X2_108 (c_firstOf' hB (by omega)) (Nat.le_of_ble_eq_true rfl) rfl (Nat.le_of_ble_eq_true rfl) (fun z_5 σ_5 h_5 => ?_)
  obtain ⟨rfl, e_5⟩ := h_5; have e2_5 := e_5.symm; subst e2_5
  rw [show sumI (τ 16) p = fstS D p by rw [← hDe]; rfl]
  refine wp_istore_n (pc := 8) dX2_layPar_8 rfl (Nat.le_of_ble_eq_true rfl) rfl ?_
  refine wp_aload_n (pc := 9) dX2_layPar_9 rfl rfl ?_
  refine wp_getR (pc := 10) (q := 14) dX2_layPar_10 fl_X2_43 rfl ?_
  refine wp_getR (pc := 13) (q := 16) dX2_layPar_13 fl_X2_111 rfl ?_
  refine wp_iload_n (pc := 16) dX2_layPar_16 rfl rfl ?_
  refine wp_iald (pc := 17) 8 dX2_layPar_17 rfl (by omega) ?_
  refine wp_istore_n (pc := 18) dX2_layPar_18 rfl (Nat.le_of_ble_eq_true rfl) rfl ?_
  refine wp_iconst (pc := 19) dX2_layPar_19 (by decide) ?_
  refine wp_istore (pc := 20) dX2_layPar_20 (Nat.le_of_ble_eq_true rfl) rfl ?_
  exact lp1 0 (by omega) (by omega) τ none none rfl Frm.rf (fun k k0 k1 => absurd k1 (by omega)) (fun x hx => ⟨rfl, rfl⟩)

set_option maxHeartbeats 4000000 in
set_option maxRecDepth 100000 in
theorem c_layPar_60 {τ D S : Sto} {p : Int} (hDe : DC τ = D) (hSe : SC τ = S) (hD : OKD D S) (hS : OKS S) (ht : τ 14 1 = tot D) (hp : 0 ≤ p ∧ p < τ 14 0) (hR : RK τ 61 63 D S (p + 1)) (hL : τ 60 3 = LB D S p) (hw : ∀ w, 0 ≤ w → w < tot D → τ 44 w = wid (τ 15 w)) : CtV yX2_layPar cX2_layPar 7 none 2 [mR 60, mI p] τ (fun σ' => Frm [43, 45, 46, 47, 48, 60, 64, 65, 66, 67, 68, 69, 70] τ σ' ∧ σ' 60 3 = LE D S p ∧ LPf σ' 64 65 66 67 68 69 70 D S p ∧ ∀ x, x < LB D S p → σ' 64 x = τ 64 x ∧ σ' 65 x = τ 65 x ∧ σ' 66 x = τ 66 x ∧ σ' 67 x = τ 67 x ∧ σ' 68 x = τ 68 x ∧ σ' 69 x = τ 69 x ∧ σ' 70 x = τ 70 x) := by
  refine ct_of rfl [some (mR 60), some (mI p), none, none, none, none, none] (Nat.le_of_ble_eq_true rfl) rfl (fun hσ => ?_)
  show Wp cX2_layPar RX2 none 2 0 [some (mR 60), some (mI p), none, none, none, none, none] [] _ _
  have hB : PgB τ := by subst hDe; subst hSe; exact PgB_of hD ht
  have h8 : τ 14 0 ≤ 8 := by rw [← hDe] at hD; exact hD.1.2
  have h20 : 20 ≤ τ 19 0 ∧ τ 19 0 ≤ 99 := by rw [← hDe] at hD; exact hD.2.2.2.2.2.1
  have hD00 : D 0 0 = τ 14 0 := by rw [← hDe]; rfl
  have hD1 : D 1 p = τ 16 p := by rw [← hDe]; rfl
  have hb1 := LBb hD (p := p) hp.1 (by omega)
  have hsz : 1 ≤ τ 16 p := by rw [← hD1]; exact hD.2.1 p hp.1 (by omega)
  have hf0 := fst_bd hD (p := p) hp.1 (by omega)
  have hf1 := fst_bd hD (p := p + 1) (by omega) (by omega)
  have hf2 : fstS D (p + 1) = fstS D p + τ 16 p := by rw [← hD1]; exact fst_s D hp.1
  have h80 := hD.2.2.1
  have hw2 : ∀ i, 0 ≤ i → i < τ 16 p → τ 44 (fstS D p + i) = wdS D p i := fun i i0 i1 => by rw [hw _ (by omega) (by omega), ← hDe]; rfl
  obtain ⟨hG, hm1, hm2⟩ := LG_ok D S (p := p) (by omega)
  rw [hD1] at hm2
  obtain ⟨hc1, hc2, hc3⟩ := LC_ok hD hS (p := p) hp.1 (by omega)
  have hE := LE_eq D S (p := p) hp.1
  have hrm : ∀ t, 0 ≤ rmS D S p t ∧ rmS D S p t ≤ 99 := fun t => roomS_bd hD hS _ _ hp.1 (by omega)
  -- the lines
  have lp4 : ∀ t, t ≤ LM D S p → 0 ≤ t → ∀ υ : Sto, Frm [43, 45, 46, 47, 48, 60, 64, 65, 66, 67, 68, 69, 70] τ υ → υ 60 3 = LB D S p + t → (∀ k, 0 ≤ k → k < LM D S p → υ 46 k = LC D S p k ∧ υ 67 (LB D S p + k) = indS D S (LB D S) p (LB D S p + k) ∧ υ 68 (LB D S p + k) = rmS D S p k) → (∀ k, 0 ≤ k → k < t → υ 64 (LB D S p + k) = p ∧ υ 65 (LB D S p + k) = sumI (LC D S p) k ∧ υ 66 (LB D S p + k) = LC D S p k ∧ υ 69 (LB D S p + k) = us (wdS D p) (sumI (LC D S p) k) (LC D S p k) ∧ υ 70 (LB D S p + k) = clsS D S (LB D S) p (LB D S p + k)) → (∀ x, x < LB D S p → υ 64 x = τ 64 x ∧ υ 65 x = τ 65 x ∧ υ 66 x = τ 66 x ∧ υ 67 x = τ 67 x ∧ υ 68 x = τ 68 x ∧ υ 69 x = τ 69 x ∧ υ 70 x = τ 70 x) → Wp cX2_layPar RX2 none 2 152 [some (mR 60), some (mI p), some (mI (fstS D p)), some (mI (τ 16 p)), some (mI (LM D S p)), some (mI (sumI (LC D S p) t)), some (mI t)] [] υ (fun v σ' => v = none ∧ (fun σ' => Frm [43, 45, 46, 47, 48, 60, 64, 65, 66, 67, 68, 69, 70] τ σ' ∧ σ' 60 3 = LE D S p ∧ LPf σ' 64 65 66 67 68 69 70 D S p ∧ ∀ x, x < LB D S p → σ' 64 x = τ 64 x ∧ σ' 65 x = τ 65 x ∧ σ' 66 x = τ 66 x ∧ σ' 67 x = τ 67 x ∧ σ' 68 x = τ 68 x ∧ σ' 69 x = τ 69 x ∧ σ' 70 x = τ 70 x) σ') := by
    refine up_ind (LM D S p) (fun t hmt ih t0 υ hF eL hk hd ho => ?_)
    have hct := hc3 t t0 hmt
    refine wp_iload (pc := 152) dX2_layPar_152 rfl ?_
    refine wp_iload (pc := 154) dX2_layPar_154 rfl ?_
    refine wp_icmp_ge (pc := 156) 211 dX2_layPar_156 (by decide) (fun c_156 => ?_) (fun c_156 => ?_)
    · refine wp_return (pc := 211) dX2_layPar_211 rfl ?_
      have et : t = LM D S p := by omega
      subst et
      refine ⟨rfl, hF, by omega, fun k k0 k1 => ?_, ho⟩
      have h1 := hk k k0 k1
      have h2 := hd k k0 k1
      exact ⟨h2.1, h2.2.1, h2.2.2.1, h1.2.1, h1.2.2, h2.2.2.2.1, h2.2.2.2.2⟩
    · refine wp_aload_n (pc := 159) dX2_layPar_159 rfl rfl ?_
      refine wp_getI (pc := 160) 3 dX2_layPar_160 fl_X2_55 rfl rfl ?_
      rw [eL]
      refine wp_sipush (pc := 163) dX2_layPar_163 (by decide) (by decide) ?_
      refine wp_icmp_ge (pc := 166) 211 dX2_layPar_166 (by decide) (fun c_166 => ?_) (fun c_166 => ?_)
      · omega
      · have hkt := hk t t0 (by omega)
        have hct1 := hc3 (t + 1) (by omega) (by omega)
        have hst := sumI_s (f := LC D S p) t0
        have hcp := hc1 t t0 (by omega)
        have hsz16 : D 1 p ≤ τ 16 p := by rw [← hDe]; exact Int.le_refl _
        refine wp_aload_n (pc := 169) dX2_layPar_169 rfl rfl ?_
        refine wp_iload_n (pc := 170) dX2_layPar_170 rfl rfl ?_
        refine wp_iload (pc := 171) dX2_layPar_171 rfl ?_
        refine wp_aload_n (pc := 173) dX2_layPar_173 rfl rfl ?_
        refine wp_getR (pc := 174) (q := 43) dX2_layPar_174 fl_X2_51 rfl ?_
        refine wp_getR (pc := 177) (q := 46) dX2_layPar_177 fl_X2_124 rfl ?_
        refine wp_iload (pc := 180) dX2_layPar_180 rfl ?_
        refine wp_iald (pc := 182) 80 dX2_layPar_182 rfl (by omega) ?_
        rw [hkt.1]
        refine wp_iload_n (pc := 183) dX2_layPar_183 rfl rfl ?_
        refine wp_iload (pc := 184) dX2_layPar_184 rfl ?_
        refine wp_iadd (pc := 186) dX2_layPar_186 (by omega) ?_
        refine wp_cvV4 (pc := 187) dX2_layPar_187 mv_X2_127 (c_addLine_60 (D := D) (S := S) (n := LB D S p + t) hD hS (by omega) (fun q q0 q1 => by have := hR q q0 (by omega); rw [hF 61 (by decide), hF 63 (by decide)]; exact this) eL.symm (by omega) (by omega) (fun k k0 k1 => by rw [hF 44 (by decide), show fstS D p + sumI (LC D S p) t + k = fstS D p + (sumI (LC D S p) t + k) by omega, hw2 _ (by omega) (by omega)]; exact wdS_bd D p _) (by rw [hF 19 (by decide), ← hDe]; rfl)) (Nat.le_of_ble_eq_true rfl) rfl (Nat.le_of_ble_eq_true rfl) (fun σ_187 h_187 => ?_)
        have e46 : σ_187 46 = υ 46 := by rw [h_187]; rw [upd2_out (by decide), upd2_out (by decide), upd2_out (by decide), upd2_out (by decide), upd2_out (by decide), upd2_out (by decide)]
        refine wp_iload (pc := 190) dX2_layPar_190 rfl ?_
        refine wp_aload_n (pc := 192) dX2_layPar_192 rfl rfl ?_
        refine wp_getR (pc := 193) (q := 43) dX2_layPar_193 fl_X2_51 rfl ?_
        refine wp_getR (pc := 196) (q := 46) dX2_layPar_196 fl_X2_124 rfl ?_
        refine wp_iload (pc := 199) dX2_layPar_199 rfl ?_
        refine wp_iald (pc := 201) 80 dX2_layPar_201 rfl (by omega) ?_
        rw [e46, hkt.1]
        refine wp_iadd (pc := 202) dX2_layPar_202 (by omega) ?_
        refine wp_istore (pc := 203) dX2_layPar_203 (Nat.le_of_ble_eq_true rfl) rfl ?_
        refine wp_iinc (pc := 205) dX2_layPar_205 rfl rfl (by omega) ?_
        refine wp_goto (pc := 208) 152 dX2_layPar_208 (by decide) ?_
        have eu : us (υ 44) (fstS D p + sumI (LC D S p) t) (LC D S p t) = us (wdS D p) (sumI (LC D S p) t) (LC D S p t) := by
          unfold us
          rw [hF 44 (by decide), sumI_cong (g := fun k => wdS D p (sumI (LC D S p) t + k)) (fun k k0 k1 => by rw [show fstS D p + sumI (LC D S p) t + k = fstS D p + (sumI (LC D S p) t + k) by omega]; exact hw2 _ (by omega) (by omega))]
        have ih2 := ih (by omega) (by omega) σ_187 (by rw [h_187]; exact (((((hF.up (by decide)).up (by decide)).up (by decide)).up (by decide)).up (by decide)).up (by decide)) (by rw [h_187, upd2_eq]; omega) (fun k k0 k1 => ?_) (fun k k0 k1 => ?_) (fun x hx => ?_)
        · rw [hst] at ih2
          exact ih2
        · have := hk k k0 k1
          rw [h_187]
          simp [upd2, this]
        · rw [h_187, eu]
          by_cases e : k = t
          · subst e
            simp [upd2]
          · have := hd k k0 (by omega)
            have hne : ¬ LB D S p + k = LB D S p + t := by omega
            simp [upd2, e, this]
        · have := ho x hx
          have hne : ¬ x = LB D S p + t := by omega
          rw [h_187]
          simp [upd2, hne, this]
  have h146 : ∀ υ : Sto, Frm [43, 45, 46, 47, 48, 67, 68] τ υ → (∀ k, 0 ≤ k → k < LM D S p → υ 46 k = LC D S p k ∧ υ 67 (LB D S p + k) = indS D S (LB D S) p (LB D S p + k) ∧ υ 68 (LB D S p + k) = rmS D S p k) → (∀ x, x < LB D S p → υ 67 x = τ 67 x ∧ υ 68 x = τ 68 x) → ∀ l5 l6 : Option MV, noL [some (mR 60), some (mI p), some (mI (fstS D p)), some (mI (τ 16 p)), some (mI (LM D S p)), l5, l6] 6 = true → Wp cX2_layPar RX2 none 2 146 [some (mR 60), some (mI p), some (mI (fstS D p)), some (mI (τ 16 p)), some (mI (LM D S p)), l5, l6] [] υ (fun v σ' => v = none ∧ (fun σ' => Frm [43, 45, 46, 47, 48, 60, 64, 65, 66, 67, 68, 69, 70] τ σ' ∧ σ' 60 3 = LE D S p ∧ LPf σ' 64 65 66 67 68 69 70 D S p ∧ ∀ x, x < LB D S p → σ' 64 x = τ 64 x ∧ σ' 65 x = τ 65 x ∧ σ' 66 x = τ 66 x ∧ σ' 67 x = τ 67 x ∧ σ' 68 x = τ 68 x ∧ σ' 69 x = τ 69 x ∧ σ' 70 x = τ 70 x) σ') := by
    intro υ hF hk ho l5 l6 hn
    refine wp_iconst (pc := 146) dX2_layPar_146 (by decide) ?_
    refine wp_istore (pc := 147) dX2_layPar_147 (Nat.le_of_ble_eq_true rfl) rfl ?_
    refine wp_iconst (pc := 149) dX2_layPar_149 (by decide) ?_
    refine wp_istore (pc := 150) dX2_layPar_150 (Nat.le_of_ble_eq_true rfl) rfl ?_
    exact lp4 0 (by omega) (by omega) υ (hF.mono (by decide)) (by rw [hF 60 (by decide), hL]; omega) hk (fun k k0 k1 => absurd k1 (by omega)) (fun x hx => ⟨by rw [hF 64 (by decide)], by rw [hF 65 (by decide)], by rw [hF 66 (by decide)], (ho x hx).1, (ho x hx).2, by rw [hF 69 (by decide)], by rw [hF 70 (by decide)]⟩)
  have h115 : ∀ υ : Sto, Frm [45, 67, 68] τ υ → (∀ k, 0 ≤ k → k < τ 16 p → υ 67 (LB D S p + k) = indS D S (LB D S) p (LB D S p + k) ∧ υ 68 (LB D S p + k) = rmS D S p k ∧ υ 45 k = rmS D S p k) → (∀ x, x < LB D S p → υ 67 x = τ 67 x ∧ υ 68 x = τ 68 x) → ∀ (x4 : Int) (l5 l6 : Option MV), noL [some (mR 60), some (mI p), some (mI (fstS D p)), some (mI (τ 16 p)), some (mI x4), l5, l6] 6 = true → Wp cX2_layPar RX2 none 2 115 [some (mR 60), some (mI p), some (mI (fstS D p)), some (mI (τ 16 p)), some (mI x4), l5, l6] [] υ (fun v σ' => v = none ∧ (fun σ' => Frm [43, 45, 46, 47, 48, 60, 64, 65, 66, 67, 68, 69, 70] τ σ' ∧ σ' 60 3 = LE D S p ∧ LPf σ' 64 65 66 67 68 69 70 D S p ∧ ∀ x, x < LB D S p → σ' 64 x = τ 64 x ∧ σ' 65 x = τ 65 x ∧ σ' 66 x = τ 66 x ∧ σ' 67 x = τ 67 x ∧ σ' 68 x = τ 68 x ∧ σ' 69 x = τ 69 x ∧ σ' 70 x = τ 70 x) σ') := by
    intro υ hF hk ho x4 l5 l6 hn
    refine wp_aload_n (pc := 115) dX2_layPar_115 rfl rfl ?_
    refine wp_getR (pc := 116) (q := 43) dX2_layPar_116 fl_X2_51 rfl ?_
    refine wp_iload_n (pc := 119) dX2_layPar_119 rfl rfl ?_
    refine wp_iload_n (pc := 120) dX2_layPar_120 rfl rfl ?_
    refine wp_cvI2 (pc := 121) dX2_layPar_121 mv_X2_118 (c_breakFirst (by omega) (fun i i0 i1 => by rw [hF 44 (by decide), hw2 i i0 i1]; exact wdS_bd D p i)) (Nat.le_of_ble_eq_true rfl) rfl (Nat.le_of_ble_eq_true rfl) (fun z_121 σ_121 h_121 => ?_)
    obtain ⟨f121, a5, a6, a7, g121, b1, b2, b3⟩ := h_121
    have hG2 : Grd (wdS D p) (rmS D S p) (τ 16 p) (sumI (σ_121 46)) z_121 := Grd_cong (fun i i0 i1 => by rw [hF 44 (by decide)]; exact hw2 i i0 i1) (fun t t0 t1 => (hk t t0 (by omega)).2.2) g121
    have hG3 : Grd (wdS D p) (rmS D S p) (D 1 p) (sumI (σ_121 46)) z_121 := by rw [show D 1 p = τ 16 p by rw [← hDe]; rfl]; exact hG2
    have hgp := gPr_eq (fun k _ _ => (wdS_bd D p k).1) hG3
    have ez : z_121 = LM D S p := hgp.1.symm
    subst ez
    have f2 : Frm [43, 45, 46, 67, 68] τ σ_121 := (hF.mono (by decide)).tr (f121.mono (by decide))
    have hk2 : ∀ k, 0 ≤ k → k < LM D S p → σ_121 67 (LB D S p + k) = indS D S (LB D S) p (LB D S p + k) ∧ σ_121 68 (LB D S p + k) = rmS D S p k := fun k k0 k1 => by rw [f121 67 (by decide), f121 68 (by decide)]; exact ⟨(hk k k0 (by omega)).1, (hk k k0 (by omega)).2.1⟩
    have ho2 : ∀ x, x < LB D S p → σ_121 67 x = τ 67 x ∧ σ_121 68 x = τ 68 x := fun x hx => by rw [f121 67 (by decide), f121 68 (by decide)]; exact ho x hx
    refine wp_istore (pc := 124) dX2_layPar_124 (Nat.le_of_ble_eq_true rfl) rfl ?_
    refine wp_aload_n (pc := 126) dX2_layPar_126 rfl rfl ?_
    refine wp_getR (pc := 127) (q := 14) dX2_layPar_127 fl_X2_43 rfl ?_
    refine wp_getR (pc := 130) (q := 19) dX2_layPar_130 fl_X2_80 rfl ?_
    refine wp_iconst (pc := 133) dX2_layPar_133 (by decide) ?_
    refine wp_iald (pc := 134) 6 dX2_layPar_134 rfl (by omega) ?_
    rw [f2 19 (by decide)]
    refine wp_iconst (pc := 135) dX2_layPar_135 (by decide) ?_
    refine wp_icmp_ne (pc := 136) 146 dX2_layPar_136 (by decide) (fun c_136 => ?_) (fun c_136 => ?_)
    · first
        | exact h146 σ_143 ((f2.mono (by decide)).tr (f143.mono (by decide))) (fun k k0 k1 => ⟨by rw [k143 k k0 k1]; unfold LC; rw [if_pos (show D 5 4 = 1 by rw [← hDe]; show τ 19 4 = 1; omega), show D 1 p = τ 16 p by rw [← hDe]; rfl], by rw [f143 67 (by decide)]; exact (hk2 k k0 k1).1, by rw [f143 68 (by decide)]; exact (hk2 k k0 k1).2⟩) (fun x hx => by rw [f143 67 (by decide), f143 68 (by decide)]; exact ho2 x hx) _ _ hn
        | exact h146 σ_121 (f2.mono (by decide)) (fun k k0 k1 => ⟨by unfold LC; rw [if_neg (show ¬ D 5 4 = 1 by rw [← hDe]; show ¬ τ 19 4 = 1; omega), hgp.2 (k + 1) (by omega) (by omega), hgp.2 k k0 (by omega), sumI_s k0]; omega, (hk2 k k0 k1).1, (hk2 k k0 k1).2⟩) ho2 _ _ hn
    · refine wp_aload_n (pc := 139) dX2_layPar_139 rfl rfl ?_
      refine wp_getR (pc := 140) (q := 43) dX2_layPar_140 fl_X2_51 rfl ?_
      refine wp_cvV0 (pc := 143) dX2_layPar_143 mv_X2_121 (c_breakEvenly (f := fstS D p) (n := τ 16 p) (m := LM D S p) (sp := τ 16 p - LM D S p + 1) (wd := wdS D p) (rm := rmS D S p) a5 a6 a7 (by omega) rfl (fun i i0 i1 => by rw [f2 44 (by decide)]; exact (hw2 i i0 i1).symm) (fun t t0 t1 => by rw [f121 45 (by decide)]; exact (hk t t0 (by omega)).2.2.symm) (fun i i0 i1 => wdS_bd D p i) hrm hG2 b3) (Nat.le_of_ble_eq_true rfl) rfl (Nat.le_of_ble_eq_true rfl) (fun σ_143 h_143 => ?_)
      obtain ⟨f143, k143⟩ := h_143
      first
        | exact h146 σ_143 ((f2.mono (by decide)).tr (f143.mono (by decide))) (fun k k0 k1 => ⟨by rw [k143 k k0 k1]; unfold LC; rw [if_pos (show D 5 4 = 1 by rw [← hDe]; show τ 19 4 = 1; omega), show D 1 p = τ 16 p by rw [← hDe]; rfl], by rw [f143 67 (by decide)]; exact (hk2 k k0 k1).1, by rw [f143 68 (by decide)]; exact (hk2 k k0 k1).2⟩) (fun x hx => by rw [f143 67 (by decide), f143 68 (by decide)]; exact ho2 x hx) _ _ hn
        | exact h146 σ_121 (f2.mono (by decide)) (fun k k0 k1 => ⟨by unfold LC; rw [if_neg (show ¬ D 5 4 = 1 by rw [← hDe]; show ¬ τ 19 4 = 1; omega), hgp.2 (k + 1) (by omega) (by omega), hgp.2 k k0 (by omega), sumI_s k0]; omega, (hk2 k k0 k1).1, (hk2 k k0 k1).2⟩) ho2 _ _ hn
  have lp1 : ∀ t, t ≤ τ 16 p → 0 ≤ t → ∀ (υ : Sto) (l5 l6 : Option MV), (noL [some (mR 60), some (mI p), some (mI (fstS D p)), some (mI (τ 16 p)), some (mI t), l5, l6] 6 = true) → Frm [45, 67, 68] τ υ → (∀ k, 0 ≤ k → k < t → υ 67 (LB D S p + k) = indS D S (LB D S) p (LB D S p + k) ∧ υ 68 (LB D S p + k) = rmS D S p k ∧ υ 45 k = rmS D S p k) → (∀ x, x < LB D S p → υ 67 x = τ 67 x ∧ υ 68 x = τ 68 x) → Wp cX2_layPar RX2 none 2 22 [some (mR 60), some (mI p), some (mI (fstS D p)), some (mI (τ 16 p)), some (mI t), l5, l6] [] υ (fun v σ' => v = none ∧ (fun σ' => Frm [43, 45, 46, 47, 48, 60, 64, 65, 66, 67, 68, 69, 70] τ σ' ∧ σ' 60 3 = LE D S p ∧ LPf σ' 64 65 66 67 68 69 70 D S p ∧ ∀ x, x < LB D S p → σ' 64 x = τ 64 x ∧ σ' 65 x = τ 65 x ∧ σ' 66 x = τ 66 x ∧ σ' 67 x = τ 67 x ∧ σ' 68 x = τ 68 x ∧ σ' 69 x = τ 69 x ∧ σ' 70 x = τ 70 x) σ') := by
    refine up_ind (τ 16 p) (fun t hmt ih t0 υ l5 l6 hn hF hk ho => ?_)
    have eDC : DC υ = D := by rw [← hDe]; exact (DC_frm hF (by decide)).1
    have e19 : υ 19 = τ 19 := hF 19 (by decide)
    have eL : υ 60 = τ 60 := hF 60 (by decide)
    refine wp_iload (pc := 22) dX2_layPar_22 rfl ?_
    refine wp_iload_n (pc := 24) dX2_layPar_24 rfl rfl ?_
    refine wp_icmp_ge (pc := 25) 115 dX2_layPar_25 (by decide) (fun c_25 => ?_) (fun c_25 => ?_)
    · exact h115 υ hF (fun k k0 k1 => hk k k0 (by omega)) ho _ _ _ hn
    · refine wp_aload_n (pc := 28) dX2_layPar_28 rfl rfl ?_
      refine wp_getI (pc := 29) 3 dX2_layPar_29 fl_X2_55 rfl rfl ?_
      rw [eL, hL]
      refine wp_iload (pc := 32) dX2_layPar_32 rfl ?_
      refine wp_iadd (pc := 34) dX2_layPar_34 (by omega) ?_
      refine wp_sipush (pc := 35) dX2_layPar_35 (by decide) (by decide) ?_
      refine wp_icmp_ge (pc := 38) 115 dX2_layPar_38 (by decide) (fun c_38 => ?_) (fun c_38 => ?_)
      · omega
      · refine wp_aload_n (pc := 41) dX2_layPar_41 rfl rfl ?_
        refine wp_getI (pc := 42) 3 dX2_layPar_42 fl_X2_55 rfl rfl ?_
        rw [eL, hL]
        refine wp_iload (pc := 45) dX2_layPar_45 rfl ?_
        refine wp_iadd (pc := 47) dX2_layPar_47 (by omega) ?_
        refine wp_istore (pc := 48) dX2_layPar_48 (Nat.le_of_ble_eq_true rfl) rfl ?_
        refine wp_aload_n (pc := 50) dX2_layPar_50 rfl rfl ?_
        refine wp_getR (pc := 51) (q := 67) dX2_layPar_51 fl_X2_30 rfl ?_
        refine wp_iload (pc := 54) dX2_layPar_54 rfl ?_
        refine wp_aload_n (pc := 56) dX2_layPar_56 rfl rfl ?_
        refine wp_iload_n (pc := 57) dX2_layPar_57 rfl rfl ?_
        refine wp_iload (pc := 58) dX2_layPar_58 rfl ?_
        refine wp_cvI2 (pc := 60) dX2_layPar_60 mv_X2_114 (c_indentAt_60 (S := S) (by rw [eDC]; exact hD) hS (by rw [hF 14 (by decide)]; exact hp) (by omega) (by rw [eDC]; intro q q0 q1; rw [hF 61 (by decide), hF 63 (by decide)]; exact hR q q0 q1)) (Nat.le_of_ble_eq_true rfl) rfl (Nat.le_of_ble_eq_true rfl) (fun z_60 σ_60 h_60 => ?_)
        obtain ⟨rfl, e_60⟩ := h_60; have e2_60 := e_60.symm; subst e2_60
        rw [eDC]
        have hib := indS_bd hD hS (LB D S) (LB D S p + t) hp.1 (show p < D 0 0 by rw [← hDe]; exact hp.2)
        refine wp_iast (pc := 63) 152 dX2_layPar_63 rfl (by omega) ?_
        refine wp_aload_n (pc := 64) dX2_layPar_64 rfl rfl ?_
        refine wp_getR (pc := 65) (q := 68) dX2_layPar_65 fl_X2_33 rfl ?_
        refine wp_iload (pc := 68) dX2_layPar_68 rfl ?_
        refine wp_iconst (pc := 70) dX2_layPar_70 (by decide) ?_
        refine wp_aload_n (pc := 71) dX2_layPar_71 rfl rfl ?_
        refine wp_getR (pc := 72) (q := 14) dX2_layPar_72 fl_X2_43 rfl ?_
        refine wp_getR (pc := 75) (q := 19) dX2_layPar_75 fl_X2_80 rfl ?_
        refine wp_iconst (pc := 78) dX2_layPar_78 (by decide) ?_
        refine wp_iald (pc := 79) 6 dX2_layPar_79 rfl (by omega) ?_
        rw [upd2_r (r := 67) (r' := 19) (by decide)]
        rw [e19]
        refine wp_aload_n (pc := 80) dX2_layPar_80 rfl rfl ?_
        refine wp_getR (pc := 81) (q := 67) dX2_layPar_81 fl_X2_30 rfl ?_
        refine wp_iload (pc := 84) dX2_layPar_84 rfl ?_
        refine wp_iald (pc := 86) 152 dX2_layPar_86 rfl (by omega) ?_
        rw [upd2_eq]
        refine wp_isub (pc := 87) dX2_layPar_87 (by omega) ?_
        refine wp_max (pc := 88) dX2_layPar_88 mx_X2_97 (by decide) (Nat.le_of_ble_eq_true rfl) ?_
        rw [show max 0 (τ 19 0 - indS D S (LB D S) p (LB D S p + t)) = rmS D S p t by rw [← hDe]; rfl]
        refine wp_iast (pc := 91) 152 dX2_layPar_91 rfl (by omega) ?_
        refine wp_aload_n (pc := 92) dX2_layPar_92 rfl rfl ?_
        refine wp_getR (pc := 93) (q := 43) dX2_layPar_93 fl_X2_51 rfl ?_
        refine wp_getR (pc := 96) (q := 45) dX2_layPar_96 fl_X2_117 rfl ?_
        refine wp_iload (pc := 99) dX2_layPar_99 rfl ?_
        refine wp_aload_n (pc := 101) dX2_layPar_101 rfl rfl ?_
        refine wp_getR (pc := 102) (q := 68) dX2_layPar_102 fl_X2_33 rfl ?_
        refine wp_iload (pc := 105) dX2_layPar_105 rfl ?_
        refine wp_iald (pc := 107) 152 dX2_layPar_107 rfl (by omega) ?_
        rw [upd2_eq]
        refine wp_iast (pc := 108) 80 dX2_layPar_108 rfl (by omega) ?_
        refine wp_iinc (pc := 109) dX2_layPar_109 rfl rfl (by omega) ?_
        refine wp_goto (pc := 112) 22 dX2_layPar_112 (by decide) ?_
        refine ih (by omega) (by omega) _ _ _ (by cases l6 <;> rfl) (((hF.up (by decide)).up (by decide)).up (by decide)) (fun k k0 k1 => ?_) (fun x hx => ?_)
        · by_cases e : k = t
          · subst e; simp [upd2]
          · have := hk k k0 (by omega)
            simp [upd2, e, this]
        · have := ho x hx
          have hne : ¬ x = LB D S p + t := by omega
          simp [upd2, hne, this]
  refine wp_aload_n (pc := 0) dX2_layPar_0 rfl rfl ?_
  refine wp_getR (pc := 1) (q := 14) dX2_layPar_1 fl_X2_43 rfl ?_
  refine wp_iload_n (pc := 4) dX2_layPar_4 rfl rfl ?_
  refine wp_cvI1 (pc := 5) dX2_layPar_5 mv_X2_108 (c_firstOf' hB (by omega)) (Nat.le_of_ble_eq_true rfl) rfl (Nat.le_of_ble_eq_true rfl) (fun z_5 σ_5 h_5 => ?_)
  obtain ⟨rfl, e_5⟩ := h_5; have e2_5 := e_5.symm; subst e2_5
  rw [show sumI (τ 16) p = fstS D p by rw [← hDe]; rfl]
  refine wp_istore_n (pc := 8) dX2_layPar_8 rfl (Nat.le_of_ble_eq_true rfl) rfl ?_
  refine wp_aload_n (pc := 9) dX2_layPar_9 rfl rfl ?_
  refine wp_getR (pc := 10) (q := 14) dX2_layPar_10 fl_X2_43 rfl ?_
  refine wp_getR (pc := 13) (q := 16) dX2_layPar_13 fl_X2_111 rfl ?_
  refine wp_iload_n (pc := 16) dX2_layPar_16 rfl rfl ?_
  refine wp_iald (pc := 17) 8 dX2_layPar_17 rfl (by omega) ?_
  refine wp_istore_n (pc := 18) dX2_layPar_18 rfl (Nat.le_of_ble_eq_true rfl) rfl ?_
  refine wp_iconst (pc := 19) dX2_layPar_19 (by decide) ?_
  refine wp_istore (pc := 20) dX2_layPar_20 (Nat.le_of_ble_eq_true rfl) rfl ?_
  exact lp1 0 (by omega) (by omega) τ none none rfl Frm.rf (fun k k0 k1 => absurd k1 (by omega)) (fun x hx => ⟨rfl, rfl⟩)

