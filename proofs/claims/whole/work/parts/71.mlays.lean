-- the model's lines up to a paragraph
def LayM (τ D S : Sto) (p : Int) : Prop := τ 71 25 = LL D S p ∧ (∀ q, 0 ≤ q → q < p → τ 82 q = LB D S q ∧ τ 83 q = LM D S q ∧ ∀ t, 0 ≤ t → t < LM D S q → τ 84 (LB D S q + t) = q ∧ τ 85 (LB D S q + t) = fstS D q + sumI (LC D S q) t ∧ τ 86 (LB D S q + t) = LC D S q t ∧ τ 87 (LB D S q + t) = indS D S (LB D S) q (LB D S q + t)) ∧ ∀ x, 0 ≤ x → x < LL D S p → (∀ q, 0 ≤ q → q < p → ¬ (LB D S q ≤ x ∧ x < LE D S q)) → τ 84 x = -4
def Kx (τ υ D S : Sto) (p : Int) : Prop := Frm [71, 82, 83, 84, 85, 86, 87, 88, 89, 90] τ υ ∧ (∀ k, k ≠ 25 → υ 71 k = τ 71 k) ∧ (∀ q, q ≠ p → υ 82 q = τ 82 q ∧ υ 83 q = τ 83 q) ∧ ∀ x, x < LL D S p → υ 84 x = τ 84 x ∧ υ 85 x = τ 85 x ∧ υ 86 x = τ 86 x ∧ υ 87 x = τ 87 x
set_option maxHeartbeats 4000000 in
set_option maxRecDepth 100000 in
theorem Kx.rf {τ D S : Sto} {p : Int} : Kx τ τ D S p := ⟨Frm.rf, fun _ _ => rfl, fun _ _ => ⟨rfl, rfl⟩, fun _ _ => ⟨rfl, rfl, rfl, rfl⟩⟩
set_option maxHeartbeats 4000000 in
set_option maxRecDepth 100000 in
theorem Kx.up {τ υ D S : Sto} {p : Int} (h : Kx τ υ D S p) {r : Nat} {k v : Int} (hr : (r = 71 ∧ k = 25) ∨ ((r = 82 ∨ r = 83) ∧ k = p) ∨ ((r = 84 ∨ r = 85 ∨ r = 86 ∨ r = 87) ∧ LL D S p ≤ k)) : Kx τ (upd2 υ r k v) D S p := by
  obtain ⟨a, b, c, d⟩ := h
  refine ⟨fun q hq => ?_, fun j hj => ?_, fun q hq => ?_, fun x hx => ?_⟩
  · rw [upd2_out (fun e => hq (by rw [e]; simp; omega))]
    exact a q hq
  · rw [upd2_ne (by omega)]; exact b j hj
  · rw [upd2_ne (by omega), upd2_ne (by omega)]; exact c q hq
  · rw [upd2_ne (by omega), upd2_ne (by omega), upd2_ne (by omega), upd2_ne (by omega)]; exact d x hx
set_option maxHeartbeats 4000000 in
set_option maxRecDepth 100000 in
theorem Kx.br {τ υ ω D S : Sto} {p : Int} (h : Kx τ υ D S p) (hf : Frm [85, 86, 88, 89, 90] υ ω) (hx : ∀ x, x < LL D S p → ω 85 x = υ 85 x ∧ ω 86 x = υ 86 x) : Kx τ ω D S p := by
  obtain ⟨a, b, c, d⟩ := h
  refine ⟨a.tr (hf.mono (by decide)), fun j hj => ?_, fun q hq => ?_, fun x hxl => ?_⟩
  · rw [hf 71 (by decide)]; exact b j hj
  · rw [hf 82 (by decide), hf 83 (by decide)]; exact c q hq
  · rw [hf 84 (by decide), hf 87 (by decide), (hx x hxl).1, (hx x hxl).2]; exact d x hxl
set_option maxHeartbeats 4000000 in
set_option maxRecDepth 100000 in
theorem Kx.rm {τ υ D S : Sto} {p : Int} (h : Kx τ υ D S p) (hR : RM τ D S) : RM υ D S := hR.kp (h.1 72 (by decide)) (h.1 74 (by decide)) (h.2.1 3 (by decide))
set_option maxHeartbeats 4000000 in
set_option maxRecDepth 100000 in
theorem LayM.step {τ υ D S : Sto} {p : Int} (hD : OKD D S) (p0 : 0 ≤ p) (hp : p < D 0 0) (h : LayM τ D S p) (hk : Kx τ υ D S p) (h25 : υ 71 25 = LE D S p) (h82 : υ 82 p = LB D S p) (h83 : υ 83 p = LM D S p) (hl : ∀ t, 0 ≤ t → t < LM D S p → υ 84 (LB D S p + t) = p ∧ υ 85 (LB D S p + t) = fstS D p + sumI (LC D S p) t ∧ υ 86 (LB D S p + t) = LC D S p t ∧ υ 87 (LB D S p + t) = indS D S (LB D S) p (LB D S p + t)) (he : ∀ x, LL D S p ≤ x → x < LB D S p → υ 84 x = -4) : LayM υ D S (p + 1) := by
  obtain ⟨a, b, c⟩ := h
  have els := LL_s D S p0
  have lbb := LBb hD p0 hp
  refine ⟨by rw [h25, els], fun q q0 q1 => ?_, fun x x0 x1 hx => ?_⟩
  · by_cases hq : q = p
    · rw [hq]; exact ⟨h82, h83, hl⟩
    · obtain ⟨b1, b2, b3⟩ := b q q0 (by omega)
      have hle := LE_LB hD q0 (show q < p by omega) hp
      have hle2 := LE_eq D S q0
      refine ⟨by rw [(hk.2.2.1 q hq).1]; exact b1, by rw [(hk.2.2.1 q hq).2]; exact b2, fun t t0 t1 => ?_⟩
      obtain ⟨k1, k2, k3, k4⟩ := hk.2.2.2 (LB D S q + t) (by omega)
      rw [k1, k2, k3, k4]
      exact b3 t t0 t1
  · by_cases hxl : x < LL D S p
    · rw [(hk.2.2.2 x hxl).1]
      exact c x x0 hxl (fun q q0 q1 => hx q q0 (by omega))
    · have := hx p p0 (by omega)
      exact he x (by omega) (by omega)
set_option maxHeartbeats 4000000 in
set_option maxRecDepth 100000 in
theorem m_lays {σ D S : Sto} (h : RM σ D S) : CtV yX7_lays cX7_lays 4 none 7 [mR 71] σ (fun σ' => Frm [71, 82, 83, 84, 85, 86, 87, 88, 89, 90] σ σ' ∧ (∀ k, k ≠ 25 → σ' 71 k = σ 71 k) ∧ LayM σ' D S (D 0 0)) := by
  refine ct_of rfl [some (mR 71), none, none, none] (Nat.le_of_ble_eq_true rfl) rfl (fun hσ => ?_)
  show Wp cX7_lays RX7 none 7 0 [some (mR 71), none, none, none] [] _ _
  have nn := h.n
  have hD := h.2.2.2.1
  have lp : ∀ p, p ≤ D 0 0 → 0 ≤ p → ∀ τ : Sto, Frm [71, 82, 83, 84, 85, 86, 87, 88, 89, 90] σ τ → (∀ k, k ≠ 25 → τ 71 k = σ 71 k) → LayM τ D S p → Wp cX7_lays RX7 none 7 7 [some (mR 71), some (mI p), none, none] [] τ (fun v σ' => v = none ∧ (fun σ' => Frm [71, 82, 83, 84, 85, 86, 87, 88, 89, 90] σ σ' ∧ (∀ k, k ≠ 25 → σ' 71 k = σ 71 k) ∧ LayM σ' D S (D 0 0)) σ') := by
    refine up_ind _ (fun p hpn ih p0 τ hF h71 hL => ?_)
    have hR : RM τ D S := h.kp (hF 72 (by decide)) (hF 74 (by decide)) (h71 3 (by decide))
    have t := hR.st
    have nt := hR.n
    have hlb : p < D 0 0 → 0 ≤ LL D S p ∧ LL D S p ≤ LB D S p ∧ LB D S p + D 1 p ≤ 143 ∧ LB D S p < LE D S p ∧ LE D S p ≤ 143 := fun c => LBb hD p0 c
    have hle := LE_eq D S p0
    have hbq := LB_eq D S p0
    have hBq : ∀ q, 0 ≤ q → q < p → τ 82 q = LB D S q := fun q q0 q1 => (hL.2.1 q q0 q1).1
    -- the lines of the paragraph
    have w153 : p < D 0 0 → ∀ ω : Sto, Kx τ ω D S p → ω 82 p = LB D S p → ω 83 p = LM D S p → (∀ t, 0 ≤ t → t < LM D S p → ω 85 (LB D S p + t) = fstS D p + sumI (LC D S p) t ∧ ω 86 (LB D S p + t) = LC D S p t) → (∀ x, LL D S p ≤ x → x < LB D S p → ω 84 x = -4) → Wp cX7_lays RX7 none 7 153 [some (mR 71), some (mI p), some (mI (LB D S p)), none] [] ω (fun v σ' => v = none ∧ (fun σ' => Frm [71, 82, 83, 84, 85, 86, 87, 88, 89, 90] σ σ' ∧ (∀ k, k ≠ 25 → σ' 71 k = σ 71 k) ∧ LayM σ' D S (D 0 0)) σ') := by
      intro hp ω hk h82 h83 hl he
      have hb := hlb hp
      have lp2 : ∀ l, l ≤ LE D S p → LB D S p ≤ l → ∀ υ : Sto, Kx τ υ D S p → υ 71 25 = LE D S p → υ 82 p = LB D S p → υ 83 p = LM D S p → (∀ t, 0 ≤ t → t < LM D S p → υ 85 (LB D S p + t) = fstS D p + sumI (LC D S p) t ∧ υ 86 (LB D S p + t) = LC D S p t) → (∀ x, LL D S p ≤ x → x < LB D S p → υ 84 x = -4) → (∀ t, 0 ≤ t → LB D S p + t < l → υ 84 (LB D S p + t) = p ∧ υ 87 (LB D S p + t) = indS D S (LB D S) p (LB D S p + t)) → Wp cX7_lays RX7 none 7 167 [some (mR 71), some (mI p), some (mI (LB D S p)), some (mI l)] [] υ (fun v σ' => v = none ∧ (fun σ' => Frm [71, 82, 83, 84, 85, 86, 87, 88, 89, 90] σ σ' ∧ (∀ k, k ≠ 25 → σ' 71 k = σ 71 k) ∧ LayM σ' D S (D 0 0)) σ') := by
        refine up_ind _ (fun l hl2 ihl l0 υ hku v25 v82 v83 vl ve vd => ?_)
        have hRu := hku.rm hR
        have hBu : ∀ q, 0 ≤ q → q ≤ p → υ 82 q = LB D S q := fun q q0 q1 => by
          by_cases e : q = p
          · rw [e]; exact v82
          · rw [(hku.2.2.1 q e).1]; exact hBq q q0 (by omega)
        refine wp_iload_n (pc := 167) dX7_lays_167 rfl rfl ?_
        refine wp_aload_n (pc := 168) dX7_lays_168 rfl rfl ?_
        refine wp_getI (pc := 169) 25 dX7_lays_169 fl_X7_214 rfl rfl ?_
        refine wp_icmp_ge (pc := 172) 200 dX7_lays_172 (by decide) (fun c_172 => ?_) (fun c_172 => ?_)
        · refine wp_iinc (pc := 200) dX7_lays_200 rfl rfl (by omega) ?_
          refine wp_goto (pc := 203) 7 dX7_lays_203 (by decide) ?_
          refine wp_fgt [2, 3] (ih hp (by omega) υ (hF.tr hku.1) (fun k hk2 => (hku.2.1 k hk2).trans (h71 k hk2)) ?_)
          exact hL.step hD p0 hp hku v25 v82 v83 (fun t t0 t1 => ⟨(vd t t0 (by omega)).1, (vl t t0 t1).1, (vl t t0 t1).2, (vd t t0 (by omega)).2⟩) ve
        · refine wp_aload_n (pc := 175) dX7_lays_175 rfl rfl ?_
          refine wp_getR (pc := 176) (q := 84) dX7_lays_176 fl_X7_47 rfl ?_
          refine wp_iload_n (pc := 179) dX7_lays_179 rfl rfl ?_
          refine wp_iload_n (pc := 180) dX7_lays_180 rfl rfl ?_
          refine wp_iast (pc := 181) 300 dX7_lays_181 rfl (by omega) ?_
          refine wp_aload_n (pc := 182) dX7_lays_182 rfl rfl ?_
          refine wp_getR (pc := 183) (q := 87) dX7_lays_183 fl_X7_56 rfl ?_
          refine wp_iload_n (pc := 186) dX7_lays_186 rfl rfl ?_
          have hR9 : RM (upd2 υ 84 l p) D S := hRu.kp (by funext k; rw [upd2_r (by decide)]) (by funext k; rw [upd2_r (by decide)]) (upd2_r (by decide))
          refine wp_aload_n (pc := 187) dX7_lays_187 rfl rfl ?_
          refine wp_iload_n (pc := 188) dX7_lays_188 rfl rfl ?_
          refine wp_iload_n (pc := 189) dX7_lays_189 rfl rfl ?_
          refine wp_cvI2 (pc := 190) dX7_lays_190 mv_X7_198 (m_indentAt hR9 ⟨p0, hp⟩ (fun q q0 q1 => by rw [upd2_r (by decide)]; exact hBu q q0 q1) (by omega)) (Nat.le_of_ble_eq_true rfl) rfl (Nat.le_of_ble_eq_true rfl) (fun z_190 σ_190 h_190 => ?_)
          obtain ⟨rfl, e_190⟩ := h_190; have e2_190 := e_190.symm; subst e2_190
          refine wp_iast (pc := 193) 300 dX7_lays_193 rfl (by omega) ?_
          refine wp_iinc (pc := 194) dX7_lays_194 rfl rfl (by omega) ?_
          refine wp_goto (pc := 197) 167 dX7_lays_197 (by decide) ?_
          have hsh : LB D S p + (l - LB D S p) = l := by omega
          refine ihl (by omega) (by omega) _ ((hku.up (Or.inr (Or.inr ⟨by omega, by omega⟩))).up (Or.inr (Or.inr ⟨by omega, by omega⟩))) (by rw [upd2_r (by decide), upd2_r (by decide)]; exact v25) (by rw [upd2_r (by decide), upd2_r (by decide)]; exact v82) (by rw [upd2_r (by decide), upd2_r (by decide)]; exact v83) (fun t t0 t1 => by rw [upd2_r (by decide), upd2_r (by decide), upd2_r (by decide), upd2_r (by decide)]; exact vl t t0 t1) (fun x x0 x1 => by rw [upd2_r (by decide), upd2_k (by omega)]; exact ve x x0 x1) (fun t t0 t1 => ?_)
          by_cases e : LB D S p + t = l
          · rw [e, upd2_r (by decide), upd2_eq, upd2_eq]; exact ⟨rfl, rfl⟩
          · rw [upd2_r (by decide), upd2_k e, upd2_k e, upd2_r (by decide)]; exact vd t t0 (by omega)
      refine wp_aload_n (pc := 153) dX7_lays_153 rfl rfl ?_
      refine wp_iload_n (pc := 154) dX7_lays_154 rfl rfl ?_
      refine wp_aload_n (pc := 155) dX7_lays_155 rfl rfl ?_
      refine wp_getR (pc := 156) (q := 83) dX7_lays_156 fl_X7_44 rfl ?_
      refine wp_iload_n (pc := 159) dX7_lays_159 rfl rfl ?_
      refine wp_iald (pc := 160) 8 dX7_lays_160 rfl (by omega) ?_
      rw [h83]
      refine wp_iadd (pc := 161) dX7_lays_161 (by omega) ?_
      rw [show LB D S p + LM D S p = LE D S p by omega]
      refine wp_putI (pc := 162) 25 dX7_lays_162 fl_X7_214 ⟨rfl, rfl⟩ rfl rfl ?_
      refine wp_iload_n (pc := 165) dX7_lays_165 rfl rfl ?_
      refine wp_istore_n (pc := 166) dX7_lays_166 rfl (Nat.le_of_ble_eq_true rfl) rfl ?_
      exact lp2 _ (by omega) (by omega) _ (hk.up (Or.inl ⟨rfl, rfl⟩)) upd2_eq (by rw [upd2_r (by decide)]; exact h82) (by rw [upd2_r (by decide)]; exact h83) (fun t t0 t1 => by rw [upd2_r (by decide), upd2_r (by decide)]; exact hl t t0 t1) (fun x x0 x1 => by rw [upd2_r (by decide)]; exact he x x0 x1) (fun t t0 t1 => by omega)
    have w112 : p < D 0 0 → ∀ ω : Sto, Kx τ ω D S p → (∀ x, LL D S p ≤ x → x < LB D S p → ω 84 x = -4) → Wp cX7_lays RX7 none 7 112 [some (mR 71), some (mI p), some (mI (LB D S p)), none] [] ω (fun v σ' => v = none ∧ (fun σ' => Frm [71, 82, 83, 84, 85, 86, 87, 88, 89, 90] σ σ' ∧ (∀ k, k ≠ 25 → σ' 71 k = σ 71 k) ∧ LayM σ' D S (D 0 0)) σ') := by
      intro hp ω hk he
      have hb := hlb hp
      have hk1 : Kx τ (upd2 ω 82 p (LB D S p)) D S p := hk.up (Or.inr (Or.inl ⟨by omega, rfl⟩))
      have hB1 : ∀ q, 0 ≤ q → q ≤ p → upd2 ω 82 p (LB D S p) 82 q = LB D S q := fun q q0 q1 => by
        by_cases e : q = p
        · rw [e, upd2_eq]
        · rw [(hk1.2.2.1 q e).1]; exact hBq q q0 (by omega)
      refine wp_aload_n (pc := 112) dX7_lays_112 rfl rfl ?_
      refine wp_getR (pc := 113) (q := 82) dX7_lays_113 fl_X7_41 rfl ?_
      refine wp_iload_n (pc := 116) dX7_lays_116 rfl rfl ?_
      refine wp_iload_n (pc := 117) dX7_lays_117 rfl rfl ?_
      refine wp_iast (pc := 118) 9 dX7_lays_118 rfl (by omega) ?_
      refine wp_aload_n (pc := 119) dX7_lays_119 rfl rfl ?_
      refine wp_getR (pc := 120) (q := 83) dX7_lays_120 fl_X7_44 rfl ?_
      refine wp_iload_n (pc := 123) dX7_lays_123 rfl rfl ?_
      refine wp_aload_n (pc := 124) dX7_lays_124 rfl rfl ?_
      refine wp_iload_n (pc := 125) dX7_lays_125 rfl rfl ?_
      refine wp_cvI1 (pc := 126) dX7_lays_126 mv_X7_220 (m_laysFirst (hk1.rm hR) ⟨p0, hp⟩ hB1) (Nat.le_of_ble_eq_true rfl) rfl (Nat.le_of_ble_eq_true rfl) (fun z_126 σ_126 h_126 => ?_)
      obtain ⟨rfl, f126, d126, o126⟩ := h_126
      have hk2 : Kx τ σ_126 D S p := hk1.br (f126.mono (by decide)) (fun x hx => o126 x (by omega))
      have hk3 : Kx τ (upd2 σ_126 83 p (LM D S p)) D S p := hk2.up (Or.inr (Or.inl ⟨by omega, rfl⟩))
      have h82a : σ_126 82 p = LB D S p := by rw [f126 82 (by decide), upd2_eq]
      have h84a : ∀ x, LL D S p ≤ x → x < LB D S p → σ_126 84 x = -4 := fun x x0 x1 => by rw [f126 84 (by decide), upd2_r (by decide)]; exact he x x0 x1
      have hB3 : ∀ q, 0 ≤ q → q ≤ p → upd2 σ_126 83 p (LM D S p) 82 q = LB D S q := fun q q0 q1 => by rw [upd2_r (by decide), f126 82 (by decide)]; exact hB1 q q0 q1
      have h589 : σ_126 72 589 = D 5 4 := (hk2.rm hR).st.1.2.2.2.2.1
      refine wp_iast (pc := 129) 8 dX7_lays_129 rfl (by omega) ?_
      refine wp_aload_n (pc := 130) dX7_lays_130 rfl rfl ?_
      refine wp_getR (pc := 131) (q := 72) dX7_lays_131 fl_X7_7 rfl ?_
      refine wp_sipush (pc := 134) dX7_lays_134 (by decide) (by decide) ?_
      refine wp_iald (pc := 137) 591 dX7_lays_137 rfl (by omega) ?_
      rw [upd2_r (r := 83) (r' := 72) (by decide)]
      rw [h589]
      refine wp_iconst (pc := 138) dX7_lays_138 (by decide) ?_
      refine wp_icmp_ne (pc := 139) 153 dX7_lays_139 (by decide) (fun c_139 => ?_) (fun c_139 => ?_)
      · first
          | (refine w153 hp σ_150 (hk3.br f150 (fun x hx => o150 x (by omega))) (by rw [f150 82 (by decide), upd2_r (by decide)]; exact h82a) (by rw [f150 83 (by decide), upd2_eq]) (fun t t0 t1 => ?_) (fun x x0 x1 => by rw [f150 84 (by decide), upd2_r (by decide)]; exact h84a x x0 x1)
             have e := LC_sumE (D := D) (S := S) (p := p) (by omega) t0
             rw [e.1, e.2]; exact d150 t t0 t1)
          | (refine w153 hp _ hk3 (by rw [upd2_r (by decide)]; exact h82a) upd2_eq (fun t t0 t1 => ?_) (fun x x0 x1 => by rw [upd2_r (by decide)]; exact h84a x x0 x1)
             have e := LC_sumG hD p0 hp (by omega) t0
             rw [e.1, e.2, upd2_r (by decide), upd2_r (by decide)]; exact d126 t t0 t1)
      · refine wp_aload_n (pc := 142) dX7_lays_142 rfl rfl ?_
        refine wp_iload_n (pc := 143) dX7_lays_143 rfl rfl ?_
        refine wp_aload_n (pc := 144) dX7_lays_144 rfl rfl ?_
        refine wp_getR (pc := 145) (q := 83) dX7_lays_145 fl_X7_44 rfl ?_
        refine wp_iload_n (pc := 148) dX7_lays_148 rfl rfl ?_
        refine wp_iald (pc := 149) 8 dX7_lays_149 rfl (by omega) ?_
        rw [upd2_eq]
        refine wp_cvV2 (pc := 150) dX7_lays_150 mv_X7_223 (m_laysEven (hk3.rm hR) ⟨p0, hp⟩ hB3) (Nat.le_of_ble_eq_true rfl) rfl (Nat.le_of_ble_eq_true rfl) (fun σ_150 h_150 => ?_)
        obtain ⟨f150, d150, o150⟩ := h_150
        first
          | (refine w153 hp σ_150 (hk3.br f150 (fun x hx => o150 x (by omega))) (by rw [f150 82 (by decide), upd2_r (by decide)]; exact h82a) (by rw [f150 83 (by decide), upd2_eq]) (fun t t0 t1 => ?_) (fun x x0 x1 => by rw [f150 84 (by decide), upd2_r (by decide)]; exact h84a x x0 x1)
             have e := LC_sumE (D := D) (S := S) (p := p) (by omega) t0
             rw [e.1, e.2]; exact d150 t t0 t1)
          | (refine w153 hp _ hk3 (by rw [upd2_r (by decide)]; exact h82a) upd2_eq (fun t t0 t1 => ?_) (fun x x0 x1 => by rw [upd2_r (by decide)]; exact h84a x x0 x1)
             have e := LC_sumG hD p0 hp (by omega) t0
             rw [e.1, e.2, upd2_r (by decide), upd2_r (by decide)]; exact d126 t t0 t1)
    have w88 : p < D 0 0 → ∀ fr : Int, fr = LB D S p → Wp cX7_lays RX7 none 7 88 [some (mR 71), some (mI p), some (mI fr), none] [] τ (fun v σ' => v = none ∧ (fun σ' => Frm [71, 82, 83, 84, 85, 86, 87, 88, 89, 90] σ σ' ∧ (∀ k, k ≠ 25 → σ' 71 k = σ 71 k) ∧ LayM σ' D S (D 0 0)) σ') := by
      intro hp fr hfr
      rw [hfr]
      have hb := hlb hp
      have lp3 : ∀ l, l ≤ LB D S p → LL D S p ≤ l → ∀ υ : Sto, Kx τ υ D S p → (∀ x, LL D S p ≤ x → x < l → υ 84 x = -4) → Wp cX7_lays RX7 none 7 93 [some (mR 71), some (mI p), some (mI (LB D S p)), some (mI l)] [] υ (fun v σ' => v = none ∧ (fun σ' => Frm [71, 82, 83, 84, 85, 86, 87, 88, 89, 90] σ σ' ∧ (∀ k, k ≠ 25 → σ' 71 k = σ 71 k) ∧ LayM σ' D S (D 0 0)) σ') := by
        refine up_ind _ (fun l hl ihl l0 υ hku hx => ?_)
        refine wp_iload_n (pc := 93) dX7_lays_93 rfl rfl ?_
        refine wp_iload_n (pc := 94) dX7_lays_94 rfl rfl ?_
        refine wp_icmp_ge (pc := 95) 112 dX7_lays_95 (by decide) (fun c_95 => ?_) (fun c_95 => ?_)
        · exact wp_fgt [3] (w112 hp υ hku (fun x x0 x1 => hx x x0 (by omega)))
        · refine wp_aload_n (pc := 98) dX7_lays_98 rfl rfl ?_
          refine wp_getR (pc := 99) (q := 84) dX7_lays_99 fl_X7_47 rfl ?_
          refine wp_iload_n (pc := 102) dX7_lays_102 rfl rfl ?_
          refine wp_bipush (pc := 103) dX7_lays_103 (by decide) (by decide) ?_
          refine wp_iast (pc := 105) 300 dX7_lays_105 rfl (by omega) ?_
          refine wp_iinc (pc := 106) dX7_lays_106 rfl rfl (by omega) ?_
          refine wp_goto (pc := 109) 93 dX7_lays_109 (by decide) ?_
          refine ihl (by omega) (by omega) _ (hku.up (Or.inr (Or.inr ⟨by omega, l0⟩))) (fun x x0 x1 => ?_)
          by_cases e : x = l
          · rw [e, upd2_eq]
          · rw [upd2_k e]; exact hx x x0 (by omega)
      refine wp_aload_n (pc := 88) dX7_lays_88 rfl rfl ?_
      refine wp_getI (pc := 89) 25 dX7_lays_89 fl_X7_214 rfl rfl ?_
      rw [hL.1]
      refine wp_istore_n (pc := 92) dX7_lays_92 rfl (Nat.le_of_ble_eq_true rfl) rfl ?_
      exact lp3 _ (by omega) (by omega) τ Kx.rf (fun x x0 x1 => by omega)
    have lp4 : p < D 0 0 → (D 5 5 = 1 ∨ (D 5 5 = 2 ∧ 0 ≤ D 2 p)) → ∀ q, q ≤ p → 0 ≤ q → Wp cX7_lays RX7 none 7 58 [some (mR 71), some (mI p), some (mI (max (LL D S p) (mxI (fun q => mxI (pshJ D S (LB D S) q) 9) q))), some (mI q)] [] τ (fun v σ' => v = none ∧ (fun σ' => Frm [71, 82, 83, 84, 85, 86, 87, 88, 89, 90] σ σ' ∧ (∀ k, k ≠ 25 → σ' 71 k = σ 71 k) ∧ LayM σ' D S (D 0 0)) σ') := by
      intro hp hc
      refine up_ind _ (fun q hq ihq q0 => ?_)
      have hms := mxI_s (f := fun q => mxI (pshJ D S (LB D S) q) 9) q0
      refine wp_iload_n (pc := 58) dX7_lays_58 rfl rfl ?_
      refine wp_iload_n (pc := 59) dX7_lays_59 rfl rfl ?_
      refine wp_icmp_ge (pc := 60) 88 dX7_lays_60 (by decide) (fun c_60 => ?_) (fun c_60 => ?_)
      · refine wp_fgt [3] (w88 hp _ ?_)
        rw [show q = p by omega, hbq]
        unfold bgnS
        rw [if_pos hc]
        rfl
      · refine wp_aload_n (pc := 63) dX7_lays_63 rfl rfl ?_
        refine wp_iload_n (pc := 64) dX7_lays_64 rfl rfl ?_
        refine wp_cvI1 (pc := 65) dX7_lays_65 mv_X7_217 (m_reachedBy hR (by omega) (hBq q q0 (by omega))) (Nat.le_of_ble_eq_true rfl) rfl (Nat.le_of_ble_eq_true rfl) (fun z_65 σ_65 h_65 => ?_)
        obtain ⟨rfl, e_65⟩ := h_65; have e2_65 := e_65.symm; subst e2_65
        refine wp_iload_n (pc := 68) dX7_lays_68 rfl rfl ?_
        refine wp_icmp_le (pc := 69) 80 dX7_lays_69 (by decide) (fun c_69 => ?_) (fun c_69 => ?_)
        · refine wp_iload_n (pc := 80) dX7_lays_80 rfl rfl ?_
          refine wp_istore_n (pc := 81) dX7_lays_81 rfl (Nat.le_of_ble_eq_true rfl) rfl ?_
          refine wp_iinc (pc := 82) dX7_lays_82 rfl rfl (by omega) ?_
          refine wp_goto (pc := 85) 58 dX7_lays_85 (by decide) ?_
          have ih2 := ihq (by omega) (by omega)
          rw [hms] at ih2
          generalize hA : mxI (fun q => mxI (pshJ D S (LB D S) q) 9) q = A at *
          generalize hZ : mxI (pshJ D S (LB D S) q) 9 = Z at *
          first
            | (rw [show Z = max (LL D S p) (max A Z) by omega]
               exact ih2)
            | (rw [show max (LL D S p) A = max (LL D S p) (max A Z) by omega]
               exact ih2)
        · refine wp_aload_n (pc := 72) dX7_lays_72 rfl rfl ?_
          refine wp_iload_n (pc := 73) dX7_lays_73 rfl rfl ?_
          refine wp_cvI1 (pc := 74) dX7_lays_74 mv_X7_217 (m_reachedBy hR (by omega) (hBq q q0 (by omega))) (Nat.le_of_ble_eq_true rfl) rfl (Nat.le_of_ble_eq_true rfl) (fun z_74 σ_74 h_74 => ?_)
          obtain ⟨rfl, e_74⟩ := h_74; have e2_74 := e_74.symm; subst e2_74
          refine wp_goto (pc := 77) 81 dX7_lays_77 (by decide) ?_
          refine wp_istore_n (pc := 81) dX7_lays_81 rfl (Nat.le_of_ble_eq_true rfl) rfl ?_
          refine wp_iinc (pc := 82) dX7_lays_82 rfl rfl (by omega) ?_
          refine wp_goto (pc := 85) 58 dX7_lays_85 (by decide) ?_
          have ih2 := ihq (by omega) (by omega)
          rw [hms] at ih2
          generalize hA : mxI (fun q => mxI (pshJ D S (LB D S) q) 9) q = A at *
          generalize hZ : mxI (pshJ D S (LB D S) q) 9 = Z at *
          first
            | (rw [show Z = max (LL D S p) (max A Z) by omega]
               exact ih2)
            | (rw [show max (LL D S p) A = max (LL D S p) (max A Z) by omega]
               exact ih2)
    refine wp_iload_n (pc := 7) dX7_lays_7 rfl rfl ?_
    refine wp_aload_n (pc := 8) dX7_lays_8 rfl rfl ?_
    refine wp_getR (pc := 9) (q := 72) dX7_lays_9 fl_X7_7 rfl ?_
    refine wp_iconst (pc := 12) dX7_lays_12 (by decide) ?_
    refine wp_iald (pc := 13) 591 dX7_lays_13 rfl (by omega) ?_
    rw [nt.2.2.1]
    refine wp_icmp_ge (pc := 14) 206 dX7_lays_14 (by decide) (fun c_14 => ?_) (fun c_14 => ?_)
    · refine wp_return (pc := 206) dX7_lays_206 rfl ?_
      rw [show p = D 0 0 by omega] at hL
      exact ⟨rfl, hF, h71, hL⟩
    · have hp : p < D 0 0 := by omega
      have qp := hR.p p0 hp
      refine wp_aload_n (pc := 17) dX7_lays_17 rfl rfl ?_
      refine wp_getI (pc := 18) 25 dX7_lays_18 fl_X7_214 rfl rfl ?_
      rw [hL.1]
      refine wp_istore_n (pc := 21) dX7_lays_21 rfl (Nat.le_of_ble_eq_true rfl) rfl ?_
      refine wp_aload_n (pc := 22) dX7_lays_22 rfl rfl ?_
      refine wp_getR (pc := 23) (q := 72) dX7_lays_23 fl_X7_7 rfl ?_
      refine wp_sipush (pc := 26) dX7_lays_26 (by decide) (by decide) ?_
      refine wp_iald (pc := 29) 591 dX7_lays_29 rfl (by omega) ?_
      rw [t.1.2.2.2.2.2]
      refine wp_iconst (pc := 30) dX7_lays_30 (by decide) ?_
      refine wp_icmp_eq (pc := 31) 56 dX7_lays_31 (by decide) (fun c_31 => ?_) (fun c_31 => ?_)
      · refine wp_iconst (pc := 56) dX7_lays_56 (by decide) ?_
        refine wp_istore_n (pc := 57) dX7_lays_57 rfl (Nat.le_of_ble_eq_true rfl) rfl ?_
        have := lp4 hp (by omega) 0 (by omega) (by decide)
        rw [mxI_0, show max (LL D S p) 0 = LL D S p by have := hlb hp; omega] at this
        exact this
      · refine wp_aload_n (pc := 34) dX7_lays_34 rfl rfl ?_
        refine wp_getR (pc := 35) (q := 72) dX7_lays_35 fl_X7_7 rfl ?_
        refine wp_sipush (pc := 38) dX7_lays_38 (by decide) (by decide) ?_
        refine wp_iald (pc := 41) 591 dX7_lays_41 rfl (by omega) ?_
        rw [t.1.2.2.2.2.2]
        refine wp_iconst (pc := 42) dX7_lays_42 (by decide) ?_
        refine wp_icmp_ne (pc := 43) 88 dX7_lays_43 (by decide) (fun c_43 => ?_) (fun c_43 => ?_)
        · refine w88 hp _ ?_
          rw [hbq]
          unfold bgnS
          rw [if_neg (by omega)]
        · refine wp_aload_n (pc := 46) dX7_lays_46 rfl rfl ?_
          refine wp_iload_n (pc := 47) dX7_lays_47 rfl rfl ?_
          refine wp_cvI1 (pc := 48) dX7_lays_48 mv_X7_174 (m_parShape hR ⟨p0, hp⟩) (Nat.le_of_ble_eq_true rfl) rfl (Nat.le_of_ble_eq_true rfl) (fun z_48 σ_48 h_48 => ?_)
          obtain ⟨rfl, e_48⟩ := h_48; have e2_48 := e_48.symm; subst e2_48
          refine wp_bipush (pc := 51) dX7_lays_51 (by decide) (by decide) ?_
          refine wp_icmp_eq (pc := 53) 88 dX7_lays_53 (by decide) (fun c_53 => ?_) (fun c_53 => ?_)
          · refine w88 hp _ ?_
            rw [hbq]
            unfold bgnS
            rw [if_neg (by omega)]
          · refine wp_iconst (pc := 56) dX7_lays_56 (by decide) ?_
            refine wp_istore_n (pc := 57) dX7_lays_57 rfl (Nat.le_of_ble_eq_true rfl) rfl ?_
            have := lp4 hp (by omega) 0 (by omega) (by decide)
            rw [mxI_0, show max (LL D S p) 0 = LL D S p by have := hlb hp; omega] at this
            exact this
  refine wp_aload_n (pc := 0) dX7_lays_0 rfl rfl ?_
  refine wp_iconst (pc := 1) dX7_lays_1 (by decide) ?_
  refine wp_putI (pc := 2) 25 dX7_lays_2 fl_X7_214 ⟨rfl, rfl⟩ rfl rfl ?_
  refine wp_iconst (pc := 5) dX7_lays_5 (by decide) ?_
  refine wp_istore_n (pc := 6) dX7_lays_6 rfl (Nat.le_of_ble_eq_true rfl) rfl ?_
  refine lp 0 (by omega) (by decide) _ (Frm.rf.up (by decide)) (fun k hk => upd2_k hk) ⟨?_, fun q q0 q1 => by omega, fun x x0 x1 => ?_⟩
  · rw [upd2_eq]; unfold LL; rw [if_pos rfl]
  · unfold LL at x1; rw [if_pos rfl] at x1; omega
