set_option maxHeartbeats 4000000 in
set_option maxRecDepth 100000 in
theorem mstP.no {σ σ' : Sto} {b c : Int} (h : mstP σ σ' b c) (hb : ¬ b = 0 ∨ ¬ σ 71 10 = 0) : σ' 71 10 = σ 71 10 ∧ σ' 71 11 = σ 71 11 := by
  rcases h.2.2.2.2.2 with q | q
  · exact q.2
  · exfalso; omega
set_option maxHeartbeats 4000000 in
set_option maxRecDepth 100000 in
theorem mstP.yes {σ σ' : Sto} {b c : Int} (h : mstP σ σ' b c) (hb : b = 0) (h0 : σ 71 10 = 0) : σ' 71 10 = c ∧ σ' 71 11 = σ 71 13 := by
  rcases h.2.2.2.2.2 with q | q
  · exact absurd ⟨hb, h0⟩ q.1
  · exact q.2.2
set_option maxHeartbeats 4000000 in
set_option maxRecDepth 100000 in
theorem MG.same {t : Int → Int} {n cnt : Int} {σ υ : Sto} {s : PS} (h : MG t n σ s cnt) (hf : Fr1 σ υ) (e10 : υ 71 10 = 0) (e12 : υ 71 12 = σ 71 12) (e13 : υ 71 13 = σ 71 13) (e14 : υ 71 14 = σ 71 14) (e15 : υ 71 15 = σ 71 15) : MG t n υ s cnt := by
  refine ⟨h.1.fr hf, h.2.1, e10, e12.trans h.2.2.2.1, e13.trans h.2.2.2.2.1, ?_⟩
  rw [e14, e15]; exact h.2.2.2.2.2
set_option maxHeartbeats 4000000 in
set_option maxRecDepth 100000 in
theorem MG.w73 {t : Int → Int} {n cnt : Int} {σ ω : Sto} {s : PS} (h : MG t n σ s cnt) {D : Sto} (e : ∀ r, r ≠ 73 → ω r = σ r) (hP : PR (ω 73) D) : MG t n ω (s.wD D) cnt := by
  obtain ⟨⟨b1, b2, b3, b4, b5, b6, b7, b8, b9, b10, b11⟩, m1⟩ := h
  refine ⟨⟨b1, by rw [e 71 (by decide)]; exact b2, by rw [e 78 (by decide)]; exact b3, b4, b5, by rw [e 81 (by decide)]; exact b6, hP, by rw [e 75 (by decide)]; exact b8, by rw [e 71 (by decide)]; exact b9, by unfold NT at *; rw [e 79 (by decide), e 80 (by decide)]; exact b10, b11⟩, ?_⟩
  unfold MT at *
  rw [e 71 (by decide)]; exact m1
set_option maxHeartbeats 4000000 in
set_option maxRecDepth 100000 in
theorem MSb.w73 {t : Int → Int} {n : Int} {σ ω : Sto} {s : PS} (h : MSb t n σ s) (e : ω 71 = σ 71) : MSb t n ω s := by
  unfold MSb at *
  rw [e]; exact h
set_option maxHeartbeats 4000000 in
set_option maxRecDepth 100000 in
theorem PR.aw {P P' : Int → Int} {D S : Sto} {c : Int} (h : PR P D) (hW : DW D S) (h1 : 1 ≤ D 0 0) (ht : tot D < 80) (e1 : P' (1 + 3 * (D 0 0 - 1) + 2) = D 1 (D 0 0 - 1) + 1) (e2 : P' (25 + 7 * tot D) = nlt c) (e3 : ∀ k, 0 ≤ k → k < 6 → P' (25 + 7 * tot D + 1 + k) = ltr c k) (e4 : ∀ x, ¬ x = 1 + 3 * (D 0 0 - 1) + 2 → ¬ (25 + 7 * tot D ≤ x ∧ x < 25 + 7 * tot D + 7) → P' x = P x) : PR P' (adW D c) := by
  have hl := hW.last h1
  have hc := hW.1
  obtain ⟨a, b, cc, d⟩ := h
  have a0 : adW D c 0 0 = D 0 0 := by simp [adW, updD]
  have a2 : adW D c 2 = D 2 := by funext i; simp [adW, updD]
  have a3 : adW D c 3 = D 3 := by funext i; simp [adW, updD]
  have a5 : adW D c 5 = D 5 := by funext i; simp [adW, updD]
  have a4 : ∀ w, adW D c 4 w = if w = tot D then c else D 4 w := fun w => by
    by_cases h : w = tot D
    · subst h; simp [adW, updD]
    · simp [adW, updD, h]
  refine ⟨?_, fun p p0 p1 => ⟨?_, ?_, ?_⟩, fun w w0 w1 => ?_, fun k k0 k1 => ?_⟩
  · rw [e4 0 (by omega) (by omega), a0]; exact a
  · rw [a0] at p1
    rw [e4 _ (by omega) (by omega), a2]; exact (b p p0 p1).1
  · rw [a0] at p1
    rw [e4 _ (by omega) (by omega), a3]; exact (b p p0 p1).2.1
  · rw [a0] at p1
    rw [adW_1.2]
    by_cases hp : p = D 0 0 - 1
    · rw [if_pos hp, hp]; exact e1
    · rw [if_neg hp, e4 _ (by omega) (by omega)]; exact (b p p0 p1).2.2
  · rw [adW_tot hW h1] at w1
    rw [a4]
    by_cases hw : w = tot D
    · rw [if_pos hw, hw]; exact ⟨e2, e3⟩
    · rw [if_neg hw, e4 _ (by omega) (by omega)]
      refine ⟨(cc w w0 (by omega)).1, fun k k0 k1 => ?_⟩
      rw [e4 _ (by omega) (by omega)]
      exact (cc w w0 (by omega)).2 k k0 k1
  · rw [a5, e4 _ (by omega) (by omega)]; exact d k k0 k1
set_option maxHeartbeats 4000000 in
set_option maxRecDepth 100000 in
theorem PR.out {P P' : Int → Int} {D : Sto} (h : PR P D) (hD : tot D ≤ 80) (hc : 0 ≤ D 0 0 ∧ D 0 0 < 8) (e : ∀ x, ¬ (1 + 3 * D 0 0 ≤ x ∧ x ≤ 3 + 3 * D 0 0) → P' x = P x) : PR P' D := by
  obtain ⟨a, b, cc, d⟩ := h
  refine ⟨by rw [e 0 (by omega)]; exact a, fun p p0 p1 => ?_, fun w w0 w1 => ?_, fun k k0 k1 => by rw [e _ (by omega)]; exact d k k0 k1⟩
  · rw [e _ (by omega), e _ (by omega), e _ (by omega)]; exact b p p0 p1
  · rw [e _ (by omega)]
    refine ⟨(cc w w0 w1).1, fun k k0 k1 => ?_⟩
    rw [e _ (by omega)]; exact (cc w w0 w1).2 k k0 k1
set_option maxHeartbeats 4000000 in
set_option maxRecDepth 100000 in
theorem PR.ap {P P' : Int → Int} {D : Sto} {g m : Int} (h : PR P D) (hD : tot D ≤ 80) (hc : 0 ≤ D 0 0 ∧ D 0 0 < 8) (e0 : P' 0 = D 0 0 + 1) (e1 : P (1 + 3 * D 0 0) = g) (e2 : P (1 + 3 * D 0 0 + 1) = m) (e3 : P (1 + 3 * D 0 0 + 2) = 0) (e : ∀ x, ¬ x = 0 → P' x = P x) : PR P' (adP D g m) := by
  obtain ⟨a, b, cc, d⟩ := h
  obtain ⟨a0, a1, a2, a3, ak, a4, a5⟩ := adP_at (D := D) (g := g) (m := m)
  have et := adP_tot (D := D) (g := g) (m := m) hc.1
  refine ⟨by rw [e0, a0], fun p p0 p1 => ?_, fun w w0 w1 => ?_, fun k k0 k1 => by rw [a5, e _ (by omega)]; exact d k k0 k1⟩
  · rw [a0] at p1
    rw [e _ (by omega), e _ (by omega), e _ (by omega)]
    by_cases hp : p = D 0 0
    · rw [hp, a1, a2, a3]; exact ⟨e1, e2, e3⟩
    · rw [(ak p hp).1, (ak p hp).2.1, (ak p hp).2.2]; exact b p p0 (by omega)
  · rw [et] at w1
    rw [a4, e _ (by omega)]
    refine ⟨(cc w w0 w1).1, fun k k0 k1 => ?_⟩
    rw [e _ (by omega)]; exact (cc w w0 w1).2 k k0 k1
set_option maxHeartbeats 4000000 in
set_option maxRecDepth 100000 in
theorem m_readsWord {t : Int → Int} {n cnt : Int} {σ : Sto} {s r : PS} (hg : MG t n σ s cnt) (hW : DW s.D s.S) (h1 : 1 ≤ s.D 0 0) (er : r = if ¬ tkK t n s.x = 1 then s.bad t n 2 else if 6 < tkE t n s.x - tkS t n s.x then s.bad t n 3 else if 80 ≤ tot s.D then s.bad t n 5 else (s.nx t n).wD (adW s.D (wcd t (tkS t n s.x) (tkE t n s.x - tkS t n s.x)))) : CtV yX7_readsWord cX7_readsWord 4 none 2 [mR 71, mI (s.D 0 0 - 1)] σ (fun σ' => RFr σ σ' ∧ MS t n σ' r cnt) := by
  refine ct_of rfl [some (mR 71), some (mI (s.D 0 0 - 1)), none, none] (Nat.le_of_ble_eq_true rfl) rfl (fun hσ => ?_)
  show Wp cX7_readsWord RX7 none 2 0 [some (mR 71), some (mI (s.D 0 0 - 1)), none, none] [] _ _
  have hb := hg.1
  obtain ⟨k0, k10, k12, k13, kk⟩ := hg.2
  have kk1 : (σ 71 14 = 1 ∧ tkK t n s.x = 1) ∨ (¬ σ 71 14 = 1 ∧ ¬ tkK t n s.x = 1) := by unfold tkOK at kk; omega
  clear kk
  have htb := tk_bd (t := t) hb.2.2.2.2.1.1 hb.2.2.2.2.1.2
  have hn4 := hb.1
  have hx0 := hb.2.2.2.2.1
  have hf0 : s.f = 0 := hb.2.2.2.2.2.2.2.2.2.2
  have hPR := hb.2.2.2.2.2.2.1
  have hl := hW.last h1
  have hc := hW.1
  have w165 : ∀ (υ τ : Sto) (k : Int), Fr1 σ υ → MG t n υ s cnt → tkK t n s.x = 1 → tkE t n s.x - tkS t n s.x ≤ 6 → tot s.D < 80 → (∀ r, r ≠ 73 → τ r = υ r) → τ 73 (25 + 7 * tot s.D) = tkE t n s.x - tkS t n s.x → (∀ k, 0 ≤ k → k < 6 → τ 73 (25 + 7 * tot s.D + 1 + k) = if k < tkE t n s.x - tkS t n s.x then t (tkS t n s.x + k) - 96 else 0) → (∀ x, ¬ (25 + 7 * tot s.D ≤ x ∧ x < 25 + 7 * tot s.D + 7) → τ 73 x = υ 73 x) → Wp cX7_readsWord RX7 none 2 165 [some (mR 71), some (mI (s.D 0 0 - 1)), some (mI (25 + 7 * tot s.D)), some (mI k)] [] τ (fun v σ' => v = none ∧ (fun σ' => RFr σ σ' ∧ MS t n σ' r cnt) σ') := by
    intro υ τ k hF hgu hk1 h6 h80 he e2 e3 e4
    have hPu : PR (υ 73) s.D := hgu.1.2.2.2.2.2.2.1
    have hL := tkL (t := t) hx0.1 hx0.2 hk1
    obtain ⟨o1, o2, o3⟩ := wcd_ok (t := t) (s := tkS t n s.x) (m := tkE t n s.x - tkS t n s.x) (by omega) h6 (fun k k0 k1 => hL.2 _ (by omega) (by omega))
    have esz : τ 73 (1 + 3 * (s.D 0 0 - 1) + 2) = s.D 1 (s.D 0 0 - 1) := by rw [e4 _ (by omega)]; exact (hPu.2.1 (s.D 0 0 - 1) (by omega) (by omega)).2.2
    refine wp_aload_n (pc := 165) dX7_readsWord_165 rfl rfl ?_
    refine wp_getR (pc := 166) (q := 73) dX7_readsWord_166 fl_X7_13 rfl ?_
    refine wp_iconst (pc := 169) dX7_readsWord_169 (by decide) ?_
    refine wp_iconst (pc := 170) dX7_readsWord_170 (by decide) ?_
    refine wp_iload_n (pc := 171) dX7_readsWord_171 rfl rfl ?_
    refine wp_imul (pc := 172) dX7_readsWord_172 (by omega) ?_
    refine wp_iadd (pc := 173) dX7_readsWord_173 (by omega) ?_
    refine wp_iconst (pc := 174) dX7_readsWord_174 (by decide) ?_
    refine wp_iadd (pc := 175) dX7_readsWord_175 (by omega) ?_
    refine wp_dup2 (pc := 176) dX7_readsWord_176 (fun _ h => by cases h) (fun _ h => by cases h) ?_
    refine wp_iald (pc := 177) 591 dX7_readsWord_177 rfl (by omega) ?_
    rw [esz]
    refine wp_iconst (pc := 178) dX7_readsWord_178 (by decide) ?_
    refine wp_iadd (pc := 179) dX7_readsWord_179 (by omega) ?_
    refine wp_iast (pc := 180) 591 dX7_readsWord_180 rfl (by omega) ?_
    refine wp_aload_n (pc := 181) dX7_readsWord_181 rfl rfl ?_
    have hg2 : MG t n (upd2 τ 73 (1 + 3 * (s.D 0 0 - 1) + 2) (s.D 1 (s.D 0 0 - 1) + 1)) (s.wD (adW s.D (wcd t (tkS t n s.x) (tkE t n s.x - tkS t n s.x)))) cnt := by
      refine hgu.w73 (fun r hr => by rw [upd2_out hr]; exact he r hr) (PR.aw hPu hW h1 h80 upd2_eq ?_ (fun k k0 k1 => ?_) (fun x x1 x2 => ?_))
      · rw [upd2_k (by omega), e2, o2]
      · rw [upd2_k (by omega), e3 k k0 k1]
        by_cases hk : k < tkE t n s.x - tkS t n s.x
        · rw [if_pos hk, o3 k k0 hk]
        · rw [if_neg hk, (o1.2.2.2 k k0 k1).2 (by omega)]
      · rw [upd2_k x1]; exact e4 x x2
    have F2 : RFr σ (upd2 τ 73 (1 + 3 * (s.D 0 0 - 1) + 2) (s.D 1 (s.D 0 0 - 1) + 1)) := by
      refine hF.r.tr (RFr.up ⟨fun r hr => he r (fun q => hr (by rw [q]; decide)), fun j hj => by rw [he 71 (by decide)]⟩ (Or.inl rfl))
    refine wp_cvV0 (pc := 182) dX7_readsWord_182 mv_X7_115 (m_readsU (t := t) (n := n) (cnt := cnt) (q := (s.nx t n).wD (adW s.D (wcd t (tkS t n s.x) (tkE t n s.x - tkS t n s.x)))) (by have := hg2.2.2.1; omega) (fun _ => hg2.nx Fr1.rf rfl)) (Nat.le_of_ble_eq_true rfl) rfl (Nat.le_of_ble_eq_true rfl) (fun σ_182 h_182 => ?_)
    obtain ⟨f182, q182⟩ := h_182
    refine wp_return (pc := 185) dX7_readsWord_185 rfl ?_
    refine ⟨rfl, F2.tr f182.r, ?_⟩
    rw [er, if_neg (fun z => z hk1), if_neg (by omega), if_neg (by omega)]
    rcases q182 with c | c
    · exact c.2
    · have := hg2.2.2.1
      omega
  have lp : ∀ (υ : Sto), Fr1 σ υ → MG t n υ s cnt → tkK t n s.x = 1 → tkE t n s.x - tkS t n s.x ≤ 6 → tot s.D < 80 → ∀ k, k ≤ 6 → 0 ≤ k → ∀ τ : Sto, (∀ r, r ≠ 73 → τ r = υ r) → τ 73 (25 + 7 * tot s.D) = tkE t n s.x - tkS t n s.x → (∀ j, 0 ≤ j → j < k → τ 73 (25 + 7 * tot s.D + 1 + j) = if j < tkE t n s.x - tkS t n s.x then t (tkS t n s.x + j) - 96 else 0) → (∀ x, ¬ (25 + 7 * tot s.D ≤ x ∧ x < 25 + 7 * tot s.D + 7) → τ 73 x = υ 73 x) → Wp cX7_readsWord RX7 none 2 111 [some (mR 71), some (mI (s.D 0 0 - 1)), some (mI (25 + 7 * tot s.D)), some (mI k)] [] τ (fun v σ' => v = none ∧ (fun σ' => RFr σ σ' ∧ MS t n σ' r cnt) σ') := by
    intro υ hF hgu hk1 h6 h80
    have hL := tkL (t := t) hx0.1 hx0.2 hk1
    refine up_ind 6 (fun k hk ih k0 τ he e2 e3 e4 => ?_)
    have t12 : τ 71 12 = tkE t n s.x := by rw [he 71 (by decide)]; exact hgu.2.2.2.1
    have t13 : τ 71 13 = tkS t n s.x := by rw [he 71 (by decide)]; exact hgu.2.2.2.2.1
    have t9 : τ 71 9 = n := by rw [he 71 (by decide)]; exact hgu.1.2.1
    have t78 : ∀ k, 0 ≤ k → k < n → τ 78 k = t k := by rw [he 78 (by decide)]; exact hgu.1.2.2.1
    have w158 : ∀ v : Int, k < 6 → v = (if k < tkE t n s.x - tkS t n s.x then t (tkS t n s.x + k) - 96 else 0) → Wp cX7_readsWord RX7 none 2 158 [some (mR 71), some (mI (s.D 0 0 - 1)), some (mI (25 + 7 * tot s.D)), some (mI k)] [mI v, mI (25 + 7 * tot s.D + 1 + k), mR 73] τ (fun v σ' => v = none ∧ (fun σ' => RFr σ σ' ∧ MS t n σ' r cnt) σ') := by
      intro v hk6 hv
      refine wp_iast (pc := 158) 591 dX7_readsWord_158 rfl (by omega) ?_
      refine wp_iinc (pc := 159) dX7_readsWord_159 rfl rfl (by omega) ?_
      refine wp_goto (pc := 162) 111 dX7_readsWord_162 (by decide) ?_
      refine ih hk6 (by omega) _ (fun r hr => by rw [upd2_out hr]; exact he r hr) (by rw [upd2_k (by omega)]; exact e2) (fun j j0 j1 => ?_) (fun x hx => by rw [upd2_k (by omega)]; exact e4 x hx)
      by_cases e : j = k
      · rw [e, upd2_eq]; exact hv
      · rw [upd2_k (by omega)]; exact e3 j j0 (by omega)
    refine wp_iload_n (pc := 111) dX7_readsWord_111 rfl rfl ?_
    refine wp_bipush (pc := 112) dX7_readsWord_112 (by decide) (by decide) ?_
    refine wp_icmp_ge (pc := 114) 165 dX7_readsWord_114 (by decide) (fun c_114 => ?_) (fun c_114 => ?_)
    · exact w165 υ τ k hF hgu hk1 h6 h80 he e2 (fun j j0 j1 => e3 j j0 (by omega)) e4
    · refine wp_aload_n (pc := 117) dX7_readsWord_117 rfl rfl ?_
      refine wp_getR (pc := 118) (q := 73) dX7_readsWord_118 fl_X7_13 rfl ?_
      refine wp_iload_n (pc := 121) dX7_readsWord_121 rfl rfl ?_
      refine wp_iconst (pc := 122) dX7_readsWord_122 (by decide) ?_
      refine wp_iadd (pc := 123) dX7_readsWord_123 (by omega) ?_
      refine wp_iload_n (pc := 124) dX7_readsWord_124 rfl rfl ?_
      refine wp_iadd (pc := 125) dX7_readsWord_125 (by omega) ?_
      refine wp_iload_n (pc := 126) dX7_readsWord_126 rfl rfl ?_
      refine wp_aload_n (pc := 127) dX7_readsWord_127 rfl rfl ?_
      refine wp_getI (pc := 128) 12 dX7_readsWord_128 fl_X7_90 rfl rfl ?_
      rw [t12]
      refine wp_aload_n (pc := 131) dX7_readsWord_131 rfl rfl ?_
      refine wp_getI (pc := 132) 13 dX7_readsWord_132 fl_X7_84 rfl rfl ?_
      rw [t13]
      refine wp_isub (pc := 135) dX7_readsWord_135 (by omega) ?_
      refine wp_icmp_ge (pc := 136) 157 dX7_readsWord_136 (by decide) (fun c_136 => ?_) (fun c_136 => ?_)
      · refine wp_iconst (pc := 157) dX7_readsWord_157 (by decide) ?_
        first
          | exact w158 _ (by omega) (by rw [if_pos (by omega)]; omega)
          | exact w158 _ (by omega) (by rw [if_neg (by omega)])
      · have hlk := hL.2 (tkS t n s.x + k) (by omega) (by omega)
        refine wp_aload_n (pc := 139) dX7_readsWord_139 rfl rfl ?_
        refine wp_aload_n (pc := 140) dX7_readsWord_140 rfl rfl ?_
        refine wp_getI (pc := 141) 13 dX7_readsWord_141 fl_X7_84 rfl rfl ?_
        rw [t13]
        refine wp_iload_n (pc := 144) dX7_readsWord_144 rfl rfl ?_
        refine wp_iadd (pc := 145) dX7_readsWord_145 (by omega) ?_
        refine wp_cvI1 (pc := 146) dX7_readsWord_146 mv_X7_93 (m_byteAt t9 hn4.2 t78 (by omega)) (Nat.le_of_ble_eq_true rfl) rfl (Nat.le_of_ble_eq_true rfl) (fun z_146 σ_146 h_146 => ?_)
        obtain ⟨zz_146, e_146⟩ := h_146; have e2_146 := e_146.symm; subst e2_146
        rw [if_pos (by omega)] at zz_146
        refine wp_bipush (pc := 149) dX7_readsWord_149 (by decide) (by decide) ?_
        refine wp_isub (pc := 151) dX7_readsWord_151 (by omega) ?_
        refine wp_iconst (pc := 152) dX7_readsWord_152 (by decide) ?_
        refine wp_iadd (pc := 153) dX7_readsWord_153 (by omega) ?_
        refine wp_goto (pc := 154) 158 dX7_readsWord_154 (by decide) ?_
        first
          | exact w158 _ (by omega) (by rw [if_pos (by omega)]; omega)
          | exact w158 _ (by omega) (by rw [if_neg (by omega)])
  refine wp_aload_n (pc := 0) dX7_readsWord_0 rfl rfl ?_
  refine wp_aload_n (pc := 1) dX7_readsWord_1 rfl rfl ?_
  refine wp_getI (pc := 2) 14 dX7_readsWord_2 fl_X7_100 rfl rfl ?_
  refine wp_iconst (pc := 5) dX7_readsWord_5 (by decide) ?_
  refine wp_icmp_ne (pc := 6) 13 dX7_readsWord_6 (by decide) (fun c_6 => ?_) (fun c_6 => ?_)
  · refine wp_iconst (pc := 13) dX7_readsWord_13 (by decide) ?_
    refine wp_iconst (pc := 14) dX7_readsWord_14 (by decide) ?_
    refine wp_cvV2 (pc := 15) dX7_readsWord_15 mv_X7_111 m_mustP (Nat.le_of_ble_eq_true rfl) rfl (Nat.le_of_ble_eq_true rfl) (fun σ_15 h_15 => ?_)
    have g_15 := h_15; obtain ⟨f_15, a12_15, a13_15, a14_15, a15_15, q_15⟩ := h_15; clear q_15; first | have w_15 := g_15.no (Or.inl (by decide)) | have w_15 := g_15.yes rfl (by omega)
    refine wp_aload_n (pc := 18) dX7_readsWord_18 rfl rfl ?_
    refine wp_aload_n (pc := 19) dX7_readsWord_19 rfl rfl ?_
    refine wp_getI (pc := 20) 10 dX7_readsWord_20 fl_X7_81 rfl rfl ?_
    refine wp_if_gt (pc := 23) 40 dX7_readsWord_23 (by decide) (fun c_23 => ?_) (fun c_23 => ?_)
    · refine wp_iconst (pc := 40) dX7_readsWord_40 (by decide) ?_
      refine wp_goto (pc := 41) 45 dX7_readsWord_41 (by decide) ?_
      refine wp_iconst (pc := 45) dX7_readsWord_45 (by decide) ?_
      refine wp_cvV2 (pc := 46) dX7_readsWord_46 mv_X7_111 m_mustP (Nat.le_of_ble_eq_true rfl) rfl (Nat.le_of_ble_eq_true rfl) (fun σ_46 h_46 => ?_)
      have g_46 := h_46; obtain ⟨f_46, a12_46, a13_46, a14_46, a15_46, q_46⟩ := h_46; clear q_46; first | have w_46 := g_46.no (Or.inl (by decide)) | have w_46 := g_46.yes rfl (by omega)
      refine wp_aload_n (pc := 49) dX7_readsWord_49 rfl rfl ?_
      refine wp_aload_n (pc := 50) dX7_readsWord_50 rfl rfl ?_
      refine wp_getI (pc := 51) 10 dX7_readsWord_51 fl_X7_81 rfl rfl ?_
      refine wp_if_gt (pc := 54) 66 dX7_readsWord_54 (by decide) (fun c_54 => ?_) (fun c_54 => ?_)
      · refine wp_iconst (pc := 66) dX7_readsWord_66 (by decide) ?_
        refine wp_goto (pc := 67) 71 dX7_readsWord_67 (by decide) ?_
        refine wp_iconst (pc := 71) dX7_readsWord_71 (by decide) ?_
        refine wp_cvV2 (pc := 72) dX7_readsWord_72 mv_X7_111 m_mustP (Nat.le_of_ble_eq_true rfl) rfl (Nat.le_of_ble_eq_true rfl) (fun σ_72 h_72 => ?_)
        have g_72 := h_72; obtain ⟨f_72, a12_72, a13_72, a14_72, a15_72, q_72⟩ := h_72; clear q_72; first | have w_72 := g_72.no (Or.inl (by decide)) | have w_72 := g_72.yes rfl (by omega)
        refine wp_aload_n (pc := 75) dX7_readsWord_75 rfl rfl ?_
        refine wp_getI (pc := 76) 10 dX7_readsWord_76 fl_X7_81 rfl rfl ?_
        refine wp_if_le (pc := 79) 83 dX7_readsWord_79 (by decide) (fun c_79 => ?_) (fun c_79 => ?_)
        · have F72 := (f_15.tr f_46).tr f_72
          have hg72 : MG t n σ_72 s cnt := hg.same F72 (by omega) (by omega) (by omega) (by omega) (by omega)
          have hP72 := hg72.1.2.2.2.2.2.2.1
          refine wp_bipush (pc := 83) dX7_readsWord_83 (by decide) (by decide) ?_
          refine wp_bipush (pc := 85) dX7_readsWord_85 (by decide) (by decide) ?_
          refine wp_aload_n (pc := 87) dX7_readsWord_87 rfl rfl ?_
          refine wp_cvI0 (pc := 88) dX7_readsWord_88 mv_X7_145 (m_wordsOfDraft hP72 hW) (Nat.le_of_ble_eq_true rfl) rfl (Nat.le_of_ble_eq_true rfl) (fun z_88 σ_88 h_88 => ?_)
          obtain ⟨rfl, e_88⟩ := h_88; have e2_88 := e_88.symm; subst e2_88
          refine wp_imul (pc := 91) dX7_readsWord_91 (by omega) ?_
          refine wp_iadd (pc := 92) dX7_readsWord_92 (by omega) ?_
          refine wp_istore_n (pc := 93) dX7_readsWord_93 rfl (Nat.le_of_ble_eq_true rfl) rfl ?_
          refine wp_aload_n (pc := 94) dX7_readsWord_94 rfl rfl ?_
          refine wp_getR (pc := 95) (q := 73) dX7_readsWord_95 fl_X7_13 rfl ?_
          refine wp_iload_n (pc := 98) dX7_readsWord_98 rfl rfl ?_
          refine wp_aload_n (pc := 99) dX7_readsWord_99 rfl rfl ?_
          refine wp_getI (pc := 100) 12 dX7_readsWord_100 fl_X7_90 rfl rfl ?_
          refine wp_aload_n (pc := 103) dX7_readsWord_103 rfl rfl ?_
          refine wp_getI (pc := 104) 13 dX7_readsWord_104 fl_X7_84 rfl rfl ?_
          rw [show σ_72 71 12 = tkE t n s.x by omega, show σ_72 71 13 = tkS t n s.x by omega]
          refine wp_isub (pc := 107) dX7_readsWord_107 (by omega) ?_
          refine wp_iast (pc := 108) 591 dX7_readsWord_108 rfl (by omega) ?_
          refine wp_iconst (pc := 109) dX7_readsWord_109 (by decide) ?_
          refine wp_istore_n (pc := 110) dX7_readsWord_110 rfl (Nat.le_of_ble_eq_true rfl) rfl ?_
          first
            | (exfalso; omega)
            | exact lp σ_72 F72 hg72 (by omega) (by omega) (by omega) 0 (by decide) (by decide) _ (fun r hr => upd2_out hr) upd2_eq (fun j j0 j1 => by omega) (fun x hx => by rw [upd2_k (by omega)])
        · refine wp_return (pc := 82) dX7_readsWord_82 rfl ?_
          refine ⟨rfl, ((f_15.tr f_46).tr f_72).r, Or.inr ?_⟩
          first
            | (rw [er, if_pos (by omega)]; exact hg.no (by decide) (by omega) (by omega))
            | (rw [er, if_neg (by omega), if_pos (by omega)]; exact hg.no (by decide) (by omega) (by omega))
            | (rw [er, if_neg (by omega), if_neg (by omega), if_pos (by omega)]; exact hg.no (by decide) (by omega) (by omega))
            | (exfalso; omega)
      · have hP46 : PR (σ_46 73) s.D := by rw [f_46.1 73 (by decide), f_15.1 73 (by decide)]; exact hPR
        refine wp_aload_n (pc := 57) dX7_readsWord_57 rfl rfl ?_
        refine wp_cvI0 (pc := 58) dX7_readsWord_58 mv_X7_145 (m_wordsOfDraft hP46 hW) (Nat.le_of_ble_eq_true rfl) rfl (Nat.le_of_ble_eq_true rfl) (fun z_58 σ_58 h_58 => ?_)
        obtain ⟨zz_58, e_58⟩ := h_58; have e2_58 := e_58.symm; subst e2_58
        refine wp_bipush (pc := 61) dX7_readsWord_61 (by decide) (by decide) ?_
        refine wp_icmp_ge (pc := 63) 70 dX7_readsWord_63 (by decide) (fun c_63 => ?_) (fun c_63 => ?_)
        · refine wp_iconst (pc := 70) dX7_readsWord_70 (by decide) ?_
          refine wp_iconst (pc := 71) dX7_readsWord_71 (by decide) ?_
          refine wp_cvV2 (pc := 72) dX7_readsWord_72 mv_X7_111 m_mustP (Nat.le_of_ble_eq_true rfl) rfl (Nat.le_of_ble_eq_true rfl) (fun σ_72 h_72 => ?_)
          have g_72 := h_72; obtain ⟨f_72, a12_72, a13_72, a14_72, a15_72, q_72⟩ := h_72; clear q_72; first | have w_72 := g_72.no (Or.inl (by decide)) | have w_72 := g_72.yes rfl (by omega)
          refine wp_aload_n (pc := 75) dX7_readsWord_75 rfl rfl ?_
          refine wp_getI (pc := 76) 10 dX7_readsWord_76 fl_X7_81 rfl rfl ?_
          refine wp_if_le (pc := 79) 83 dX7_readsWord_79 (by decide) (fun c_79 => ?_) (fun c_79 => ?_)
          · have F72 := (f_15.tr f_46).tr f_72
            have hg72 : MG t n σ_72 s cnt := hg.same F72 (by omega) (by omega) (by omega) (by omega) (by omega)
            have hP72 := hg72.1.2.2.2.2.2.2.1
            refine wp_bipush (pc := 83) dX7_readsWord_83 (by decide) (by decide) ?_
            refine wp_bipush (pc := 85) dX7_readsWord_85 (by decide) (by decide) ?_
            refine wp_aload_n (pc := 87) dX7_readsWord_87 rfl rfl ?_
            refine wp_cvI0 (pc := 88) dX7_readsWord_88 mv_X7_145 (m_wordsOfDraft hP72 hW) (Nat.le_of_ble_eq_true rfl) rfl (Nat.le_of_ble_eq_true rfl) (fun z_88 σ_88 h_88 => ?_)
            obtain ⟨rfl, e_88⟩ := h_88; have e2_88 := e_88.symm; subst e2_88
            refine wp_imul (pc := 91) dX7_readsWord_91 (by omega) ?_
            refine wp_iadd (pc := 92) dX7_readsWord_92 (by omega) ?_
            refine wp_istore_n (pc := 93) dX7_readsWord_93 rfl (Nat.le_of_ble_eq_true rfl) rfl ?_
            refine wp_aload_n (pc := 94) dX7_readsWord_94 rfl rfl ?_
            refine wp_getR (pc := 95) (q := 73) dX7_readsWord_95 fl_X7_13 rfl ?_
            refine wp_iload_n (pc := 98) dX7_readsWord_98 rfl rfl ?_
            refine wp_aload_n (pc := 99) dX7_readsWord_99 rfl rfl ?_
            refine wp_getI (pc := 100) 12 dX7_readsWord_100 fl_X7_90 rfl rfl ?_
            refine wp_aload_n (pc := 103) dX7_readsWord_103 rfl rfl ?_
            refine wp_getI (pc := 104) 13 dX7_readsWord_104 fl_X7_84 rfl rfl ?_
            rw [show σ_72 71 12 = tkE t n s.x by omega, show σ_72 71 13 = tkS t n s.x by omega]
            refine wp_isub (pc := 107) dX7_readsWord_107 (by omega) ?_
            refine wp_iast (pc := 108) 591 dX7_readsWord_108 rfl (by omega) ?_
            refine wp_iconst (pc := 109) dX7_readsWord_109 (by decide) ?_
            refine wp_istore_n (pc := 110) dX7_readsWord_110 rfl (Nat.le_of_ble_eq_true rfl) rfl ?_
            first
              | (exfalso; omega)
              | exact lp σ_72 F72 hg72 (by omega) (by omega) (by omega) 0 (by decide) (by decide) _ (fun r hr => upd2_out hr) upd2_eq (fun j j0 j1 => by omega) (fun x hx => by rw [upd2_k (by omega)])
          · refine wp_return (pc := 82) dX7_readsWord_82 rfl ?_
            refine ⟨rfl, ((f_15.tr f_46).tr f_72).r, Or.inr ?_⟩
            first
              | (rw [er, if_pos (by omega)]; exact hg.no (by decide) (by omega) (by omega))
              | (rw [er, if_neg (by omega), if_pos (by omega)]; exact hg.no (by decide) (by omega) (by omega))
              | (rw [er, if_neg (by omega), if_neg (by omega), if_pos (by omega)]; exact hg.no (by decide) (by omega) (by omega))
              | (exfalso; omega)
        · refine wp_iconst (pc := 66) dX7_readsWord_66 (by decide) ?_
          refine wp_goto (pc := 67) 71 dX7_readsWord_67 (by decide) ?_
          refine wp_iconst (pc := 71) dX7_readsWord_71 (by decide) ?_
          refine wp_cvV2 (pc := 72) dX7_readsWord_72 mv_X7_111 m_mustP (Nat.le_of_ble_eq_true rfl) rfl (Nat.le_of_ble_eq_true rfl) (fun σ_72 h_72 => ?_)
          have g_72 := h_72; obtain ⟨f_72, a12_72, a13_72, a14_72, a15_72, q_72⟩ := h_72; clear q_72; first | have w_72 := g_72.no (Or.inl (by decide)) | have w_72 := g_72.yes rfl (by omega)
          refine wp_aload_n (pc := 75) dX7_readsWord_75 rfl rfl ?_
          refine wp_getI (pc := 76) 10 dX7_readsWord_76 fl_X7_81 rfl rfl ?_
          refine wp_if_le (pc := 79) 83 dX7_readsWord_79 (by decide) (fun c_79 => ?_) (fun c_79 => ?_)
          · have F72 := (f_15.tr f_46).tr f_72
            have hg72 : MG t n σ_72 s cnt := hg.same F72 (by omega) (by omega) (by omega) (by omega) (by omega)
            have hP72 := hg72.1.2.2.2.2.2.2.1
            refine wp_bipush (pc := 83) dX7_readsWord_83 (by decide) (by decide) ?_
            refine wp_bipush (pc := 85) dX7_readsWord_85 (by decide) (by decide) ?_
            refine wp_aload_n (pc := 87) dX7_readsWord_87 rfl rfl ?_
            refine wp_cvI0 (pc := 88) dX7_readsWord_88 mv_X7_145 (m_wordsOfDraft hP72 hW) (Nat.le_of_ble_eq_true rfl) rfl (Nat.le_of_ble_eq_true rfl) (fun z_88 σ_88 h_88 => ?_)
            obtain ⟨rfl, e_88⟩ := h_88; have e2_88 := e_88.symm; subst e2_88
            refine wp_imul (pc := 91) dX7_readsWord_91 (by omega) ?_
            refine wp_iadd (pc := 92) dX7_readsWord_92 (by omega) ?_
            refine wp_istore_n (pc := 93) dX7_readsWord_93 rfl (Nat.le_of_ble_eq_true rfl) rfl ?_
            refine wp_aload_n (pc := 94) dX7_readsWord_94 rfl rfl ?_
            refine wp_getR (pc := 95) (q := 73) dX7_readsWord_95 fl_X7_13 rfl ?_
            refine wp_iload_n (pc := 98) dX7_readsWord_98 rfl rfl ?_
            refine wp_aload_n (pc := 99) dX7_readsWord_99 rfl rfl ?_
            refine wp_getI (pc := 100) 12 dX7_readsWord_100 fl_X7_90 rfl rfl ?_
            refine wp_aload_n (pc := 103) dX7_readsWord_103 rfl rfl ?_
            refine wp_getI (pc := 104) 13 dX7_readsWord_104 fl_X7_84 rfl rfl ?_
            rw [show σ_72 71 12 = tkE t n s.x by omega, show σ_72 71 13 = tkS t n s.x by omega]
            refine wp_isub (pc := 107) dX7_readsWord_107 (by omega) ?_
            refine wp_iast (pc := 108) 591 dX7_readsWord_108 rfl (by omega) ?_
            refine wp_iconst (pc := 109) dX7_readsWord_109 (by decide) ?_
            refine wp_istore_n (pc := 110) dX7_readsWord_110 rfl (Nat.le_of_ble_eq_true rfl) rfl ?_
            first
              | (exfalso; omega)
              | exact lp σ_72 F72 hg72 (by omega) (by omega) (by omega) 0 (by decide) (by decide) _ (fun r hr => upd2_out hr) upd2_eq (fun j j0 j1 => by omega) (fun x hx => by rw [upd2_k (by omega)])
          · refine wp_return (pc := 82) dX7_readsWord_82 rfl ?_
            refine ⟨rfl, ((f_15.tr f_46).tr f_72).r, Or.inr ?_⟩
            first
              | (rw [er, if_pos (by omega)]; exact hg.no (by decide) (by omega) (by omega))
              | (rw [er, if_neg (by omega), if_pos (by omega)]; exact hg.no (by decide) (by omega) (by omega))
              | (rw [er, if_neg (by omega), if_neg (by omega), if_pos (by omega)]; exact hg.no (by decide) (by omega) (by omega))
              | (exfalso; omega)
    · refine wp_aload_n (pc := 26) dX7_readsWord_26 rfl rfl ?_
      refine wp_getI (pc := 27) 12 dX7_readsWord_27 fl_X7_90 rfl rfl ?_
      refine wp_aload_n (pc := 30) dX7_readsWord_30 rfl rfl ?_
      refine wp_getI (pc := 31) 13 dX7_readsWord_31 fl_X7_84 rfl rfl ?_
      refine wp_isub (pc := 34) dX7_readsWord_34 (by omega) ?_
      refine wp_bipush (pc := 35) dX7_readsWord_35 (by decide) (by decide) ?_
      refine wp_icmp_gt (pc := 37) 44 dX7_readsWord_37 (by decide) (fun c_37 => ?_) (fun c_37 => ?_)
      · refine wp_iconst (pc := 44) dX7_readsWord_44 (by decide) ?_
        refine wp_iconst (pc := 45) dX7_readsWord_45 (by decide) ?_
        refine wp_cvV2 (pc := 46) dX7_readsWord_46 mv_X7_111 m_mustP (Nat.le_of_ble_eq_true rfl) rfl (Nat.le_of_ble_eq_true rfl) (fun σ_46 h_46 => ?_)
        have g_46 := h_46; obtain ⟨f_46, a12_46, a13_46, a14_46, a15_46, q_46⟩ := h_46; clear q_46; first | have w_46 := g_46.no (Or.inl (by decide)) | have w_46 := g_46.yes rfl (by omega)
        refine wp_aload_n (pc := 49) dX7_readsWord_49 rfl rfl ?_
        refine wp_aload_n (pc := 50) dX7_readsWord_50 rfl rfl ?_
        refine wp_getI (pc := 51) 10 dX7_readsWord_51 fl_X7_81 rfl rfl ?_
        refine wp_if_gt (pc := 54) 66 dX7_readsWord_54 (by decide) (fun c_54 => ?_) (fun c_54 => ?_)
        · refine wp_iconst (pc := 66) dX7_readsWord_66 (by decide) ?_
          refine wp_goto (pc := 67) 71 dX7_readsWord_67 (by decide) ?_
          refine wp_iconst (pc := 71) dX7_readsWord_71 (by decide) ?_
          refine wp_cvV2 (pc := 72) dX7_readsWord_72 mv_X7_111 m_mustP (Nat.le_of_ble_eq_true rfl) rfl (Nat.le_of_ble_eq_true rfl) (fun σ_72 h_72 => ?_)
          have g_72 := h_72; obtain ⟨f_72, a12_72, a13_72, a14_72, a15_72, q_72⟩ := h_72; clear q_72; first | have w_72 := g_72.no (Or.inl (by decide)) | have w_72 := g_72.yes rfl (by omega)
          refine wp_aload_n (pc := 75) dX7_readsWord_75 rfl rfl ?_
          refine wp_getI (pc := 76) 10 dX7_readsWord_76 fl_X7_81 rfl rfl ?_
          refine wp_if_le (pc := 79) 83 dX7_readsWord_79 (by decide) (fun c_79 => ?_) (fun c_79 => ?_)
          · have F72 := (f_15.tr f_46).tr f_72
            have hg72 : MG t n σ_72 s cnt := hg.same F72 (by omega) (by omega) (by omega) (by omega) (by omega)
            have hP72 := hg72.1.2.2.2.2.2.2.1
            refine wp_bipush (pc := 83) dX7_readsWord_83 (by decide) (by decide) ?_
            refine wp_bipush (pc := 85) dX7_readsWord_85 (by decide) (by decide) ?_
            refine wp_aload_n (pc := 87) dX7_readsWord_87 rfl rfl ?_
            refine wp_cvI0 (pc := 88) dX7_readsWord_88 mv_X7_145 (m_wordsOfDraft hP72 hW) (Nat.le_of_ble_eq_true rfl) rfl (Nat.le_of_ble_eq_true rfl) (fun z_88 σ_88 h_88 => ?_)
            obtain ⟨rfl, e_88⟩ := h_88; have e2_88 := e_88.symm; subst e2_88
            refine wp_imul (pc := 91) dX7_readsWord_91 (by omega) ?_
            refine wp_iadd (pc := 92) dX7_readsWord_92 (by omega) ?_
            refine wp_istore_n (pc := 93) dX7_readsWord_93 rfl (Nat.le_of_ble_eq_true rfl) rfl ?_
            refine wp_aload_n (pc := 94) dX7_readsWord_94 rfl rfl ?_
            refine wp_getR (pc := 95) (q := 73) dX7_readsWord_95 fl_X7_13 rfl ?_
            refine wp_iload_n (pc := 98) dX7_readsWord_98 rfl rfl ?_
            refine wp_aload_n (pc := 99) dX7_readsWord_99 rfl rfl ?_
            refine wp_getI (pc := 100) 12 dX7_readsWord_100 fl_X7_90 rfl rfl ?_
            refine wp_aload_n (pc := 103) dX7_readsWord_103 rfl rfl ?_
            refine wp_getI (pc := 104) 13 dX7_readsWord_104 fl_X7_84 rfl rfl ?_
            rw [show σ_72 71 12 = tkE t n s.x by omega, show σ_72 71 13 = tkS t n s.x by omega]
            refine wp_isub (pc := 107) dX7_readsWord_107 (by omega) ?_
            refine wp_iast (pc := 108) 591 dX7_readsWord_108 rfl (by omega) ?_
            refine wp_iconst (pc := 109) dX7_readsWord_109 (by decide) ?_
            refine wp_istore_n (pc := 110) dX7_readsWord_110 rfl (Nat.le_of_ble_eq_true rfl) rfl ?_
            first
              | (exfalso; omega)
              | exact lp σ_72 F72 hg72 (by omega) (by omega) (by omega) 0 (by decide) (by decide) _ (fun r hr => upd2_out hr) upd2_eq (fun j j0 j1 => by omega) (fun x hx => by rw [upd2_k (by omega)])
          · refine wp_return (pc := 82) dX7_readsWord_82 rfl ?_
            refine ⟨rfl, ((f_15.tr f_46).tr f_72).r, Or.inr ?_⟩
            first
              | (rw [er, if_pos (by omega)]; exact hg.no (by decide) (by omega) (by omega))
              | (rw [er, if_neg (by omega), if_pos (by omega)]; exact hg.no (by decide) (by omega) (by omega))
              | (rw [er, if_neg (by omega), if_neg (by omega), if_pos (by omega)]; exact hg.no (by decide) (by omega) (by omega))
              | (exfalso; omega)
        · have hP46 : PR (σ_46 73) s.D := by rw [f_46.1 73 (by decide), f_15.1 73 (by decide)]; exact hPR
          refine wp_aload_n (pc := 57) dX7_readsWord_57 rfl rfl ?_
          refine wp_cvI0 (pc := 58) dX7_readsWord_58 mv_X7_145 (m_wordsOfDraft hP46 hW) (Nat.le_of_ble_eq_true rfl) rfl (Nat.le_of_ble_eq_true rfl) (fun z_58 σ_58 h_58 => ?_)
          obtain ⟨zz_58, e_58⟩ := h_58; have e2_58 := e_58.symm; subst e2_58
          refine wp_bipush (pc := 61) dX7_readsWord_61 (by decide) (by decide) ?_
          refine wp_icmp_ge (pc := 63) 70 dX7_readsWord_63 (by decide) (fun c_63 => ?_) (fun c_63 => ?_)
          · refine wp_iconst (pc := 70) dX7_readsWord_70 (by decide) ?_
            refine wp_iconst (pc := 71) dX7_readsWord_71 (by decide) ?_
            refine wp_cvV2 (pc := 72) dX7_readsWord_72 mv_X7_111 m_mustP (Nat.le_of_ble_eq_true rfl) rfl (Nat.le_of_ble_eq_true rfl) (fun σ_72 h_72 => ?_)
            have g_72 := h_72; obtain ⟨f_72, a12_72, a13_72, a14_72, a15_72, q_72⟩ := h_72; clear q_72; first | have w_72 := g_72.no (Or.inl (by decide)) | have w_72 := g_72.yes rfl (by omega)
            refine wp_aload_n (pc := 75) dX7_readsWord_75 rfl rfl ?_
            refine wp_getI (pc := 76) 10 dX7_readsWord_76 fl_X7_81 rfl rfl ?_
            refine wp_if_le (pc := 79) 83 dX7_readsWord_79 (by decide) (fun c_79 => ?_) (fun c_79 => ?_)
            · have F72 := (f_15.tr f_46).tr f_72
              have hg72 : MG t n σ_72 s cnt := hg.same F72 (by omega) (by omega) (by omega) (by omega) (by omega)
              have hP72 := hg72.1.2.2.2.2.2.2.1
              refine wp_bipush (pc := 83) dX7_readsWord_83 (by decide) (by decide) ?_
              refine wp_bipush (pc := 85) dX7_readsWord_85 (by decide) (by decide) ?_
              refine wp_aload_n (pc := 87) dX7_readsWord_87 rfl rfl ?_
              refine wp_cvI0 (pc := 88) dX7_readsWord_88 mv_X7_145 (m_wordsOfDraft hP72 hW) (Nat.le_of_ble_eq_true rfl) rfl (Nat.le_of_ble_eq_true rfl) (fun z_88 σ_88 h_88 => ?_)
              obtain ⟨rfl, e_88⟩ := h_88; have e2_88 := e_88.symm; subst e2_88
              refine wp_imul (pc := 91) dX7_readsWord_91 (by omega) ?_
              refine wp_iadd (pc := 92) dX7_readsWord_92 (by omega) ?_
              refine wp_istore_n (pc := 93) dX7_readsWord_93 rfl (Nat.le_of_ble_eq_true rfl) rfl ?_
              refine wp_aload_n (pc := 94) dX7_readsWord_94 rfl rfl ?_
              refine wp_getR (pc := 95) (q := 73) dX7_readsWord_95 fl_X7_13 rfl ?_
              refine wp_iload_n (pc := 98) dX7_readsWord_98 rfl rfl ?_
              refine wp_aload_n (pc := 99) dX7_readsWord_99 rfl rfl ?_
              refine wp_getI (pc := 100) 12 dX7_readsWord_100 fl_X7_90 rfl rfl ?_
              refine wp_aload_n (pc := 103) dX7_readsWord_103 rfl rfl ?_
              refine wp_getI (pc := 104) 13 dX7_readsWord_104 fl_X7_84 rfl rfl ?_
              rw [show σ_72 71 12 = tkE t n s.x by omega, show σ_72 71 13 = tkS t n s.x by omega]
              refine wp_isub (pc := 107) dX7_readsWord_107 (by omega) ?_
              refine wp_iast (pc := 108) 591 dX7_readsWord_108 rfl (by omega) ?_
              refine wp_iconst (pc := 109) dX7_readsWord_109 (by decide) ?_
              refine wp_istore_n (pc := 110) dX7_readsWord_110 rfl (Nat.le_of_ble_eq_true rfl) rfl ?_
              first
                | (exfalso; omega)
                | exact lp σ_72 F72 hg72 (by omega) (by omega) (by omega) 0 (by decide) (by decide) _ (fun r hr => upd2_out hr) upd2_eq (fun j j0 j1 => by omega) (fun x hx => by rw [upd2_k (by omega)])
            · refine wp_return (pc := 82) dX7_readsWord_82 rfl ?_
              refine ⟨rfl, ((f_15.tr f_46).tr f_72).r, Or.inr ?_⟩
              first
                | (rw [er, if_pos (by omega)]; exact hg.no (by decide) (by omega) (by omega))
                | (rw [er, if_neg (by omega), if_pos (by omega)]; exact hg.no (by decide) (by omega) (by omega))
                | (rw [er, if_neg (by omega), if_neg (by omega), if_pos (by omega)]; exact hg.no (by decide) (by omega) (by omega))
                | (exfalso; omega)
          · refine wp_iconst (pc := 66) dX7_readsWord_66 (by decide) ?_
            refine wp_goto (pc := 67) 71 dX7_readsWord_67 (by decide) ?_
            refine wp_iconst (pc := 71) dX7_readsWord_71 (by decide) ?_
            refine wp_cvV2 (pc := 72) dX7_readsWord_72 mv_X7_111 m_mustP (Nat.le_of_ble_eq_true rfl) rfl (Nat.le_of_ble_eq_true rfl) (fun σ_72 h_72 => ?_)
            have g_72 := h_72; obtain ⟨f_72, a12_72, a13_72, a14_72, a15_72, q_72⟩ := h_72; clear q_72; first | have w_72 := g_72.no (Or.inl (by decide)) | have w_72 := g_72.yes rfl (by omega)
            refine wp_aload_n (pc := 75) dX7_readsWord_75 rfl rfl ?_
            refine wp_getI (pc := 76) 10 dX7_readsWord_76 fl_X7_81 rfl rfl ?_
            refine wp_if_le (pc := 79) 83 dX7_readsWord_79 (by decide) (fun c_79 => ?_) (fun c_79 => ?_)
            · have F72 := (f_15.tr f_46).tr f_72
              have hg72 : MG t n σ_72 s cnt := hg.same F72 (by omega) (by omega) (by omega) (by omega) (by omega)
              have hP72 := hg72.1.2.2.2.2.2.2.1
              refine wp_bipush (pc := 83) dX7_readsWord_83 (by decide) (by decide) ?_
              refine wp_bipush (pc := 85) dX7_readsWord_85 (by decide) (by decide) ?_
              refine wp_aload_n (pc := 87) dX7_readsWord_87 rfl rfl ?_
              refine wp_cvI0 (pc := 88) dX7_readsWord_88 mv_X7_145 (m_wordsOfDraft hP72 hW) (Nat.le_of_ble_eq_true rfl) rfl (Nat.le_of_ble_eq_true rfl) (fun z_88 σ_88 h_88 => ?_)
              obtain ⟨rfl, e_88⟩ := h_88; have e2_88 := e_88.symm; subst e2_88
              refine wp_imul (pc := 91) dX7_readsWord_91 (by omega) ?_
              refine wp_iadd (pc := 92) dX7_readsWord_92 (by omega) ?_
              refine wp_istore_n (pc := 93) dX7_readsWord_93 rfl (Nat.le_of_ble_eq_true rfl) rfl ?_
              refine wp_aload_n (pc := 94) dX7_readsWord_94 rfl rfl ?_
              refine wp_getR (pc := 95) (q := 73) dX7_readsWord_95 fl_X7_13 rfl ?_
              refine wp_iload_n (pc := 98) dX7_readsWord_98 rfl rfl ?_
              refine wp_aload_n (pc := 99) dX7_readsWord_99 rfl rfl ?_
              refine wp_getI (pc := 100) 12 dX7_readsWord_100 fl_X7_90 rfl rfl ?_
              refine wp_aload_n (pc := 103) dX7_readsWord_103 rfl rfl ?_
              refine wp_getI (pc := 104) 13 dX7_readsWord_104 fl_X7_84 rfl rfl ?_
              rw [show σ_72 71 12 = tkE t n s.x by omega, show σ_72 71 13 = tkS t n s.x by omega]
              refine wp_isub (pc := 107) dX7_readsWord_107 (by omega) ?_
              refine wp_iast (pc := 108) 591 dX7_readsWord_108 rfl (by omega) ?_
              refine wp_iconst (pc := 109) dX7_readsWord_109 (by decide) ?_
              refine wp_istore_n (pc := 110) dX7_readsWord_110 rfl (Nat.le_of_ble_eq_true rfl) rfl ?_
              first
                | (exfalso; omega)
                | exact lp σ_72 F72 hg72 (by omega) (by omega) (by omega) 0 (by decide) (by decide) _ (fun r hr => upd2_out hr) upd2_eq (fun j j0 j1 => by omega) (fun x hx => by rw [upd2_k (by omega)])
            · refine wp_return (pc := 82) dX7_readsWord_82 rfl ?_
              refine ⟨rfl, ((f_15.tr f_46).tr f_72).r, Or.inr ?_⟩
              first
                | (rw [er, if_pos (by omega)]; exact hg.no (by decide) (by omega) (by omega))
                | (rw [er, if_neg (by omega), if_pos (by omega)]; exact hg.no (by decide) (by omega) (by omega))
                | (rw [er, if_neg (by omega), if_neg (by omega), if_pos (by omega)]; exact hg.no (by decide) (by omega) (by omega))
                | (exfalso; omega)
      · refine wp_iconst (pc := 40) dX7_readsWord_40 (by decide) ?_
        refine wp_goto (pc := 41) 45 dX7_readsWord_41 (by decide) ?_
        refine wp_iconst (pc := 45) dX7_readsWord_45 (by decide) ?_
        refine wp_cvV2 (pc := 46) dX7_readsWord_46 mv_X7_111 m_mustP (Nat.le_of_ble_eq_true rfl) rfl (Nat.le_of_ble_eq_true rfl) (fun σ_46 h_46 => ?_)
        have g_46 := h_46; obtain ⟨f_46, a12_46, a13_46, a14_46, a15_46, q_46⟩ := h_46; clear q_46; first | have w_46 := g_46.no (Or.inl (by decide)) | have w_46 := g_46.yes rfl (by omega)
        refine wp_aload_n (pc := 49) dX7_readsWord_49 rfl rfl ?_
        refine wp_aload_n (pc := 50) dX7_readsWord_50 rfl rfl ?_
        refine wp_getI (pc := 51) 10 dX7_readsWord_51 fl_X7_81 rfl rfl ?_
        refine wp_if_gt (pc := 54) 66 dX7_readsWord_54 (by decide) (fun c_54 => ?_) (fun c_54 => ?_)
        · refine wp_iconst (pc := 66) dX7_readsWord_66 (by decide) ?_
          refine wp_goto (pc := 67) 71 dX7_readsWord_67 (by decide) ?_
          refine wp_iconst (pc := 71) dX7_readsWord_71 (by decide) ?_
          refine wp_cvV2 (pc := 72) dX7_readsWord_72 mv_X7_111 m_mustP (Nat.le_of_ble_eq_true rfl) rfl (Nat.le_of_ble_eq_true rfl) (fun σ_72 h_72 => ?_)
          have g_72 := h_72; obtain ⟨f_72, a12_72, a13_72, a14_72, a15_72, q_72⟩ := h_72; clear q_72; first | have w_72 := g_72.no (Or.inl (by decide)) | have w_72 := g_72.yes rfl (by omega)
          refine wp_aload_n (pc := 75) dX7_readsWord_75 rfl rfl ?_
          refine wp_getI (pc := 76) 10 dX7_readsWord_76 fl_X7_81 rfl rfl ?_
          refine wp_if_le (pc := 79) 83 dX7_readsWord_79 (by decide) (fun c_79 => ?_) (fun c_79 => ?_)
          · have F72 := (f_15.tr f_46).tr f_72
            have hg72 : MG t n σ_72 s cnt := hg.same F72 (by omega) (by omega) (by omega) (by omega) (by omega)
            have hP72 := hg72.1.2.2.2.2.2.2.1
            refine wp_bipush (pc := 83) dX7_readsWord_83 (by decide) (by decide) ?_
            refine wp_bipush (pc := 85) dX7_readsWord_85 (by decide) (by decide) ?_
            refine wp_aload_n (pc := 87) dX7_readsWord_87 rfl rfl ?_
            refine wp_cvI0 (pc := 88) dX7_readsWord_88 mv_X7_145 (m_wordsOfDraft hP72 hW) (Nat.le_of_ble_eq_true rfl) rfl (Nat.le_of_ble_eq_true rfl) (fun z_88 σ_88 h_88 => ?_)
            obtain ⟨rfl, e_88⟩ := h_88; have e2_88 := e_88.symm; subst e2_88
            refine wp_imul (pc := 91) dX7_readsWord_91 (by omega) ?_
            refine wp_iadd (pc := 92) dX7_readsWord_92 (by omega) ?_
            refine wp_istore_n (pc := 93) dX7_readsWord_93 rfl (Nat.le_of_ble_eq_true rfl) rfl ?_
            refine wp_aload_n (pc := 94) dX7_readsWord_94 rfl rfl ?_
            refine wp_getR (pc := 95) (q := 73) dX7_readsWord_95 fl_X7_13 rfl ?_
            refine wp_iload_n (pc := 98) dX7_readsWord_98 rfl rfl ?_
            refine wp_aload_n (pc := 99) dX7_readsWord_99 rfl rfl ?_
            refine wp_getI (pc := 100) 12 dX7_readsWord_100 fl_X7_90 rfl rfl ?_
            refine wp_aload_n (pc := 103) dX7_readsWord_103 rfl rfl ?_
            refine wp_getI (pc := 104) 13 dX7_readsWord_104 fl_X7_84 rfl rfl ?_
            rw [show σ_72 71 12 = tkE t n s.x by omega, show σ_72 71 13 = tkS t n s.x by omega]
            refine wp_isub (pc := 107) dX7_readsWord_107 (by omega) ?_
            refine wp_iast (pc := 108) 591 dX7_readsWord_108 rfl (by omega) ?_
            refine wp_iconst (pc := 109) dX7_readsWord_109 (by decide) ?_
            refine wp_istore_n (pc := 110) dX7_readsWord_110 rfl (Nat.le_of_ble_eq_true rfl) rfl ?_
            first
              | (exfalso; omega)
              | exact lp σ_72 F72 hg72 (by omega) (by omega) (by omega) 0 (by decide) (by decide) _ (fun r hr => upd2_out hr) upd2_eq (fun j j0 j1 => by omega) (fun x hx => by rw [upd2_k (by omega)])
          · refine wp_return (pc := 82) dX7_readsWord_82 rfl ?_
            refine ⟨rfl, ((f_15.tr f_46).tr f_72).r, Or.inr ?_⟩
            first
              | (rw [er, if_pos (by omega)]; exact hg.no (by decide) (by omega) (by omega))
              | (rw [er, if_neg (by omega), if_pos (by omega)]; exact hg.no (by decide) (by omega) (by omega))
              | (rw [er, if_neg (by omega), if_neg (by omega), if_pos (by omega)]; exact hg.no (by decide) (by omega) (by omega))
              | (exfalso; omega)
        · have hP46 : PR (σ_46 73) s.D := by rw [f_46.1 73 (by decide), f_15.1 73 (by decide)]; exact hPR
          refine wp_aload_n (pc := 57) dX7_readsWord_57 rfl rfl ?_
          refine wp_cvI0 (pc := 58) dX7_readsWord_58 mv_X7_145 (m_wordsOfDraft hP46 hW) (Nat.le_of_ble_eq_true rfl) rfl (Nat.le_of_ble_eq_true rfl) (fun z_58 σ_58 h_58 => ?_)
          obtain ⟨zz_58, e_58⟩ := h_58; have e2_58 := e_58.symm; subst e2_58
          refine wp_bipush (pc := 61) dX7_readsWord_61 (by decide) (by decide) ?_
          refine wp_icmp_ge (pc := 63) 70 dX7_readsWord_63 (by decide) (fun c_63 => ?_) (fun c_63 => ?_)
          · refine wp_iconst (pc := 70) dX7_readsWord_70 (by decide) ?_
            refine wp_iconst (pc := 71) dX7_readsWord_71 (by decide) ?_
            refine wp_cvV2 (pc := 72) dX7_readsWord_72 mv_X7_111 m_mustP (Nat.le_of_ble_eq_true rfl) rfl (Nat.le_of_ble_eq_true rfl) (fun σ_72 h_72 => ?_)
            have g_72 := h_72; obtain ⟨f_72, a12_72, a13_72, a14_72, a15_72, q_72⟩ := h_72; clear q_72; first | have w_72 := g_72.no (Or.inl (by decide)) | have w_72 := g_72.yes rfl (by omega)
            refine wp_aload_n (pc := 75) dX7_readsWord_75 rfl rfl ?_
            refine wp_getI (pc := 76) 10 dX7_readsWord_76 fl_X7_81 rfl rfl ?_
            refine wp_if_le (pc := 79) 83 dX7_readsWord_79 (by decide) (fun c_79 => ?_) (fun c_79 => ?_)
            · have F72 := (f_15.tr f_46).tr f_72
              have hg72 : MG t n σ_72 s cnt := hg.same F72 (by omega) (by omega) (by omega) (by omega) (by omega)
              have hP72 := hg72.1.2.2.2.2.2.2.1
              refine wp_bipush (pc := 83) dX7_readsWord_83 (by decide) (by decide) ?_
              refine wp_bipush (pc := 85) dX7_readsWord_85 (by decide) (by decide) ?_
              refine wp_aload_n (pc := 87) dX7_readsWord_87 rfl rfl ?_
              refine wp_cvI0 (pc := 88) dX7_readsWord_88 mv_X7_145 (m_wordsOfDraft hP72 hW) (Nat.le_of_ble_eq_true rfl) rfl (Nat.le_of_ble_eq_true rfl) (fun z_88 σ_88 h_88 => ?_)
              obtain ⟨rfl, e_88⟩ := h_88; have e2_88 := e_88.symm; subst e2_88
              refine wp_imul (pc := 91) dX7_readsWord_91 (by omega) ?_
              refine wp_iadd (pc := 92) dX7_readsWord_92 (by omega) ?_
              refine wp_istore_n (pc := 93) dX7_readsWord_93 rfl (Nat.le_of_ble_eq_true rfl) rfl ?_
              refine wp_aload_n (pc := 94) dX7_readsWord_94 rfl rfl ?_
              refine wp_getR (pc := 95) (q := 73) dX7_readsWord_95 fl_X7_13 rfl ?_
              refine wp_iload_n (pc := 98) dX7_readsWord_98 rfl rfl ?_
              refine wp_aload_n (pc := 99) dX7_readsWord_99 rfl rfl ?_
              refine wp_getI (pc := 100) 12 dX7_readsWord_100 fl_X7_90 rfl rfl ?_
              refine wp_aload_n (pc := 103) dX7_readsWord_103 rfl rfl ?_
              refine wp_getI (pc := 104) 13 dX7_readsWord_104 fl_X7_84 rfl rfl ?_
              rw [show σ_72 71 12 = tkE t n s.x by omega, show σ_72 71 13 = tkS t n s.x by omega]
              refine wp_isub (pc := 107) dX7_readsWord_107 (by omega) ?_
              refine wp_iast (pc := 108) 591 dX7_readsWord_108 rfl (by omega) ?_
              refine wp_iconst (pc := 109) dX7_readsWord_109 (by decide) ?_
              refine wp_istore_n (pc := 110) dX7_readsWord_110 rfl (Nat.le_of_ble_eq_true rfl) rfl ?_
              first
                | (exfalso; omega)
                | exact lp σ_72 F72 hg72 (by omega) (by omega) (by omega) 0 (by decide) (by decide) _ (fun r hr => upd2_out hr) upd2_eq (fun j j0 j1 => by omega) (fun x hx => by rw [upd2_k (by omega)])
            · refine wp_return (pc := 82) dX7_readsWord_82 rfl ?_
              refine ⟨rfl, ((f_15.tr f_46).tr f_72).r, Or.inr ?_⟩
              first
                | (rw [er, if_pos (by omega)]; exact hg.no (by decide) (by omega) (by omega))
                | (rw [er, if_neg (by omega), if_pos (by omega)]; exact hg.no (by decide) (by omega) (by omega))
                | (rw [er, if_neg (by omega), if_neg (by omega), if_pos (by omega)]; exact hg.no (by decide) (by omega) (by omega))
                | (exfalso; omega)
          · refine wp_iconst (pc := 66) dX7_readsWord_66 (by decide) ?_
            refine wp_goto (pc := 67) 71 dX7_readsWord_67 (by decide) ?_
            refine wp_iconst (pc := 71) dX7_readsWord_71 (by decide) ?_
            refine wp_cvV2 (pc := 72) dX7_readsWord_72 mv_X7_111 m_mustP (Nat.le_of_ble_eq_true rfl) rfl (Nat.le_of_ble_eq_true rfl) (fun σ_72 h_72 => ?_)
            have g_72 := h_72; obtain ⟨f_72, a12_72, a13_72, a14_72, a15_72, q_72⟩ := h_72; clear q_72; first | have w_72 := g_72.no (Or.inl (by decide)) | have w_72 := g_72.yes rfl (by omega)
            refine wp_aload_n (pc := 75) dX7_readsWord_75 rfl rfl ?_
            refine wp_getI (pc := 76) 10 dX7_readsWord_76 fl_X7_81 rfl rfl ?_
            refine wp_if_le (pc := 79) 83 dX7_readsWord_79 (by decide) (fun c_79 => ?_) (fun c_79 => ?_)
            · have F72 := (f_15.tr f_46).tr f_72
              have hg72 : MG t n σ_72 s cnt := hg.same F72 (by omega) (by omega) (by omega) (by omega) (by omega)
              have hP72 := hg72.1.2.2.2.2.2.2.1
              refine wp_bipush (pc := 83) dX7_readsWord_83 (by decide) (by decide) ?_
              refine wp_bipush (pc := 85) dX7_readsWord_85 (by decide) (by decide) ?_
              refine wp_aload_n (pc := 87) dX7_readsWord_87 rfl rfl ?_
              refine wp_cvI0 (pc := 88) dX7_readsWord_88 mv_X7_145 (m_wordsOfDraft hP72 hW) (Nat.le_of_ble_eq_true rfl) rfl (Nat.le_of_ble_eq_true rfl) (fun z_88 σ_88 h_88 => ?_)
              obtain ⟨rfl, e_88⟩ := h_88; have e2_88 := e_88.symm; subst e2_88
              refine wp_imul (pc := 91) dX7_readsWord_91 (by omega) ?_
              refine wp_iadd (pc := 92) dX7_readsWord_92 (by omega) ?_
              refine wp_istore_n (pc := 93) dX7_readsWord_93 rfl (Nat.le_of_ble_eq_true rfl) rfl ?_
              refine wp_aload_n (pc := 94) dX7_readsWord_94 rfl rfl ?_
              refine wp_getR (pc := 95) (q := 73) dX7_readsWord_95 fl_X7_13 rfl ?_
              refine wp_iload_n (pc := 98) dX7_readsWord_98 rfl rfl ?_
              refine wp_aload_n (pc := 99) dX7_readsWord_99 rfl rfl ?_
              refine wp_getI (pc := 100) 12 dX7_readsWord_100 fl_X7_90 rfl rfl ?_
              refine wp_aload_n (pc := 103) dX7_readsWord_103 rfl rfl ?_
              refine wp_getI (pc := 104) 13 dX7_readsWord_104 fl_X7_84 rfl rfl ?_
              rw [show σ_72 71 12 = tkE t n s.x by omega, show σ_72 71 13 = tkS t n s.x by omega]
              refine wp_isub (pc := 107) dX7_readsWord_107 (by omega) ?_
              refine wp_iast (pc := 108) 591 dX7_readsWord_108 rfl (by omega) ?_
              refine wp_iconst (pc := 109) dX7_readsWord_109 (by decide) ?_
              refine wp_istore_n (pc := 110) dX7_readsWord_110 rfl (Nat.le_of_ble_eq_true rfl) rfl ?_
              first
                | (exfalso; omega)
                | exact lp σ_72 F72 hg72 (by omega) (by omega) (by omega) 0 (by decide) (by decide) _ (fun r hr => upd2_out hr) upd2_eq (fun j j0 j1 => by omega) (fun x hx => by rw [upd2_k (by omega)])
            · refine wp_return (pc := 82) dX7_readsWord_82 rfl ?_
              refine ⟨rfl, ((f_15.tr f_46).tr f_72).r, Or.inr ?_⟩
              first
                | (rw [er, if_pos (by omega)]; exact hg.no (by decide) (by omega) (by omega))
                | (rw [er, if_neg (by omega), if_pos (by omega)]; exact hg.no (by decide) (by omega) (by omega))
                | (rw [er, if_neg (by omega), if_neg (by omega), if_pos (by omega)]; exact hg.no (by decide) (by omega) (by omega))
                | (exfalso; omega)
  · refine wp_iconst (pc := 9) dX7_readsWord_9 (by decide) ?_
    refine wp_goto (pc := 10) 14 dX7_readsWord_10 (by decide) ?_
    refine wp_iconst (pc := 14) dX7_readsWord_14 (by decide) ?_
    refine wp_cvV2 (pc := 15) dX7_readsWord_15 mv_X7_111 m_mustP (Nat.le_of_ble_eq_true rfl) rfl (Nat.le_of_ble_eq_true rfl) (fun σ_15 h_15 => ?_)
    have g_15 := h_15; obtain ⟨f_15, a12_15, a13_15, a14_15, a15_15, q_15⟩ := h_15; clear q_15; first | have w_15 := g_15.no (Or.inl (by decide)) | have w_15 := g_15.yes rfl (by omega)
    refine wp_aload_n (pc := 18) dX7_readsWord_18 rfl rfl ?_
    refine wp_aload_n (pc := 19) dX7_readsWord_19 rfl rfl ?_
    refine wp_getI (pc := 20) 10 dX7_readsWord_20 fl_X7_81 rfl rfl ?_
    refine wp_if_gt (pc := 23) 40 dX7_readsWord_23 (by decide) (fun c_23 => ?_) (fun c_23 => ?_)
    · refine wp_iconst (pc := 40) dX7_readsWord_40 (by decide) ?_
      refine wp_goto (pc := 41) 45 dX7_readsWord_41 (by decide) ?_
      refine wp_iconst (pc := 45) dX7_readsWord_45 (by decide) ?_
      refine wp_cvV2 (pc := 46) dX7_readsWord_46 mv_X7_111 m_mustP (Nat.le_of_ble_eq_true rfl) rfl (Nat.le_of_ble_eq_true rfl) (fun σ_46 h_46 => ?_)
      have g_46 := h_46; obtain ⟨f_46, a12_46, a13_46, a14_46, a15_46, q_46⟩ := h_46; clear q_46; first | have w_46 := g_46.no (Or.inl (by decide)) | have w_46 := g_46.yes rfl (by omega)
      refine wp_aload_n (pc := 49) dX7_readsWord_49 rfl rfl ?_
      refine wp_aload_n (pc := 50) dX7_readsWord_50 rfl rfl ?_
      refine wp_getI (pc := 51) 10 dX7_readsWord_51 fl_X7_81 rfl rfl ?_
      refine wp_if_gt (pc := 54) 66 dX7_readsWord_54 (by decide) (fun c_54 => ?_) (fun c_54 => ?_)
      · refine wp_iconst (pc := 66) dX7_readsWord_66 (by decide) ?_
        refine wp_goto (pc := 67) 71 dX7_readsWord_67 (by decide) ?_
        refine wp_iconst (pc := 71) dX7_readsWord_71 (by decide) ?_
        refine wp_cvV2 (pc := 72) dX7_readsWord_72 mv_X7_111 m_mustP (Nat.le_of_ble_eq_true rfl) rfl (Nat.le_of_ble_eq_true rfl) (fun σ_72 h_72 => ?_)
        have g_72 := h_72; obtain ⟨f_72, a12_72, a13_72, a14_72, a15_72, q_72⟩ := h_72; clear q_72; first | have w_72 := g_72.no (Or.inl (by decide)) | have w_72 := g_72.yes rfl (by omega)
        refine wp_aload_n (pc := 75) dX7_readsWord_75 rfl rfl ?_
        refine wp_getI (pc := 76) 10 dX7_readsWord_76 fl_X7_81 rfl rfl ?_
        refine wp_if_le (pc := 79) 83 dX7_readsWord_79 (by decide) (fun c_79 => ?_) (fun c_79 => ?_)
        · have F72 := (f_15.tr f_46).tr f_72
          have hg72 : MG t n σ_72 s cnt := hg.same F72 (by omega) (by omega) (by omega) (by omega) (by omega)
          have hP72 := hg72.1.2.2.2.2.2.2.1
          refine wp_bipush (pc := 83) dX7_readsWord_83 (by decide) (by decide) ?_
          refine wp_bipush (pc := 85) dX7_readsWord_85 (by decide) (by decide) ?_
          refine wp_aload_n (pc := 87) dX7_readsWord_87 rfl rfl ?_
          refine wp_cvI0 (pc := 88) dX7_readsWord_88 mv_X7_145 (m_wordsOfDraft hP72 hW) (Nat.le_of_ble_eq_true rfl) rfl (Nat.le_of_ble_eq_true rfl) (fun z_88 σ_88 h_88 => ?_)
          obtain ⟨rfl, e_88⟩ := h_88; have e2_88 := e_88.symm; subst e2_88
          refine wp_imul (pc := 91) dX7_readsWord_91 (by omega) ?_
          refine wp_iadd (pc := 92) dX7_readsWord_92 (by omega) ?_
          refine wp_istore_n (pc := 93) dX7_readsWord_93 rfl (Nat.le_of_ble_eq_true rfl) rfl ?_
          refine wp_aload_n (pc := 94) dX7_readsWord_94 rfl rfl ?_
          refine wp_getR (pc := 95) (q := 73) dX7_readsWord_95 fl_X7_13 rfl ?_
          refine wp_iload_n (pc := 98) dX7_readsWord_98 rfl rfl ?_
          refine wp_aload_n (pc := 99) dX7_readsWord_99 rfl rfl ?_
          refine wp_getI (pc := 100) 12 dX7_readsWord_100 fl_X7_90 rfl rfl ?_
          refine wp_aload_n (pc := 103) dX7_readsWord_103 rfl rfl ?_
          refine wp_getI (pc := 104) 13 dX7_readsWord_104 fl_X7_84 rfl rfl ?_
          rw [show σ_72 71 12 = tkE t n s.x by omega, show σ_72 71 13 = tkS t n s.x by omega]
          refine wp_isub (pc := 107) dX7_readsWord_107 (by omega) ?_
          refine wp_iast (pc := 108) 591 dX7_readsWord_108 rfl (by omega) ?_
          refine wp_iconst (pc := 109) dX7_readsWord_109 (by decide) ?_
          refine wp_istore_n (pc := 110) dX7_readsWord_110 rfl (Nat.le_of_ble_eq_true rfl) rfl ?_
          first
            | (exfalso; omega)
            | exact lp σ_72 F72 hg72 (by omega) (by omega) (by omega) 0 (by decide) (by decide) _ (fun r hr => upd2_out hr) upd2_eq (fun j j0 j1 => by omega) (fun x hx => by rw [upd2_k (by omega)])
        · refine wp_return (pc := 82) dX7_readsWord_82 rfl ?_
          refine ⟨rfl, ((f_15.tr f_46).tr f_72).r, Or.inr ?_⟩
          first
            | (rw [er, if_pos (by omega)]; exact hg.no (by decide) (by omega) (by omega))
            | (rw [er, if_neg (by omega), if_pos (by omega)]; exact hg.no (by decide) (by omega) (by omega))
            | (rw [er, if_neg (by omega), if_neg (by omega), if_pos (by omega)]; exact hg.no (by decide) (by omega) (by omega))
            | (exfalso; omega)
      · have hP46 : PR (σ_46 73) s.D := by rw [f_46.1 73 (by decide), f_15.1 73 (by decide)]; exact hPR
        refine wp_aload_n (pc := 57) dX7_readsWord_57 rfl rfl ?_
        refine wp_cvI0 (pc := 58) dX7_readsWord_58 mv_X7_145 (m_wordsOfDraft hP46 hW) (Nat.le_of_ble_eq_true rfl) rfl (Nat.le_of_ble_eq_true rfl) (fun z_58 σ_58 h_58 => ?_)
        obtain ⟨zz_58, e_58⟩ := h_58; have e2_58 := e_58.symm; subst e2_58
        refine wp_bipush (pc := 61) dX7_readsWord_61 (by decide) (by decide) ?_
        refine wp_icmp_ge (pc := 63) 70 dX7_readsWord_63 (by decide) (fun c_63 => ?_) (fun c_63 => ?_)
        · refine wp_iconst (pc := 70) dX7_readsWord_70 (by decide) ?_
          refine wp_iconst (pc := 71) dX7_readsWord_71 (by decide) ?_
          refine wp_cvV2 (pc := 72) dX7_readsWord_72 mv_X7_111 m_mustP (Nat.le_of_ble_eq_true rfl) rfl (Nat.le_of_ble_eq_true rfl) (fun σ_72 h_72 => ?_)
          have g_72 := h_72; obtain ⟨f_72, a12_72, a13_72, a14_72, a15_72, q_72⟩ := h_72; clear q_72; first | have w_72 := g_72.no (Or.inl (by decide)) | have w_72 := g_72.yes rfl (by omega)
          refine wp_aload_n (pc := 75) dX7_readsWord_75 rfl rfl ?_
          refine wp_getI (pc := 76) 10 dX7_readsWord_76 fl_X7_81 rfl rfl ?_
          refine wp_if_le (pc := 79) 83 dX7_readsWord_79 (by decide) (fun c_79 => ?_) (fun c_79 => ?_)
          · have F72 := (f_15.tr f_46).tr f_72
            have hg72 : MG t n σ_72 s cnt := hg.same F72 (by omega) (by omega) (by omega) (by omega) (by omega)
            have hP72 := hg72.1.2.2.2.2.2.2.1
            refine wp_bipush (pc := 83) dX7_readsWord_83 (by decide) (by decide) ?_
            refine wp_bipush (pc := 85) dX7_readsWord_85 (by decide) (by decide) ?_
            refine wp_aload_n (pc := 87) dX7_readsWord_87 rfl rfl ?_
            refine wp_cvI0 (pc := 88) dX7_readsWord_88 mv_X7_145 (m_wordsOfDraft hP72 hW) (Nat.le_of_ble_eq_true rfl) rfl (Nat.le_of_ble_eq_true rfl) (fun z_88 σ_88 h_88 => ?_)
            obtain ⟨rfl, e_88⟩ := h_88; have e2_88 := e_88.symm; subst e2_88
            refine wp_imul (pc := 91) dX7_readsWord_91 (by omega) ?_
            refine wp_iadd (pc := 92) dX7_readsWord_92 (by omega) ?_
            refine wp_istore_n (pc := 93) dX7_readsWord_93 rfl (Nat.le_of_ble_eq_true rfl) rfl ?_
            refine wp_aload_n (pc := 94) dX7_readsWord_94 rfl rfl ?_
            refine wp_getR (pc := 95) (q := 73) dX7_readsWord_95 fl_X7_13 rfl ?_
            refine wp_iload_n (pc := 98) dX7_readsWord_98 rfl rfl ?_
            refine wp_aload_n (pc := 99) dX7_readsWord_99 rfl rfl ?_
            refine wp_getI (pc := 100) 12 dX7_readsWord_100 fl_X7_90 rfl rfl ?_
            refine wp_aload_n (pc := 103) dX7_readsWord_103 rfl rfl ?_
            refine wp_getI (pc := 104) 13 dX7_readsWord_104 fl_X7_84 rfl rfl ?_
            rw [show σ_72 71 12 = tkE t n s.x by omega, show σ_72 71 13 = tkS t n s.x by omega]
            refine wp_isub (pc := 107) dX7_readsWord_107 (by omega) ?_
            refine wp_iast (pc := 108) 591 dX7_readsWord_108 rfl (by omega) ?_
            refine wp_iconst (pc := 109) dX7_readsWord_109 (by decide) ?_
            refine wp_istore_n (pc := 110) dX7_readsWord_110 rfl (Nat.le_of_ble_eq_true rfl) rfl ?_
            first
              | (exfalso; omega)
              | exact lp σ_72 F72 hg72 (by omega) (by omega) (by omega) 0 (by decide) (by decide) _ (fun r hr => upd2_out hr) upd2_eq (fun j j0 j1 => by omega) (fun x hx => by rw [upd2_k (by omega)])
          · refine wp_return (pc := 82) dX7_readsWord_82 rfl ?_
            refine ⟨rfl, ((f_15.tr f_46).tr f_72).r, Or.inr ?_⟩
            first
              | (rw [er, if_pos (by omega)]; exact hg.no (by decide) (by omega) (by omega))
              | (rw [er, if_neg (by omega), if_pos (by omega)]; exact hg.no (by decide) (by omega) (by omega))
              | (rw [er, if_neg (by omega), if_neg (by omega), if_pos (by omega)]; exact hg.no (by decide) (by omega) (by omega))
              | (exfalso; omega)
        · refine wp_iconst (pc := 66) dX7_readsWord_66 (by decide) ?_
          refine wp_goto (pc := 67) 71 dX7_readsWord_67 (by decide) ?_
          refine wp_iconst (pc := 71) dX7_readsWord_71 (by decide) ?_
          refine wp_cvV2 (pc := 72) dX7_readsWord_72 mv_X7_111 m_mustP (Nat.le_of_ble_eq_true rfl) rfl (Nat.le_of_ble_eq_true rfl) (fun σ_72 h_72 => ?_)
          have g_72 := h_72; obtain ⟨f_72, a12_72, a13_72, a14_72, a15_72, q_72⟩ := h_72; clear q_72; first | have w_72 := g_72.no (Or.inl (by decide)) | have w_72 := g_72.yes rfl (by omega)
          refine wp_aload_n (pc := 75) dX7_readsWord_75 rfl rfl ?_
          refine wp_getI (pc := 76) 10 dX7_readsWord_76 fl_X7_81 rfl rfl ?_
          refine wp_if_le (pc := 79) 83 dX7_readsWord_79 (by decide) (fun c_79 => ?_) (fun c_79 => ?_)
          · have F72 := (f_15.tr f_46).tr f_72
            have hg72 : MG t n σ_72 s cnt := hg.same F72 (by omega) (by omega) (by omega) (by omega) (by omega)
            have hP72 := hg72.1.2.2.2.2.2.2.1
            refine wp_bipush (pc := 83) dX7_readsWord_83 (by decide) (by decide) ?_
            refine wp_bipush (pc := 85) dX7_readsWord_85 (by decide) (by decide) ?_
            refine wp_aload_n (pc := 87) dX7_readsWord_87 rfl rfl ?_
            refine wp_cvI0 (pc := 88) dX7_readsWord_88 mv_X7_145 (m_wordsOfDraft hP72 hW) (Nat.le_of_ble_eq_true rfl) rfl (Nat.le_of_ble_eq_true rfl) (fun z_88 σ_88 h_88 => ?_)
            obtain ⟨rfl, e_88⟩ := h_88; have e2_88 := e_88.symm; subst e2_88
            refine wp_imul (pc := 91) dX7_readsWord_91 (by omega) ?_
            refine wp_iadd (pc := 92) dX7_readsWord_92 (by omega) ?_
            refine wp_istore_n (pc := 93) dX7_readsWord_93 rfl (Nat.le_of_ble_eq_true rfl) rfl ?_
            refine wp_aload_n (pc := 94) dX7_readsWord_94 rfl rfl ?_
            refine wp_getR (pc := 95) (q := 73) dX7_readsWord_95 fl_X7_13 rfl ?_
            refine wp_iload_n (pc := 98) dX7_readsWord_98 rfl rfl ?_
            refine wp_aload_n (pc := 99) dX7_readsWord_99 rfl rfl ?_
            refine wp_getI (pc := 100) 12 dX7_readsWord_100 fl_X7_90 rfl rfl ?_
            refine wp_aload_n (pc := 103) dX7_readsWord_103 rfl rfl ?_
            refine wp_getI (pc := 104) 13 dX7_readsWord_104 fl_X7_84 rfl rfl ?_
            rw [show σ_72 71 12 = tkE t n s.x by omega, show σ_72 71 13 = tkS t n s.x by omega]
            refine wp_isub (pc := 107) dX7_readsWord_107 (by omega) ?_
            refine wp_iast (pc := 108) 591 dX7_readsWord_108 rfl (by omega) ?_
            refine wp_iconst (pc := 109) dX7_readsWord_109 (by decide) ?_
            refine wp_istore_n (pc := 110) dX7_readsWord_110 rfl (Nat.le_of_ble_eq_true rfl) rfl ?_
            first
              | (exfalso; omega)
              | exact lp σ_72 F72 hg72 (by omega) (by omega) (by omega) 0 (by decide) (by decide) _ (fun r hr => upd2_out hr) upd2_eq (fun j j0 j1 => by omega) (fun x hx => by rw [upd2_k (by omega)])
          · refine wp_return (pc := 82) dX7_readsWord_82 rfl ?_
            refine ⟨rfl, ((f_15.tr f_46).tr f_72).r, Or.inr ?_⟩
            first
              | (rw [er, if_pos (by omega)]; exact hg.no (by decide) (by omega) (by omega))
              | (rw [er, if_neg (by omega), if_pos (by omega)]; exact hg.no (by decide) (by omega) (by omega))
              | (rw [er, if_neg (by omega), if_neg (by omega), if_pos (by omega)]; exact hg.no (by decide) (by omega) (by omega))
              | (exfalso; omega)
    · refine wp_aload_n (pc := 26) dX7_readsWord_26 rfl rfl ?_
      refine wp_getI (pc := 27) 12 dX7_readsWord_27 fl_X7_90 rfl rfl ?_
      refine wp_aload_n (pc := 30) dX7_readsWord_30 rfl rfl ?_
      refine wp_getI (pc := 31) 13 dX7_readsWord_31 fl_X7_84 rfl rfl ?_
      refine wp_isub (pc := 34) dX7_readsWord_34 (by omega) ?_
      refine wp_bipush (pc := 35) dX7_readsWord_35 (by decide) (by decide) ?_
      refine wp_icmp_gt (pc := 37) 44 dX7_readsWord_37 (by decide) (fun c_37 => ?_) (fun c_37 => ?_)
      · refine wp_iconst (pc := 44) dX7_readsWord_44 (by decide) ?_
        refine wp_iconst (pc := 45) dX7_readsWord_45 (by decide) ?_
        refine wp_cvV2 (pc := 46) dX7_readsWord_46 mv_X7_111 m_mustP (Nat.le_of_ble_eq_true rfl) rfl (Nat.le_of_ble_eq_true rfl) (fun σ_46 h_46 => ?_)
        have g_46 := h_46; obtain ⟨f_46, a12_46, a13_46, a14_46, a15_46, q_46⟩ := h_46; clear q_46; first | have w_46 := g_46.no (Or.inl (by decide)) | have w_46 := g_46.yes rfl (by omega)
        refine wp_aload_n (pc := 49) dX7_readsWord_49 rfl rfl ?_
        refine wp_aload_n (pc := 50) dX7_readsWord_50 rfl rfl ?_
        refine wp_getI (pc := 51) 10 dX7_readsWord_51 fl_X7_81 rfl rfl ?_
        refine wp_if_gt (pc := 54) 66 dX7_readsWord_54 (by decide) (fun c_54 => ?_) (fun c_54 => ?_)
        · refine wp_iconst (pc := 66) dX7_readsWord_66 (by decide) ?_
          refine wp_goto (pc := 67) 71 dX7_readsWord_67 (by decide) ?_
          refine wp_iconst (pc := 71) dX7_readsWord_71 (by decide) ?_
          refine wp_cvV2 (pc := 72) dX7_readsWord_72 mv_X7_111 m_mustP (Nat.le_of_ble_eq_true rfl) rfl (Nat.le_of_ble_eq_true rfl) (fun σ_72 h_72 => ?_)
          have g_72 := h_72; obtain ⟨f_72, a12_72, a13_72, a14_72, a15_72, q_72⟩ := h_72; clear q_72; first | have w_72 := g_72.no (Or.inl (by decide)) | have w_72 := g_72.yes rfl (by omega)
          refine wp_aload_n (pc := 75) dX7_readsWord_75 rfl rfl ?_
          refine wp_getI (pc := 76) 10 dX7_readsWord_76 fl_X7_81 rfl rfl ?_
          refine wp_if_le (pc := 79) 83 dX7_readsWord_79 (by decide) (fun c_79 => ?_) (fun c_79 => ?_)
          · have F72 := (f_15.tr f_46).tr f_72
            have hg72 : MG t n σ_72 s cnt := hg.same F72 (by omega) (by omega) (by omega) (by omega) (by omega)
            have hP72 := hg72.1.2.2.2.2.2.2.1
            refine wp_bipush (pc := 83) dX7_readsWord_83 (by decide) (by decide) ?_
            refine wp_bipush (pc := 85) dX7_readsWord_85 (by decide) (by decide) ?_
            refine wp_aload_n (pc := 87) dX7_readsWord_87 rfl rfl ?_
            refine wp_cvI0 (pc := 88) dX7_readsWord_88 mv_X7_145 (m_wordsOfDraft hP72 hW) (Nat.le_of_ble_eq_true rfl) rfl (Nat.le_of_ble_eq_true rfl) (fun z_88 σ_88 h_88 => ?_)
            obtain ⟨rfl, e_88⟩ := h_88; have e2_88 := e_88.symm; subst e2_88
            refine wp_imul (pc := 91) dX7_readsWord_91 (by omega) ?_
            refine wp_iadd (pc := 92) dX7_readsWord_92 (by omega) ?_
            refine wp_istore_n (pc := 93) dX7_readsWord_93 rfl (Nat.le_of_ble_eq_true rfl) rfl ?_
            refine wp_aload_n (pc := 94) dX7_readsWord_94 rfl rfl ?_
            refine wp_getR (pc := 95) (q := 73) dX7_readsWord_95 fl_X7_13 rfl ?_
            refine wp_iload_n (pc := 98) dX7_readsWord_98 rfl rfl ?_
            refine wp_aload_n (pc := 99) dX7_readsWord_99 rfl rfl ?_
            refine wp_getI (pc := 100) 12 dX7_readsWord_100 fl_X7_90 rfl rfl ?_
            refine wp_aload_n (pc := 103) dX7_readsWord_103 rfl rfl ?_
            refine wp_getI (pc := 104) 13 dX7_readsWord_104 fl_X7_84 rfl rfl ?_
            rw [show σ_72 71 12 = tkE t n s.x by omega, show σ_72 71 13 = tkS t n s.x by omega]
            refine wp_isub (pc := 107) dX7_readsWord_107 (by omega) ?_
            refine wp_iast (pc := 108) 591 dX7_readsWord_108 rfl (by omega) ?_
            refine wp_iconst (pc := 109) dX7_readsWord_109 (by decide) ?_
            refine wp_istore_n (pc := 110) dX7_readsWord_110 rfl (Nat.le_of_ble_eq_true rfl) rfl ?_
            first
              | (exfalso; omega)
              | exact lp σ_72 F72 hg72 (by omega) (by omega) (by omega) 0 (by decide) (by decide) _ (fun r hr => upd2_out hr) upd2_eq (fun j j0 j1 => by omega) (fun x hx => by rw [upd2_k (by omega)])
          · refine wp_return (pc := 82) dX7_readsWord_82 rfl ?_
            refine ⟨rfl, ((f_15.tr f_46).tr f_72).r, Or.inr ?_⟩
            first
              | (rw [er, if_pos (by omega)]; exact hg.no (by decide) (by omega) (by omega))
              | (rw [er, if_neg (by omega), if_pos (by omega)]; exact hg.no (by decide) (by omega) (by omega))
              | (rw [er, if_neg (by omega), if_neg (by omega), if_pos (by omega)]; exact hg.no (by decide) (by omega) (by omega))
              | (exfalso; omega)
        · have hP46 : PR (σ_46 73) s.D := by rw [f_46.1 73 (by decide), f_15.1 73 (by decide)]; exact hPR
          refine wp_aload_n (pc := 57) dX7_readsWord_57 rfl rfl ?_
          refine wp_cvI0 (pc := 58) dX7_readsWord_58 mv_X7_145 (m_wordsOfDraft hP46 hW) (Nat.le_of_ble_eq_true rfl) rfl (Nat.le_of_ble_eq_true rfl) (fun z_58 σ_58 h_58 => ?_)
          obtain ⟨zz_58, e_58⟩ := h_58; have e2_58 := e_58.symm; subst e2_58
          refine wp_bipush (pc := 61) dX7_readsWord_61 (by decide) (by decide) ?_
          refine wp_icmp_ge (pc := 63) 70 dX7_readsWord_63 (by decide) (fun c_63 => ?_) (fun c_63 => ?_)
          · refine wp_iconst (pc := 70) dX7_readsWord_70 (by decide) ?_
            refine wp_iconst (pc := 71) dX7_readsWord_71 (by decide) ?_
            refine wp_cvV2 (pc := 72) dX7_readsWord_72 mv_X7_111 m_mustP (Nat.le_of_ble_eq_true rfl) rfl (Nat.le_of_ble_eq_true rfl) (fun σ_72 h_72 => ?_)
            have g_72 := h_72; obtain ⟨f_72, a12_72, a13_72, a14_72, a15_72, q_72⟩ := h_72; clear q_72; first | have w_72 := g_72.no (Or.inl (by decide)) | have w_72 := g_72.yes rfl (by omega)
            refine wp_aload_n (pc := 75) dX7_readsWord_75 rfl rfl ?_
            refine wp_getI (pc := 76) 10 dX7_readsWord_76 fl_X7_81 rfl rfl ?_
            refine wp_if_le (pc := 79) 83 dX7_readsWord_79 (by decide) (fun c_79 => ?_) (fun c_79 => ?_)
            · have F72 := (f_15.tr f_46).tr f_72
              have hg72 : MG t n σ_72 s cnt := hg.same F72 (by omega) (by omega) (by omega) (by omega) (by omega)
              have hP72 := hg72.1.2.2.2.2.2.2.1
              refine wp_bipush (pc := 83) dX7_readsWord_83 (by decide) (by decide) ?_
              refine wp_bipush (pc := 85) dX7_readsWord_85 (by decide) (by decide) ?_
              refine wp_aload_n (pc := 87) dX7_readsWord_87 rfl rfl ?_
              refine wp_cvI0 (pc := 88) dX7_readsWord_88 mv_X7_145 (m_wordsOfDraft hP72 hW) (Nat.le_of_ble_eq_true rfl) rfl (Nat.le_of_ble_eq_true rfl) (fun z_88 σ_88 h_88 => ?_)
              obtain ⟨rfl, e_88⟩ := h_88; have e2_88 := e_88.symm; subst e2_88
              refine wp_imul (pc := 91) dX7_readsWord_91 (by omega) ?_
              refine wp_iadd (pc := 92) dX7_readsWord_92 (by omega) ?_
              refine wp_istore_n (pc := 93) dX7_readsWord_93 rfl (Nat.le_of_ble_eq_true rfl) rfl ?_
              refine wp_aload_n (pc := 94) dX7_readsWord_94 rfl rfl ?_
              refine wp_getR (pc := 95) (q := 73) dX7_readsWord_95 fl_X7_13 rfl ?_
              refine wp_iload_n (pc := 98) dX7_readsWord_98 rfl rfl ?_
              refine wp_aload_n (pc := 99) dX7_readsWord_99 rfl rfl ?_
              refine wp_getI (pc := 100) 12 dX7_readsWord_100 fl_X7_90 rfl rfl ?_
              refine wp_aload_n (pc := 103) dX7_readsWord_103 rfl rfl ?_
              refine wp_getI (pc := 104) 13 dX7_readsWord_104 fl_X7_84 rfl rfl ?_
              rw [show σ_72 71 12 = tkE t n s.x by omega, show σ_72 71 13 = tkS t n s.x by omega]
              refine wp_isub (pc := 107) dX7_readsWord_107 (by omega) ?_
              refine wp_iast (pc := 108) 591 dX7_readsWord_108 rfl (by omega) ?_
              refine wp_iconst (pc := 109) dX7_readsWord_109 (by decide) ?_
              refine wp_istore_n (pc := 110) dX7_readsWord_110 rfl (Nat.le_of_ble_eq_true rfl) rfl ?_
              first
                | (exfalso; omega)
                | exact lp σ_72 F72 hg72 (by omega) (by omega) (by omega) 0 (by decide) (by decide) _ (fun r hr => upd2_out hr) upd2_eq (fun j j0 j1 => by omega) (fun x hx => by rw [upd2_k (by omega)])
            · refine wp_return (pc := 82) dX7_readsWord_82 rfl ?_
              refine ⟨rfl, ((f_15.tr f_46).tr f_72).r, Or.inr ?_⟩
              first
                | (rw [er, if_pos (by omega)]; exact hg.no (by decide) (by omega) (by omega))
                | (rw [er, if_neg (by omega), if_pos (by omega)]; exact hg.no (by decide) (by omega) (by omega))
                | (rw [er, if_neg (by omega), if_neg (by omega), if_pos (by omega)]; exact hg.no (by decide) (by omega) (by omega))
                | (exfalso; omega)
          · refine wp_iconst (pc := 66) dX7_readsWord_66 (by decide) ?_
            refine wp_goto (pc := 67) 71 dX7_readsWord_67 (by decide) ?_
            refine wp_iconst (pc := 71) dX7_readsWord_71 (by decide) ?_
            refine wp_cvV2 (pc := 72) dX7_readsWord_72 mv_X7_111 m_mustP (Nat.le_of_ble_eq_true rfl) rfl (Nat.le_of_ble_eq_true rfl) (fun σ_72 h_72 => ?_)
            have g_72 := h_72; obtain ⟨f_72, a12_72, a13_72, a14_72, a15_72, q_72⟩ := h_72; clear q_72; first | have w_72 := g_72.no (Or.inl (by decide)) | have w_72 := g_72.yes rfl (by omega)
            refine wp_aload_n (pc := 75) dX7_readsWord_75 rfl rfl ?_
            refine wp_getI (pc := 76) 10 dX7_readsWord_76 fl_X7_81 rfl rfl ?_
            refine wp_if_le (pc := 79) 83 dX7_readsWord_79 (by decide) (fun c_79 => ?_) (fun c_79 => ?_)
            · have F72 := (f_15.tr f_46).tr f_72
              have hg72 : MG t n σ_72 s cnt := hg.same F72 (by omega) (by omega) (by omega) (by omega) (by omega)
              have hP72 := hg72.1.2.2.2.2.2.2.1
              refine wp_bipush (pc := 83) dX7_readsWord_83 (by decide) (by decide) ?_
              refine wp_bipush (pc := 85) dX7_readsWord_85 (by decide) (by decide) ?_
              refine wp_aload_n (pc := 87) dX7_readsWord_87 rfl rfl ?_
              refine wp_cvI0 (pc := 88) dX7_readsWord_88 mv_X7_145 (m_wordsOfDraft hP72 hW) (Nat.le_of_ble_eq_true rfl) rfl (Nat.le_of_ble_eq_true rfl) (fun z_88 σ_88 h_88 => ?_)
              obtain ⟨rfl, e_88⟩ := h_88; have e2_88 := e_88.symm; subst e2_88
              refine wp_imul (pc := 91) dX7_readsWord_91 (by omega) ?_
              refine wp_iadd (pc := 92) dX7_readsWord_92 (by omega) ?_
              refine wp_istore_n (pc := 93) dX7_readsWord_93 rfl (Nat.le_of_ble_eq_true rfl) rfl ?_
              refine wp_aload_n (pc := 94) dX7_readsWord_94 rfl rfl ?_
              refine wp_getR (pc := 95) (q := 73) dX7_readsWord_95 fl_X7_13 rfl ?_
              refine wp_iload_n (pc := 98) dX7_readsWord_98 rfl rfl ?_
              refine wp_aload_n (pc := 99) dX7_readsWord_99 rfl rfl ?_
              refine wp_getI (pc := 100) 12 dX7_readsWord_100 fl_X7_90 rfl rfl ?_
              refine wp_aload_n (pc := 103) dX7_readsWord_103 rfl rfl ?_
              refine wp_getI (pc := 104) 13 dX7_readsWord_104 fl_X7_84 rfl rfl ?_
              rw [show σ_72 71 12 = tkE t n s.x by omega, show σ_72 71 13 = tkS t n s.x by omega]
              refine wp_isub (pc := 107) dX7_readsWord_107 (by omega) ?_
              refine wp_iast (pc := 108) 591 dX7_readsWord_108 rfl (by omega) ?_
              refine wp_iconst (pc := 109) dX7_readsWord_109 (by decide) ?_
              refine wp_istore_n (pc := 110) dX7_readsWord_110 rfl (Nat.le_of_ble_eq_true rfl) rfl ?_
              first
                | (exfalso; omega)
                | exact lp σ_72 F72 hg72 (by omega) (by omega) (by omega) 0 (by decide) (by decide) _ (fun r hr => upd2_out hr) upd2_eq (fun j j0 j1 => by omega) (fun x hx => by rw [upd2_k (by omega)])
            · refine wp_return (pc := 82) dX7_readsWord_82 rfl ?_
              refine ⟨rfl, ((f_15.tr f_46).tr f_72).r, Or.inr ?_⟩
              first
                | (rw [er, if_pos (by omega)]; exact hg.no (by decide) (by omega) (by omega))
                | (rw [er, if_neg (by omega), if_pos (by omega)]; exact hg.no (by decide) (by omega) (by omega))
                | (rw [er, if_neg (by omega), if_neg (by omega), if_pos (by omega)]; exact hg.no (by decide) (by omega) (by omega))
                | (exfalso; omega)
      · refine wp_iconst (pc := 40) dX7_readsWord_40 (by decide) ?_
        refine wp_goto (pc := 41) 45 dX7_readsWord_41 (by decide) ?_
        refine wp_iconst (pc := 45) dX7_readsWord_45 (by decide) ?_
        refine wp_cvV2 (pc := 46) dX7_readsWord_46 mv_X7_111 m_mustP (Nat.le_of_ble_eq_true rfl) rfl (Nat.le_of_ble_eq_true rfl) (fun σ_46 h_46 => ?_)
        have g_46 := h_46; obtain ⟨f_46, a12_46, a13_46, a14_46, a15_46, q_46⟩ := h_46; clear q_46; first | have w_46 := g_46.no (Or.inl (by decide)) | have w_46 := g_46.yes rfl (by omega)
        refine wp_aload_n (pc := 49) dX7_readsWord_49 rfl rfl ?_
        refine wp_aload_n (pc := 50) dX7_readsWord_50 rfl rfl ?_
        refine wp_getI (pc := 51) 10 dX7_readsWord_51 fl_X7_81 rfl rfl ?_
        refine wp_if_gt (pc := 54) 66 dX7_readsWord_54 (by decide) (fun c_54 => ?_) (fun c_54 => ?_)
        · refine wp_iconst (pc := 66) dX7_readsWord_66 (by decide) ?_
          refine wp_goto (pc := 67) 71 dX7_readsWord_67 (by decide) ?_
          refine wp_iconst (pc := 71) dX7_readsWord_71 (by decide) ?_
          refine wp_cvV2 (pc := 72) dX7_readsWord_72 mv_X7_111 m_mustP (Nat.le_of_ble_eq_true rfl) rfl (Nat.le_of_ble_eq_true rfl) (fun σ_72 h_72 => ?_)
          have g_72 := h_72; obtain ⟨f_72, a12_72, a13_72, a14_72, a15_72, q_72⟩ := h_72; clear q_72; first | have w_72 := g_72.no (Or.inl (by decide)) | have w_72 := g_72.yes rfl (by omega)
          refine wp_aload_n (pc := 75) dX7_readsWord_75 rfl rfl ?_
          refine wp_getI (pc := 76) 10 dX7_readsWord_76 fl_X7_81 rfl rfl ?_
          refine wp_if_le (pc := 79) 83 dX7_readsWord_79 (by decide) (fun c_79 => ?_) (fun c_79 => ?_)
          · have F72 := (f_15.tr f_46).tr f_72
            have hg72 : MG t n σ_72 s cnt := hg.same F72 (by omega) (by omega) (by omega) (by omega) (by omega)
            have hP72 := hg72.1.2.2.2.2.2.2.1
            refine wp_bipush (pc := 83) dX7_readsWord_83 (by decide) (by decide) ?_
            refine wp_bipush (pc := 85) dX7_readsWord_85 (by decide) (by decide) ?_
            refine wp_aload_n (pc := 87) dX7_readsWord_87 rfl rfl ?_
            refine wp_cvI0 (pc := 88) dX7_readsWord_88 mv_X7_145 (m_wordsOfDraft hP72 hW) (Nat.le_of_ble_eq_true rfl) rfl (Nat.le_of_ble_eq_true rfl) (fun z_88 σ_88 h_88 => ?_)
            obtain ⟨rfl, e_88⟩ := h_88; have e2_88 := e_88.symm; subst e2_88
            refine wp_imul (pc := 91) dX7_readsWord_91 (by omega) ?_
            refine wp_iadd (pc := 92) dX7_readsWord_92 (by omega) ?_
            refine wp_istore_n (pc := 93) dX7_readsWord_93 rfl (Nat.le_of_ble_eq_true rfl) rfl ?_
            refine wp_aload_n (pc := 94) dX7_readsWord_94 rfl rfl ?_
            refine wp_getR (pc := 95) (q := 73) dX7_readsWord_95 fl_X7_13 rfl ?_
            refine wp_iload_n (pc := 98) dX7_readsWord_98 rfl rfl ?_
            refine wp_aload_n (pc := 99) dX7_readsWord_99 rfl rfl ?_
            refine wp_getI (pc := 100) 12 dX7_readsWord_100 fl_X7_90 rfl rfl ?_
            refine wp_aload_n (pc := 103) dX7_readsWord_103 rfl rfl ?_
            refine wp_getI (pc := 104) 13 dX7_readsWord_104 fl_X7_84 rfl rfl ?_
            rw [show σ_72 71 12 = tkE t n s.x by omega, show σ_72 71 13 = tkS t n s.x by omega]
            refine wp_isub (pc := 107) dX7_readsWord_107 (by omega) ?_
            refine wp_iast (pc := 108) 591 dX7_readsWord_108 rfl (by omega) ?_
            refine wp_iconst (pc := 109) dX7_readsWord_109 (by decide) ?_
            refine wp_istore_n (pc := 110) dX7_readsWord_110 rfl (Nat.le_of_ble_eq_true rfl) rfl ?_
            first
              | (exfalso; omega)
              | exact lp σ_72 F72 hg72 (by omega) (by omega) (by omega) 0 (by decide) (by decide) _ (fun r hr => upd2_out hr) upd2_eq (fun j j0 j1 => by omega) (fun x hx => by rw [upd2_k (by omega)])
          · refine wp_return (pc := 82) dX7_readsWord_82 rfl ?_
            refine ⟨rfl, ((f_15.tr f_46).tr f_72).r, Or.inr ?_⟩
            first
              | (rw [er, if_pos (by omega)]; exact hg.no (by decide) (by omega) (by omega))
              | (rw [er, if_neg (by omega), if_pos (by omega)]; exact hg.no (by decide) (by omega) (by omega))
              | (rw [er, if_neg (by omega), if_neg (by omega), if_pos (by omega)]; exact hg.no (by decide) (by omega) (by omega))
              | (exfalso; omega)
        · have hP46 : PR (σ_46 73) s.D := by rw [f_46.1 73 (by decide), f_15.1 73 (by decide)]; exact hPR
          refine wp_aload_n (pc := 57) dX7_readsWord_57 rfl rfl ?_
          refine wp_cvI0 (pc := 58) dX7_readsWord_58 mv_X7_145 (m_wordsOfDraft hP46 hW) (Nat.le_of_ble_eq_true rfl) rfl (Nat.le_of_ble_eq_true rfl) (fun z_58 σ_58 h_58 => ?_)
          obtain ⟨zz_58, e_58⟩ := h_58; have e2_58 := e_58.symm; subst e2_58
          refine wp_bipush (pc := 61) dX7_readsWord_61 (by decide) (by decide) ?_
          refine wp_icmp_ge (pc := 63) 70 dX7_readsWord_63 (by decide) (fun c_63 => ?_) (fun c_63 => ?_)
          · refine wp_iconst (pc := 70) dX7_readsWord_70 (by decide) ?_
            refine wp_iconst (pc := 71) dX7_readsWord_71 (by decide) ?_
            refine wp_cvV2 (pc := 72) dX7_readsWord_72 mv_X7_111 m_mustP (Nat.le_of_ble_eq_true rfl) rfl (Nat.le_of_ble_eq_true rfl) (fun σ_72 h_72 => ?_)
            have g_72 := h_72; obtain ⟨f_72, a12_72, a13_72, a14_72, a15_72, q_72⟩ := h_72; clear q_72; first | have w_72 := g_72.no (Or.inl (by decide)) | have w_72 := g_72.yes rfl (by omega)
            refine wp_aload_n (pc := 75) dX7_readsWord_75 rfl rfl ?_
            refine wp_getI (pc := 76) 10 dX7_readsWord_76 fl_X7_81 rfl rfl ?_
            refine wp_if_le (pc := 79) 83 dX7_readsWord_79 (by decide) (fun c_79 => ?_) (fun c_79 => ?_)
            · have F72 := (f_15.tr f_46).tr f_72
              have hg72 : MG t n σ_72 s cnt := hg.same F72 (by omega) (by omega) (by omega) (by omega) (by omega)
              have hP72 := hg72.1.2.2.2.2.2.2.1
              refine wp_bipush (pc := 83) dX7_readsWord_83 (by decide) (by decide) ?_
              refine wp_bipush (pc := 85) dX7_readsWord_85 (by decide) (by decide) ?_
              refine wp_aload_n (pc := 87) dX7_readsWord_87 rfl rfl ?_
              refine wp_cvI0 (pc := 88) dX7_readsWord_88 mv_X7_145 (m_wordsOfDraft hP72 hW) (Nat.le_of_ble_eq_true rfl) rfl (Nat.le_of_ble_eq_true rfl) (fun z_88 σ_88 h_88 => ?_)
              obtain ⟨rfl, e_88⟩ := h_88; have e2_88 := e_88.symm; subst e2_88
              refine wp_imul (pc := 91) dX7_readsWord_91 (by omega) ?_
              refine wp_iadd (pc := 92) dX7_readsWord_92 (by omega) ?_
              refine wp_istore_n (pc := 93) dX7_readsWord_93 rfl (Nat.le_of_ble_eq_true rfl) rfl ?_
              refine wp_aload_n (pc := 94) dX7_readsWord_94 rfl rfl ?_
              refine wp_getR (pc := 95) (q := 73) dX7_readsWord_95 fl_X7_13 rfl ?_
              refine wp_iload_n (pc := 98) dX7_readsWord_98 rfl rfl ?_
              refine wp_aload_n (pc := 99) dX7_readsWord_99 rfl rfl ?_
              refine wp_getI (pc := 100) 12 dX7_readsWord_100 fl_X7_90 rfl rfl ?_
              refine wp_aload_n (pc := 103) dX7_readsWord_103 rfl rfl ?_
              refine wp_getI (pc := 104) 13 dX7_readsWord_104 fl_X7_84 rfl rfl ?_
              rw [show σ_72 71 12 = tkE t n s.x by omega, show σ_72 71 13 = tkS t n s.x by omega]
              refine wp_isub (pc := 107) dX7_readsWord_107 (by omega) ?_
              refine wp_iast (pc := 108) 591 dX7_readsWord_108 rfl (by omega) ?_
              refine wp_iconst (pc := 109) dX7_readsWord_109 (by decide) ?_
              refine wp_istore_n (pc := 110) dX7_readsWord_110 rfl (Nat.le_of_ble_eq_true rfl) rfl ?_
              first
                | (exfalso; omega)
                | exact lp σ_72 F72 hg72 (by omega) (by omega) (by omega) 0 (by decide) (by decide) _ (fun r hr => upd2_out hr) upd2_eq (fun j j0 j1 => by omega) (fun x hx => by rw [upd2_k (by omega)])
            · refine wp_return (pc := 82) dX7_readsWord_82 rfl ?_
              refine ⟨rfl, ((f_15.tr f_46).tr f_72).r, Or.inr ?_⟩
              first
                | (rw [er, if_pos (by omega)]; exact hg.no (by decide) (by omega) (by omega))
                | (rw [er, if_neg (by omega), if_pos (by omega)]; exact hg.no (by decide) (by omega) (by omega))
                | (rw [er, if_neg (by omega), if_neg (by omega), if_pos (by omega)]; exact hg.no (by decide) (by omega) (by omega))
                | (exfalso; omega)
          · refine wp_iconst (pc := 66) dX7_readsWord_66 (by decide) ?_
            refine wp_goto (pc := 67) 71 dX7_readsWord_67 (by decide) ?_
            refine wp_iconst (pc := 71) dX7_readsWord_71 (by decide) ?_
            refine wp_cvV2 (pc := 72) dX7_readsWord_72 mv_X7_111 m_mustP (Nat.le_of_ble_eq_true rfl) rfl (Nat.le_of_ble_eq_true rfl) (fun σ_72 h_72 => ?_)
            have g_72 := h_72; obtain ⟨f_72, a12_72, a13_72, a14_72, a15_72, q_72⟩ := h_72; clear q_72; first | have w_72 := g_72.no (Or.inl (by decide)) | have w_72 := g_72.yes rfl (by omega)
            refine wp_aload_n (pc := 75) dX7_readsWord_75 rfl rfl ?_
            refine wp_getI (pc := 76) 10 dX7_readsWord_76 fl_X7_81 rfl rfl ?_
            refine wp_if_le (pc := 79) 83 dX7_readsWord_79 (by decide) (fun c_79 => ?_) (fun c_79 => ?_)
            · have F72 := (f_15.tr f_46).tr f_72
              have hg72 : MG t n σ_72 s cnt := hg.same F72 (by omega) (by omega) (by omega) (by omega) (by omega)
              have hP72 := hg72.1.2.2.2.2.2.2.1
              refine wp_bipush (pc := 83) dX7_readsWord_83 (by decide) (by decide) ?_
              refine wp_bipush (pc := 85) dX7_readsWord_85 (by decide) (by decide) ?_
              refine wp_aload_n (pc := 87) dX7_readsWord_87 rfl rfl ?_
              refine wp_cvI0 (pc := 88) dX7_readsWord_88 mv_X7_145 (m_wordsOfDraft hP72 hW) (Nat.le_of_ble_eq_true rfl) rfl (Nat.le_of_ble_eq_true rfl) (fun z_88 σ_88 h_88 => ?_)
              obtain ⟨rfl, e_88⟩ := h_88; have e2_88 := e_88.symm; subst e2_88
              refine wp_imul (pc := 91) dX7_readsWord_91 (by omega) ?_
              refine wp_iadd (pc := 92) dX7_readsWord_92 (by omega) ?_
              refine wp_istore_n (pc := 93) dX7_readsWord_93 rfl (Nat.le_of_ble_eq_true rfl) rfl ?_
              refine wp_aload_n (pc := 94) dX7_readsWord_94 rfl rfl ?_
              refine wp_getR (pc := 95) (q := 73) dX7_readsWord_95 fl_X7_13 rfl ?_
              refine wp_iload_n (pc := 98) dX7_readsWord_98 rfl rfl ?_
              refine wp_aload_n (pc := 99) dX7_readsWord_99 rfl rfl ?_
              refine wp_getI (pc := 100) 12 dX7_readsWord_100 fl_X7_90 rfl rfl ?_
              refine wp_aload_n (pc := 103) dX7_readsWord_103 rfl rfl ?_
              refine wp_getI (pc := 104) 13 dX7_readsWord_104 fl_X7_84 rfl rfl ?_
              rw [show σ_72 71 12 = tkE t n s.x by omega, show σ_72 71 13 = tkS t n s.x by omega]
              refine wp_isub (pc := 107) dX7_readsWord_107 (by omega) ?_
              refine wp_iast (pc := 108) 591 dX7_readsWord_108 rfl (by omega) ?_
              refine wp_iconst (pc := 109) dX7_readsWord_109 (by decide) ?_
              refine wp_istore_n (pc := 110) dX7_readsWord_110 rfl (Nat.le_of_ble_eq_true rfl) rfl ?_
              first
                | (exfalso; omega)
                | exact lp σ_72 F72 hg72 (by omega) (by omega) (by omega) 0 (by decide) (by decide) _ (fun r hr => upd2_out hr) upd2_eq (fun j j0 j1 => by omega) (fun x hx => by rw [upd2_k (by omega)])
            · refine wp_return (pc := 82) dX7_readsWord_82 rfl ?_
              refine ⟨rfl, ((f_15.tr f_46).tr f_72).r, Or.inr ?_⟩
              first
                | (rw [er, if_pos (by omega)]; exact hg.no (by decide) (by omega) (by omega))
                | (rw [er, if_neg (by omega), if_pos (by omega)]; exact hg.no (by decide) (by omega) (by omega))
                | (rw [er, if_neg (by omega), if_neg (by omega), if_pos (by omega)]; exact hg.no (by decide) (by omega) (by omega))
                | (exfalso; omega)
