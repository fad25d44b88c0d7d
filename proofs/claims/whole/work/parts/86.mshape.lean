set_option maxHeartbeats 4000000 in
set_option maxRecDepth 100000 in
theorem SR.ad {σ S : Sto} {g h : Int} (hS : SR (σ 75) S) (h0 : σ 75 (19 * S 0 0) = g) (h1 : σ 75 (19 * S 0 0 + 1) = h) (h2 : σ 75 (19 * S 0 0 + 2) = 0) : SR (σ 75) (adS S g h) := by
  obtain ⟨e0, e1, e2, e3, e4, e5⟩ := adS_at (S := S) (g := g) (m := h)
  intro q q0 q1
  rw [e0] at q1
  rw [e1, e2, e3, e4, e5]
  by_cases hq : q = S 0 0
  · rw [if_pos hq, if_pos hq, if_pos hq, hq]
    exact ⟨h0, h1, h2, fun i i0 i1 => by omega⟩
  · rw [if_neg hq, if_neg hq, if_neg hq]
    exact hS q q0 (by omega)
set_option maxHeartbeats 4000000 in
set_option maxRecDepth 100000 in
theorem OKS.w {S : Sto} (h : OKS S) : SW S := by
  refine ⟨h.1, fun g g0 g1 => ?_⟩
  obtain ⟨a, b, c, d⟩ := h.2 g g0 g1
  exact ⟨a, b, ⟨by omega, c.2, fun _ => c.1⟩, d⟩
set_option maxHeartbeats 4000000 in
set_option maxRecDepth 100000 in
theorem semi_of {t : Int → Int} {n h : Int} {k : Nat} {i lo : Int} {s : PS} (hi : 0 < i) (h2 : ¬ tkK t n s.x = 2) : pStps t n h (k + 1) i lo s = semi t n s := by
  rw [pStps_s]
  unfold semi
  by_cases c : tkK t n s.x = 4
  · rw [if_pos ⟨c, hi⟩, if_pos c]
  · rw [if_neg (fun z => c z.1), if_neg c, if_pos (Or.inl h2)]
set_option maxHeartbeats 4000000 in
set_option maxRecDepth 100000 in
theorem m_readsShape {t : Int → Int} {n cnt : Int} {σ : Sto} {s P : PS} (hg : MG t n σ s cnt) (hp : PG n s) (hcn : s.S 0 0 = cnt) (hc6 : cnt < 6) (hP : P = pShp t n s) : CtV yX7_readsShape cX7_readsShape 3 none 4 [mR 71] σ (fun σ' => RFs σ σ' ∧ ∃ q, MS t n σ' q (cnt + 1) ∧ SM t n P q ∧ (q.f = 0 → q.S 0 0 = cnt + 1)) := by
  refine ct_of rfl [some (mR 71), none, none] (Nat.le_of_ble_eq_true rfl) rfl (fun hσ => ?_)
  show Wp cX7_readsShape RX7 none 4 0 [some (mR 71), none, none] [] _ _
  have hb := hg.1
  obtain ⟨k0, k10, k12, k13, kk⟩ := hg.2
  unfold tkOK at kk
  have htb := tk_bd (t := t) hb.2.2.2.2.1.1 hb.2.2.2.2.1.2
  have hn4 := hb.1
  have hx0 := hb.2.2.2.2.1
  have hf0 : s.f = 0 := hb.2.2.2.2.2.2.2.2.2.2
  have h5 : σ 71 5 = cnt := hb.2.2.2.2.2.2.2.2.1
  have hSR := hb.2.2.2.2.2.2.2.1
  have hSW := hp.2.2.2.w
  have hS0 := hp.2.2.2.1
  -- behind the steps
  have w151 : ∀ (τ : Sto) (q : PS) (m : Int), RFr σ τ → MS t n τ q cnt → SM t n P q → (q.f = 0 → q.S 0 0 = cnt + 1) → Wp cX7_readsShape RX7 none 4 151 [some (mR 71), some (mI (19 * cnt)), some (mI m)] [] τ (fun v σ' => v = none ∧ (fun σ' => RFs σ σ' ∧ ∃ q, MS t n σ' q (cnt + 1) ∧ SM t n P q ∧ (q.f = 0 → q.S 0 0 = cnt + 1)) σ') := by
    intro τ q m hF hM hsm hq
    have e5 : τ 71 5 = cnt := (hF.2 5 (by decide)).trans h5
    refine wp_aload_n (pc := 151) dX7_readsShape_151 rfl rfl ?_
    refine wp_dup (pc := 152) dX7_readsShape_152 (fun _ h => by cases h) ?_
    refine wp_getI (pc := 153) 5 dX7_readsShape_153 fl_X7_131 rfl rfl ?_
    refine wp_iconst (pc := 156) dX7_readsShape_156 (by decide) ?_
    refine wp_iadd (pc := 157) dX7_readsShape_157 (by omega) ?_
    rw [e5]
    refine wp_putI (pc := 158) 5 dX7_readsShape_158 fl_X7_131 ⟨rfl, rfl⟩ rfl rfl ?_
    refine wp_return (pc := 161) dX7_readsShape_161 rfl ?_
    refine ⟨rfl, ⟨hF.1.up (by decide), fun k hk => by rw [upd2_k (by omega)]; exact hF.2 k (by omega)⟩, q, ?_, hsm, hq⟩
    rcases hM with m1 | m1
    · left
      obtain ⟨⟨b1, b2, b3, b4, b5, b6, b7, b8, b9, b10, b11⟩, mt⟩ := m1
      refine ⟨⟨b1, by rw [upd2_k (by decide)]; exact b2, fun k k0 k1 => by rw [upd2_r (by decide)]; exact b3 k k0 k1, b4, b5, fun w w0 w1 => by rw [upd2_r (by decide)]; exact b6 w w0 w1, ?_, ?_, upd2_eq, ⟨fun j hj => by rw [upd2_r (by decide)]; exact b10.1 j hj, fun j hj => by rw [upd2_r (by decide)]; exact b10.2 j hj⟩, b11⟩, ?_⟩
      · rw [show upd2 τ 71 5 (cnt + 1) 73 = τ 73 from funext fun k => upd2_r (by decide)]; exact b7
      · rw [show upd2 τ 71 5 (cnt + 1) 75 = τ 75 from funext fun k => upd2_r (by decide)]; exact b8
      · unfold MT at *
        rw [upd2_k (by decide), upd2_k (by decide), upd2_k (by decide), upd2_k (by decide), upd2_k (by decide)]; exact mt
    · right
      unfold MSb at *
      rw [upd2_k (by decide), upd2_k (by decide)]; exact m1
  have w118z : ∀ (τ : Sto) (q : PS), RFr σ τ → MS t n τ q cnt → SM t n P q → (q.f = 0 → q.S 0 0 = cnt + 1) → Wp cX7_readsShape RX7 none 4 118 [some (mR 71), some (mI (19 * cnt)), some (mI 0)] [] τ (fun v σ' => v = none ∧ (fun σ' => RFs σ σ' ∧ ∃ q, MS t n σ' q (cnt + 1) ∧ SM t n P q ∧ (q.f = 0 → q.S 0 0 = cnt + 1)) σ') := by
    intro τ q hF hM hsm hq
    refine wp_iload_n (pc := 118) dX7_readsShape_118 rfl rfl ?_
    refine wp_if_eq (pc := 119) 151 dX7_readsShape_119 (by decide) (fun c_119 => ?_) (fun c_119 => ?_)
    · exact w151 τ q 0 hF hM hsm hq
    · omega
  have lp : ∀ i, i ≤ 8 → 0 ≤ i → ∀ (τ : Sto) (q : PS) (h lo : Int), RFr σ τ → MG t n τ q cnt → SW q.S → q.S 0 0 = cnt + 1 → q.S 3 cnt = i → q.S 2 cnt = h → lo = (if i = 0 then 0 else q.S 4 (cnt * 8 + (i - 1)) + 1) → (i = 0 ∨ tkK t n q.x = 2) → P = pStps t n h ((8 - i).toNat + 1) i lo q → Wp cX7_readsShape RX7 none 4 118 [some (mR 71), some (mI (19 * cnt)), some (mI 1)] [] τ (fun v σ' => v = none ∧ (fun σ' => RFs σ σ' ∧ ∃ q, MS t n σ' q (cnt + 1) ∧ SM t n P q ∧ (q.f = 0 → q.S 0 0 = cnt + 1)) σ') := by
    refine up_ind 8 (fun i hi ih i0 τ q h lo hF hgq hSq hcq eiq ehq elo hor hPq => ?_)
    have hqf : q.f = 0 := hgq.1.2.2.2.2.2.2.2.2.2.2
    have hlo : 0 ≤ lo := by
      rw [elo]
      split
      · exact Int.le_refl _
      · have := (hSq.2 cnt (by omega) (by omega)).2.2.2 (i - 1) (by omega) (by rw [eiq]; omega)
        omega
    have h2b := (hSq.2 cnt (by omega) (by omega)).2.1
    rw [ehq] at h2b
    rw [pStps_s, if_neg (by omega)] at hPq
    refine wp_iload_n (pc := 118) dX7_readsShape_118 rfl rfl ?_
    refine wp_if_eq (pc := 119) 151 dX7_readsShape_119 (by decide) (fun c_119 => ?_) (fun c_119 => ?_)
    · omega
    · refine wp_aload_n (pc := 122) dX7_readsShape_122 rfl rfl ?_
      refine wp_iload_n (pc := 123) dX7_readsShape_123 rfl rfl ?_
      refine wp_cvV1 (pc := 124) dX7_readsShape_124 mv_X7_141 (m_readsStep hgq hSq hcq (by omega) eiq ehq elo rfl rfl) (Nat.le_of_ble_eq_true rfl) rfl (Nat.le_of_ble_eq_true rfl) (fun σ_124 h_124 => ?_)
      obtain ⟨f124, m124⟩ := h_124
      have F124 := hF.tr f124
      have hnn := m124.nn
      refine wp_aload_n (pc := 127) dX7_readsShape_127 rfl rfl ?_
      refine wp_getI (pc := 128) 10 dX7_readsShape_128 fl_X7_81 rfl rfl ?_
      refine wp_if_ne (pc := 131) 146 dX7_readsShape_131 (by decide) (fun c_131 => ?_) (fun c_131 => ?_)
      · refine wp_iconst (pc := 146) dX7_readsShape_146 (by decide) ?_
        refine wp_istore_n (pc := 147) dX7_readsShape_147 rfl (Nat.le_of_ble_eq_true rfl) rfl ?_
        refine wp_goto (pc := 148) 118 dX7_readsShape_148 (by decide) ?_
        by_cases hin : tkK t n q.x = 2 ∧ i < 8
        · rw [if_pos hin] at m124
          rw [if_neg (by omega)] at hPq
          by_cases hfp : (pStp t n q lo (if i = 0 then 0 else h - 1)).f = 0
          · rw [if_neg (fun z => z hfp), show (8 - i).toNat = (8 - (i + 1)).toNat + 1 by omega] at hPq
            have hmo : (if i = 0 then 0 else h - 1) ≤ h - 1 := by split <;> omega
            obtain ⟨z1, z2⟩ : (lo ≤ tkN t n q.x ∧ tkN t n q.x ≤ (if i = 0 then 0 else h - 1)) ∧ (pNum t n 0 60 (q.nx t n)).f = 0 := by
              rw [pStp_at] at hfp
              by_cases c1 : ¬ (lo ≤ tkN t n q.x ∧ tkN t n q.x ≤ (if i = 0 then 0 else h - 1))
              · rw [if_pos c1] at hfp; exact absurd hfp (bad_f (by decide))
              · rw [if_neg c1] at hfp
                by_cases c2 : ¬ (pNum t n 0 60 (q.nx t n)).f = 0
                · rw [if_pos c2] at hfp; exact absurd hfp c2
                · exact ⟨Classical.byContradiction c1, Classical.byContradiction c2⟩
            have eS : pStp t n q lo (if i = 0 then 0 else h - 1) = ((q.nx t n).nx t n).wS (stS q.S (tkN t n q.x) (tkN t n (q.nx t n).x)) := by rw [pStp_at, if_neg (fun z => z z1), if_neg (fun z => z z2)]
            obtain ⟨-, -, n1, n2⟩ := pNum_f z2
            obtain ⟨s0, s1, s2, s3, s4, s5⟩ := stS_at (S := q.S) (a := tkN t n q.x) (b := tkN t n (q.nx t n).x)
            rw [eS] at m124 hPq
            have hcc : q.S 0 0 - 1 = cnt := by omega
            rw [hcc] at s3 s4 s5
            rw [eiq] at s4 s5
            first
              | (have hg2 := m124.good (by omega)
                 have kk2 := hg2.2.2.2.2.2
                 unfold tkOK at kk2
                 refine ih (by omega) (by omega) σ_124 _ h (tkN t n q.x + 1) F124 hg2 (stS_SW hSq (by omega) (by rw [hcc, eiq]; omega) ⟨by omega, by rw [hcc, ehq]; omega⟩ ⟨n1, n2⟩) (s0.trans hcq) ?_ ?_ ?_ (Or.inr ?_) hPq
                 · rw [show (((q.nx t n).nx t n).wS (stS q.S (tkN t n q.x) (tkN t n (q.nx t n).x))).S 3 cnt = stS q.S (tkN t n q.x) (tkN t n (q.nx t n).x) 3 cnt from rfl, s3, if_pos rfl, eiq]
                 · rw [show (((q.nx t n).nx t n).wS (stS q.S (tkN t n q.x) (tkN t n (q.nx t n).x))).S 2 cnt = stS q.S (tkN t n q.x) (tkN t n (q.nx t n).x) 2 cnt from rfl, s2, ehq]
                 · rw [if_neg (by omega), show (((q.nx t n).nx t n).wS (stS q.S (tkN t n q.x) (tkN t n (q.nx t n).x))).S 4 (cnt * 8 + (i + 1 - 1)) = stS q.S (tkN t n q.x) (tkN t n (q.nx t n).x) 4 (cnt * 8 + (i + 1 - 1)) from rfl, s4, if_pos (by omega)]
                 · omega)
              | (refine w118z σ_124 _ F124 m124 (Or.inl ⟨hqf, ?_⟩) (fun _ => s0.trans hcq)
                 refine hPq.trans (semi_of (by omega) ?_)
                 rcases m124 with m1 | m1
                 · have kk2 := m1.2.2.2.2.2
                   have k102 := m1.2.2.1
                   unfold tkOK at kk2
                   omega
                 · rcases m1.2.2 with c | c
                   · exact absurd hqf c.1
                   · have := c.2.1
                     omega)
          · rw [if_pos hfp] at hPq
            first
              | (exfalso
                 have hg2 := m124.good (by omega)
                 exact hfp hg2.1.2.2.2.2.2.2.2.2.2.2)
              | exact w118z σ_124 _ F124 m124 (Or.inr ⟨hfp, hPq⟩) (fun z => absurd z hfp)
        · rw [if_neg hin] at m124
          have hPb : P = q.bad t n 2 := by rw [hPq, if_pos (by omega)]
          first
            | (exfalso
               have hg2 := m124.good (by omega)
               exact bad_f (by decide) hg2.1.2.2.2.2.2.2.2.2.2.2)
            | exact w118z σ_124 _ F124 m124 (Or.inr ⟨bad_f (by decide), hPb⟩) (fun z => absurd z (bad_f (by decide)))
      · refine wp_aload_n (pc := 134) dX7_readsShape_134 rfl rfl ?_
        refine wp_getI (pc := 135) 14 dX7_readsShape_135 fl_X7_100 rfl rfl ?_
        refine wp_iconst (pc := 138) dX7_readsShape_138 (by decide) ?_
        refine wp_icmp_ne (pc := 139) 146 dX7_readsShape_139 (by decide) (fun c_139 => ?_) (fun c_139 => ?_)
        · refine wp_iconst (pc := 146) dX7_readsShape_146 (by decide) ?_
          refine wp_istore_n (pc := 147) dX7_readsShape_147 rfl (Nat.le_of_ble_eq_true rfl) rfl ?_
          refine wp_goto (pc := 148) 118 dX7_readsShape_148 (by decide) ?_
          by_cases hin : tkK t n q.x = 2 ∧ i < 8
          · rw [if_pos hin] at m124
            rw [if_neg (by omega)] at hPq
            by_cases hfp : (pStp t n q lo (if i = 0 then 0 else h - 1)).f = 0
            · rw [if_neg (fun z => z hfp), show (8 - i).toNat = (8 - (i + 1)).toNat + 1 by omega] at hPq
              have hmo : (if i = 0 then 0 else h - 1) ≤ h - 1 := by split <;> omega
              obtain ⟨z1, z2⟩ : (lo ≤ tkN t n q.x ∧ tkN t n q.x ≤ (if i = 0 then 0 else h - 1)) ∧ (pNum t n 0 60 (q.nx t n)).f = 0 := by
                rw [pStp_at] at hfp
                by_cases c1 : ¬ (lo ≤ tkN t n q.x ∧ tkN t n q.x ≤ (if i = 0 then 0 else h - 1))
                · rw [if_pos c1] at hfp; exact absurd hfp (bad_f (by decide))
                · rw [if_neg c1] at hfp
                  by_cases c2 : ¬ (pNum t n 0 60 (q.nx t n)).f = 0
                  · rw [if_pos c2] at hfp; exact absurd hfp c2
                  · exact ⟨Classical.byContradiction c1, Classical.byContradiction c2⟩
              have eS : pStp t n q lo (if i = 0 then 0 else h - 1) = ((q.nx t n).nx t n).wS (stS q.S (tkN t n q.x) (tkN t n (q.nx t n).x)) := by rw [pStp_at, if_neg (fun z => z z1), if_neg (fun z => z z2)]
              obtain ⟨-, -, n1, n2⟩ := pNum_f z2
              obtain ⟨s0, s1, s2, s3, s4, s5⟩ := stS_at (S := q.S) (a := tkN t n q.x) (b := tkN t n (q.nx t n).x)
              rw [eS] at m124 hPq
              have hcc : q.S 0 0 - 1 = cnt := by omega
              rw [hcc] at s3 s4 s5
              rw [eiq] at s4 s5
              first
                | (have hg2 := m124.good (by omega)
                   have kk2 := hg2.2.2.2.2.2
                   unfold tkOK at kk2
                   refine ih (by omega) (by omega) σ_124 _ h (tkN t n q.x + 1) F124 hg2 (stS_SW hSq (by omega) (by rw [hcc, eiq]; omega) ⟨by omega, by rw [hcc, ehq]; omega⟩ ⟨n1, n2⟩) (s0.trans hcq) ?_ ?_ ?_ (Or.inr ?_) hPq
                   · rw [show (((q.nx t n).nx t n).wS (stS q.S (tkN t n q.x) (tkN t n (q.nx t n).x))).S 3 cnt = stS q.S (tkN t n q.x) (tkN t n (q.nx t n).x) 3 cnt from rfl, s3, if_pos rfl, eiq]
                   · rw [show (((q.nx t n).nx t n).wS (stS q.S (tkN t n q.x) (tkN t n (q.nx t n).x))).S 2 cnt = stS q.S (tkN t n q.x) (tkN t n (q.nx t n).x) 2 cnt from rfl, s2, ehq]
                   · rw [if_neg (by omega), show (((q.nx t n).nx t n).wS (stS q.S (tkN t n q.x) (tkN t n (q.nx t n).x))).S 4 (cnt * 8 + (i + 1 - 1)) = stS q.S (tkN t n q.x) (tkN t n (q.nx t n).x) 4 (cnt * 8 + (i + 1 - 1)) from rfl, s4, if_pos (by omega)]
                   · omega)
                | (refine w118z σ_124 _ F124 m124 (Or.inl ⟨hqf, ?_⟩) (fun _ => s0.trans hcq)
                   refine hPq.trans (semi_of (by omega) ?_)
                   rcases m124 with m1 | m1
                   · have kk2 := m1.2.2.2.2.2
                     have k102 := m1.2.2.1
                     unfold tkOK at kk2
                     omega
                   · rcases m1.2.2 with c | c
                     · exact absurd hqf c.1
                     · have := c.2.1
                       omega)
            · rw [if_pos hfp] at hPq
              first
                | (exfalso
                   have hg2 := m124.good (by omega)
                   exact hfp hg2.1.2.2.2.2.2.2.2.2.2.2)
                | exact w118z σ_124 _ F124 m124 (Or.inr ⟨hfp, hPq⟩) (fun z => absurd z hfp)
          · rw [if_neg hin] at m124
            have hPb : P = q.bad t n 2 := by rw [hPq, if_pos (by omega)]
            first
              | (exfalso
                 have hg2 := m124.good (by omega)
                 exact bad_f (by decide) hg2.1.2.2.2.2.2.2.2.2.2.2)
              | exact w118z σ_124 _ F124 m124 (Or.inr ⟨bad_f (by decide), hPb⟩) (fun z => absurd z (bad_f (by decide)))
        · refine wp_iconst (pc := 142) dX7_readsShape_142 (by decide) ?_
          refine wp_goto (pc := 143) 147 dX7_readsShape_143 (by decide) ?_
          refine wp_istore_n (pc := 147) dX7_readsShape_147 rfl (Nat.le_of_ble_eq_true rfl) rfl ?_
          refine wp_goto (pc := 148) 118 dX7_readsShape_148 (by decide) ?_
          by_cases hin : tkK t n q.x = 2 ∧ i < 8
          · rw [if_pos hin] at m124
            rw [if_neg (by omega)] at hPq
            by_cases hfp : (pStp t n q lo (if i = 0 then 0 else h - 1)).f = 0
            · rw [if_neg (fun z => z hfp), show (8 - i).toNat = (8 - (i + 1)).toNat + 1 by omega] at hPq
              have hmo : (if i = 0 then 0 else h - 1) ≤ h - 1 := by split <;> omega
              obtain ⟨z1, z2⟩ : (lo ≤ tkN t n q.x ∧ tkN t n q.x ≤ (if i = 0 then 0 else h - 1)) ∧ (pNum t n 0 60 (q.nx t n)).f = 0 := by
                rw [pStp_at] at hfp
                by_cases c1 : ¬ (lo ≤ tkN t n q.x ∧ tkN t n q.x ≤ (if i = 0 then 0 else h - 1))
                · rw [if_pos c1] at hfp; exact absurd hfp (bad_f (by decide))
                · rw [if_neg c1] at hfp
                  by_cases c2 : ¬ (pNum t n 0 60 (q.nx t n)).f = 0
                  · rw [if_pos c2] at hfp; exact absurd hfp c2
                  · exact ⟨Classical.byContradiction c1, Classical.byContradiction c2⟩
              have eS : pStp t n q lo (if i = 0 then 0 else h - 1) = ((q.nx t n).nx t n).wS (stS q.S (tkN t n q.x) (tkN t n (q.nx t n).x)) := by rw [pStp_at, if_neg (fun z => z z1), if_neg (fun z => z z2)]
              obtain ⟨-, -, n1, n2⟩ := pNum_f z2
              obtain ⟨s0, s1, s2, s3, s4, s5⟩ := stS_at (S := q.S) (a := tkN t n q.x) (b := tkN t n (q.nx t n).x)
              rw [eS] at m124 hPq
              have hcc : q.S 0 0 - 1 = cnt := by omega
              rw [hcc] at s3 s4 s5
              rw [eiq] at s4 s5
              first
                | (have hg2 := m124.good (by omega)
                   have kk2 := hg2.2.2.2.2.2
                   unfold tkOK at kk2
                   refine ih (by omega) (by omega) σ_124 _ h (tkN t n q.x + 1) F124 hg2 (stS_SW hSq (by omega) (by rw [hcc, eiq]; omega) ⟨by omega, by rw [hcc, ehq]; omega⟩ ⟨n1, n2⟩) (s0.trans hcq) ?_ ?_ ?_ (Or.inr ?_) hPq
                   · rw [show (((q.nx t n).nx t n).wS (stS q.S (tkN t n q.x) (tkN t n (q.nx t n).x))).S 3 cnt = stS q.S (tkN t n q.x) (tkN t n (q.nx t n).x) 3 cnt from rfl, s3, if_pos rfl, eiq]
                   · rw [show (((q.nx t n).nx t n).wS (stS q.S (tkN t n q.x) (tkN t n (q.nx t n).x))).S 2 cnt = stS q.S (tkN t n q.x) (tkN t n (q.nx t n).x) 2 cnt from rfl, s2, ehq]
                   · rw [if_neg (by omega), show (((q.nx t n).nx t n).wS (stS q.S (tkN t n q.x) (tkN t n (q.nx t n).x))).S 4 (cnt * 8 + (i + 1 - 1)) = stS q.S (tkN t n q.x) (tkN t n (q.nx t n).x) 4 (cnt * 8 + (i + 1 - 1)) from rfl, s4, if_pos (by omega)]
                   · omega)
                | (refine w118z σ_124 _ F124 m124 (Or.inl ⟨hqf, ?_⟩) (fun _ => s0.trans hcq)
                   refine hPq.trans (semi_of (by omega) ?_)
                   rcases m124 with m1 | m1
                   · have kk2 := m1.2.2.2.2.2
                     have k102 := m1.2.2.1
                     unfold tkOK at kk2
                     omega
                   · rcases m1.2.2 with c | c
                     · exact absurd hqf c.1
                     · have := c.2.1
                       omega)
            · rw [if_pos hfp] at hPq
              first
                | (exfalso
                   have hg2 := m124.good (by omega)
                   exact hfp hg2.1.2.2.2.2.2.2.2.2.2.2)
                | exact w118z σ_124 _ F124 m124 (Or.inr ⟨hfp, hPq⟩) (fun z => absurd z hfp)
          · rw [if_neg hin] at m124
            have hPb : P = q.bad t n 2 := by rw [hPq, if_pos (by omega)]
            first
              | (exfalso
                 have hg2 := m124.good (by omega)
                 exact bad_f (by decide) hg2.1.2.2.2.2.2.2.2.2.2.2)
              | exact w118z σ_124 _ F124 m124 (Or.inr ⟨bad_f (by decide), hPb⟩) (fun z => absurd z (bad_f (by decide)))
  have w71 : ∀ υ : Sto, Fr1 σ υ → MG t n υ s cnt → P = (if ¬ (pNum t n 1 60 (s.nx t n)).f = 0 then pNum t n 1 60 (s.nx t n) else pStps t n (tkN t n (s.nx t n).x) 9 0 0 (((s.nx t n).nx t n).wS (adS s.S (t (tkS t n s.x) - 96) (tkN t n (s.nx t n).x)))) → (97 ≤ t (tkS t n s.x) ∧ t (tkS t n s.x) ≤ 122) → Wp cX7_readsShape RX7 none 4 71 [some (mR 71), some (mI (19 * cnt)), none] [mI (t (tkS t n s.x)), mI (19 * cnt + 0), mR 75] υ (fun v σ' => v = none ∧ (fun σ' => RFs σ σ' ∧ ∃ q, MS t n σ' q (cnt + 1) ∧ SM t n P q ∧ (q.f = 0 → q.S 0 0 = cnt + 1)) σ') := by
    intro υ hF hgu hPu hlet
    have hSu := hgu.1.2.2.2.2.2.2.2.1
    rw [Int.add_zero]
    have hg1 := hgu.up75 (hSu.out hSW (x := 19 * cnt) (v := t (tkS t n s.x) - 96) (by omega))
    refine wp_bipush (pc := 71) dX7_readsShape_71 (by decide) (by decide) ?_
    refine wp_isub (pc := 73) dX7_readsShape_73 (by omega) ?_
    refine wp_iconst (pc := 74) dX7_readsShape_74 (by decide) ?_
    refine wp_iadd (pc := 75) dX7_readsShape_75 (by omega) ?_
    rw [show t (tkS t n s.x) - 97 + 1 = t (tkS t n s.x) - 96 by omega]
    refine wp_iast (pc := 76) 114 dX7_readsShape_76 rfl (by omega) ?_
    refine wp_aload_n (pc := 77) dX7_readsShape_77 rfl rfl ?_
    refine wp_cvV0 (pc := 78) dX7_readsShape_78 mv_X7_115 (m_readsU (t := t) (n := n) (cnt := cnt) (q := s.nx t n) (by have := hg1.2.2.1; omega) (fun _ => hg1.nx Fr1.rf rfl)) (Nat.le_of_ble_eq_true rfl) rfl (Nat.le_of_ble_eq_true rfl) (fun σ_78 h_78 => ?_)
    obtain ⟨f78, q78⟩ := h_78
    have m78 : MS t n σ_78 (s.nx t n) cnt := by
      rcases q78 with c | c
      · exact c.2
      · have := hg1.2.2.1; omega
    have e78 : σ_78 75 (19 * cnt) = t (tkS t n s.x) - 96 := by rw [f78.1 75 (by decide), upd2_eq]
    have nn78 := m78.nn
    refine wp_aload_n (pc := 81) dX7_readsShape_81 rfl rfl ?_
    refine wp_getR (pc := 82) (q := 75) dX7_readsShape_82 fl_X7_19 rfl ?_
    refine wp_iload_n (pc := 85) dX7_readsShape_85 rfl rfl ?_
    refine wp_iconst (pc := 86) dX7_readsShape_86 (by decide) ?_
    refine wp_iadd (pc := 87) dX7_readsShape_87 (by omega) ?_
    refine wp_aload_n (pc := 88) dX7_readsShape_88 rfl rfl ?_
    refine wp_iconst (pc := 89) dX7_readsShape_89 (by decide) ?_
    refine wp_bipush (pc := 90) dX7_readsShape_90 (by decide) (by decide) ?_
    refine wp_cvI2 (pc := 92) dX7_readsShape_92 mv_X7_128 (m_numberU (t := t) (n := n) (cnt := cnt) (s := s.nx t n) nn78 (fun z => m78.good (by omega))) (Nat.le_of_ble_eq_true rfl) rfl (Nat.le_of_ble_eq_true rfl) (fun z_92 σ_92 h_92 => ?_)
    obtain ⟨f92, q92⟩ := h_92
    have e92 : σ_92 75 (19 * cnt) = t (tkS t n s.x) - 96 := by rw [f92.1 75 (by decide)]; exact e78
    have F92 : RFr σ (upd2 (upd2 σ_92 75 (19 * cnt + 1) z_92) 75 (19 * cnt + 2) 0) := ((((hF.r.up (Or.inr (Or.inl rfl))).tr f78.r).tr f92.r).up (Or.inr (Or.inl rfl))).up (Or.inr (Or.inl rfl))
    have hbadF : ∀ q, MSb t n σ_92 q → MS t n (upd2 (upd2 σ_92 75 (19 * cnt + 1) z_92) 75 (19 * cnt + 2) 0) q cnt := fun q hq => Or.inr ((hq.up (by decide)).up (by decide))
    refine wp_iast (pc := 95) 114 dX7_readsShape_95 rfl (by omega) ?_
    refine wp_aload_n (pc := 96) dX7_readsShape_96 rfl rfl ?_
    refine wp_getR (pc := 97) (q := 75) dX7_readsShape_97 fl_X7_19 rfl ?_
    refine wp_iload_n (pc := 100) dX7_readsShape_100 rfl rfl ?_
    refine wp_iconst (pc := 101) dX7_readsShape_101 (by decide) ?_
    refine wp_iadd (pc := 102) dX7_readsShape_102 (by omega) ?_
    refine wp_iconst (pc := 103) dX7_readsShape_103 (by decide) ?_
    refine wp_iast (pc := 104) 114 dX7_readsShape_104 rfl (by omega) ?_
    refine wp_aload_n (pc := 105) dX7_readsShape_105 rfl rfl ?_
    refine wp_getI (pc := 106) 10 dX7_readsShape_106 fl_X7_81 rfl rfl ?_
    rw [upd2_r (r := 75) (r' := 71) (by decide), upd2_r (r := 75) (r' := 71) (by decide)]
    refine wp_if_ne (pc := 109) 116 dX7_readsShape_109 (by decide) (fun c_109 => ?_) (fun c_109 => ?_)
    · refine wp_iconst (pc := 116) dX7_readsShape_116 (by decide) ?_
      refine wp_istore_n (pc := 117) dX7_readsShape_117 rfl (Nat.le_of_ble_eq_true rfl) rfl ?_
      first
        | (by_cases u0 : σ_78 71 10 = 0
           · have m92 : MS t n σ_92 (pNum t n 1 60 (s.nx t n)) cnt := by
               rcases q92 with c | c
               · exact c.2.1
               · omega
             have hbad := m92.bad (by have := m92.nn; omega)
             by_cases hfn : (pNum t n 1 60 (s.nx t n)).f = 0
             · rw [if_neg (fun z => z hfn)] at hPu
               rw [(pNum_f hfn).1] at hbad
               have hk3 : tkK t n ((s.nx t n).nx t n).x = 0 := by
                 rcases hbad.2.2 with d | d
                 · exact absurd hf0 d.1
                 · exact d.2.1
               have hPb : P = (((s.nx t n).nx t n).wS (adS s.S (t (tkS t n s.x) - 96) (tkN t n (s.nx t n).x))).bad t n 2 := by
                 rw [hPu, pStps_s, if_neg (fun z => absurd z.2 (by decide)), if_pos (Or.inl (show ¬ tkK t n (((s.nx t n).nx t n).wS (adS s.S (t (tkS t n s.x) - 96) (tkN t n (s.nx t n).x))).x = 2 from fun z => absurd (hk3.symm.trans z) (by decide)))]
               have hbad2 : MSb t n σ_92 (((s.nx t n).nx t n).wS (adS s.S (t (tkS t n s.x) - 96) (tkN t n (s.nx t n).x))) := hbad
               exact w118z _ _ F92 (hbadF _ (hbad2.on hf0)) (Or.inr ⟨bad_f (by decide), hPb⟩) (fun z => absurd z (bad_f (by decide)))
             · rw [if_pos hfn] at hPu
               exact w118z _ _ F92 (hbadF _ hbad) (Or.inr ⟨hfn, hPu⟩) (fun z => absurd z hfn)
           · have hbad := m78.bad (by omega)
             have hk3 : tkK t n (s.nx t n).x = 0 := by
               rcases hbad.2.2 with d | d
               · exact absurd hf0 d.1
               · exact d.2.1
             have e : pNum t n 1 60 (s.nx t n) = (s.nx t n).bad t n 2 := by unfold pNum; rw [if_neg (by omega), if_neg (by omega)]
             rw [e, if_pos (bad_f (by decide))] at hPu
             have hb2 : MSb t n σ_92 ((s.nx t n).bad t n 2) := by
               have hb3 := hbad.on (w := 2) hf0
               rcases q92 with c | c
               · omega
               · unfold MSb at *
                 rw [c.2.2.1, c.2.2.2]; exact hb3
             exact w118z _ _ F92 (hbadF _ hb2) (Or.inr ⟨bad_f (by decide), hPu⟩) (fun z => absurd z (bad_f (by decide))))
        | (obtain ⟨u0, m92, v92⟩ : σ_78 71 10 = 0 ∧ MS t n σ_92 (pNum t n 1 60 (s.nx t n)) cnt ∧ ((pNum t n 1 60 (s.nx t n)).f = 0 → z_92 = tkN t n (s.nx t n).x) := by
             rcases q92 with c | c
             · exact c
             · omega
           have hg92 := m92.good (by omega)
           have hfn := hg92.1.2.2.2.2.2.2.2.2.2.2
           obtain ⟨e1, -, e3, e4⟩ := pNum_f hfn
           have vz := v92 hfn
           rw [if_neg (fun z => z hfn)] at hPu
           rw [e1] at hg92
           have hS92 : SR (σ_92 75) s.S := hg92.1.2.2.2.2.2.2.2.1
           have hg93 : MG t n (upd2 σ_92 75 (19 * cnt + 1) z_92) ((s.nx t n).nx t n) cnt := hg92.up75 (hS92.out hSW (x := 19 * cnt + 1) (v := z_92) (by omega))
           have hS93 : SR (upd2 σ_92 75 (19 * cnt + 1) z_92 75) s.S := hg93.1.2.2.2.2.2.2.2.1
           have hS94 : SR (upd2 (upd2 σ_92 75 (19 * cnt + 1) z_92) 75 (19 * cnt + 2) 0 75) s.S := SR.out (x := 19 * cnt + 2) (v := 0) hS93 hSW (by omega)
           have had := SR.ad (g := t (tkS t n s.x) - 96) (h := z_92) hS94 (by rw [hcn, upd2_k (by omega), upd2_k (by omega)]; exact e92) (by rw [hcn, upd2_k (by omega), upd2_eq]) (by rw [hcn, upd2_eq])
           have hg95 : MG t n (upd2 (upd2 σ_92 75 (19 * cnt + 1) z_92) 75 (19 * cnt + 2) 0) (((s.nx t n).nx t n).wS (adS s.S (t (tkS t n s.x) - 96) z_92)) cnt := hg93.up75 had
           obtain ⟨a0, a1, a2, a3, a4, a5⟩ := adS_at (S := s.S) (g := t (tkS t n s.x) - 96) (m := z_92)
           rw [← vz] at hPu
           refine lp 0 (by decide) (by decide) _ _ z_92 0 F92 hg95 (adS_SW hp.2.2.2 (by omega) (by omega) (by omega)) (a0.trans (by omega)) ?_ ?_ rfl (Or.inl rfl) hPu
           · rw [show ((((s.nx t n).nx t n).wS (adS s.S (t (tkS t n s.x) - 96) z_92)).S 3 cnt) = adS s.S (t (tkS t n s.x) - 96) z_92 3 cnt from rfl, a3, if_pos hcn.symm]
           · rw [show ((((s.nx t n).nx t n).wS (adS s.S (t (tkS t n s.x) - 96) z_92)).S 2 cnt) = adS s.S (t (tkS t n s.x) - 96) z_92 2 cnt from rfl, a2, if_pos hcn.symm])
    · refine wp_iconst (pc := 112) dX7_readsShape_112 (by decide) ?_
      refine wp_goto (pc := 113) 117 dX7_readsShape_113 (by decide) ?_
      refine wp_istore_n (pc := 117) dX7_readsShape_117 rfl (Nat.le_of_ble_eq_true rfl) rfl ?_
      first
        | (by_cases u0 : σ_78 71 10 = 0
           · have m92 : MS t n σ_92 (pNum t n 1 60 (s.nx t n)) cnt := by
               rcases q92 with c | c
               · exact c.2.1
               · omega
             have hbad := m92.bad (by have := m92.nn; omega)
             by_cases hfn : (pNum t n 1 60 (s.nx t n)).f = 0
             · rw [if_neg (fun z => z hfn)] at hPu
               rw [(pNum_f hfn).1] at hbad
               have hk3 : tkK t n ((s.nx t n).nx t n).x = 0 := by
                 rcases hbad.2.2 with d | d
                 · exact absurd hf0 d.1
                 · exact d.2.1
               have hPb : P = (((s.nx t n).nx t n).wS (adS s.S (t (tkS t n s.x) - 96) (tkN t n (s.nx t n).x))).bad t n 2 := by
                 rw [hPu, pStps_s, if_neg (fun z => absurd z.2 (by decide)), if_pos (Or.inl (show ¬ tkK t n (((s.nx t n).nx t n).wS (adS s.S (t (tkS t n s.x) - 96) (tkN t n (s.nx t n).x))).x = 2 from fun z => absurd (hk3.symm.trans z) (by decide)))]
               have hbad2 : MSb t n σ_92 (((s.nx t n).nx t n).wS (adS s.S (t (tkS t n s.x) - 96) (tkN t n (s.nx t n).x))) := hbad
               exact w118z _ _ F92 (hbadF _ (hbad2.on hf0)) (Or.inr ⟨bad_f (by decide), hPb⟩) (fun z => absurd z (bad_f (by decide)))
             · rw [if_pos hfn] at hPu
               exact w118z _ _ F92 (hbadF _ hbad) (Or.inr ⟨hfn, hPu⟩) (fun z => absurd z hfn)
           · have hbad := m78.bad (by omega)
             have hk3 : tkK t n (s.nx t n).x = 0 := by
               rcases hbad.2.2 with d | d
               · exact absurd hf0 d.1
               · exact d.2.1
             have e : pNum t n 1 60 (s.nx t n) = (s.nx t n).bad t n 2 := by unfold pNum; rw [if_neg (by omega), if_neg (by omega)]
             rw [e, if_pos (bad_f (by decide))] at hPu
             have hb2 : MSb t n σ_92 ((s.nx t n).bad t n 2) := by
               have hb3 := hbad.on (w := 2) hf0
               rcases q92 with c | c
               · omega
               · unfold MSb at *
                 rw [c.2.2.1, c.2.2.2]; exact hb3
             exact w118z _ _ F92 (hbadF _ hb2) (Or.inr ⟨bad_f (by decide), hPu⟩) (fun z => absurd z (bad_f (by decide))))
        | (obtain ⟨u0, m92, v92⟩ : σ_78 71 10 = 0 ∧ MS t n σ_92 (pNum t n 1 60 (s.nx t n)) cnt ∧ ((pNum t n 1 60 (s.nx t n)).f = 0 → z_92 = tkN t n (s.nx t n).x) := by
             rcases q92 with c | c
             · exact c
             · omega
           have hg92 := m92.good (by omega)
           have hfn := hg92.1.2.2.2.2.2.2.2.2.2.2
           obtain ⟨e1, -, e3, e4⟩ := pNum_f hfn
           have vz := v92 hfn
           rw [if_neg (fun z => z hfn)] at hPu
           rw [e1] at hg92
           have hS92 : SR (σ_92 75) s.S := hg92.1.2.2.2.2.2.2.2.1
           have hg93 : MG t n (upd2 σ_92 75 (19 * cnt + 1) z_92) ((s.nx t n).nx t n) cnt := hg92.up75 (hS92.out hSW (x := 19 * cnt + 1) (v := z_92) (by omega))
           have hS93 : SR (upd2 σ_92 75 (19 * cnt + 1) z_92 75) s.S := hg93.1.2.2.2.2.2.2.2.1
           have hS94 : SR (upd2 (upd2 σ_92 75 (19 * cnt + 1) z_92) 75 (19 * cnt + 2) 0 75) s.S := SR.out (x := 19 * cnt + 2) (v := 0) hS93 hSW (by omega)
           have had := SR.ad (g := t (tkS t n s.x) - 96) (h := z_92) hS94 (by rw [hcn, upd2_k (by omega), upd2_k (by omega)]; exact e92) (by rw [hcn, upd2_k (by omega), upd2_eq]) (by rw [hcn, upd2_eq])
           have hg95 : MG t n (upd2 (upd2 σ_92 75 (19 * cnt + 1) z_92) 75 (19 * cnt + 2) 0) (((s.nx t n).nx t n).wS (adS s.S (t (tkS t n s.x) - 96) z_92)) cnt := hg93.up75 had
           obtain ⟨a0, a1, a2, a3, a4, a5⟩ := adS_at (S := s.S) (g := t (tkS t n s.x) - 96) (m := z_92)
           rw [← vz] at hPu
           refine lp 0 (by decide) (by decide) _ _ z_92 0 F92 hg95 (adS_SW hp.2.2.2 (by omega) (by omega) (by omega)) (a0.trans (by omega)) ?_ ?_ rfl (Or.inl rfl) hPu
           · rw [show ((((s.nx t n).nx t n).wS (adS s.S (t (tkS t n s.x) - 96) z_92)).S 3 cnt) = adS s.S (t (tkS t n s.x) - 96) z_92 3 cnt from rfl, a3, if_pos hcn.symm]
           · rw [show ((((s.nx t n).nx t n).wS (adS s.S (t (tkS t n s.x) - 96) z_92)).S 2 cnt) = adS s.S (t (tkS t n s.x) - 96) z_92 2 cnt from rfl, a2, if_pos hcn.symm])
  unfold pShp at hP
  refine wp_bipush (pc := 0) dX7_readsShape_0 (by decide) (by decide) ?_
  refine wp_aload_n (pc := 2) dX7_readsShape_2 rfl rfl ?_
  refine wp_getI (pc := 3) 5 dX7_readsShape_3 fl_X7_131 rfl rfl ?_
  rw [h5]
  refine wp_imul (pc := 6) dX7_readsShape_6 (by omega) ?_
  refine wp_istore_n (pc := 7) dX7_readsShape_7 rfl (Nat.le_of_ble_eq_true rfl) rfl ?_
  refine wp_aload_n (pc := 8) dX7_readsShape_8 rfl rfl ?_
  refine wp_aload_n (pc := 9) dX7_readsShape_9 rfl rfl ?_
  refine wp_cvI0 (pc := 10) dX7_readsShape_10 mv_X7_134 (m_isLetterNow (by omega)) (Nat.le_of_ble_eq_true rfl) rfl (Nat.le_of_ble_eq_true rfl) (fun z_10 σ_10 h_10 => ?_)
  obtain ⟨y_10, e_10⟩ := h_10; have e2_10 := e_10.symm; subst e2_10
  refine wp_iconst (pc := 13) dX7_readsShape_13 (by decide) ?_
  refine wp_cvV2 (pc := 14) dX7_readsShape_14 mv_X7_111 m_mustP (Nat.le_of_ble_eq_true rfl) rfl (Nat.le_of_ble_eq_true rfl) (fun σ_14 h_14 => ?_)
  obtain ⟨f_14, a12_14, a13_14, a14_14, a15_14, q_14⟩ := h_14
  refine wp_aload_n (pc := 17) dX7_readsShape_17 rfl rfl ?_
  refine wp_aload_n (pc := 18) dX7_readsShape_18 rfl rfl ?_
  refine wp_getI (pc := 19) 10 dX7_readsShape_19 fl_X7_81 rfl rfl ?_
  refine wp_if_gt (pc := 22) 43 dX7_readsShape_22 (by decide) (fun c_22 => ?_) (fun c_22 => ?_)
  · refine wp_iconst (pc := 43) dX7_readsShape_43 (by decide) ?_
    refine wp_goto (pc := 44) 48 dX7_readsShape_44 (by decide) ?_
    refine wp_iconst (pc := 48) dX7_readsShape_48 (by decide) ?_
    refine wp_cvV2 (pc := 49) dX7_readsShape_49 mv_X7_111 m_mustP (Nat.le_of_ble_eq_true rfl) rfl (Nat.le_of_ble_eq_true rfl) (fun σ_49 h_49 => ?_)
    obtain ⟨f_49, a12_49, a13_49, a14_49, a15_49, q_49⟩ := h_49
    refine wp_aload_n (pc := 52) dX7_readsShape_52 rfl rfl ?_
    refine wp_getI (pc := 53) 10 dX7_readsShape_53 fl_X7_81 rfl rfl ?_
    refine wp_if_le (pc := 56) 60 dX7_readsShape_56 (by decide) (fun c_56 => ?_) (fun c_56 => ?_)
    · have hl : tkK t n s.x = 1 ∧ tkE t n s.x - tkS t n s.x = 1 := by omega
      have hlet := (tkL (t := t) hx0.1 hx0.2 hl.1).2 (tkS t n s.x) (Int.le_refl _) (by omega)
      have hval : σ_49 71 15 = t (tkS t n s.x) := by omega
      have F49 := f_14.tr f_49
      have hg49 : MG t n σ_49 s cnt := ⟨hb.fr F49, k0, by omega, by omega, by omega, by unfold tkOK; omega⟩
      rw [if_neg (by omega), if_neg (by omega)] at hP
      refine wp_aload_n (pc := 60) dX7_readsShape_60 rfl rfl ?_
      refine wp_getR (pc := 61) (q := 75) dX7_readsShape_61 fl_X7_19 rfl ?_
      refine wp_iload_n (pc := 64) dX7_readsShape_64 rfl rfl ?_
      refine wp_iconst (pc := 65) dX7_readsShape_65 (by decide) ?_
      refine wp_iadd (pc := 66) dX7_readsShape_66 (by omega) ?_
      refine wp_aload_n (pc := 67) dX7_readsShape_67 rfl rfl ?_
      refine wp_getI (pc := 68) 15 dX7_readsShape_68 fl_X7_97 rfl rfl ?_
      rw [hval]
      exact w71 σ_49 F49 hg49 hP hlet
    · refine wp_return (pc := 59) dX7_readsShape_59 rfl ?_
      first
        | (have hPb : P = s.bad t n 2 := by rw [hP, if_pos (by omega)]
           exact ⟨rfl, (f_14.tr f_49).r.s, s.bad t n 2, Or.inr (hg.no (by decide) (by omega) (by omega)), Or.inr ⟨bad_f (by decide), hPb⟩, fun z => absurd z (bad_f (by decide))⟩)
        | (have hPb : P = s.bad t n 4 := by rw [hP, if_neg (by omega), if_pos (by omega)]
           exact ⟨rfl, (f_14.tr f_49).r.s, s.bad t n 4, Or.inr (hg.no (by decide) (by omega) (by omega)), Or.inr ⟨bad_f (by decide), hPb⟩, fun z => absurd z (bad_f (by decide))⟩)
        | (exfalso; omega)
  · refine wp_aload_n (pc := 25) dX7_readsShape_25 rfl rfl ?_
    have hl : tkK t n s.x = 1 ∧ tkE t n s.x - tkS t n s.x = 1 := by omega
    have hval : σ_14 71 15 = t (tkS t n s.x) := by omega
    have hlet := (tkL (t := t) hx0.1 hx0.2 hl.1).2 (tkS t n s.x) (Int.le_refl _) (by omega)
    have hS14 : SR (σ_14 75) s.S := by rw [f_14.1 75 (by decide)]; exact hSR
    have h514 : σ_14 71 5 = cnt := (f_14.2 5 (by decide)).trans h5
    refine wp_aload_n (pc := 26) dX7_readsShape_26 rfl rfl ?_
    refine wp_getI (pc := 27) 15 dX7_readsShape_27 fl_X7_97 rfl rfl ?_
    rw [hval]
    refine wp_bipush (pc := 30) dX7_readsShape_30 (by decide) (by decide) ?_
    refine wp_isub (pc := 32) dX7_readsShape_32 (by omega) ?_
    refine wp_iconst (pc := 33) dX7_readsShape_33 (by decide) ?_
    refine wp_iadd (pc := 34) dX7_readsShape_34 (by omega) ?_
    refine wp_cvI1 (pc := 35) dX7_readsShape_35 mv_X7_138 (m_shapeOf hS14 (by omega)) (Nat.le_of_ble_eq_true rfl) rfl (Nat.le_of_ble_eq_true rfl) (fun z_35 σ_35 h_35 => ?_)
    obtain ⟨zz_35, e_35⟩ := h_35; have e2_35 := e_35.symm; subst e2_35
    rw [h514, show t (tkS t n s.x) - 97 + 1 = t (tkS t n s.x) - 96 by omega, ← hcn] at zz_35
    have hfb := fnd_bd (s.S 1) (s.S 0 0) (t (tkS t n s.x) - 96)
    refine wp_bipush (pc := 38) dX7_readsShape_38 (by decide) (by decide) ?_
    refine wp_icmp_ne (pc := 40) 47 dX7_readsShape_40 (by decide) (fun c_40 => ?_) (fun c_40 => ?_)
    · refine wp_iconst (pc := 47) dX7_readsShape_47 (by decide) ?_
      refine wp_iconst (pc := 48) dX7_readsShape_48 (by decide) ?_
      refine wp_cvV2 (pc := 49) dX7_readsShape_49 mv_X7_111 m_mustP (Nat.le_of_ble_eq_true rfl) rfl (Nat.le_of_ble_eq_true rfl) (fun σ_49 h_49 => ?_)
      obtain ⟨f_49, a12_49, a13_49, a14_49, a15_49, q_49⟩ := h_49
      refine wp_aload_n (pc := 52) dX7_readsShape_52 rfl rfl ?_
      refine wp_getI (pc := 53) 10 dX7_readsShape_53 fl_X7_81 rfl rfl ?_
      refine wp_if_le (pc := 56) 60 dX7_readsShape_56 (by decide) (fun c_56 => ?_) (fun c_56 => ?_)
      · have hl : tkK t n s.x = 1 ∧ tkE t n s.x - tkS t n s.x = 1 := by omega
        have hlet := (tkL (t := t) hx0.1 hx0.2 hl.1).2 (tkS t n s.x) (Int.le_refl _) (by omega)
        have hval : σ_49 71 15 = t (tkS t n s.x) := by omega
        have F49 := f_14.tr f_49
        have hg49 : MG t n σ_49 s cnt := ⟨hb.fr F49, k0, by omega, by omega, by omega, by unfold tkOK; omega⟩
        rw [if_neg (by omega), if_neg (by omega)] at hP
        refine wp_aload_n (pc := 60) dX7_readsShape_60 rfl rfl ?_
        refine wp_getR (pc := 61) (q := 75) dX7_readsShape_61 fl_X7_19 rfl ?_
        refine wp_iload_n (pc := 64) dX7_readsShape_64 rfl rfl ?_
        refine wp_iconst (pc := 65) dX7_readsShape_65 (by decide) ?_
        refine wp_iadd (pc := 66) dX7_readsShape_66 (by omega) ?_
        refine wp_aload_n (pc := 67) dX7_readsShape_67 rfl rfl ?_
        refine wp_getI (pc := 68) 15 dX7_readsShape_68 fl_X7_97 rfl rfl ?_
        rw [hval]
        exact w71 σ_49 F49 hg49 hP hlet
      · refine wp_return (pc := 59) dX7_readsShape_59 rfl ?_
        first
          | (have hPb : P = s.bad t n 2 := by rw [hP, if_pos (by omega)]
             exact ⟨rfl, (f_14.tr f_49).r.s, s.bad t n 2, Or.inr (hg.no (by decide) (by omega) (by omega)), Or.inr ⟨bad_f (by decide), hPb⟩, fun z => absurd z (bad_f (by decide))⟩)
          | (have hPb : P = s.bad t n 4 := by rw [hP, if_neg (by omega), if_pos (by omega)]
             exact ⟨rfl, (f_14.tr f_49).r.s, s.bad t n 4, Or.inr (hg.no (by decide) (by omega) (by omega)), Or.inr ⟨bad_f (by decide), hPb⟩, fun z => absurd z (bad_f (by decide))⟩)
          | (exfalso; omega)
    · refine wp_iconst (pc := 43) dX7_readsShape_43 (by decide) ?_
      refine wp_goto (pc := 44) 48 dX7_readsShape_44 (by decide) ?_
      refine wp_iconst (pc := 48) dX7_readsShape_48 (by decide) ?_
      refine wp_cvV2 (pc := 49) dX7_readsShape_49 mv_X7_111 m_mustP (Nat.le_of_ble_eq_true rfl) rfl (Nat.le_of_ble_eq_true rfl) (fun σ_49 h_49 => ?_)
      obtain ⟨f_49, a12_49, a13_49, a14_49, a15_49, q_49⟩ := h_49
      refine wp_aload_n (pc := 52) dX7_readsShape_52 rfl rfl ?_
      refine wp_getI (pc := 53) 10 dX7_readsShape_53 fl_X7_81 rfl rfl ?_
      refine wp_if_le (pc := 56) 60 dX7_readsShape_56 (by decide) (fun c_56 => ?_) (fun c_56 => ?_)
      · have hl : tkK t n s.x = 1 ∧ tkE t n s.x - tkS t n s.x = 1 := by omega
        have hlet := (tkL (t := t) hx0.1 hx0.2 hl.1).2 (tkS t n s.x) (Int.le_refl _) (by omega)
        have hval : σ_49 71 15 = t (tkS t n s.x) := by omega
        have F49 := f_14.tr f_49
        have hg49 : MG t n σ_49 s cnt := ⟨hb.fr F49, k0, by omega, by omega, by omega, by unfold tkOK; omega⟩
        rw [if_neg (by omega), if_neg (by omega)] at hP
        refine wp_aload_n (pc := 60) dX7_readsShape_60 rfl rfl ?_
        refine wp_getR (pc := 61) (q := 75) dX7_readsShape_61 fl_X7_19 rfl ?_
        refine wp_iload_n (pc := 64) dX7_readsShape_64 rfl rfl ?_
        refine wp_iconst (pc := 65) dX7_readsShape_65 (by decide) ?_
        refine wp_iadd (pc := 66) dX7_readsShape_66 (by omega) ?_
        refine wp_aload_n (pc := 67) dX7_readsShape_67 rfl rfl ?_
        refine wp_getI (pc := 68) 15 dX7_readsShape_68 fl_X7_97 rfl rfl ?_
        rw [hval]
        exact w71 σ_49 F49 hg49 hP hlet
      · refine wp_return (pc := 59) dX7_readsShape_59 rfl ?_
        first
          | (have hPb : P = s.bad t n 2 := by rw [hP, if_pos (by omega)]
             exact ⟨rfl, (f_14.tr f_49).r.s, s.bad t n 2, Or.inr (hg.no (by decide) (by omega) (by omega)), Or.inr ⟨bad_f (by decide), hPb⟩, fun z => absurd z (bad_f (by decide))⟩)
          | (have hPb : P = s.bad t n 4 := by rw [hP, if_neg (by omega), if_pos (by omega)]
             exact ⟨rfl, (f_14.tr f_49).r.s, s.bad t n 4, Or.inr (hg.no (by decide) (by omega) (by omega)), Or.inr ⟨bad_f (by decide), hPb⟩, fun z => absurd z (bad_f (by decide))⟩)
          | (exfalso; omega)
