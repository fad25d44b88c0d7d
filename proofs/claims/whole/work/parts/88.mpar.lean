set_option maxHeartbeats 4000000 in
set_option maxRecDepth 100000 in
theorem m_readsWordP {t : Int → Int} {n cnt p : Int} {σ : Sto} {s r : PS} (hpe : p = s.D 0 0 - 1) (hg : MG t n σ s cnt) (hW : DW s.D s.S) (h1 : 1 ≤ s.D 0 0) (er : r = if ¬ tkK t n s.x = 1 then s.bad t n 2 else if 6 < tkE t n s.x - tkS t n s.x then s.bad t n 3 else if 80 ≤ tot s.D then s.bad t n 5 else (s.nx t n).wD (adW s.D (wcd t (tkS t n s.x) (tkE t n s.x - tkS t n s.x)))) : CtV yX7_readsWord cX7_readsWord 4 none 2 [mR 71, mI p] σ (fun σ' => RFr σ σ' ∧ MS t n σ' r cnt) := by
  subst hpe
  exact m_readsWord hg hW h1 er
set_option maxHeartbeats 4000000 in
set_option maxRecDepth 100000 in
theorem semi_ofW {t : Int → Int} {n : Int} {k : Nat} {i : Int} {s : PS} (hi : 0 < i) (h2 : ¬ tkK t n s.x = 1) : pWds t n (k + 1) i s = semi t n s := by
  rw [pWds_s]
  unfold semi
  by_cases c : tkK t n s.x = 4
  · rw [if_pos ⟨c, hi⟩, if_pos c]
  · rw [if_neg (fun z => c z.1), if_neg c, if_pos h2]
set_option maxHeartbeats 4000000 in
set_option maxRecDepth 100000 in
theorem tok1 {t : Int → Int} {n cnt : Int} {σ : Sto} {s : PS} (h : MG t n σ s cnt) : (σ 71 14 = 1 ∧ tkK t n s.x = 1 ∧ σ 71 15 = t (tkS t n s.x)) ∨ (¬ σ 71 14 = 1 ∧ ¬ tkK t n s.x = 1) := by
  have := h.2.2.2.2.2
  unfold tkOK at this
  omega
set_option maxHeartbeats 4000000 in
set_option maxRecDepth 100000 in
theorem tokS {t : Int → Int} {n cnt : Int} {σ : Sto} {s : PS} (h : MG t n σ s cnt) : ((σ 71 14 = 3 ∧ σ 71 15 = 58) ↔ tkK t n s.x = 3) ∧ ((σ 71 14 = 3 ∧ σ 71 15 = 59) ↔ tkK t n s.x = 4) ∧ (σ 71 14 = 0 ↔ tkK t n s.x = 5) := by
  have := h.2.2.2.2.2
  unfold tkOK at this
  omega
set_option maxHeartbeats 4000000 in
set_option maxRecDepth 100000 in
theorem m_readsPar {t : Int → Int} {n cnt : Int} {σ : Sto} {s P : PS} (hg : MG t n σ s cnt) (hp : PG n s) (hcn : s.S 0 0 = cnt) (hc8 : s.D 0 0 < 8) (hP : P = pPar t n s) : CtV yX7_readsPar cX7_readsPar 3 none 3 [mR 71] σ (fun σ' => RFr σ σ' ∧ ∃ q, MS t n σ' q cnt ∧ SM t n P q ∧ (q.f = 0 → q.S 0 0 = cnt)) := by
  refine ct_of rfl [some (mR 71), none, none] (Nat.le_of_ble_eq_true rfl) rfl (fun hσ => ?_)
  show Wp cX7_readsPar RX7 none 3 0 [some (mR 71), none, none] [] _ _
  have hb := hg.1
  have k10 := hg.2.2.1
  have k12 := hg.2.2.2.1
  have k13 := hg.2.2.2.2.1
  have kk := tok1 hg
  have htb := tk_bd (t := t) hb.2.2.2.2.1.1 hb.2.2.2.2.1.2
  have hn4 := hb.1
  have hx0 := hb.2.2.2.2.1
  have hf0 : s.f = 0 := hb.2.2.2.2.2.2.2.2.2.2
  have h5 : σ 71 5 = cnt := hb.2.2.2.2.2.2.2.2.1
  have hSR := hb.2.2.2.2.2.2.2.1
  have hPR := hb.2.2.2.2.2.2.1
  have hD := hp.2.2.1
  have hDt := hD.tt
  have hS0 := hp.2.2.2.1
  have e730 : σ 73 0 = s.D 0 0 := hPR.1
  have w192z : ∀ (τ : Sto) (q : PS), RFr σ τ → MS t n τ q cnt → SM t n P q → (q.f = 0 → q.S 0 0 = cnt) → Wp cX7_readsPar RX7 none 3 192 [some (mR 71), some (mI (s.D 0 0)), some (mI 0)] [] τ (fun v σ' => v = none ∧ (fun σ' => RFr σ σ' ∧ ∃ q, MS t n σ' q cnt ∧ SM t n P q ∧ (q.f = 0 → q.S 0 0 = cnt)) σ') := by
    intro τ q hF hM hsm hq
    refine wp_iload_n (pc := 192) dX7_readsPar_192 rfl rfl ?_
    refine wp_if_eq (pc := 193) 225 dX7_readsPar_193 (by decide) (fun c_193 => ?_) (fun c_193 => ?_)
    · refine wp_return (pc := 225) dX7_readsPar_225 rfl ?_
      exact ⟨rfl, hF, q, hM, hsm, hq⟩
    · omega
  have lp : ∀ i, i ≤ 80 → 0 ≤ i → ∀ (τ : Sto) (q : PS), RFr σ τ → MG t n τ q cnt → DW q.D q.S → q.D 0 0 = s.D 0 0 + 1 → q.S 0 0 = cnt → i ≤ q.D 1 (s.D 0 0) → (i = 0 ∨ tkK t n q.x = 1) → P = pWds t n ((80 - i).toNat + 1) i q → Wp cX7_readsPar RX7 none 3 192 [some (mR 71), some (mI (s.D 0 0)), some (mI 1)] [] τ (fun v σ' => v = none ∧ (fun σ' => RFr σ σ' ∧ ∃ q, MS t n σ' q cnt ∧ SM t n P q ∧ (q.f = 0 → q.S 0 0 = cnt)) σ') := by
    refine up_ind 80 (fun i hi ih i0 τ q hF hgq hW hcq hSq hiq hor hPq => ?_)
    have hqf : q.f = 0 := hgq.1.2.2.2.2.2.2.2.2.2.2
    have hl := hW.last (by omega)
    rw [show q.D 0 0 - 1 = s.D 0 0 by omega] at hl
    have hxq := hgq.1.2.2.2.2.1
    rw [pWds_s, if_neg (by omega)] at hPq
    refine wp_iload_n (pc := 192) dX7_readsPar_192 rfl rfl ?_
    refine wp_if_eq (pc := 193) 225 dX7_readsPar_193 (by decide) (fun c_193 => ?_) (fun c_193 => ?_)
    · omega
    · refine wp_aload_n (pc := 196) dX7_readsPar_196 rfl rfl ?_
      refine wp_iload_n (pc := 197) dX7_readsPar_197 rfl rfl ?_
      refine wp_cvV1 (pc := 198) dX7_readsPar_198 mv_X7_153 (m_readsWordP (s := q) (by omega) hgq hW (by omega) rfl) (Nat.le_of_ble_eq_true rfl) rfl (Nat.le_of_ble_eq_true rfl) (fun σ_198 h_198 => ?_)
      obtain ⟨f198, m198⟩ := h_198
      have F198 := hF.tr f198
      have hnn := m198.nn
      refine wp_aload_n (pc := 201) dX7_readsPar_201 rfl rfl ?_
      refine wp_getI (pc := 202) 10 dX7_readsPar_202 fl_X7_81 rfl rfl ?_
      refine wp_if_ne (pc := 205) 220 dX7_readsPar_205 (by decide) (fun c_205 => ?_) (fun c_205 => ?_)
      · refine wp_iconst (pc := 220) dX7_readsPar_220 (by decide) ?_
        refine wp_istore_n (pc := 221) dX7_readsPar_221 rfl (Nat.le_of_ble_eq_true rfl) rfl ?_
        refine wp_goto (pc := 222) 192 dX7_readsPar_222 (by decide) ?_
        by_cases c1 : ¬ tkK t n q.x = 1
        · rw [if_pos c1] at m198 hPq
          first
            | (exfalso
               have hg2 := m198.good (by omega)
               exact bad_f (by decide) hg2.1.2.2.2.2.2.2.2.2.2.2)
            | exact w192z σ_198 _ F198 m198 (Or.inr ⟨bad_f (by decide), hPq⟩) (fun z => absurd z (bad_f (by decide)))
        · rw [if_neg c1] at m198 hPq
          by_cases c2 : 6 < tkE t n q.x - tkS t n q.x
          · rw [if_pos c2] at m198 hPq
            first
              | (exfalso
                 have hg2 := m198.good (by omega)
                 exact bad_f (by decide) hg2.1.2.2.2.2.2.2.2.2.2.2)
              | exact w192z σ_198 _ F198 m198 (Or.inr ⟨bad_f (by decide), hPq⟩) (fun z => absurd z (bad_f (by decide)))
          · rw [if_neg c2] at m198 hPq
            by_cases c3 : 80 ≤ tot q.D
            · rw [if_pos c3] at m198 hPq
              first
                | (exfalso
                   have hg2 := m198.good (by omega)
                   exact bad_f (by decide) hg2.1.2.2.2.2.2.2.2.2.2.2)
                | exact w192z σ_198 _ F198 m198 (Or.inr ⟨bad_f (by decide), hPq⟩) (fun z => absurd z (bad_f (by decide)))
            · rw [if_neg c3] at m198 hPq
              have hL := tkL (t := t) hxq.1 hxq.2 (Classical.byContradiction c1)
              have hok := (wcd_ok (t := t) (s := tkS t n q.x) (m := tkE t n q.x - tkS t n q.x) (by omega) (by omega) (fun k k0 k1 => hL.2 _ (by omega) (by omega))).1
              rw [show (80 - i).toNat = (80 - (i + 1)).toNat + 1 by omega] at hPq
              generalize hcd : wcd t (tkS t n q.x) (tkE t n q.x - tkS t n q.x) = cd at *
              have a0 := (adW_1 (D := q.D) (c := cd) (k := s.D 0 0)).1
              have a1 := (adW_1 (D := q.D) (c := cd) (k := s.D 0 0)).2
              rw [if_pos (by omega)] at a1
              first
                | (have hg2 := m198.good (by omega)
                   have kk2 := tok1 hg2
                   refine ih (by omega) (by omega) σ_198 _ F198 hg2 (adW_DW (D := q.D) hW (by omega) (by omega) hok) (a0.trans hcq) hSq ?_ (Or.inr (by omega)) hPq
                   show i + 1 ≤ adW q.D cd 1 (s.D 0 0)
                   omega)
                | (refine w192z σ_198 _ F198 m198 (Or.inl ⟨hqf, hPq.trans (semi_ofW (by omega) ?_)⟩) (fun _ => hSq)
                   rcases m198 with m1 | m1
                   · have kk2 := tok1 m1
                     have k102 := m1.2.2.1
                     omega
                   · rcases m1.2.2 with c | c
                     · exact absurd hqf c.1
                     · have := c.2.1
                       omega)
      · refine wp_aload_n (pc := 208) dX7_readsPar_208 rfl rfl ?_
        refine wp_getI (pc := 209) 14 dX7_readsPar_209 fl_X7_100 rfl rfl ?_
        refine wp_iconst (pc := 212) dX7_readsPar_212 (by decide) ?_
        refine wp_icmp_ne (pc := 213) 220 dX7_readsPar_213 (by decide) (fun c_213 => ?_) (fun c_213 => ?_)
        · refine wp_iconst (pc := 220) dX7_readsPar_220 (by decide) ?_
          refine wp_istore_n (pc := 221) dX7_readsPar_221 rfl (Nat.le_of_ble_eq_true rfl) rfl ?_
          refine wp_goto (pc := 222) 192 dX7_readsPar_222 (by decide) ?_
          by_cases c1 : ¬ tkK t n q.x = 1
          · rw [if_pos c1] at m198 hPq
            first
              | (exfalso
                 have hg2 := m198.good (by omega)
                 exact bad_f (by decide) hg2.1.2.2.2.2.2.2.2.2.2.2)
              | exact w192z σ_198 _ F198 m198 (Or.inr ⟨bad_f (by decide), hPq⟩) (fun z => absurd z (bad_f (by decide)))
          · rw [if_neg c1] at m198 hPq
            by_cases c2 : 6 < tkE t n q.x - tkS t n q.x
            · rw [if_pos c2] at m198 hPq
              first
                | (exfalso
                   have hg2 := m198.good (by omega)
                   exact bad_f (by decide) hg2.1.2.2.2.2.2.2.2.2.2.2)
                | exact w192z σ_198 _ F198 m198 (Or.inr ⟨bad_f (by decide), hPq⟩) (fun z => absurd z (bad_f (by decide)))
            · rw [if_neg c2] at m198 hPq
              by_cases c3 : 80 ≤ tot q.D
              · rw [if_pos c3] at m198 hPq
                first
                  | (exfalso
                     have hg2 := m198.good (by omega)
                     exact bad_f (by decide) hg2.1.2.2.2.2.2.2.2.2.2.2)
                  | exact w192z σ_198 _ F198 m198 (Or.inr ⟨bad_f (by decide), hPq⟩) (fun z => absurd z (bad_f (by decide)))
              · rw [if_neg c3] at m198 hPq
                have hL := tkL (t := t) hxq.1 hxq.2 (Classical.byContradiction c1)
                have hok := (wcd_ok (t := t) (s := tkS t n q.x) (m := tkE t n q.x - tkS t n q.x) (by omega) (by omega) (fun k k0 k1 => hL.2 _ (by omega) (by omega))).1
                rw [show (80 - i).toNat = (80 - (i + 1)).toNat + 1 by omega] at hPq
                generalize hcd : wcd t (tkS t n q.x) (tkE t n q.x - tkS t n q.x) = cd at *
                have a0 := (adW_1 (D := q.D) (c := cd) (k := s.D 0 0)).1
                have a1 := (adW_1 (D := q.D) (c := cd) (k := s.D 0 0)).2
                rw [if_pos (by omega)] at a1
                first
                  | (have hg2 := m198.good (by omega)
                     have kk2 := tok1 hg2
                     refine ih (by omega) (by omega) σ_198 _ F198 hg2 (adW_DW (D := q.D) hW (by omega) (by omega) hok) (a0.trans hcq) hSq ?_ (Or.inr (by omega)) hPq
                     show i + 1 ≤ adW q.D cd 1 (s.D 0 0)
                     omega)
                  | (refine w192z σ_198 _ F198 m198 (Or.inl ⟨hqf, hPq.trans (semi_ofW (by omega) ?_)⟩) (fun _ => hSq)
                     rcases m198 with m1 | m1
                     · have kk2 := tok1 m1
                       have k102 := m1.2.2.1
                       omega
                     · rcases m1.2.2 with c | c
                       · exact absurd hqf c.1
                       · have := c.2.1
                         omega)
        · refine wp_iconst (pc := 216) dX7_readsPar_216 (by decide) ?_
          refine wp_goto (pc := 217) 221 dX7_readsPar_217 (by decide) ?_
          refine wp_istore_n (pc := 221) dX7_readsPar_221 rfl (Nat.le_of_ble_eq_true rfl) rfl ?_
          refine wp_goto (pc := 222) 192 dX7_readsPar_222 (by decide) ?_
          by_cases c1 : ¬ tkK t n q.x = 1
          · rw [if_pos c1] at m198 hPq
            first
              | (exfalso
                 have hg2 := m198.good (by omega)
                 exact bad_f (by decide) hg2.1.2.2.2.2.2.2.2.2.2.2)
              | exact w192z σ_198 _ F198 m198 (Or.inr ⟨bad_f (by decide), hPq⟩) (fun z => absurd z (bad_f (by decide)))
          · rw [if_neg c1] at m198 hPq
            by_cases c2 : 6 < tkE t n q.x - tkS t n q.x
            · rw [if_pos c2] at m198 hPq
              first
                | (exfalso
                   have hg2 := m198.good (by omega)
                   exact bad_f (by decide) hg2.1.2.2.2.2.2.2.2.2.2.2)
                | exact w192z σ_198 _ F198 m198 (Or.inr ⟨bad_f (by decide), hPq⟩) (fun z => absurd z (bad_f (by decide)))
            · rw [if_neg c2] at m198 hPq
              by_cases c3 : 80 ≤ tot q.D
              · rw [if_pos c3] at m198 hPq
                first
                  | (exfalso
                     have hg2 := m198.good (by omega)
                     exact bad_f (by decide) hg2.1.2.2.2.2.2.2.2.2.2.2)
                  | exact w192z σ_198 _ F198 m198 (Or.inr ⟨bad_f (by decide), hPq⟩) (fun z => absurd z (bad_f (by decide)))
              · rw [if_neg c3] at m198 hPq
                have hL := tkL (t := t) hxq.1 hxq.2 (Classical.byContradiction c1)
                have hok := (wcd_ok (t := t) (s := tkS t n q.x) (m := tkE t n q.x - tkS t n q.x) (by omega) (by omega) (fun k k0 k1 => hL.2 _ (by omega) (by omega))).1
                rw [show (80 - i).toNat = (80 - (i + 1)).toNat + 1 by omega] at hPq
                generalize hcd : wcd t (tkS t n q.x) (tkE t n q.x - tkS t n q.x) = cd at *
                have a0 := (adW_1 (D := q.D) (c := cd) (k := s.D 0 0)).1
                have a1 := (adW_1 (D := q.D) (c := cd) (k := s.D 0 0)).2
                rw [if_pos (by omega)] at a1
                first
                  | (have hg2 := m198.good (by omega)
                     have kk2 := tok1 hg2
                     refine ih (by omega) (by omega) σ_198 _ F198 hg2 (adW_DW (D := q.D) hW (by omega) (by omega) hok) (a0.trans hcq) hSq ?_ (Or.inr (by omega)) hPq
                     show i + 1 ≤ adW q.D cd 1 (s.D 0 0)
                     omega)
                  | (refine w192z σ_198 _ F198 m198 (Or.inl ⟨hqf, hPq.trans (semi_ofW (by omega) ?_)⟩) (fun _ => hSq)
                     rcases m198 with m1 | m1
                     · have kk2 := tok1 m1
                       have k102 := m1.2.2.1
                       omega
                     · rcases m1.2.2 with c | c
                       · exact absurd hqf c.1
                       · have := c.2.1
                         omega)
  have w139b : ∀ (τ : Sto) (q : PS), RFr σ τ → MSb t n τ q → ¬ q.f = 0 → P = q → τ 73 0 = s.D 0 0 → Wp cX7_readsPar RX7 none 3 139 [some (mR 71), some (mI (s.D 0 0)), none] [] τ (fun v σ' => v = none ∧ (fun σ' => RFr σ σ' ∧ ∃ q, MS t n σ' q cnt ∧ SM t n P q ∧ (q.f = 0 → q.S 0 0 = cnt)) σ') := by
    intro τ q hF hM hq hPq e0
    have h0 := hM.1
    refine wp_aload_n (pc := 139) dX7_readsPar_139 rfl rfl ?_
    refine wp_aload_n (pc := 140) dX7_readsPar_140 rfl rfl ?_
    refine wp_getI (pc := 141) 10 dX7_readsPar_141 fl_X7_81 rfl rfl ?_
    refine wp_if_gt (pc := 144) 156 dX7_readsPar_144 (by decide) (fun c_144 => ?_) (fun c_144 => ?_)
    · refine wp_iconst (pc := 156) dX7_readsPar_156 (by decide) ?_
      refine wp_goto (pc := 157) 161 dX7_readsPar_157 (by decide) ?_
      refine wp_iconst (pc := 161) dX7_readsPar_161 (by decide) ?_
      refine wp_cvV2 (pc := 162) dX7_readsPar_162 mv_X7_111 m_mustP (Nat.le_of_ble_eq_true rfl) rfl (Nat.le_of_ble_eq_true rfl) (fun σ_162 h_162 => ?_)
      have g_162 := h_162; obtain ⟨f_162, a12_162, a13_162, a14_162, a15_162, q_162⟩ := h_162; clear q_162; first | have w_162 := g_162.no (Or.inl (by decide)) | have w_162 := g_162.yes rfl (by omega)
      refine wp_aload_n (pc := 165) dX7_readsPar_165 rfl rfl ?_
      refine wp_cvV0 (pc := 166) dX7_readsPar_166 mv_X7_115 (m_reads0 (by omega)) (Nat.le_of_ble_eq_true rfl) rfl (Nat.le_of_ble_eq_true rfl) (fun σ_166 h_166 => ?_)
      subst h_166
      refine wp_aload_n (pc := 169) dX7_readsPar_169 rfl rfl ?_
      refine wp_getR (pc := 170) (q := 73) dX7_readsPar_170 fl_X7_13 rfl ?_
      refine wp_iconst (pc := 173) dX7_readsPar_173 (by decide) ?_
      refine wp_dup2 (pc := 174) dX7_readsPar_174 (fun _ h => by cases h) (fun _ h => by cases h) ?_
      refine wp_iald (pc := 175) 591 dX7_readsPar_175 rfl (by omega) ?_
      rw [show σ_166 73 0 = s.D 0 0 by rw [f_162.1 73 (by decide)]; exact e0]
      refine wp_iconst (pc := 176) dX7_readsPar_176 (by decide) ?_
      refine wp_iadd (pc := 177) dX7_readsPar_177 (by omega) ?_
      refine wp_iast (pc := 178) 591 dX7_readsPar_178 rfl (by omega) ?_
      refine wp_aload_n (pc := 179) dX7_readsPar_179 rfl rfl ?_
      refine wp_getI (pc := 180) 10 dX7_readsPar_180 fl_X7_81 rfl rfl ?_
      rw [upd2_r (r := 73) (r' := 71) (by decide)]
      refine wp_if_ne (pc := 183) 190 dX7_readsPar_183 (by decide) (fun c_183 => ?_) (fun c_183 => ?_)
      · refine wp_iconst (pc := 190) dX7_readsPar_190 (by decide) ?_
        refine wp_istore_n (pc := 191) dX7_readsPar_191 rfl (Nat.le_of_ble_eq_true rfl) rfl ?_
        refine w192z _ q ((hF.tr f_162.r).up (Or.inl rfl)) (Or.inr ?_) (Or.inr ⟨hq, hPq⟩) (fun z => absurd z hq)
        unfold MSb at *
        rw [upd2_r (by decide), upd2_r (by decide), w_162.1, w_162.2]; exact hM
      · omega
    · omega
  have w139g : ∀ (τ : Sto) (q : PS) (g m : Int), RFr σ τ → MG t n τ q cnt → q.D = s.D → q.S = s.S → τ 73 (1 + 3 * s.D 0 0) = g → τ 73 (1 + 3 * s.D 0 0 + 1) = m → τ 73 (1 + 3 * s.D 0 0 + 2) = 0 → ((g = -4 ∧ m = 0) ∨ (0 ≤ g ∧ g < s.S 0 0 ∧ 2 ≤ m ∧ m ≤ 5)) → P = pBdy t n g m q → Wp cX7_readsPar RX7 none 3 139 [some (mR 71), some (mI (s.D 0 0)), none] [] τ (fun v σ' => v = none ∧ (fun σ' => RFr σ σ' ∧ ∃ q, MS t n σ' q cnt ∧ SM t n P q ∧ (q.f = 0 → q.S 0 0 = cnt)) σ') := by
    intro τ q g m hF hgq eD eS e1 e2 e3 hgm hPq
    have hqf : q.f = 0 := hgq.1.2.2.2.2.2.2.2.2.2.2
    have q10 := hgq.2.2.1
    have hts := tokS hgq
    have hPq2 := hgq.1.2.2.2.2.2.2.1
    rw [eD] at hPq2
    have e0 : τ 73 0 = s.D 0 0 := hPq2.1
    unfold pBdy at hPq
    rw [eD] at hPq
    have hDW := adP_DW (g := g) (m := m) hD hc8 hgm
    have badc : ∀ υ : Sto, Fr1 τ υ → υ 71 10 = 2 → υ 71 11 = τ 71 13 → ¬ tkK t n q.x = 3 → Wp cX7_readsPar RX7 none 3 165 [some (mR 71), some (mI (s.D 0 0)), none] [] υ (fun v σ' => v = none ∧ (fun σ' => RFr σ σ' ∧ ∃ q, MS t n σ' q cnt ∧ SM t n P q ∧ (q.f = 0 → q.S 0 0 = cnt)) σ') := by
      intro υ hf u10 u11 hk
      rw [if_pos hk] at hPq
      have hbd := hgq.no (w := 2) (by decide) u10 u11
      refine wp_aload_n (pc := 165) dX7_readsPar_165 rfl rfl ?_
      refine wp_cvV0 (pc := 166) dX7_readsPar_166 mv_X7_115 (m_reads0 (by omega)) (Nat.le_of_ble_eq_true rfl) rfl (Nat.le_of_ble_eq_true rfl) (fun σ_166 h_166 => ?_)
      subst h_166
      refine wp_aload_n (pc := 169) dX7_readsPar_169 rfl rfl ?_
      refine wp_getR (pc := 170) (q := 73) dX7_readsPar_170 fl_X7_13 rfl ?_
      refine wp_iconst (pc := 173) dX7_readsPar_173 (by decide) ?_
      refine wp_dup2 (pc := 174) dX7_readsPar_174 (fun _ h => by cases h) (fun _ h => by cases h) ?_
      refine wp_iald (pc := 175) 591 dX7_readsPar_175 rfl (by omega) ?_
      rw [show σ_166 73 0 = s.D 0 0 by rw [hf.1 73 (by decide)]; exact e0]
      refine wp_iconst (pc := 176) dX7_readsPar_176 (by decide) ?_
      refine wp_iadd (pc := 177) dX7_readsPar_177 (by omega) ?_
      refine wp_iast (pc := 178) 591 dX7_readsPar_178 rfl (by omega) ?_
      refine wp_aload_n (pc := 179) dX7_readsPar_179 rfl rfl ?_
      refine wp_getI (pc := 180) 10 dX7_readsPar_180 fl_X7_81 rfl rfl ?_
      rw [upd2_r (r := 73) (r' := 71) (by decide)]
      refine wp_if_ne (pc := 183) 190 dX7_readsPar_183 (by decide) (fun c_183 => ?_) (fun c_183 => ?_)
      · refine wp_iconst (pc := 190) dX7_readsPar_190 (by decide) ?_
        refine wp_istore_n (pc := 191) dX7_readsPar_191 rfl (Nat.le_of_ble_eq_true rfl) rfl ?_
        exact w192z _ _ ((hF.tr hf.r).up (Or.inl rfl)) (Or.inr (hbd.up (by decide))) (Or.inr ⟨bad_f (by decide), hPq⟩) (fun z => absurd z (bad_f (by decide)))
      · omega
    have goodc : ∀ υ : Sto, Fr1 τ υ → υ 71 10 = 0 → υ 71 12 = τ 71 12 → tkK t n q.x = 3 → Wp cX7_readsPar RX7 none 3 165 [some (mR 71), some (mI (s.D 0 0)), none] [] υ (fun v σ' => v = none ∧ (fun σ' => RFr σ σ' ∧ ∃ q, MS t n σ' q cnt ∧ SM t n P q ∧ (q.f = 0 → q.S 0 0 = cnt)) σ') := by
      intro υ hf u10 u12 hk
      rw [if_neg (fun z => z hk)] at hPq
      refine wp_aload_n (pc := 165) dX7_readsPar_165 rfl rfl ?_
      refine wp_cvV0 (pc := 166) dX7_readsPar_166 mv_X7_115 (m_readsU (t := t) (n := n) (cnt := cnt) (q := q.nx t n) (by omega) (fun _ => hgq.nx hf u12)) (Nat.le_of_ble_eq_true rfl) rfl (Nat.le_of_ble_eq_true rfl) (fun σ_166 h_166 => ?_)
      obtain ⟨f166, q166⟩ := h_166
      have m166 : MS t n σ_166 (q.nx t n) cnt := by
        rcases q166 with c | c
        · exact c.2
        · omega
      have e73 : ∀ x, σ_166 73 x = τ 73 x := fun x => by rw [f166.1 73 (by decide), hf.1 73 (by decide)]
      have nn166 := m166.nn
      have F166 : RFr σ (upd2 σ_166 73 0 (s.D 0 0 + 1)) := ((hF.tr hf.r).tr f166.r).up (Or.inl rfl)
      refine wp_aload_n (pc := 169) dX7_readsPar_169 rfl rfl ?_
      refine wp_getR (pc := 170) (q := 73) dX7_readsPar_170 fl_X7_13 rfl ?_
      refine wp_iconst (pc := 173) dX7_readsPar_173 (by decide) ?_
      refine wp_dup2 (pc := 174) dX7_readsPar_174 (fun _ h => by cases h) (fun _ h => by cases h) ?_
      refine wp_iald (pc := 175) 591 dX7_readsPar_175 rfl (by omega) ?_
      rw [e73, e0]
      refine wp_iconst (pc := 176) dX7_readsPar_176 (by decide) ?_
      refine wp_iadd (pc := 177) dX7_readsPar_177 (by omega) ?_
      refine wp_iast (pc := 178) 591 dX7_readsPar_178 rfl (by omega) ?_
      refine wp_aload_n (pc := 179) dX7_readsPar_179 rfl rfl ?_
      refine wp_getI (pc := 180) 10 dX7_readsPar_180 fl_X7_81 rfl rfl ?_
      rw [upd2_r (r := 73) (r' := 71) (by decide)]
      refine wp_if_ne (pc := 183) 190 dX7_readsPar_183 (by decide) (fun c_183 => ?_) (fun c_183 => ?_)
      · refine wp_iconst (pc := 190) dX7_readsPar_190 (by decide) ?_
        refine wp_istore_n (pc := 191) dX7_readsPar_191 rfl (Nat.le_of_ble_eq_true rfl) rfl ?_
        first
          | (have hbad := m166.bad (by omega)
             have hk3 : tkK t n (q.nx t n).x = 0 := by
               rcases hbad.2.2 with d | d
               · exact absurd hqf d.1
               · exact d.2.1
             have hb2 : MSb t n σ_166 ((q.nx t n).wD (adP s.D g m)) := hbad
             have hPb : P = ((q.nx t n).wD (adP s.D g m)).bad t n 2 := by
               rw [hPq, pWds_s, if_neg (fun z => absurd z.2 (by decide)), if_pos (show ¬ tkK t n ((q.nx t n).wD (adP s.D g m)).x = 1 from fun z => absurd (hk3.symm.trans z) (by decide))]
             exact w192z _ _ F166 (Or.inr ((hb2.on hqf).up (by decide))) (Or.inr ⟨bad_f (by decide), hPb⟩) (fun z => absurd z (bad_f (by decide))))
          | (have hg2 := m166.good (by omega)
             have hPR2 : PR (σ_166 73) s.D := by rw [← eD]; exact hg2.1.2.2.2.2.2.2.1
             have hg3 : MG t n (upd2 σ_166 73 0 (s.D 0 0 + 1)) ((q.nx t n).wD (adP s.D g m)) cnt := hg2.w73 (fun r hr => upd2_out hr) (PR.ap hPR2 hDt.1.2 ⟨hDt.2.1, hc8⟩ upd2_eq (by rw [e73]; exact e1) (by rw [e73]; exact e2) (by rw [e73]; exact e3) (fun x hx => upd2_k hx))
             refine lp 0 (by decide) (by decide) _ _ F166 hg3 (by show DW (adP s.D g m) q.S; rw [eS]; exact hDW) (adP_at (D := s.D) (g := g) (m := m)).1 (by show q.S 0 0 = cnt; rw [eS]; exact hcn) ?_ (Or.inl rfl) hPq
             show 0 ≤ adP s.D g m 1 (s.D 0 0)
             rw [adP_at.2.1]; exact Int.le_refl _)
      · refine wp_iconst (pc := 186) dX7_readsPar_186 (by decide) ?_
        refine wp_goto (pc := 187) 191 dX7_readsPar_187 (by decide) ?_
        refine wp_istore_n (pc := 191) dX7_readsPar_191 rfl (Nat.le_of_ble_eq_true rfl) rfl ?_
        first
          | (have hbad := m166.bad (by omega)
             have hk3 : tkK t n (q.nx t n).x = 0 := by
               rcases hbad.2.2 with d | d
               · exact absurd hqf d.1
               · exact d.2.1
             have hb2 : MSb t n σ_166 ((q.nx t n).wD (adP s.D g m)) := hbad
             have hPb : P = ((q.nx t n).wD (adP s.D g m)).bad t n 2 := by
               rw [hPq, pWds_s, if_neg (fun z => absurd z.2 (by decide)), if_pos (show ¬ tkK t n ((q.nx t n).wD (adP s.D g m)).x = 1 from fun z => absurd (hk3.symm.trans z) (by decide))]
             exact w192z _ _ F166 (Or.inr ((hb2.on hqf).up (by decide))) (Or.inr ⟨bad_f (by decide), hPb⟩) (fun z => absurd z (bad_f (by decide))))
          | (have hg2 := m166.good (by omega)
             have hPR2 : PR (σ_166 73) s.D := by rw [← eD]; exact hg2.1.2.2.2.2.2.2.1
             have hg3 : MG t n (upd2 σ_166 73 0 (s.D 0 0 + 1)) ((q.nx t n).wD (adP s.D g m)) cnt := hg2.w73 (fun r hr => upd2_out hr) (PR.ap hPR2 hDt.1.2 ⟨hDt.2.1, hc8⟩ upd2_eq (by rw [e73]; exact e1) (by rw [e73]; exact e2) (by rw [e73]; exact e3) (fun x hx => upd2_k hx))
             refine lp 0 (by decide) (by decide) _ _ F166 hg3 (by show DW (adP s.D g m) q.S; rw [eS]; exact hDW) (adP_at (D := s.D) (g := g) (m := m)).1 (by show q.S 0 0 = cnt; rw [eS]; exact hcn) ?_ (Or.inl rfl) hPq
             show 0 ≤ adP s.D g m 1 (s.D 0 0)
             rw [adP_at.2.1]; exact Int.le_refl _)
    refine wp_aload_n (pc := 139) dX7_readsPar_139 rfl rfl ?_
    refine wp_aload_n (pc := 140) dX7_readsPar_140 rfl rfl ?_
    refine wp_getI (pc := 141) 10 dX7_readsPar_141 fl_X7_81 rfl rfl ?_
    refine wp_if_gt (pc := 144) 156 dX7_readsPar_144 (by decide) (fun c_144 => ?_) (fun c_144 => ?_)
    · refine wp_iconst (pc := 156) dX7_readsPar_156 (by decide) ?_
      refine wp_goto (pc := 157) 161 dX7_readsPar_157 (by decide) ?_
      refine wp_iconst (pc := 161) dX7_readsPar_161 (by decide) ?_
      refine wp_cvV2 (pc := 162) dX7_readsPar_162 mv_X7_111 m_mustP (Nat.le_of_ble_eq_true rfl) rfl (Nat.le_of_ble_eq_true rfl) (fun σ_162 h_162 => ?_)
      have g_162 := h_162; obtain ⟨f_162, a12_162, a13_162, a14_162, a15_162, q_162⟩ := h_162; clear q_162; first | have w_162 := g_162.no (Or.inl (by decide)) | have w_162 := g_162.yes rfl (by omega)
      first
        | (exfalso; omega)
        | exact goodc _ f_162 (by omega) (by omega) (by omega)
        | exact badc _ f_162 (by omega) (by omega) (by omega)
    · refine wp_aload_n (pc := 147) dX7_readsPar_147 rfl rfl ?_
      refine wp_bipush (pc := 148) dX7_readsPar_148 (by decide) (by decide) ?_
      refine wp_cvI1 (pc := 150) dX7_readsPar_150 mv_X7_149 (m_isSign) (Nat.le_of_ble_eq_true rfl) rfl (Nat.le_of_ble_eq_true rfl) (fun z_150 σ_150 h_150 => ?_)
      obtain ⟨y_150, e_150⟩ := h_150; have e2_150 := e_150.symm; subst e2_150
      refine wp_if_eq (pc := 153) 160 dX7_readsPar_153 (by decide) (fun c_153 => ?_) (fun c_153 => ?_)
      · refine wp_iconst (pc := 160) dX7_readsPar_160 (by decide) ?_
        refine wp_iconst (pc := 161) dX7_readsPar_161 (by decide) ?_
        refine wp_cvV2 (pc := 162) dX7_readsPar_162 mv_X7_111 m_mustP (Nat.le_of_ble_eq_true rfl) rfl (Nat.le_of_ble_eq_true rfl) (fun σ_162 h_162 => ?_)
        have g_162 := h_162; obtain ⟨f_162, a12_162, a13_162, a14_162, a15_162, q_162⟩ := h_162; clear q_162; first | have w_162 := g_162.no (Or.inl (by decide)) | have w_162 := g_162.yes rfl (by omega)
        first
          | (exfalso; omega)
          | exact goodc _ f_162 (by omega) (by omega) (by omega)
          | exact badc _ f_162 (by omega) (by omega) (by omega)
      · refine wp_iconst (pc := 156) dX7_readsPar_156 (by decide) ?_
        refine wp_goto (pc := 157) 161 dX7_readsPar_157 (by decide) ?_
        refine wp_iconst (pc := 161) dX7_readsPar_161 (by decide) ?_
        refine wp_cvV2 (pc := 162) dX7_readsPar_162 mv_X7_111 m_mustP (Nat.le_of_ble_eq_true rfl) rfl (Nat.le_of_ble_eq_true rfl) (fun σ_162 h_162 => ?_)
        have g_162 := h_162; obtain ⟨f_162, a12_162, a13_162, a14_162, a15_162, q_162⟩ := h_162; clear q_162; first | have w_162 := g_162.no (Or.inl (by decide)) | have w_162 := g_162.yes rfl (by omega)
        first
          | (exfalso; omega)
          | exact goodc _ f_162 (by omega) (by omega) (by omega)
          | exact badc _ f_162 (by omega) (by omega) (by omega)
  -- behind a letter
  have w99 : ∀ (τ : Sto) (gg : Int), Fr1 (upd2 (upd2 (upd2 σ 73 (1 + 3 * s.D 0 0) (-4)) 73 (1 + 3 * s.D 0 0 + 1) 0) 73 (1 + 3 * s.D 0 0 + 2) 0) τ → ((MG t n τ (s.nx t n) cnt ∧ (0 ≤ gg ∧ gg < s.S 0 0) ∧ P = (if ¬ (pNum t n 2 5 (s.nx t n)).f = 0 then pNum t n 2 5 (s.nx t n) else pBdy t n gg (tkN t n (s.nx t n).x) ((s.nx t n).nx t n))) ∨ (0 < τ 71 10 ∧ ∃ q, MSb t n τ q ∧ ¬ q.f = 0 ∧ P = q)) → Wp cX7_readsPar RX7 none 3 99 [some (mR 71), some (mI (s.D 0 0)), some (mI gg)] [] τ (fun v σ' => v = none ∧ (fun σ' => RFr σ σ' ∧ ∃ q, MS t n σ' q cnt ∧ SM t n P q ∧ (q.f = 0 → q.S 0 0 = cnt)) σ') := by
    intro τ gg hf hc
    have hF0 : RFr σ τ := (((RFr.rf.up (Or.inl rfl)).up (Or.inl rfl)).up (Or.inl rfl)).tr hf.r
    have t0 : τ 73 0 = s.D 0 0 := by rw [hf.1 73 (by decide), upd2_k (by omega), upd2_k (by omega), upd2_k (by omega)]; exact e730
    have t2 : τ 73 (1 + 3 * s.D 0 0 + 2) = 0 := by rw [hf.1 73 (by decide), upd2_eq]
    have h0 : (τ 71 10 = 0 ∧ MG t n τ (s.nx t n) cnt ∧ (0 ≤ gg ∧ gg < s.S 0 0) ∧ P = (if ¬ (pNum t n 2 5 (s.nx t n)).f = 0 then pNum t n 2 5 (s.nx t n) else pBdy t n gg (tkN t n (s.nx t n).x) ((s.nx t n).nx t n))) ∨ (0 < τ 71 10 ∧ ∃ q, MSb t n τ q ∧ ¬ q.f = 0 ∧ P = q) := by
      rcases hc with c | c
      · exact Or.inl ⟨c.1.2.2.1, c⟩
      · exact Or.inr c
    rcases h0 with ⟨z0, hgn, hgg, hPn⟩ | ⟨z0, q, hMq, hqf, hPq⟩
    · have hPRn : PR (τ 73) s.D := hgn.1.2.2.2.2.2.2.1
      have hg1 : MG t n (upd2 τ 73 (1 + 3 * s.D 0 0) gg) (s.nx t n) cnt := hgn.w73 (D := s.D) (fun r hr => upd2_out hr) (hPRn.out hDt.1.2 ⟨hDt.2.1, hc8⟩ (fun x hx => upd2_k (by omega)))
      refine wp_aload_n (pc := 99) dX7_readsPar_99 rfl rfl ?_
      refine wp_getR (pc := 100) (q := 73) dX7_readsPar_100 fl_X7_13 rfl ?_
      refine wp_iconst (pc := 103) dX7_readsPar_103 (by decide) ?_
      refine wp_iconst (pc := 104) dX7_readsPar_104 (by decide) ?_
      refine wp_iload_n (pc := 105) dX7_readsPar_105 rfl rfl ?_
      refine wp_imul (pc := 106) dX7_readsPar_106 (by omega) ?_
      refine wp_iadd (pc := 107) dX7_readsPar_107 (by omega) ?_
      refine wp_iload_n (pc := 108) dX7_readsPar_108 rfl rfl ?_
      refine wp_iast (pc := 109) 591 dX7_readsPar_109 rfl (by omega) ?_
      refine wp_aload_n (pc := 110) dX7_readsPar_110 rfl rfl ?_
      refine wp_getR (pc := 111) (q := 73) dX7_readsPar_111 fl_X7_13 rfl ?_
      refine wp_iconst (pc := 114) dX7_readsPar_114 (by decide) ?_
      refine wp_iconst (pc := 115) dX7_readsPar_115 (by decide) ?_
      refine wp_iload_n (pc := 116) dX7_readsPar_116 rfl rfl ?_
      refine wp_imul (pc := 117) dX7_readsPar_117 (by omega) ?_
      refine wp_iadd (pc := 118) dX7_readsPar_118 (by omega) ?_
      refine wp_iconst (pc := 119) dX7_readsPar_119 (by decide) ?_
      refine wp_iadd (pc := 120) dX7_readsPar_120 (by omega) ?_
      refine wp_aload_n (pc := 121) dX7_readsPar_121 rfl rfl ?_
      refine wp_getI (pc := 122) 10 dX7_readsPar_122 fl_X7_81 rfl rfl ?_
      rw [upd2_r (r := 73) (r' := 71) (by decide)]
      refine wp_if_le (pc := 125) 132 dX7_readsPar_125 (by decide) (fun c_125 => ?_) (fun c_125 => ?_)
      · refine wp_aload_n (pc := 132) dX7_readsPar_132 rfl rfl ?_
        refine wp_iconst (pc := 133) dX7_readsPar_133 (by decide) ?_
        refine wp_iconst (pc := 134) dX7_readsPar_134 (by decide) ?_
        refine wp_cvI2 (pc := 135) dX7_readsPar_135 mv_X7_128 (m_number hg1) (Nat.le_of_ble_eq_true rfl) rfl (Nat.le_of_ble_eq_true rfl) (fun z_135 σ_135 h_135 => ?_)
        obtain ⟨f135, m135, v135⟩ := h_135
        refine wp_iast (pc := 138) 591 dX7_readsPar_138 rfl (by omega) ?_
        refine wp_fgt [2] ?_
        have e73 : ∀ x, σ_135 73 x = upd2 τ 73 (1 + 3 * s.D 0 0) gg 73 x := fun x => by rw [f135.1 73 (by decide)]
        have F135 : RFr σ (upd2 σ_135 73 (1 + 3 * s.D 0 0 + 1) z_135) := ((hF0.up (Or.inl rfl)).tr f135.r).up (Or.inl rfl)
        have nn135 := m135.nn
        have d0 : upd2 σ_135 73 (1 + 3 * s.D 0 0 + 1) z_135 73 0 = s.D 0 0 := by rw [upd2_k (by omega), e73, upd2_k (by omega)]; exact t0
        by_cases hfn : (pNum t n 2 5 (s.nx t n)).f = 0
        · rw [if_neg (fun z => z hfn)] at hPn
          obtain ⟨e1, -, e3, e4⟩ := pNum_f hfn
          have vz := v135 hfn
          rw [e1] at m135
          by_cases h135 : σ_135 71 10 = 0
          · have hg2 := m135.good (by omega)
            have hPR2 : PR (σ_135 73) s.D := hg2.1.2.2.2.2.2.2.1
            have hg3 : MG t n (upd2 σ_135 73 (1 + 3 * s.D 0 0 + 1) z_135) ((s.nx t n).nx t n) cnt := hg2.w73 (D := s.D) (fun r hr => upd2_out hr) (hPR2.out hDt.1.2 ⟨hDt.2.1, hc8⟩ (fun x hx => upd2_k (by omega)))
            refine w139g _ _ gg z_135 F135 hg3 rfl rfl ?_ upd2_eq ?_ (Or.inr ⟨hgg.1, hgg.2, by omega, by omega⟩) (by rw [vz]; exact hPn)
            · rw [upd2_k (by omega), e73, upd2_eq]
            · rw [upd2_k (by omega), e73, upd2_k (by omega)]; exact t2
          · have hbad := m135.bad (by omega)
            have hk3 : tkK t n ((s.nx t n).nx t n).x = 0 := by
              rcases hbad.2.2 with d | d
              · exact absurd hf0 d.1
              · exact d.2.1
            have hPb : P = ((s.nx t n).nx t n).bad t n 2 := by rw [hPn]; unfold pBdy; rw [if_pos (by omega)]
            exact w139b _ _ F135 ((hbad.on hf0).up (by decide)) (bad_f (by decide)) hPb d0
        · rw [if_pos hfn] at hPn
          have h135 : ¬ σ_135 71 10 = 0 := fun z => hfn (m135.good (by omega)).1.2.2.2.2.2.2.2.2.2.2
          have hbad := m135.bad (by omega)
          exact w139b _ _ F135 (hbad.up (by decide)) hfn hPn d0
      · omega
    · have hbd2 : ∀ a b v w : Int, MSb t n (upd2 (upd2 τ 73 a v) 73 b w) q := fun a b v w => (hMq.up (by decide)).up (by decide)
      refine wp_aload_n (pc := 99) dX7_readsPar_99 rfl rfl ?_
      refine wp_getR (pc := 100) (q := 73) dX7_readsPar_100 fl_X7_13 rfl ?_
      refine wp_iconst (pc := 103) dX7_readsPar_103 (by decide) ?_
      refine wp_iconst (pc := 104) dX7_readsPar_104 (by decide) ?_
      refine wp_iload_n (pc := 105) dX7_readsPar_105 rfl rfl ?_
      refine wp_imul (pc := 106) dX7_readsPar_106 (by omega) ?_
      refine wp_iadd (pc := 107) dX7_readsPar_107 (by omega) ?_
      refine wp_iload_n (pc := 108) dX7_readsPar_108 rfl rfl ?_
      refine wp_iast (pc := 109) 591 dX7_readsPar_109 rfl (by omega) ?_
      refine wp_aload_n (pc := 110) dX7_readsPar_110 rfl rfl ?_
      refine wp_getR (pc := 111) (q := 73) dX7_readsPar_111 fl_X7_13 rfl ?_
      refine wp_iconst (pc := 114) dX7_readsPar_114 (by decide) ?_
      refine wp_iconst (pc := 115) dX7_readsPar_115 (by decide) ?_
      refine wp_iload_n (pc := 116) dX7_readsPar_116 rfl rfl ?_
      refine wp_imul (pc := 117) dX7_readsPar_117 (by omega) ?_
      refine wp_iadd (pc := 118) dX7_readsPar_118 (by omega) ?_
      refine wp_iconst (pc := 119) dX7_readsPar_119 (by decide) ?_
      refine wp_iadd (pc := 120) dX7_readsPar_120 (by omega) ?_
      refine wp_aload_n (pc := 121) dX7_readsPar_121 rfl rfl ?_
      refine wp_getI (pc := 122) 10 dX7_readsPar_122 fl_X7_81 rfl rfl ?_
      rw [upd2_r (r := 73) (r' := 71) (by decide)]
      refine wp_if_le (pc := 125) 132 dX7_readsPar_125 (by decide) (fun c_125 => ?_) (fun c_125 => ?_)
      · omega
      · refine wp_iconst (pc := 128) dX7_readsPar_128 (by decide) ?_
        refine wp_goto (pc := 129) 138 dX7_readsPar_129 (by decide) ?_
        refine wp_iast (pc := 138) 591 dX7_readsPar_138 rfl (by omega) ?_
        refine wp_fgt [2] (w139b _ q ((hF0.up (Or.inl rfl)).up (Or.inl rfl)) (hbd2 _ _ _ _) hqf hPq ?_)
        rw [upd2_k (by omega), upd2_k (by omega)]; exact t0
  have w78 : ∀ gg : Int, tkK t n s.x = 1 → gg = (if tkE t n s.x - tkS t n s.x = 1 then fnd (s.S 1) (s.S 0 0) (t (tkS t n s.x) - 96) else -4) → Wp cX7_readsPar RX7 none 3 78 [some (mR 71), some (mI (s.D 0 0)), none] [mI gg] (upd2 (upd2 (upd2 σ 73 (1 + 3 * s.D 0 0) (-4)) 73 (1 + 3 * s.D 0 0 + 1) 0) 73 (1 + 3 * s.D 0 0 + 2) 0) (fun v σ' => v = none ∧ (fun σ' => RFr σ σ' ∧ ∃ q, MS t n σ' q cnt ∧ SM t n P q ∧ (q.f = 0 → q.S 0 0 = cnt)) σ') := by
    intro gg hk1 hgg
    have hfb := fnd_bd (s.S 1) (s.S 0 0) (t (tkS t n s.x) - 96)
    unfold pPar at hP
    rw [if_neg (fun z => z hk1)] at hP
    have hgb : (gg = -4 ∧ P = s.bad t n 2) ∨ ((0 ≤ gg ∧ gg < s.S 0 0) ∧ P = (if ¬ (pNum t n 2 5 (s.nx t n)).f = 0 then pNum t n 2 5 (s.nx t n) else pBdy t n gg (tkN t n (s.nx t n).x) ((s.nx t n).nx t n))) := by
      by_cases c1 : tkE t n s.x - tkS t n s.x = 1
      · rw [if_pos c1] at hgg
        by_cases c2 : fnd (s.S 1) (s.S 0 0) (t (tkS t n s.x) - 96) < 0
        · left; exact ⟨by omega, by rw [hP, if_pos (Or.inr c2)]⟩
        · right
          refine ⟨by omega, ?_⟩
          rw [hP, if_neg (by omega), hgg]
      · rw [if_neg c1] at hgg
        left; exact ⟨hgg, by rw [hP, if_pos (Or.inl c1)]⟩
    clear hP
    have hg0 : MG t n (upd2 (upd2 (upd2 σ 73 (1 + 3 * s.D 0 0) (-4)) 73 (1 + 3 * s.D 0 0 + 1) 0) 73 (1 + 3 * s.D 0 0 + 2) 0) s cnt := hg.w73 (D := s.D) (fun r hr => by rw [upd2_out hr, upd2_out hr, upd2_out hr]) (hPR.out hDt.1.2 ⟨hDt.2.1, hc8⟩ (fun x hx => by rw [upd2_k (by omega), upd2_k (by omega), upd2_k (by omega)]))
    generalize upd2 (upd2 (upd2 σ 73 (1 + 3 * s.D 0 0) (-4)) 73 (1 + 3 * s.D 0 0 + 1) 0) 73 (1 + 3 * s.D 0 0 + 2) 0 = υ0 at *
    have u10 := hg0.2.2.1
    refine wp_istore_n (pc := 78) dX7_readsPar_78 rfl (Nat.le_of_ble_eq_true rfl) rfl ?_
    refine wp_aload_n (pc := 79) dX7_readsPar_79 rfl rfl ?_
    refine wp_iload_n (pc := 80) dX7_readsPar_80 rfl rfl ?_
    refine wp_bipush (pc := 81) dX7_readsPar_81 (by decide) (by decide) ?_
    refine wp_icmp_eq (pc := 83) 90 dX7_readsPar_83 (by decide) (fun c_83 => ?_) (fun c_83 => ?_)
    · refine wp_iconst (pc := 90) dX7_readsPar_90 (by decide) ?_
      refine wp_iconst (pc := 91) dX7_readsPar_91 (by decide) ?_
      refine wp_cvV2 (pc := 92) dX7_readsPar_92 mv_X7_111 m_mustP (Nat.le_of_ble_eq_true rfl) rfl (Nat.le_of_ble_eq_true rfl) (fun σ_92 h_92 => ?_)
      have g_92 := h_92; obtain ⟨f_92, a12_92, a13_92, a14_92, a15_92, q_92⟩ := h_92; clear q_92; first | have w_92 := g_92.no (Or.inl (by decide)) | have w_92 := g_92.yes rfl (by omega)
      refine wp_aload_n (pc := 95) dX7_readsPar_95 rfl rfl ?_
      refine wp_cvV0 (pc := 96) dX7_readsPar_96 mv_X7_115 (m_readsU (t := t) (n := n) (cnt := cnt) (q := s.nx t n) (by omega) (fun z => hg0.nx f_92 (by omega))) (Nat.le_of_ble_eq_true rfl) rfl (Nat.le_of_ble_eq_true rfl) (fun σ_96 h_96 => ?_)
      obtain ⟨f96, q96⟩ := h_96
      refine w99 _ gg (f_92.tr f96) ?_
      rcases hgb with ⟨c1, c2⟩ | ⟨c1, c2⟩
      · first
          | (exfalso; omega)
          | (right
             have hbd := hg0.no (w := 2) (σ' := σ_92) (by decide) (by omega) (by omega)
             rcases q96 with d | d
             · omega
             · rw [d.2]
               exact ⟨d.1, _, hbd, bad_f (by decide), c2⟩)
      · first
          | (exfalso; omega)
          | (rcases q96 with d | d
             · rcases d.2 with m1 | m1
               · exact Or.inl ⟨m1, c1, c2⟩
               · right
                 have hk3 : tkK t n (s.nx t n).x = 0 := by
                   rcases m1.2.2 with e | e
                   · exact absurd hf0 e.1
                   · exact e.2.1
                 have e : pNum t n 2 5 (s.nx t n) = (s.nx t n).bad t n 2 := by unfold pNum; rw [if_neg (by omega), if_neg (by omega)]
                 rw [e, if_pos (bad_f (by decide))] at c2
                 exact ⟨m1.1, _, m1.on hf0, bad_f (by decide), c2⟩
             · omega)
    · refine wp_iconst (pc := 86) dX7_readsPar_86 (by decide) ?_
      refine wp_goto (pc := 87) 91 dX7_readsPar_87 (by decide) ?_
      refine wp_iconst (pc := 91) dX7_readsPar_91 (by decide) ?_
      refine wp_cvV2 (pc := 92) dX7_readsPar_92 mv_X7_111 m_mustP (Nat.le_of_ble_eq_true rfl) rfl (Nat.le_of_ble_eq_true rfl) (fun σ_92 h_92 => ?_)
      have g_92 := h_92; obtain ⟨f_92, a12_92, a13_92, a14_92, a15_92, q_92⟩ := h_92; clear q_92; first | have w_92 := g_92.no (Or.inl (by decide)) | have w_92 := g_92.yes rfl (by omega)
      refine wp_aload_n (pc := 95) dX7_readsPar_95 rfl rfl ?_
      refine wp_cvV0 (pc := 96) dX7_readsPar_96 mv_X7_115 (m_readsU (t := t) (n := n) (cnt := cnt) (q := s.nx t n) (by omega) (fun z => hg0.nx f_92 (by omega))) (Nat.le_of_ble_eq_true rfl) rfl (Nat.le_of_ble_eq_true rfl) (fun σ_96 h_96 => ?_)
      obtain ⟨f96, q96⟩ := h_96
      refine w99 _ gg (f_92.tr f96) ?_
      rcases hgb with ⟨c1, c2⟩ | ⟨c1, c2⟩
      · first
          | (exfalso; omega)
          | (right
             have hbd := hg0.no (w := 2) (σ' := σ_92) (by decide) (by omega) (by omega)
             rcases q96 with d | d
             · omega
             · rw [d.2]
               exact ⟨d.1, _, hbd, bad_f (by decide), c2⟩)
      · first
          | (exfalso; omega)
          | (rcases q96 with d | d
             · rcases d.2 with m1 | m1
               · exact Or.inl ⟨m1, c1, c2⟩
               · right
                 have hk3 : tkK t n (s.nx t n).x = 0 := by
                   rcases m1.2.2 with e | e
                   · exact absurd hf0 e.1
                   · exact e.2.1
                 have e : pNum t n 2 5 (s.nx t n) = (s.nx t n).bad t n 2 := by unfold pNum; rw [if_neg (by omega), if_neg (by omega)]
                 rw [e, if_pos (bad_f (by decide))] at c2
                 exact ⟨m1.1, _, m1.on hf0, bad_f (by decide), c2⟩
             · omega)
  have hg0 : MG t n (upd2 (upd2 (upd2 σ 73 (1 + 3 * s.D 0 0) (-4)) 73 (1 + 3 * s.D 0 0 + 1) 0) 73 (1 + 3 * s.D 0 0 + 2) 0) s cnt := hg.w73 (D := s.D) (fun r hr => by rw [upd2_out hr, upd2_out hr, upd2_out hr]) (hPR.out hDt.1.2 ⟨hDt.2.1, hc8⟩ (fun x hx => by rw [upd2_k (by omega), upd2_k (by omega), upd2_k (by omega)]))
  refine wp_aload_n (pc := 0) dX7_readsPar_0 rfl rfl ?_
  refine wp_getR (pc := 1) (q := 73) dX7_readsPar_1 fl_X7_13 rfl ?_
  refine wp_iconst (pc := 4) dX7_readsPar_4 (by decide) ?_
  refine wp_iald (pc := 5) 591 dX7_readsPar_5 rfl (by omega) ?_
  rw [e730]
  refine wp_istore_n (pc := 6) dX7_readsPar_6 rfl (Nat.le_of_ble_eq_true rfl) rfl ?_
  refine wp_aload_n (pc := 7) dX7_readsPar_7 rfl rfl ?_
  refine wp_getR (pc := 8) (q := 73) dX7_readsPar_8 fl_X7_13 rfl ?_
  refine wp_iconst (pc := 11) dX7_readsPar_11 (by decide) ?_
  refine wp_iconst (pc := 12) dX7_readsPar_12 (by decide) ?_
  refine wp_iload_n (pc := 13) dX7_readsPar_13 rfl rfl ?_
  refine wp_imul (pc := 14) dX7_readsPar_14 (by omega) ?_
  refine wp_iadd (pc := 15) dX7_readsPar_15 (by omega) ?_
  refine wp_bipush (pc := 16) dX7_readsPar_16 (by decide) (by decide) ?_
  refine wp_iast (pc := 18) 591 dX7_readsPar_18 rfl (by omega) ?_
  refine wp_aload_n (pc := 19) dX7_readsPar_19 rfl rfl ?_
  refine wp_getR (pc := 20) (q := 73) dX7_readsPar_20 fl_X7_13 rfl ?_
  refine wp_iconst (pc := 23) dX7_readsPar_23 (by decide) ?_
  refine wp_iconst (pc := 24) dX7_readsPar_24 (by decide) ?_
  refine wp_iload_n (pc := 25) dX7_readsPar_25 rfl rfl ?_
  refine wp_imul (pc := 26) dX7_readsPar_26 (by omega) ?_
  refine wp_iadd (pc := 27) dX7_readsPar_27 (by omega) ?_
  refine wp_iconst (pc := 28) dX7_readsPar_28 (by decide) ?_
  refine wp_iadd (pc := 29) dX7_readsPar_29 (by omega) ?_
  refine wp_iconst (pc := 30) dX7_readsPar_30 (by decide) ?_
  refine wp_iast (pc := 31) 591 dX7_readsPar_31 rfl (by omega) ?_
  refine wp_aload_n (pc := 32) dX7_readsPar_32 rfl rfl ?_
  refine wp_getR (pc := 33) (q := 73) dX7_readsPar_33 fl_X7_13 rfl ?_
  refine wp_iconst (pc := 36) dX7_readsPar_36 (by decide) ?_
  refine wp_iconst (pc := 37) dX7_readsPar_37 (by decide) ?_
  refine wp_iload_n (pc := 38) dX7_readsPar_38 rfl rfl ?_
  refine wp_imul (pc := 39) dX7_readsPar_39 (by omega) ?_
  refine wp_iadd (pc := 40) dX7_readsPar_40 (by omega) ?_
  refine wp_iconst (pc := 41) dX7_readsPar_41 (by decide) ?_
  refine wp_iadd (pc := 42) dX7_readsPar_42 (by omega) ?_
  refine wp_iconst (pc := 43) dX7_readsPar_43 (by decide) ?_
  refine wp_iast (pc := 44) 591 dX7_readsPar_44 rfl (by omega) ?_
  refine wp_aload_n (pc := 45) dX7_readsPar_45 rfl rfl ?_
  refine wp_getI (pc := 46) 14 dX7_readsPar_46 fl_X7_100 rfl rfl ?_
  rw [upd2_r (r := 73) (r' := 71) (by decide), upd2_r (r := 73) (r' := 71) (by decide), upd2_r (r := 73) (r' := 71) (by decide)]
  refine wp_iconst (pc := 49) dX7_readsPar_49 (by decide) ?_
  refine wp_icmp_ne (pc := 50) 139 dX7_readsPar_50 (by decide) (fun c_50 => ?_) (fun c_50 => ?_)
  · refine w139g _ s (-4) 0 (((RFr.rf.up (Or.inl rfl)).up (Or.inl rfl)).up (Or.inl rfl)) hg0 rfl rfl ?_ ?_ upd2_eq (Or.inl ⟨rfl, rfl⟩) ?_
    · rw [upd2_k (by omega), upd2_k (by omega), upd2_eq]
    · rw [upd2_k (by omega), upd2_eq]
    · rw [hP]; unfold pPar; rw [if_pos (by omega)]
  · refine wp_aload_n (pc := 53) dX7_readsPar_53 rfl rfl ?_
    have z12 : upd2 (upd2 (upd2 σ 73 (1 + 3 * s.D 0 0) (-4)) 73 (1 + 3 * s.D 0 0 + 1) 0) 73 (1 + 3 * s.D 0 0 + 2) 0 71 12 = tkE t n s.x := by rw [upd2_r (by decide), upd2_r (by decide), upd2_r (by decide)]; exact k12
    have z13 : upd2 (upd2 (upd2 σ 73 (1 + 3 * s.D 0 0) (-4)) 73 (1 + 3 * s.D 0 0 + 1) 0) 73 (1 + 3 * s.D 0 0 + 2) 0 71 13 = tkS t n s.x := by rw [upd2_r (by decide), upd2_r (by decide), upd2_r (by decide)]; exact k13
    have z14 : upd2 (upd2 (upd2 σ 73 (1 + 3 * s.D 0 0) (-4)) 73 (1 + 3 * s.D 0 0 + 1) 0) 73 (1 + 3 * s.D 0 0 + 2) 0 71 14 = σ 71 14 := by rw [upd2_r (by decide), upd2_r (by decide), upd2_r (by decide)]
    have z15 : upd2 (upd2 (upd2 σ 73 (1 + 3 * s.D 0 0) (-4)) 73 (1 + 3 * s.D 0 0 + 1) 0) 73 (1 + 3 * s.D 0 0 + 2) 0 71 15 = σ 71 15 := by rw [upd2_r (by decide), upd2_r (by decide), upd2_r (by decide)]
    have z5 : upd2 (upd2 (upd2 σ 73 (1 + 3 * s.D 0 0) (-4)) 73 (1 + 3 * s.D 0 0 + 1) 0) 73 (1 + 3 * s.D 0 0 + 2) 0 71 5 = cnt := by rw [upd2_r (by decide), upd2_r (by decide), upd2_r (by decide)]; exact h5
    have zSR : SR (upd2 (upd2 (upd2 σ 73 (1 + 3 * s.D 0 0) (-4)) 73 (1 + 3 * s.D 0 0 + 1) 0) 73 (1 + 3 * s.D 0 0 + 2) 0 75) s.S := hg0.1.2.2.2.2.2.2.2.1
    refine wp_cvI0 (pc := 54) dX7_readsPar_54 mv_X7_134 (m_isLetterNow (by omega)) (Nat.le_of_ble_eq_true rfl) rfl (Nat.le_of_ble_eq_true rfl) (fun z_54 σ_54 h_54 => ?_)
    obtain ⟨y_54, e_54⟩ := h_54; have e2_54 := e_54.symm; subst e2_54
    rw [z12, z13, z14] at y_54
    refine wp_if_eq (pc := 57) 76 dX7_readsPar_57 (by decide) (fun c_57 => ?_) (fun c_57 => ?_)
    · refine wp_bipush (pc := 76) dX7_readsPar_76 (by decide) (by decide) ?_
      first
        | exact w78 _ (by omega) (by rw [if_pos (by omega)]; exact zz_70)
        | exact w78 _ (by omega) (by rw [if_neg (by omega)])
    · have hlet := (tkL (t := t) hx0.1 hx0.2 (by omega)).2 (tkS t n s.x) (Int.le_refl _) (by omega)
      refine wp_aload_n (pc := 60) dX7_readsPar_60 rfl rfl ?_
      refine wp_aload_n (pc := 61) dX7_readsPar_61 rfl rfl ?_
      refine wp_getI (pc := 62) 15 dX7_readsPar_62 fl_X7_97 rfl rfl ?_
      rw [z15, show σ 71 15 = t (tkS t n s.x) by omega]
      refine wp_bipush (pc := 65) dX7_readsPar_65 (by decide) (by decide) ?_
      refine wp_isub (pc := 67) dX7_readsPar_67 (by omega) ?_
      refine wp_iconst (pc := 68) dX7_readsPar_68 (by decide) ?_
      refine wp_iadd (pc := 69) dX7_readsPar_69 (by omega) ?_
      refine wp_cvI1 (pc := 70) dX7_readsPar_70 mv_X7_138 (m_shapeOf zSR (by omega)) (Nat.le_of_ble_eq_true rfl) rfl (Nat.le_of_ble_eq_true rfl) (fun z_70 σ_70 h_70 => ?_)
      obtain ⟨zz_70, e_70⟩ := h_70; have e2_70 := e_70.symm; subst e2_70
      rw [z5, show t (tkS t n s.x) - 97 + 1 = t (tkS t n s.x) - 96 by omega, ← hcn] at zz_70
      refine wp_goto (pc := 73) 78 dX7_readsPar_73 (by decide) ?_
      first
        | exact w78 _ (by omega) (by rw [if_pos (by omega)]; exact zz_70)
        | exact w78 _ (by omega) (by rw [if_neg (by omega)])
