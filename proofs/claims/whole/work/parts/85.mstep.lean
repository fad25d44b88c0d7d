set_option maxHeartbeats 4000000 in
set_option maxRecDepth 100000 in
theorem SR.out {σ S : Sto} {x v : Int} (h : SR (σ 75) S) (hW : SW S) (hx : 19 * S 0 0 ≤ x) : SR (upd2 σ 75 x v 75) S := by
  intro g g0 g1
  obtain ⟨a, b, c, d⟩ := h g g0 g1
  have hs := (hW.2 g g0 g1).2.2.1
  refine ⟨by rw [upd2_k (by omega)]; exact a, by rw [upd2_k (by omega)]; exact b, by rw [upd2_k (by omega)]; exact c, fun i i0 i1 => ?_⟩
  rw [upd2_k (by omega), upd2_k (by omega)]
  exact d i i0 i1
set_option maxHeartbeats 4000000 in
set_option maxRecDepth 100000 in
theorem MG.up75 {t : Int → Int} {n cnt x v : Int} {σ : Sto} {s : PS} (h : MG t n σ s cnt) {S : Sto} (hS : SR (upd2 σ 75 x v 75) S) : MG t n (upd2 σ 75 x v) (s.wS S) cnt := by
  obtain ⟨⟨b1, b2, b3, b4, b5, b6, b7, b8, b9, b10, b11⟩, m1⟩ := h
  refine ⟨⟨b1, by rw [upd2_r (by decide)]; exact b2, fun k k0 k1 => by rw [upd2_r (by decide)]; exact b3 k k0 k1, b4, b5, fun w w0 w1 => by rw [upd2_r (by decide)]; exact b6 w w0 w1, ?_, hS, by rw [upd2_r (by decide)]; exact b9, ⟨fun j hj => by rw [upd2_r (by decide)]; exact b10.1 j hj, fun j hj => by rw [upd2_r (by decide)]; exact b10.2 j hj⟩, b11⟩, ?_⟩
  · rw [show upd2 σ 75 x v 73 = σ 73 from funext fun k => upd2_r (by decide)]; exact b7
  · unfold MT at *
    rw [upd2_r (by decide), upd2_r (by decide), upd2_r (by decide), upd2_r (by decide), upd2_r (by decide)]; exact m1
set_option maxHeartbeats 4000000 in
set_option maxRecDepth 100000 in
theorem MSb.up {t : Int → Int} {n x v : Int} {σ : Sto} {s : PS} {r : Nat} (h : MSb t n σ s) (hr : r ≠ 71) : MSb t n (upd2 σ r x v) s := by
  unfold MSb at *
  rw [upd2_r (fun e => hr e.symm), upd2_r (fun e => hr e.symm)]; exact h
set_option maxHeartbeats 4000000 in
set_option maxRecDepth 100000 in
theorem SR.st {σ S : Sto} {a b cnt i : Int} (h : SR (σ 75) S) (hW : SW S) (hc : S 0 0 = cnt + 1) (hc0 : 0 ≤ cnt) (hi : S 3 cnt = i) (hi8 : 0 ≤ i ∧ i < 8) : SR (upd2 (upd2 (upd2 σ 75 (19 * cnt + 3 + i) a) 75 (19 * cnt + 11 + i) b) 75 (19 * cnt + 2) (i + 1) 75) (stS S a b) := by
  intro g g0 g1
  obtain ⟨e0, e1, e2, e3, e4, e5⟩ := stS_at (S := S) (a := a) (b := b)
  rw [e0] at g1
  obtain ⟨d1, d2, d3, d4⟩ := h g g0 g1
  have hs := (hW.2 g g0 g1).2.2.1
  rw [e1, e2, e3, show S 0 0 - 1 = cnt by omega]
  refine ⟨?_, ?_, ?_, fun j j0 j1 => ?_⟩
  · rw [upd2_k (by omega), upd2_k (by omega), upd2_k (by omega)]; exact d1
  · rw [upd2_k (by omega), upd2_k (by omega), upd2_k (by omega)]; exact d2
  · by_cases hg : g = cnt
    · rw [hg, upd2_eq, if_pos rfl, hi]
    · rw [upd2_k (by omega), upd2_k (by omega), upd2_k (by omega), if_neg hg]; exact d3
  · rw [e4, e5, show S 0 0 - 1 = cnt by omega, hi]
    by_cases hg : g = cnt
    · rw [if_pos hg, hg, hi] at j1
      by_cases hj : j = i
      · rw [hg, hj, if_pos rfl, if_pos rfl, upd2_k (by omega), upd2_k (by omega), show 19 * cnt + (3 + i) = 19 * cnt + 3 + i by omega, upd2_eq, upd2_k (by omega), show 19 * cnt + (11 + i) = 19 * cnt + 11 + i by omega, upd2_eq]
        exact ⟨rfl, rfl⟩
      · rw [if_neg (by omega), if_neg (by omega), upd2_k (by omega), upd2_k (by omega), upd2_k (by omega), upd2_k (by omega), upd2_k (by omega), upd2_k (by omega)]
        exact d4 j j0 (by rw [hg, hi]; omega)
    · rw [if_neg hg] at j1
      rw [if_neg (by omega), if_neg (by omega), upd2_k (by omega), upd2_k (by omega), upd2_k (by omega), upd2_k (by omega), upd2_k (by omega), upd2_k (by omega)]
      exact d4 j j0 j1
set_option maxHeartbeats 4000000 in
set_option maxRecDepth 100000 in
theorem m_readsStep {t : Int → Int} {n cnt i h lo hi : Int} {σ : Sto} {s r : PS} (hg : MG t n σ s cnt) (hW : SW s.S) (hc : s.S 0 0 = cnt + 1) (hc0 : 0 ≤ cnt ∧ cnt < 6) (ei : s.S 3 cnt = i) (eh : s.S 2 cnt = h) (elo : lo = if i = 0 then 0 else s.S 4 (cnt * 8 + (i - 1)) + 1) (ehi : hi = if i = 0 then 0 else h - 1) (er : r = if tkK t n s.x = 2 ∧ i < 8 then pStp t n s lo hi else s.bad t n 2) : CtV yX7_readsStep cX7_readsStep 7 none 3 [mR 71, mI (19 * cnt)] σ (fun σ' => RFr σ σ' ∧ MS t n σ' r cnt) := by
  refine ct_of rfl [some (mR 71), some (mI (19 * cnt)), none, none, none, none, none] (Nat.le_of_ble_eq_true rfl) rfl (fun hσ => ?_)
  show Wp cX7_readsStep RX7 none 3 0 [some (mR 71), some (mI (19 * cnt)), none, none, none, none, none] [] _ _
  have hb := hg.1
  obtain ⟨k0, k10, k12, k13, kk⟩ := hg.2
  unfold tkOK at kk
  have hSR := hb.2.2.2.2.2.2.2.1
  obtain ⟨sw1, sw2, sw3, sw4⟩ := hW.2 cnt hc0.1 (by omega)
  obtain ⟨r1, r2, r3, r4⟩ := hSR cnt hc0.1 (by omega)
  rw [ei] at sw3 r3 sw4 r4
  rw [eh] at sw2 r2
  have hf0 : s.f = 0 := hb.2.2.2.2.2.2.2.2.2.2
  have w122 : ∀ υ : Sto, RFr σ υ → MG t n υ ((s.nx t n).nx t n) cnt → r = ((s.nx t n).nx t n).wS (stS s.S (tkN t n s.x) (tkN t n (s.nx t n).x)) → i < 8 → Wp cX7_readsStep RX7 none 3 122 [some (mR 71), some (mI (19 * cnt)), some (mI i), some (mI h), some (mI lo), some (mI (tkN t n s.x)), some (mI (tkN t n (s.nx t n).x))] [] υ (fun v σ' => v = none ∧ (fun σ' => RFr σ σ' ∧ MS t n σ' r cnt) σ') := by
    intro υ hf hgu err hi8
    have hSu : SR (υ 75) s.S := hgu.1.2.2.2.2.2.2.2.1
    have ru3 := (hSu cnt hc0.1 (by omega)).2.2.1
    rw [ei] at ru3
    have hst := SR.st (a := tkN t n s.x) (b := tkN t n (s.nx t n).x) hSu hW hc hc0.1 ei (by omega)
    refine wp_aload_n (pc := 122) dX7_readsStep_122 rfl rfl ?_
    refine wp_getR (pc := 123) (q := 75) dX7_readsStep_123 fl_X7_19 rfl ?_
    refine wp_iload_n (pc := 126) dX7_readsStep_126 rfl rfl ?_
    refine wp_iconst (pc := 127) dX7_readsStep_127 (by decide) ?_
    refine wp_iadd (pc := 128) dX7_readsStep_128 (by omega) ?_
    refine wp_iload_n (pc := 129) dX7_readsStep_129 rfl rfl ?_
    refine wp_iadd (pc := 130) dX7_readsStep_130 (by omega) ?_
    refine wp_iload (pc := 131) dX7_readsStep_131 rfl ?_
    refine wp_iast (pc := 133) 114 dX7_readsStep_133 rfl (by omega) ?_
    refine wp_aload_n (pc := 134) dX7_readsStep_134 rfl rfl ?_
    refine wp_getR (pc := 135) (q := 75) dX7_readsStep_135 fl_X7_19 rfl ?_
    refine wp_iload_n (pc := 138) dX7_readsStep_138 rfl rfl ?_
    refine wp_bipush (pc := 139) dX7_readsStep_139 (by decide) (by decide) ?_
    refine wp_iadd (pc := 141) dX7_readsStep_141 (by omega) ?_
    refine wp_iload_n (pc := 142) dX7_readsStep_142 rfl rfl ?_
    refine wp_iadd (pc := 143) dX7_readsStep_143 (by omega) ?_
    refine wp_iload (pc := 144) dX7_readsStep_144 rfl ?_
    refine wp_iast (pc := 146) 114 dX7_readsStep_146 rfl (by omega) ?_
    refine wp_aload_n (pc := 147) dX7_readsStep_147 rfl rfl ?_
    refine wp_getR (pc := 148) (q := 75) dX7_readsStep_148 fl_X7_19 rfl ?_
    refine wp_iload_n (pc := 151) dX7_readsStep_151 rfl rfl ?_
    refine wp_iconst (pc := 152) dX7_readsStep_152 (by decide) ?_
    refine wp_iadd (pc := 153) dX7_readsStep_153 (by omega) ?_
    refine wp_dup2 (pc := 154) dX7_readsStep_154 (fun _ h => by cases h) (fun _ h => by cases h) ?_
    refine wp_iald (pc := 155) 114 dX7_readsStep_155 rfl (by omega) ?_
    rw [upd2_k (show 19 * cnt + 2 ≠ 19 * cnt + 11 + i by omega), upd2_k (show 19 * cnt + 2 ≠ 19 * cnt + 3 + i by omega), ru3]
    refine wp_iconst (pc := 156) dX7_readsStep_156 (by decide) ?_
    refine wp_iadd (pc := 157) dX7_readsStep_157 (by omega) ?_
    refine wp_iast (pc := 158) 114 dX7_readsStep_158 rfl (by omega) ?_
    refine wp_return (pc := 159) dX7_readsStep_159 rfl ?_
    refine ⟨rfl, ((hf.up (Or.inr (Or.inl rfl))).up (Or.inr (Or.inl rfl))).up (Or.inr (Or.inl rfl)), Or.inl ?_⟩
    rw [err]
    obtain ⟨⟨b1, b2, b3, b4, b5, b6, b7, b8, b9, b10, b11⟩, m1⟩ := hgu
    generalize hω : upd2 (upd2 (upd2 υ 75 (19 * cnt + 3 + i) (tkN t n s.x)) 75 (19 * cnt + 11 + i) (tkN t n (s.nx t n).x)) 75 (19 * cnt + 2) (i + 1) = ω at *
    have eω : ∀ r, r ≠ 75 → ω r = υ r := fun r hr => by rw [← hω]; rw [upd2_out hr, upd2_out hr, upd2_out hr]
    refine ⟨⟨b1, by rw [eω 71 (by decide)]; exact b2, by rw [eω 78 (by decide)]; exact b3, b4, b5, by rw [eω 81 (by decide)]; exact b6, by rw [eω 73 (by decide)]; exact b7, hst, by rw [eω 71 (by decide)]; exact b9, by unfold NT at *; rw [eω 79 (by decide), eω 80 (by decide)]; exact b10, b11⟩, ?_⟩
    unfold MT at *
    rw [eω 71 (by decide)]; exact m1
  have w90 : ∀ υ : Sto, Fr1 σ υ → ((υ 71 10 = 0 ∧ MG t n υ s cnt ∧ tkK t n s.x = 2 ∧ i < 8) ∨ (0 < υ 71 10 ∧ MSb t n υ (s.bad t n 2) ∧ ¬ (tkK t n s.x = 2 ∧ i < 8))) → Wp cX7_readsStep RX7 none 3 90 [some (mR 71), some (mI (19 * cnt)), some (mI i), some (mI h), some (mI lo), none, none] [mI hi, mI lo, mR 71] υ (fun v σ' => v = none ∧ (fun σ' => RFr σ σ' ∧ MS t n σ' r cnt) σ') := by
    intro υ hf hc9
    have hp : 0 ≤ υ 71 10 ∧ (υ 71 10 = 0 → MG t n υ s cnt) := by
      rcases hc9 with c | c
      · exact ⟨by omega, fun _ => c.2.1⟩
      · exact ⟨by omega, fun z => by omega⟩
    refine wp_cvI2 (pc := 90) dX7_readsStep_90 mv_X7_128 (m_numberU (t := t) (n := n) (cnt := cnt) (s := s) hp.1 hp.2) (Nat.le_of_ble_eq_true rfl) rfl (Nat.le_of_ble_eq_true rfl) (fun z_90 σ_90 h_90 => ?_)
    obtain ⟨f90, q90⟩ := h_90
    refine wp_istore (pc := 93) dX7_readsStep_93 (Nat.le_of_ble_eq_true rfl) rfl ?_
    refine wp_aload_n (pc := 95) dX7_readsStep_95 rfl rfl ?_
    refine wp_getI (pc := 96) 10 dX7_readsStep_96 fl_X7_81 rfl rfl ?_
    refine wp_if_le (pc := 99) 106 dX7_readsStep_99 (by decide) (fun c_99 => ?_) (fun c_99 => ?_)
    · obtain ⟨u0, m90, v90⟩ : υ 71 10 = 0 ∧ MS t n σ_90 (pNum t n lo hi s) cnt ∧ ((pNum t n lo hi s).f = 0 → z_90 = tkN t n s.x) := by
        rcases q90 with c | c
        · exact c
        · omega
      obtain ⟨-, -, hk2, hi8⟩ : υ 71 10 = 0 ∧ MG t n υ s cnt ∧ tkK t n s.x = 2 ∧ i < 8 := by
        rcases hc9 with c | c
        · exact c
        · omega
      have hg90 := m90.good (by omega)
      refine wp_aload_n (pc := 106) dX7_readsStep_106 rfl rfl ?_
      refine wp_iconst (pc := 107) dX7_readsStep_107 (by decide) ?_
      refine wp_bipush (pc := 108) dX7_readsStep_108 (by decide) (by decide) ?_
      refine wp_cvI2 (pc := 110) dX7_readsStep_110 mv_X7_128 (m_number hg90) (Nat.le_of_ble_eq_true rfl) rfl (Nat.le_of_ble_eq_true rfl) (fun z_110 σ_110 h_110 => ?_)
      obtain ⟨f110, m110, v110⟩ := h_110
      refine wp_istore (pc := 113) dX7_readsStep_113 (Nat.le_of_ble_eq_true rfl) rfl ?_
      refine wp_aload_n (pc := 115) dX7_readsStep_115 rfl rfl ?_
      refine wp_getI (pc := 116) 10 dX7_readsStep_116 fl_X7_81 rfl rfl ?_
      refine wp_if_ne (pc := 119) 159 dX7_readsStep_119 (by decide) (fun c_119 => ?_) (fun c_119 => ?_)
      · refine wp_return (pc := 159) dX7_readsStep_159 rfl ?_
        first
          | (refine ⟨rfl, (hf.r.tr f90.r).tr f110.r, ?_⟩
             have hbad := m110.bad (by have := m110.nn; omega)
             obtain ⟨e1, -, e3, e4⟩ := pNum_f (t := t) (n := n) hg90.1.2.2.2.2.2.2.2.2.2.2
             rw [e1] at hbad
             rw [er, if_pos ⟨hk2, hi8⟩, pStp_at, if_neg (fun z => z ⟨e3, e4⟩)]
             by_cases hf2 : (pNum t n 0 60 (s.nx t n)).f = 0
             · rw [if_neg (fun z => z hf2)]
               rw [(pNum_f hf2).1] at hbad
               rcases hbad.2.2 with c | c
               · exact absurd hf0 c.1
               · exact Or.inr ⟨hbad.1, hbad.2.1, Or.inr c⟩
             · rw [if_pos hf2]; exact Or.inr hbad)
          | (refine ⟨rfl, hf.r.tr f90.r, ?_⟩
             rcases hc9 with c | c
             · have m90 : MS t n σ_90 (pNum t n lo hi s) cnt := by
                 rcases q90 with d | d
                 · exact d.2.1
                 · omega
               have hbad := m90.bad (by omega)
               rw [er, if_pos ⟨c.2.2.1, c.2.2.2⟩, pStp_at]
               by_cases hin : lo ≤ tkN t n s.x ∧ tkN t n s.x ≤ hi
               · have e1 : pNum t n lo hi s = s.nx t n := by unfold pNum; rw [if_pos ⟨c.2.2.1, hin⟩]
                 rw [e1] at hbad
                 have hk3 : tkK t n (s.nx t n).x = 0 := by
                   rcases hbad.2.2 with d | d
                   · exact absurd hf0 d.1
                   · exact d.2.1
                 have e2 : pNum t n 0 60 (s.nx t n) = (s.nx t n).bad t n 2 := by unfold pNum; rw [if_neg (by omega), if_neg (by omega)]
                 rw [if_neg (fun z => z hin), e2, if_pos (bad_f (by decide))]
                 exact Or.inr (hbad.on hf0)
               · have e1 : pNum t n lo hi s = s.bad t n 3 := by unfold pNum; rw [if_neg (fun z => hin z.2), if_pos c.2.2.1]
                 rw [e1] at hbad
                 rw [if_pos hin]; exact Or.inr hbad
             · rw [er, if_neg c.2.2]
               rcases q90 with d | d
               · omega
               · obtain ⟨a1, a2, a3⟩ := c.2.1
                 unfold MS MSb
                 rw [d.2.2.1, d.2.2.2]
                 exact Or.inr ⟨a1, a2, a3⟩)
      · first
          | (exfalso; omega)
          | (have hg110 := m110.good (by omega)
             obtain ⟨e1, -, e3, e4⟩ := pNum_f (t := t) (n := n) hg90.1.2.2.2.2.2.2.2.2.2.2
             rw [e1] at hg110 m110 v110 hg90
             obtain ⟨e5, -, e7, e8⟩ := pNum_f (t := t) (n := n) hg110.1.2.2.2.2.2.2.2.2.2.2
             rw [e5] at hg110
             have vz : z_90 = tkN t n s.x := v90 (by rw [e1]; exact hf0)
             have vz2 : z_110 = tkN t n (s.nx t n).x := v110 (by rw [e5]; exact hf0)
             have eS : pStp t n s lo hi = ((s.nx t n).nx t n).wS (stS s.S (tkN t n s.x) (tkN t n (s.nx t n).x)) := by rw [pStp_at, if_neg (fun z => z ⟨e3, e4⟩), if_neg (fun z => z (by rw [e5]; exact hf0))]
             have err : r = ((s.nx t n).nx t n).wS (stS s.S (tkN t n s.x) (tkN t n (s.nx t n).x)) := by rw [er, if_pos ⟨hk2, hi8⟩, eS]
             rw [vz, vz2]
             exact w122 σ_110 ((hf.r.tr f90.r).tr f110.r) hg110 err hi8)
    · refine wp_iconst (pc := 102) dX7_readsStep_102 (by decide) ?_
      refine wp_goto (pc := 103) 113 dX7_readsStep_103 (by decide) ?_
      refine wp_istore (pc := 113) dX7_readsStep_113 (Nat.le_of_ble_eq_true rfl) rfl ?_
      refine wp_aload_n (pc := 115) dX7_readsStep_115 rfl rfl ?_
      refine wp_getI (pc := 116) 10 dX7_readsStep_116 fl_X7_81 rfl rfl ?_
      refine wp_if_ne (pc := 119) 159 dX7_readsStep_119 (by decide) (fun c_119 => ?_) (fun c_119 => ?_)
      · refine wp_return (pc := 159) dX7_readsStep_159 rfl ?_
        first
          | (refine ⟨rfl, (hf.r.tr f90.r).tr f110.r, ?_⟩
             have hbad := m110.bad (by have := m110.nn; omega)
             obtain ⟨e1, -, e3, e4⟩ := pNum_f (t := t) (n := n) hg90.1.2.2.2.2.2.2.2.2.2.2
             rw [e1] at hbad
             rw [er, if_pos ⟨hk2, hi8⟩, pStp_at, if_neg (fun z => z ⟨e3, e4⟩)]
             by_cases hf2 : (pNum t n 0 60 (s.nx t n)).f = 0
             · rw [if_neg (fun z => z hf2)]
               rw [(pNum_f hf2).1] at hbad
               rcases hbad.2.2 with c | c
               · exact absurd hf0 c.1
               · exact Or.inr ⟨hbad.1, hbad.2.1, Or.inr c⟩
             · rw [if_pos hf2]; exact Or.inr hbad)
          | (refine ⟨rfl, hf.r.tr f90.r, ?_⟩
             rcases hc9 with c | c
             · have m90 : MS t n σ_90 (pNum t n lo hi s) cnt := by
                 rcases q90 with d | d
                 · exact d.2.1
                 · omega
               have hbad := m90.bad (by omega)
               rw [er, if_pos ⟨c.2.2.1, c.2.2.2⟩, pStp_at]
               by_cases hin : lo ≤ tkN t n s.x ∧ tkN t n s.x ≤ hi
               · have e1 : pNum t n lo hi s = s.nx t n := by unfold pNum; rw [if_pos ⟨c.2.2.1, hin⟩]
                 rw [e1] at hbad
                 have hk3 : tkK t n (s.nx t n).x = 0 := by
                   rcases hbad.2.2 with d | d
                   · exact absurd hf0 d.1
                   · exact d.2.1
                 have e2 : pNum t n 0 60 (s.nx t n) = (s.nx t n).bad t n 2 := by unfold pNum; rw [if_neg (by omega), if_neg (by omega)]
                 rw [if_neg (fun z => z hin), e2, if_pos (bad_f (by decide))]
                 exact Or.inr (hbad.on hf0)
               · have e1 : pNum t n lo hi s = s.bad t n 3 := by unfold pNum; rw [if_neg (fun z => hin z.2), if_pos c.2.2.1]
                 rw [e1] at hbad
                 rw [if_pos hin]; exact Or.inr hbad
             · rw [er, if_neg c.2.2]
               rcases q90 with d | d
               · omega
               · obtain ⟨a1, a2, a3⟩ := c.2.1
                 unfold MS MSb
                 rw [d.2.2.1, d.2.2.2]
                 exact Or.inr ⟨a1, a2, a3⟩)
      · first
          | (exfalso; omega)
          | (have hg110 := m110.good (by omega)
             obtain ⟨e1, -, e3, e4⟩ := pNum_f (t := t) (n := n) hg90.1.2.2.2.2.2.2.2.2.2.2
             rw [e1] at hg110 m110 v110 hg90
             obtain ⟨e5, -, e7, e8⟩ := pNum_f (t := t) (n := n) hg110.1.2.2.2.2.2.2.2.2.2.2
             rw [e5] at hg110
             have vz : z_90 = tkN t n s.x := v90 (by rw [e1]; exact hf0)
             have vz2 : z_110 = tkN t n (s.nx t n).x := v110 (by rw [e5]; exact hf0)
             have eS : pStp t n s lo hi = ((s.nx t n).nx t n).wS (stS s.S (tkN t n s.x) (tkN t n (s.nx t n).x)) := by rw [pStp_at, if_neg (fun z => z ⟨e3, e4⟩), if_neg (fun z => z (by rw [e5]; exact hf0))]
             have err : r = ((s.nx t n).nx t n).wS (stS s.S (tkN t n s.x) (tkN t n (s.nx t n).x)) := by rw [er, if_pos ⟨hk2, hi8⟩, eS]
             rw [vz, vz2]
             exact w122 σ_110 ((hf.r.tr f90.r).tr f110.r) hg110 err hi8)
  have w74 : ∀ υ : Sto, Fr1 σ υ → ((υ 71 10 = 0 ∧ MG t n υ s cnt ∧ tkK t n s.x = 2 ∧ i < 8) ∨ (0 < υ 71 10 ∧ MSb t n υ (s.bad t n 2) ∧ ¬ (tkK t n s.x = 2 ∧ i < 8))) → Wp cX7_readsStep RX7 none 3 74 [some (mR 71), some (mI (19 * cnt)), some (mI i), some (mI h), none, none, none] [mI lo] υ (fun v σ' => v = none ∧ (fun σ' => RFr σ σ' ∧ MS t n σ' r cnt) σ') := by
    intro υ hf hc9
    refine wp_istore (pc := 74) dX7_readsStep_74 (Nat.le_of_ble_eq_true rfl) rfl ?_
    refine wp_aload_n (pc := 76) dX7_readsStep_76 rfl rfl ?_
    refine wp_iload (pc := 77) dX7_readsStep_77 rfl ?_
    refine wp_iload_n (pc := 79) dX7_readsStep_79 rfl rfl ?_
    refine wp_if_ne (pc := 80) 87 dX7_readsStep_80 (by decide) (fun c_80 => ?_) (fun c_80 => ?_)
    · refine wp_iload_n (pc := 87) dX7_readsStep_87 rfl rfl ?_
      refine wp_iconst (pc := 88) dX7_readsStep_88 (by decide) ?_
      refine wp_isub (pc := 89) dX7_readsStep_89 (by omega) ?_
      first
        | (have e : hi = 0 := by rw [ehi, if_pos (by omega)]
           have := w90 υ hf hc9
           rw [e] at this
           exact this)
        | (have e : hi = h - 1 := by rw [ehi, if_neg (by omega)]
           have := w90 υ hf hc9
           rw [e] at this
           exact this)
    · refine wp_iconst (pc := 83) dX7_readsStep_83 (by decide) ?_
      refine wp_goto (pc := 84) 90 dX7_readsStep_84 (by decide) ?_
      first
        | (have e : hi = 0 := by rw [ehi, if_pos (by omega)]
           have := w90 υ hf hc9
           rw [e] at this
           exact this)
        | (have e : hi = h - 1 := by rw [ehi, if_neg (by omega)]
           have := w90 υ hf hc9
           rw [e] at this
           exact this)
  refine wp_aload_n (pc := 0) dX7_readsStep_0 rfl rfl ?_
  refine wp_getR (pc := 1) (q := 75) dX7_readsStep_1 fl_X7_19 rfl ?_
  refine wp_iload_n (pc := 4) dX7_readsStep_4 rfl rfl ?_
  refine wp_iconst (pc := 5) dX7_readsStep_5 (by decide) ?_
  refine wp_iadd (pc := 6) dX7_readsStep_6 (by omega) ?_
  refine wp_iald (pc := 7) 114 dX7_readsStep_7 rfl (by omega) ?_
  rw [r3]
  refine wp_istore_n (pc := 8) dX7_readsStep_8 rfl (Nat.le_of_ble_eq_true rfl) rfl ?_
  refine wp_aload_n (pc := 9) dX7_readsStep_9 rfl rfl ?_
  refine wp_aload_n (pc := 10) dX7_readsStep_10 rfl rfl ?_
  refine wp_getI (pc := 11) 14 dX7_readsStep_11 fl_X7_100 rfl rfl ?_
  refine wp_iconst (pc := 14) dX7_readsStep_14 (by decide) ?_
  refine wp_icmp_ne (pc := 15) 28 dX7_readsStep_15 (by decide) (fun c_15 => ?_) (fun c_15 => ?_)
  · refine wp_iconst (pc := 28) dX7_readsStep_28 (by decide) ?_
    refine wp_iconst (pc := 29) dX7_readsStep_29 (by decide) ?_
    refine wp_cvV2 (pc := 30) dX7_readsStep_30 mv_X7_111 m_mustP (Nat.le_of_ble_eq_true rfl) rfl (Nat.le_of_ble_eq_true rfl) (fun σ_30 h_30 => ?_)
    obtain ⟨f_30, a12_30, a13_30, a14_30, a15_30, q_30⟩ := h_30
    have hst : (σ_30 71 10 = 0 ∧ MG t n σ_30 s cnt ∧ tkK t n s.x = 2 ∧ i < 8) ∨ (0 < σ_30 71 10 ∧ MSb t n σ_30 (s.bad t n 2) ∧ ¬ (tkK t n s.x = 2 ∧ i < 8)) := by
      first
        | exact Or.inl ⟨by omega, ⟨hb.fr f_30, k0, by omega, by omega, by omega, by unfold tkOK; omega⟩, by omega, by omega⟩
        | exact Or.inr ⟨by omega, hg.no (by decide) (by omega) (by omega), by omega⟩
    have e75 : σ_30 75 = σ 75 := f_30.1 75 (by decide)
    refine wp_aload_n (pc := 33) dX7_readsStep_33 rfl rfl ?_
    refine wp_getR (pc := 34) (q := 75) dX7_readsStep_34 fl_X7_19 rfl ?_
    refine wp_iload_n (pc := 37) dX7_readsStep_37 rfl rfl ?_
    refine wp_iconst (pc := 38) dX7_readsStep_38 (by decide) ?_
    refine wp_iadd (pc := 39) dX7_readsStep_39 (by omega) ?_
    refine wp_iald (pc := 40) 114 dX7_readsStep_40 rfl (by omega) ?_
    rw [e75, r2]
    refine wp_istore_n (pc := 41) dX7_readsStep_41 rfl (Nat.le_of_ble_eq_true rfl) rfl ?_
    refine wp_iload_n (pc := 42) dX7_readsStep_42 rfl rfl ?_
    refine wp_if_ne (pc := 43) 50 dX7_readsStep_43 (by decide) (fun c_43 => ?_) (fun c_43 => ?_)
    · refine wp_aload_n (pc := 50) dX7_readsStep_50 rfl rfl ?_
      refine wp_getR (pc := 51) (q := 75) dX7_readsStep_51 fl_X7_19 rfl ?_
      refine wp_iload_n (pc := 54) dX7_readsStep_54 rfl rfl ?_
      refine wp_iconst (pc := 55) dX7_readsStep_55 (by decide) ?_
      refine wp_iadd (pc := 56) dX7_readsStep_56 (by omega) ?_
      refine wp_iload_n (pc := 57) dX7_readsStep_57 rfl rfl ?_
      refine wp_bipush (pc := 58) dX7_readsStep_58 (by decide) (by decide) ?_
      refine wp_icmp_gt (pc := 60) 69 dX7_readsStep_60 (by decide) (fun c_60 => ?_) (fun c_60 => ?_)
      · omega
      · refine wp_iload_n (pc := 63) dX7_readsStep_63 rfl rfl ?_
        refine wp_iconst (pc := 64) dX7_readsStep_64 (by decide) ?_
        refine wp_isub (pc := 65) dX7_readsStep_65 (by omega) ?_
        refine wp_goto (pc := 66) 70 dX7_readsStep_66 (by decide) ?_
        refine wp_iadd (pc := 70) dX7_readsStep_70 (by omega) ?_
        refine wp_iald (pc := 71) 114 dX7_readsStep_71 rfl (by omega) ?_
        rw [e75]
        have s4 := sw4 (i - 1) (by omega) (by omega)
        have r5 := (r4 (i - 1) (by omega) (by omega)).1
        rw [show 19 * cnt + 3 + (i - 1) = 19 * cnt + (3 + (i - 1)) by omega, r5]
        refine wp_iconst (pc := 72) dX7_readsStep_72 (by decide) ?_
        refine wp_iadd (pc := 73) dX7_readsStep_73 (by omega) ?_
        first
          | (have e : lo = s.S 4 (cnt * 8 + (i - 1)) + 1 := by rw [elo, if_neg (by omega)]
             have := w74 σ_30 f_30 hst
             rw [e] at this
             exact this)
          | (have e : lo = 0 := by rw [elo, if_pos (by omega)]
             have := w74 σ_30 f_30 hst
             rw [e] at this
             exact this)
    · refine wp_iconst (pc := 46) dX7_readsStep_46 (by decide) ?_
      refine wp_goto (pc := 47) 74 dX7_readsStep_47 (by decide) ?_
      first
        | (have e : lo = s.S 4 (cnt * 8 + (i - 1)) + 1 := by rw [elo, if_neg (by omega)]
           have := w74 σ_30 f_30 hst
           rw [e] at this
           exact this)
        | (have e : lo = 0 := by rw [elo, if_pos (by omega)]
           have := w74 σ_30 f_30 hst
           rw [e] at this
           exact this)
  · refine wp_iload_n (pc := 18) dX7_readsStep_18 rfl rfl ?_
    refine wp_bipush (pc := 19) dX7_readsStep_19 (by decide) (by decide) ?_
    refine wp_icmp_ge (pc := 21) 28 dX7_readsStep_21 (by decide) (fun c_21 => ?_) (fun c_21 => ?_)
    · refine wp_iconst (pc := 28) dX7_readsStep_28 (by decide) ?_
      refine wp_iconst (pc := 29) dX7_readsStep_29 (by decide) ?_
      refine wp_cvV2 (pc := 30) dX7_readsStep_30 mv_X7_111 m_mustP (Nat.le_of_ble_eq_true rfl) rfl (Nat.le_of_ble_eq_true rfl) (fun σ_30 h_30 => ?_)
      obtain ⟨f_30, a12_30, a13_30, a14_30, a15_30, q_30⟩ := h_30
      have hst : (σ_30 71 10 = 0 ∧ MG t n σ_30 s cnt ∧ tkK t n s.x = 2 ∧ i < 8) ∨ (0 < σ_30 71 10 ∧ MSb t n σ_30 (s.bad t n 2) ∧ ¬ (tkK t n s.x = 2 ∧ i < 8)) := by
        first
          | exact Or.inl ⟨by omega, ⟨hb.fr f_30, k0, by omega, by omega, by omega, by unfold tkOK; omega⟩, by omega, by omega⟩
          | exact Or.inr ⟨by omega, hg.no (by decide) (by omega) (by omega), by omega⟩
      have e75 : σ_30 75 = σ 75 := f_30.1 75 (by decide)
      refine wp_aload_n (pc := 33) dX7_readsStep_33 rfl rfl ?_
      refine wp_getR (pc := 34) (q := 75) dX7_readsStep_34 fl_X7_19 rfl ?_
      refine wp_iload_n (pc := 37) dX7_readsStep_37 rfl rfl ?_
      refine wp_iconst (pc := 38) dX7_readsStep_38 (by decide) ?_
      refine wp_iadd (pc := 39) dX7_readsStep_39 (by omega) ?_
      refine wp_iald (pc := 40) 114 dX7_readsStep_40 rfl (by omega) ?_
      rw [e75, r2]
      refine wp_istore_n (pc := 41) dX7_readsStep_41 rfl (Nat.le_of_ble_eq_true rfl) rfl ?_
      refine wp_iload_n (pc := 42) dX7_readsStep_42 rfl rfl ?_
      refine wp_if_ne (pc := 43) 50 dX7_readsStep_43 (by decide) (fun c_43 => ?_) (fun c_43 => ?_)
      · refine wp_aload_n (pc := 50) dX7_readsStep_50 rfl rfl ?_
        refine wp_getR (pc := 51) (q := 75) dX7_readsStep_51 fl_X7_19 rfl ?_
        refine wp_iload_n (pc := 54) dX7_readsStep_54 rfl rfl ?_
        refine wp_iconst (pc := 55) dX7_readsStep_55 (by decide) ?_
        refine wp_iadd (pc := 56) dX7_readsStep_56 (by omega) ?_
        refine wp_iload_n (pc := 57) dX7_readsStep_57 rfl rfl ?_
        refine wp_bipush (pc := 58) dX7_readsStep_58 (by decide) (by decide) ?_
        refine wp_icmp_gt (pc := 60) 69 dX7_readsStep_60 (by decide) (fun c_60 => ?_) (fun c_60 => ?_)
        · omega
        · refine wp_iload_n (pc := 63) dX7_readsStep_63 rfl rfl ?_
          refine wp_iconst (pc := 64) dX7_readsStep_64 (by decide) ?_
          refine wp_isub (pc := 65) dX7_readsStep_65 (by omega) ?_
          refine wp_goto (pc := 66) 70 dX7_readsStep_66 (by decide) ?_
          refine wp_iadd (pc := 70) dX7_readsStep_70 (by omega) ?_
          refine wp_iald (pc := 71) 114 dX7_readsStep_71 rfl (by omega) ?_
          rw [e75]
          have s4 := sw4 (i - 1) (by omega) (by omega)
          have r5 := (r4 (i - 1) (by omega) (by omega)).1
          rw [show 19 * cnt + 3 + (i - 1) = 19 * cnt + (3 + (i - 1)) by omega, r5]
          refine wp_iconst (pc := 72) dX7_readsStep_72 (by decide) ?_
          refine wp_iadd (pc := 73) dX7_readsStep_73 (by omega) ?_
          first
            | (have e : lo = s.S 4 (cnt * 8 + (i - 1)) + 1 := by rw [elo, if_neg (by omega)]
               have := w74 σ_30 f_30 hst
               rw [e] at this
               exact this)
            | (have e : lo = 0 := by rw [elo, if_pos (by omega)]
               have := w74 σ_30 f_30 hst
               rw [e] at this
               exact this)
      · refine wp_iconst (pc := 46) dX7_readsStep_46 (by decide) ?_
        refine wp_goto (pc := 47) 74 dX7_readsStep_47 (by decide) ?_
        first
          | (have e : lo = s.S 4 (cnt * 8 + (i - 1)) + 1 := by rw [elo, if_neg (by omega)]
             have := w74 σ_30 f_30 hst
             rw [e] at this
             exact this)
          | (have e : lo = 0 := by rw [elo, if_pos (by omega)]
             have := w74 σ_30 f_30 hst
             rw [e] at this
             exact this)
    · refine wp_iconst (pc := 24) dX7_readsStep_24 (by decide) ?_
      refine wp_goto (pc := 25) 29 dX7_readsStep_25 (by decide) ?_
      refine wp_iconst (pc := 29) dX7_readsStep_29 (by decide) ?_
      refine wp_cvV2 (pc := 30) dX7_readsStep_30 mv_X7_111 m_mustP (Nat.le_of_ble_eq_true rfl) rfl (Nat.le_of_ble_eq_true rfl) (fun σ_30 h_30 => ?_)
      obtain ⟨f_30, a12_30, a13_30, a14_30, a15_30, q_30⟩ := h_30
      have hst : (σ_30 71 10 = 0 ∧ MG t n σ_30 s cnt ∧ tkK t n s.x = 2 ∧ i < 8) ∨ (0 < σ_30 71 10 ∧ MSb t n σ_30 (s.bad t n 2) ∧ ¬ (tkK t n s.x = 2 ∧ i < 8)) := by
        first
          | exact Or.inl ⟨by omega, ⟨hb.fr f_30, k0, by omega, by omega, by omega, by unfold tkOK; omega⟩, by omega, by omega⟩
          | exact Or.inr ⟨by omega, hg.no (by decide) (by omega) (by omega), by omega⟩
      have e75 : σ_30 75 = σ 75 := f_30.1 75 (by decide)
      refine wp_aload_n (pc := 33) dX7_readsStep_33 rfl rfl ?_
      refine wp_getR (pc := 34) (q := 75) dX7_readsStep_34 fl_X7_19 rfl ?_
      refine wp_iload_n (pc := 37) dX7_readsStep_37 rfl rfl ?_
      refine wp_iconst (pc := 38) dX7_readsStep_38 (by decide) ?_
      refine wp_iadd (pc := 39) dX7_readsStep_39 (by omega) ?_
      refine wp_iald (pc := 40) 114 dX7_readsStep_40 rfl (by omega) ?_
      rw [e75, r2]
      refine wp_istore_n (pc := 41) dX7_readsStep_41 rfl (Nat.le_of_ble_eq_true rfl) rfl ?_
      refine wp_iload_n (pc := 42) dX7_readsStep_42 rfl rfl ?_
      refine wp_if_ne (pc := 43) 50 dX7_readsStep_43 (by decide) (fun c_43 => ?_) (fun c_43 => ?_)
      · refine wp_aload_n (pc := 50) dX7_readsStep_50 rfl rfl ?_
        refine wp_getR (pc := 51) (q := 75) dX7_readsStep_51 fl_X7_19 rfl ?_
        refine wp_iload_n (pc := 54) dX7_readsStep_54 rfl rfl ?_
        refine wp_iconst (pc := 55) dX7_readsStep_55 (by decide) ?_
        refine wp_iadd (pc := 56) dX7_readsStep_56 (by omega) ?_
        refine wp_iload_n (pc := 57) dX7_readsStep_57 rfl rfl ?_
        refine wp_bipush (pc := 58) dX7_readsStep_58 (by decide) (by decide) ?_
        refine wp_icmp_gt (pc := 60) 69 dX7_readsStep_60 (by decide) (fun c_60 => ?_) (fun c_60 => ?_)
        · omega
        · refine wp_iload_n (pc := 63) dX7_readsStep_63 rfl rfl ?_
          refine wp_iconst (pc := 64) dX7_readsStep_64 (by decide) ?_
          refine wp_isub (pc := 65) dX7_readsStep_65 (by omega) ?_
          refine wp_goto (pc := 66) 70 dX7_readsStep_66 (by decide) ?_
          refine wp_iadd (pc := 70) dX7_readsStep_70 (by omega) ?_
          refine wp_iald (pc := 71) 114 dX7_readsStep_71 rfl (by omega) ?_
          rw [e75]
          have s4 := sw4 (i - 1) (by omega) (by omega)
          have r5 := (r4 (i - 1) (by omega) (by omega)).1
          rw [show 19 * cnt + 3 + (i - 1) = 19 * cnt + (3 + (i - 1)) by omega, r5]
          refine wp_iconst (pc := 72) dX7_readsStep_72 (by decide) ?_
          refine wp_iadd (pc := 73) dX7_readsStep_73 (by omega) ?_
          first
            | (have e : lo = s.S 4 (cnt * 8 + (i - 1)) + 1 := by rw [elo, if_neg (by omega)]
               have := w74 σ_30 f_30 hst
               rw [e] at this
               exact this)
            | (have e : lo = 0 := by rw [elo, if_pos (by omega)]
               have := w74 σ_30 f_30 hst
               rw [e] at this
               exact this)
      · refine wp_iconst (pc := 46) dX7_readsStep_46 (by decide) ?_
        refine wp_goto (pc := 47) 74 dX7_readsStep_47 (by decide) ?_
        first
          | (have e : lo = s.S 4 (cnt * 8 + (i - 1)) + 1 := by rw [elo, if_neg (by omega)]
             have := w74 σ_30 f_30 hst
             rw [e] at this
             exact this)
          | (have e : lo = 0 := by rw [elo, if_pos (by omega)]
             have := w74 σ_30 f_30 hst
             rw [e] at this
             exact this)
