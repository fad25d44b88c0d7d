set_option maxHeartbeats 4000000 in
set_option maxRecDepth 100000 in
theorem nm3_bd (P : Nat → Prop) : nm3 P = 0 ∨ nm3 P = 1 ∨ nm3 P = 2 ∨ nm3 P = -4 := by
  by_cases h0 : P 0
  · left; exact nm3_of0 h0
  · by_cases h1 : P 1
    · right; left; exact nm3_of1 h0 h1
    · by_cases h2 : P 2
      · right; right; left; exact nm3_of2 h0 h1 h2
      · right; right; right; exact nm3_no h0 h1 h2
set_option maxHeartbeats 4000000 in
set_option maxRecDepth 100000 in
theorem m_readsLine {t : Int → Int} {n : Int} {σ : Sto} {s P : PS} (hg : MG t n σ s (s.S 0 0)) (hp : PG n s) (hP : P = pLin t n s) : CtV yX7_readsLine cX7_readsLine 2 none 5 [mR 71] σ (fun σ' => RFs σ σ' ∧ MS t n σ' P (P.S 0 0)) := by
  refine ct_of rfl [some (mR 71), none] (Nat.le_of_ble_eq_true rfl) rfl (fun hσ => ?_)
  show Wp cX7_readsLine RX7 none 5 0 [some (mR 71), none] [] _ _
  have hb := hg.1
  have k10 := hg.2.2.1
  have k12 := hg.2.2.2.1
  have k13 := hg.2.2.2.2.1
  have kk := tok1 hg
  have htb := tk_bd (t := t) hb.2.2.2.2.1.1 hb.2.2.2.2.1.2
  have hn4 := hb.1
  have hx0 := hb.2.2.2.2.1
  have hf0 : s.f = 0 := hb.2.2.2.2.2.2.2.2.2.2
  have h5 : σ 71 5 = s.S 0 0 := hb.2.2.2.2.2.2.2.2.1
  have e730 : σ 73 0 = s.D 0 0 := hb.2.2.2.2.2.2.1.1
  have hnx := nx_bd (t := t) hx0
  have hpn : PG n (s.nx t n) := ⟨⟨Int.le_trans hx0.1 hnx.1, hnx.2⟩, hf0, hp.2.2.1, hp.2.2.2⟩
  have hS0 := hp.2.2.2.1
  have hD0 := hp.2.2.1.1
  -- the end of a line
  have w126 : ∀ (τ : Sto) (q : PS) (cnt w : Int), RFs σ τ → MS t n τ q cnt → SM t n P q → (q.f = 0 → q.S 0 0 = cnt) → Wp cX7_readsLine RX7 none 5 126 [some (mR 71), some (mI w)] [] τ (fun v σ' => v = none ∧ (fun σ' => RFs σ σ' ∧ MS t n σ' P (P.S 0 0)) σ') := by
    intro τ q cnt w hF hM hsm hq
    rcases hM with hgq | hbq
    · have hqf : q.f = 0 := hgq.1.2.2.2.2.2.2.2.2.2.2
      have q10 := hgq.2.2.1
      have hts := tokS hgq
      have hPq : P = semi t n q := by
        rcases hsm with c | c
        · exact c.2
        · exact absurd hqf c.1
      have hcq := hq hqf
      unfold semi at hPq
      have g152 : ∀ υ : Sto, Fr1 τ υ → υ 71 10 = 0 → υ 71 12 = τ 71 12 → tkK t n q.x = 4 → Wp cX7_readsLine RX7 none 5 152 [some (mR 71), some (mI w)] [] υ (fun v σ' => v = none ∧ (fun σ' => RFs σ σ' ∧ MS t n σ' P (P.S 0 0)) σ') := by
        intro υ hf u10 u12 hk
        rw [if_pos hk] at hPq
        refine wp_aload_n (pc := 152) dX7_readsLine_152 rfl rfl ?_
        refine wp_cvV0 (pc := 153) dX7_readsLine_153 mv_X7_115 (m_readsU (t := t) (n := n) (cnt := cnt) (q := q.nx t n) (by omega) (fun _ => hgq.nx hf u12)) (Nat.le_of_ble_eq_true rfl) rfl (Nat.le_of_ble_eq_true rfl) (fun σ_153 h_153 => ?_)
        obtain ⟨f153, q153⟩ := h_153
        refine wp_return (pc := 156) dX7_readsLine_156 rfl ?_
        refine ⟨rfl, (hF.tr hf.r.s).tr f153.r.s, ?_⟩
        rw [hPq]
        show MS t n σ_153 (q.nx t n) (q.S 0 0)
        rw [hcq]
        rcases q153 with c | c
        · exact c.2
        · omega
      have b152 : ∀ υ : Sto, Fr1 τ υ → υ 71 10 = 2 → υ 71 11 = τ 71 13 → ¬ tkK t n q.x = 4 → Wp cX7_readsLine RX7 none 5 152 [some (mR 71), some (mI w)] [] υ (fun v σ' => v = none ∧ (fun σ' => RFs σ σ' ∧ MS t n σ' P (P.S 0 0)) σ') := by
        intro υ hf u10 u11 hk
        rw [if_neg hk] at hPq
        refine wp_aload_n (pc := 152) dX7_readsLine_152 rfl rfl ?_
        refine wp_cvV0 (pc := 153) dX7_readsLine_153 mv_X7_115 (m_reads0 (by omega)) (Nat.le_of_ble_eq_true rfl) rfl (Nat.le_of_ble_eq_true rfl) (fun σ_153 h_153 => ?_)
        subst h_153
        refine wp_return (pc := 156) dX7_readsLine_156 rfl ?_
        refine ⟨rfl, hF.tr hf.r.s, ?_⟩
        rw [hPq]
        exact Or.inr (hgq.no (by decide) u10 u11)
      refine wp_aload_n (pc := 126) dX7_readsLine_126 rfl rfl ?_
      refine wp_aload_n (pc := 127) dX7_readsLine_127 rfl rfl ?_
      refine wp_getI (pc := 128) 10 dX7_readsLine_128 fl_X7_81 rfl rfl ?_
      refine wp_if_gt (pc := 131) 143 dX7_readsLine_131 (by decide) (fun c_131 => ?_) (fun c_131 => ?_)
      · refine wp_iconst (pc := 143) dX7_readsLine_143 (by decide) ?_
        refine wp_goto (pc := 144) 148 dX7_readsLine_144 (by decide) ?_
        refine wp_iconst (pc := 148) dX7_readsLine_148 (by decide) ?_
        refine wp_cvV2 (pc := 149) dX7_readsLine_149 mv_X7_111 m_mustP (Nat.le_of_ble_eq_true rfl) rfl (Nat.le_of_ble_eq_true rfl) (fun σ_149 h_149 => ?_)
        have g_149 := h_149; obtain ⟨f_149, a12_149, a13_149, a14_149, a15_149, q_149⟩ := h_149; clear q_149; first | have w_149 := g_149.no (Or.inl (by decide)) | have w_149 := g_149.yes rfl (by omega)
        first
          | (exfalso; omega)
          | exact g152 _ f_149 (by omega) (by omega) (by omega)
          | exact b152 _ f_149 (by omega) (by omega) (by omega)
      · refine wp_aload_n (pc := 134) dX7_readsLine_134 rfl rfl ?_
        refine wp_bipush (pc := 135) dX7_readsLine_135 (by decide) (by decide) ?_
        refine wp_cvI1 (pc := 137) dX7_readsLine_137 mv_X7_149 (m_isSign) (Nat.le_of_ble_eq_true rfl) rfl (Nat.le_of_ble_eq_true rfl) (fun z_137 σ_137 h_137 => ?_)
        obtain ⟨y_137, e_137⟩ := h_137; have e2_137 := e_137.symm; subst e2_137
        refine wp_if_eq (pc := 140) 147 dX7_readsLine_140 (by decide) (fun c_140 => ?_) (fun c_140 => ?_)
        · refine wp_iconst (pc := 147) dX7_readsLine_147 (by decide) ?_
          refine wp_iconst (pc := 148) dX7_readsLine_148 (by decide) ?_
          refine wp_cvV2 (pc := 149) dX7_readsLine_149 mv_X7_111 m_mustP (Nat.le_of_ble_eq_true rfl) rfl (Nat.le_of_ble_eq_true rfl) (fun σ_149 h_149 => ?_)
          have g_149 := h_149; obtain ⟨f_149, a12_149, a13_149, a14_149, a15_149, q_149⟩ := h_149; clear q_149; first | have w_149 := g_149.no (Or.inl (by decide)) | have w_149 := g_149.yes rfl (by omega)
          first
            | (exfalso; omega)
            | exact g152 _ f_149 (by omega) (by omega) (by omega)
            | exact b152 _ f_149 (by omega) (by omega) (by omega)
        · refine wp_iconst (pc := 143) dX7_readsLine_143 (by decide) ?_
          refine wp_goto (pc := 144) 148 dX7_readsLine_144 (by decide) ?_
          refine wp_iconst (pc := 148) dX7_readsLine_148 (by decide) ?_
          refine wp_cvV2 (pc := 149) dX7_readsLine_149 mv_X7_111 m_mustP (Nat.le_of_ble_eq_true rfl) rfl (Nat.le_of_ble_eq_true rfl) (fun σ_149 h_149 => ?_)
          have g_149 := h_149; obtain ⟨f_149, a12_149, a13_149, a14_149, a15_149, q_149⟩ := h_149; clear q_149; first | have w_149 := g_149.no (Or.inl (by decide)) | have w_149 := g_149.yes rfl (by omega)
          first
            | (exfalso; omega)
            | exact g152 _ f_149 (by omega) (by omega) (by omega)
            | exact b152 _ f_149 (by omega) (by omega) (by omega)
    · have hbP : MSb t n τ P := by
        rcases hsm with c | c
        · have hk3 : tkK t n q.x = 0 := by
            rcases hbq.2.2 with e | e
            · exact absurd c.1 e.1
            · exact e.2.1
          have e : P = q.bad t n 2 := by rw [c.2]; unfold semi; rw [if_neg (by omega)]
          rw [e]; exact hbq.on c.1
        · rw [c.2]; exact hbq
      have h0 := hbq.1
      refine wp_aload_n (pc := 126) dX7_readsLine_126 rfl rfl ?_
      refine wp_aload_n (pc := 127) dX7_readsLine_127 rfl rfl ?_
      refine wp_getI (pc := 128) 10 dX7_readsLine_128 fl_X7_81 rfl rfl ?_
      refine wp_if_gt (pc := 131) 143 dX7_readsLine_131 (by decide) (fun c_131 => ?_) (fun c_131 => ?_)
      · refine wp_iconst (pc := 143) dX7_readsLine_143 (by decide) ?_
        refine wp_goto (pc := 144) 148 dX7_readsLine_144 (by decide) ?_
        refine wp_iconst (pc := 148) dX7_readsLine_148 (by decide) ?_
        refine wp_cvV2 (pc := 149) dX7_readsLine_149 mv_X7_111 m_mustP (Nat.le_of_ble_eq_true rfl) rfl (Nat.le_of_ble_eq_true rfl) (fun σ_149 h_149 => ?_)
        have g_149 := h_149; obtain ⟨f_149, a12_149, a13_149, a14_149, a15_149, q_149⟩ := h_149; clear q_149; first | have w_149 := g_149.no (Or.inl (by decide)) | have w_149 := g_149.yes rfl (by omega)
        refine wp_aload_n (pc := 152) dX7_readsLine_152 rfl rfl ?_
        refine wp_cvV0 (pc := 153) dX7_readsLine_153 mv_X7_115 (m_reads0 (by omega)) (Nat.le_of_ble_eq_true rfl) rfl (Nat.le_of_ble_eq_true rfl) (fun σ_153 h_153 => ?_)
        subst h_153
        refine wp_return (pc := 156) dX7_readsLine_156 rfl ?_
        refine ⟨rfl, hF.tr f_149.r.s, Or.inr ?_⟩
        unfold MSb at *
        rw [w_149.1, w_149.2]; exact hbP
      · omega
  generalize hW : nm3 (s.nm t n) = W
  have hWb := nm3_bd (s.nm t n)
  rw [hW] at hWb
  unfold pLin at hP
  rw [hW] at hP
  refine wp_aload_n (pc := 0) dX7_readsLine_0 rfl rfl ?_
  refine wp_iconst (pc := 1) dX7_readsLine_1 (by decide) ?_
  refine wp_iconst (pc := 2) dX7_readsLine_2 (by decide) ?_
  refine wp_cvI2 (pc := 3) dX7_readsLine_3 mv_X7_118 (m_nameNow (t := t) (n := n) (hs := tkS t n s.x) (m := tkE t n s.x - tkS t n s.x) hb.2.2.2.2.2.2.2.2.2.1 hb.2.1 hb.1.2 hb.2.2.1 k13 (by omega) (by omega) (by omega)) (Nat.le_of_ble_eq_true rfl) rfl (Nat.le_of_ble_eq_true rfl) (fun z_3 σ_3 h_3 => ?_)
  obtain ⟨zz_3, e_3⟩ := h_3; have e2_3 := e_3.symm; subst e2_3
  have hz : (tkK t n s.x = 1 ∧ z_3 = W) ∨ (¬ tkK t n s.x = 1 ∧ z_3 = -4) := by
    by_cases h1 : tkK t n s.x = 1
    · left
      refine ⟨h1, ?_⟩
      rw [← hW]
      refine nm3_to ?_
      rcases zz_3 with ⟨w, w1, w2, w3, w4, w5, w6⟩ | ⟨w1, w2⟩
      · exact Or.inl ⟨w, w1, w2, w4, w5, w6⟩
      · exact Or.inr ⟨w1, w2 (by omega)⟩
    · right
      refine ⟨h1, ?_⟩
      rcases zz_3 with ⟨w, w1, w2, w3, w4, w5, w6⟩ | ⟨w1, w2⟩
      · omega
      · exact w1
  clear zz_3 kk
  refine wp_istore_n (pc := 6) dX7_readsLine_6 rfl (Nat.le_of_ble_eq_true rfl) rfl ?_
  refine wp_aload_n (pc := 7) dX7_readsLine_7 rfl rfl ?_
  refine wp_iload_n (pc := 8) dX7_readsLine_8 rfl rfl ?_
  refine wp_bipush (pc := 9) dX7_readsLine_9 (by decide) (by decide) ?_
  refine wp_icmp_eq (pc := 11) 18 dX7_readsLine_11 (by decide) (fun c_11 => ?_) (fun c_11 => ?_)
  · refine wp_iconst (pc := 18) dX7_readsLine_18 (by decide) ?_
    refine wp_iconst (pc := 19) dX7_readsLine_19 (by decide) ?_
    refine wp_cvV2 (pc := 20) dX7_readsLine_20 mv_X7_111 m_mustP (Nat.le_of_ble_eq_true rfl) rfl (Nat.le_of_ble_eq_true rfl) (fun σ_20 h_20 => ?_)
    have g_20 := h_20; obtain ⟨f_20, a12_20, a13_20, a14_20, a15_20, q_20⟩ := h_20; clear q_20; first | have w_20 := g_20.no (Or.inl (by decide)) | have w_20 := g_20.yes rfl (by omega)
    refine wp_aload_n (pc := 23) dX7_readsLine_23 rfl rfl ?_
    refine wp_aload_n (pc := 24) dX7_readsLine_24 rfl rfl ?_
    refine wp_getI (pc := 25) 10 dX7_readsLine_25 fl_X7_81 rfl rfl ?_
    refine wp_if_gt (pc := 28) 45 dX7_readsLine_28 (by decide) (fun c_28 => ?_) (fun c_28 => ?_)
    · refine wp_iconst (pc := 45) dX7_readsLine_45 (by decide) ?_
      refine wp_goto (pc := 46) 50 dX7_readsLine_46 (by decide) ?_
      refine wp_iconst (pc := 50) dX7_readsLine_50 (by decide) ?_
      refine wp_cvV2 (pc := 51) dX7_readsLine_51 mv_X7_111 m_mustP (Nat.le_of_ble_eq_true rfl) rfl (Nat.le_of_ble_eq_true rfl) (fun σ_51 h_51 => ?_)
      have g_51 := h_51; obtain ⟨f_51, a12_51, a13_51, a14_51, a15_51, q_51⟩ := h_51; clear q_51; first | have w_51 := g_51.no (Or.inl (by decide)) | have w_51 := g_51.yes rfl (by omega)
      refine wp_aload_n (pc := 54) dX7_readsLine_54 rfl rfl ?_
      refine wp_aload_n (pc := 55) dX7_readsLine_55 rfl rfl ?_
      refine wp_getI (pc := 56) 10 dX7_readsLine_56 fl_X7_81 rfl rfl ?_
      refine wp_if_gt (pc := 59) 78 dX7_readsLine_59 (by decide) (fun c_59 => ?_) (fun c_59 => ?_)
      · refine wp_iconst (pc := 78) dX7_readsLine_78 (by decide) ?_
        refine wp_goto (pc := 79) 83 dX7_readsLine_79 (by decide) ?_
        refine wp_iconst (pc := 83) dX7_readsLine_83 (by decide) ?_
        refine wp_cvV2 (pc := 84) dX7_readsLine_84 mv_X7_111 m_mustP (Nat.le_of_ble_eq_true rfl) rfl (Nat.le_of_ble_eq_true rfl) (fun σ_84 h_84 => ?_)
        have g_84 := h_84; obtain ⟨f_84, a12_84, a13_84, a14_84, a15_84, q_84⟩ := h_84; clear q_84; first | have w_84 := g_84.no (Or.inl (by decide)) | have w_84 := g_84.yes rfl (by omega)
        refine wp_aload_n (pc := 87) dX7_readsLine_87 rfl rfl ?_
        have F84 := (f_20.tr f_51).tr f_84
        refine wp_cvV0 (pc := 88) dX7_readsLine_88 mv_X7_115 (m_readsU (t := t) (n := n) (cnt := s.S 0 0) (q := s.nx t n) (by omega) (fun z => hg.nx F84 (by omega))) (Nat.le_of_ble_eq_true rfl) rfl (Nat.le_of_ble_eq_true rfl) (fun σ_88 h_88 => ?_)
        obtain ⟨f88, q88⟩ := h_88
        refine wp_aload_n (pc := 91) dX7_readsLine_91 rfl rfl ?_
        refine wp_getI (pc := 92) 10 dX7_readsLine_92 fl_X7_81 rfl rfl ?_
        refine wp_if_le (pc := 95) 99 dX7_readsLine_95 (by decide) (fun c_95 => ?_) (fun c_95 => ?_)
        · have hok : σ_84 71 10 = 0 ∧ MS t n σ_88 (s.nx t n) (s.S 0 0) := by
            rcases q88 with c | c
            · exact c
            · rw [c.2] at c_95; omega
          have hg3 := hok.2.good (by omega)
          have F88 := (F84.tr f88).r
          refine wp_iload_n (pc := 99) dX7_readsLine_99 rfl rfl ?_
          refine wp_if_ne (pc := 100) 110 dX7_readsLine_100 (by decide) (fun c_100 => ?_) (fun c_100 => ?_)
          · refine wp_iload_n (pc := 110) dX7_readsLine_110 rfl rfl ?_
            refine wp_iconst (pc := 111) dX7_readsLine_111 (by decide) ?_
            refine wp_icmp_ne (pc := 112) 122 dX7_readsLine_112 (by decide) (fun c_112 => ?_) (fun c_112 => ?_)
            · refine wp_aload_n (pc := 122) dX7_readsLine_122 rfl rfl ?_
              refine wp_cvV0 (pc := 123) dX7_readsLine_123 mv_X7_162 (m_readsPar hg3 hpn rfl (by show s.D 0 0 < 8; omega) rfl) (Nat.le_of_ble_eq_true rfl) rfl (Nat.le_of_ble_eq_true rfl) (fun σ_123 h_123 => ?_)
              obtain ⟨f123, q123, m123, s123, c123⟩ := h_123
              first
                | (exfalso; omega)
                | (refine w126 _ q104 _ _ (F88.s.tr f104.s) m104 ?_ c104
                   rw [hP, if_neg (by omega), if_pos (by omega)]; exact s104)
                | (refine w126 _ q116 _ _ (F88.s.tr f116) m116 ?_ c116
                   rw [hP, if_neg (by omega), if_neg (by omega), if_pos (by omega), if_neg (by omega)]; exact s116)
                | (refine w126 _ q123 _ _ (F88.s.tr f123.s) m123 ?_ c123
                   rw [hP, if_neg (by omega), if_neg (by omega), if_neg (by omega), if_neg (by omega)]; exact s123)
            · refine wp_aload_n (pc := 115) dX7_readsLine_115 rfl rfl ?_
              refine wp_cvV0 (pc := 116) dX7_readsLine_116 mv_X7_159 (m_readsShape hg3 hpn rfl (by omega) rfl) (Nat.le_of_ble_eq_true rfl) rfl (Nat.le_of_ble_eq_true rfl) (fun σ_116 h_116 => ?_)
              obtain ⟨f116, q116, m116, s116, c116⟩ := h_116
              refine wp_goto (pc := 119) 126 dX7_readsLine_119 (by decide) ?_
              first
                | (exfalso; omega)
                | (refine w126 _ q104 _ _ (F88.s.tr f104.s) m104 ?_ c104
                   rw [hP, if_neg (by omega), if_pos (by omega)]; exact s104)
                | (refine w126 _ q116 _ _ (F88.s.tr f116) m116 ?_ c116
                   rw [hP, if_neg (by omega), if_neg (by omega), if_pos (by omega), if_neg (by omega)]; exact s116)
                | (refine w126 _ q123 _ _ (F88.s.tr f123.s) m123 ?_ c123
                   rw [hP, if_neg (by omega), if_neg (by omega), if_neg (by omega), if_neg (by omega)]; exact s123)
          · refine wp_aload_n (pc := 103) dX7_readsLine_103 rfl rfl ?_
            refine wp_cvV0 (pc := 104) dX7_readsLine_104 mv_X7_156 (m_readsSetting hg3 hpn rfl rfl) (Nat.le_of_ble_eq_true rfl) rfl (Nat.le_of_ble_eq_true rfl) (fun σ_104 h_104 => ?_)
            obtain ⟨f104, q104, m104, s104, c104⟩ := h_104
            refine wp_goto (pc := 107) 126 dX7_readsLine_107 (by decide) ?_
            first
              | (exfalso; omega)
              | (refine w126 _ q104 _ _ (F88.s.tr f104.s) m104 ?_ c104
                 rw [hP, if_neg (by omega), if_pos (by omega)]; exact s104)
              | (refine w126 _ q116 _ _ (F88.s.tr f116) m116 ?_ c116
                 rw [hP, if_neg (by omega), if_neg (by omega), if_pos (by omega), if_neg (by omega)]; exact s116)
              | (refine w126 _ q123 _ _ (F88.s.tr f123.s) m123 ?_ c123
                 rw [hP, if_neg (by omega), if_neg (by omega), if_neg (by omega), if_neg (by omega)]; exact s123)
        · refine wp_return (pc := 98) dX7_readsLine_98 rfl ?_
          first
            | (exfalso; omega)
            | (refine ⟨rfl, (F84.tr f88).r.s, Or.inr ?_⟩
               rcases q88 with d | d
               · have hbad := d.2.bad (by omega)
                 have hk3 : tkK t n (s.nx t n).x = 0 := by
                   rcases hbad.2.2 with e | e
                   · exact absurd hf0 e.1
                   · exact e.2.1
                 have hPb : P = (s.nx t n).bad t n 2 := by
                   rw [hP, if_neg (by omega)]
                   rcases (show W = 0 ∨ W = 1 ∨ W = 2 by omega) with e | e | e
                   · rw [if_pos e]; unfold pSet; rw [if_pos (Or.inl (by omega))]
                   · rw [if_neg (by omega), if_pos e, if_neg (by omega)]; unfold pShp; rw [if_pos (by omega)]
                   · rw [if_neg (by omega), if_neg (by omega), if_neg (by omega)]; unfold pPar; rw [if_pos (by omega)]; unfold pBdy; rw [if_pos (by omega)]
                 rw [hPb]; exact hbad.on hf0
               · rw [d.2]
                 first
                   | (rw [hP, if_pos (by omega)]; exact hg.no (by decide) (by omega) (by omega))
                   | (rw [hP, if_neg (by omega), if_neg (by omega), if_pos (by omega), if_pos (by omega)]; exact hg.no (by decide) (by omega) (by omega))
                   | (rw [hP, if_neg (by omega), if_neg (by omega), if_neg (by omega), if_pos (by omega)]; exact hg.no (by decide) (by omega) (by omega)))
      · refine wp_iload_n (pc := 62) dX7_readsLine_62 rfl rfl ?_
        refine wp_iconst (pc := 63) dX7_readsLine_63 (by decide) ?_
        refine wp_icmp_ne (pc := 64) 78 dX7_readsLine_64 (by decide) (fun c_64 => ?_) (fun c_64 => ?_)
        · refine wp_iconst (pc := 78) dX7_readsLine_78 (by decide) ?_
          refine wp_goto (pc := 79) 83 dX7_readsLine_79 (by decide) ?_
          refine wp_iconst (pc := 83) dX7_readsLine_83 (by decide) ?_
          refine wp_cvV2 (pc := 84) dX7_readsLine_84 mv_X7_111 m_mustP (Nat.le_of_ble_eq_true rfl) rfl (Nat.le_of_ble_eq_true rfl) (fun σ_84 h_84 => ?_)
          have g_84 := h_84; obtain ⟨f_84, a12_84, a13_84, a14_84, a15_84, q_84⟩ := h_84; clear q_84; first | have w_84 := g_84.no (Or.inl (by decide)) | have w_84 := g_84.yes rfl (by omega)
          refine wp_aload_n (pc := 87) dX7_readsLine_87 rfl rfl ?_
          have F84 := (f_20.tr f_51).tr f_84
          refine wp_cvV0 (pc := 88) dX7_readsLine_88 mv_X7_115 (m_readsU (t := t) (n := n) (cnt := s.S 0 0) (q := s.nx t n) (by omega) (fun z => hg.nx F84 (by omega))) (Nat.le_of_ble_eq_true rfl) rfl (Nat.le_of_ble_eq_true rfl) (fun σ_88 h_88 => ?_)
          obtain ⟨f88, q88⟩ := h_88
          refine wp_aload_n (pc := 91) dX7_readsLine_91 rfl rfl ?_
          refine wp_getI (pc := 92) 10 dX7_readsLine_92 fl_X7_81 rfl rfl ?_
          refine wp_if_le (pc := 95) 99 dX7_readsLine_95 (by decide) (fun c_95 => ?_) (fun c_95 => ?_)
          · have hok : σ_84 71 10 = 0 ∧ MS t n σ_88 (s.nx t n) (s.S 0 0) := by
              rcases q88 with c | c
              · exact c
              · rw [c.2] at c_95; omega
            have hg3 := hok.2.good (by omega)
            have F88 := (F84.tr f88).r
            refine wp_iload_n (pc := 99) dX7_readsLine_99 rfl rfl ?_
            refine wp_if_ne (pc := 100) 110 dX7_readsLine_100 (by decide) (fun c_100 => ?_) (fun c_100 => ?_)
            · refine wp_iload_n (pc := 110) dX7_readsLine_110 rfl rfl ?_
              refine wp_iconst (pc := 111) dX7_readsLine_111 (by decide) ?_
              refine wp_icmp_ne (pc := 112) 122 dX7_readsLine_112 (by decide) (fun c_112 => ?_) (fun c_112 => ?_)
              · refine wp_aload_n (pc := 122) dX7_readsLine_122 rfl rfl ?_
                refine wp_cvV0 (pc := 123) dX7_readsLine_123 mv_X7_162 (m_readsPar hg3 hpn rfl (by show s.D 0 0 < 8; omega) rfl) (Nat.le_of_ble_eq_true rfl) rfl (Nat.le_of_ble_eq_true rfl) (fun σ_123 h_123 => ?_)
                obtain ⟨f123, q123, m123, s123, c123⟩ := h_123
                first
                  | (exfalso; omega)
                  | (refine w126 _ q104 _ _ (F88.s.tr f104.s) m104 ?_ c104
                     rw [hP, if_neg (by omega), if_pos (by omega)]; exact s104)
                  | (refine w126 _ q116 _ _ (F88.s.tr f116) m116 ?_ c116
                     rw [hP, if_neg (by omega), if_neg (by omega), if_pos (by omega), if_neg (by omega)]; exact s116)
                  | (refine w126 _ q123 _ _ (F88.s.tr f123.s) m123 ?_ c123
                     rw [hP, if_neg (by omega), if_neg (by omega), if_neg (by omega), if_neg (by omega)]; exact s123)
              · refine wp_aload_n (pc := 115) dX7_readsLine_115 rfl rfl ?_
                refine wp_cvV0 (pc := 116) dX7_readsLine_116 mv_X7_159 (m_readsShape hg3 hpn rfl (by omega) rfl) (Nat.le_of_ble_eq_true rfl) rfl (Nat.le_of_ble_eq_true rfl) (fun σ_116 h_116 => ?_)
                obtain ⟨f116, q116, m116, s116, c116⟩ := h_116
                refine wp_goto (pc := 119) 126 dX7_readsLine_119 (by decide) ?_
                first
                  | (exfalso; omega)
                  | (refine w126 _ q104 _ _ (F88.s.tr f104.s) m104 ?_ c104
                     rw [hP, if_neg (by omega), if_pos (by omega)]; exact s104)
                  | (refine w126 _ q116 _ _ (F88.s.tr f116) m116 ?_ c116
                     rw [hP, if_neg (by omega), if_neg (by omega), if_pos (by omega), if_neg (by omega)]; exact s116)
                  | (refine w126 _ q123 _ _ (F88.s.tr f123.s) m123 ?_ c123
                     rw [hP, if_neg (by omega), if_neg (by omega), if_neg (by omega), if_neg (by omega)]; exact s123)
            · refine wp_aload_n (pc := 103) dX7_readsLine_103 rfl rfl ?_
              refine wp_cvV0 (pc := 104) dX7_readsLine_104 mv_X7_156 (m_readsSetting hg3 hpn rfl rfl) (Nat.le_of_ble_eq_true rfl) rfl (Nat.le_of_ble_eq_true rfl) (fun σ_104 h_104 => ?_)
              obtain ⟨f104, q104, m104, s104, c104⟩ := h_104
              refine wp_goto (pc := 107) 126 dX7_readsLine_107 (by decide) ?_
              first
                | (exfalso; omega)
                | (refine w126 _ q104 _ _ (F88.s.tr f104.s) m104 ?_ c104
                   rw [hP, if_neg (by omega), if_pos (by omega)]; exact s104)
                | (refine w126 _ q116 _ _ (F88.s.tr f116) m116 ?_ c116
                   rw [hP, if_neg (by omega), if_neg (by omega), if_pos (by omega), if_neg (by omega)]; exact s116)
                | (refine w126 _ q123 _ _ (F88.s.tr f123.s) m123 ?_ c123
                   rw [hP, if_neg (by omega), if_neg (by omega), if_neg (by omega), if_neg (by omega)]; exact s123)
          · refine wp_return (pc := 98) dX7_readsLine_98 rfl ?_
            first
              | (exfalso; omega)
              | (refine ⟨rfl, (F84.tr f88).r.s, Or.inr ?_⟩
                 rcases q88 with d | d
                 · have hbad := d.2.bad (by omega)
                   have hk3 : tkK t n (s.nx t n).x = 0 := by
                     rcases hbad.2.2 with e | e
                     · exact absurd hf0 e.1
                     · exact e.2.1
                   have hPb : P = (s.nx t n).bad t n 2 := by
                     rw [hP, if_neg (by omega)]
                     rcases (show W = 0 ∨ W = 1 ∨ W = 2 by omega) with e | e | e
                     · rw [if_pos e]; unfold pSet; rw [if_pos (Or.inl (by omega))]
                     · rw [if_neg (by omega), if_pos e, if_neg (by omega)]; unfold pShp; rw [if_pos (by omega)]
                     · rw [if_neg (by omega), if_neg (by omega), if_neg (by omega)]; unfold pPar; rw [if_pos (by omega)]; unfold pBdy; rw [if_pos (by omega)]
                   rw [hPb]; exact hbad.on hf0
                 · rw [d.2]
                   first
                     | (rw [hP, if_pos (by omega)]; exact hg.no (by decide) (by omega) (by omega))
                     | (rw [hP, if_neg (by omega), if_neg (by omega), if_pos (by omega), if_pos (by omega)]; exact hg.no (by decide) (by omega) (by omega))
                     | (rw [hP, if_neg (by omega), if_neg (by omega), if_neg (by omega), if_pos (by omega)]; exact hg.no (by decide) (by omega) (by omega)))
        · refine wp_aload_n (pc := 67) dX7_readsLine_67 rfl rfl ?_
          refine wp_getR (pc := 68) (q := 73) dX7_readsLine_68 fl_X7_13 rfl ?_
          refine wp_iconst (pc := 71) dX7_readsLine_71 (by decide) ?_
          refine wp_iald (pc := 72) 591 dX7_readsLine_72 rfl (by omega) ?_
          rw [show σ_51 73 0 = s.D 0 0 by rw [f_51.1 73 (by decide), f_20.1 73 (by decide)]; exact e730]
          refine wp_bipush (pc := 73) dX7_readsLine_73 (by decide) (by decide) ?_
          refine wp_icmp_ge (pc := 75) 82 dX7_readsLine_75 (by decide) (fun c_75 => ?_) (fun c_75 => ?_)
          · refine wp_iconst (pc := 82) dX7_readsLine_82 (by decide) ?_
            refine wp_iconst (pc := 83) dX7_readsLine_83 (by decide) ?_
            refine wp_cvV2 (pc := 84) dX7_readsLine_84 mv_X7_111 m_mustP (Nat.le_of_ble_eq_true rfl) rfl (Nat.le_of_ble_eq_true rfl) (fun σ_84 h_84 => ?_)
            have g_84 := h_84; obtain ⟨f_84, a12_84, a13_84, a14_84, a15_84, q_84⟩ := h_84; clear q_84; first | have w_84 := g_84.no (Or.inl (by decide)) | have w_84 := g_84.yes rfl (by omega)
            refine wp_aload_n (pc := 87) dX7_readsLine_87 rfl rfl ?_
            have F84 := (f_20.tr f_51).tr f_84
            refine wp_cvV0 (pc := 88) dX7_readsLine_88 mv_X7_115 (m_readsU (t := t) (n := n) (cnt := s.S 0 0) (q := s.nx t n) (by omega) (fun z => hg.nx F84 (by omega))) (Nat.le_of_ble_eq_true rfl) rfl (Nat.le_of_ble_eq_true rfl) (fun σ_88 h_88 => ?_)
            obtain ⟨f88, q88⟩ := h_88
            refine wp_aload_n (pc := 91) dX7_readsLine_91 rfl rfl ?_
            refine wp_getI (pc := 92) 10 dX7_readsLine_92 fl_X7_81 rfl rfl ?_
            refine wp_if_le (pc := 95) 99 dX7_readsLine_95 (by decide) (fun c_95 => ?_) (fun c_95 => ?_)
            · have hok : σ_84 71 10 = 0 ∧ MS t n σ_88 (s.nx t n) (s.S 0 0) := by
                rcases q88 with c | c
                · exact c
                · rw [c.2] at c_95; omega
              have hg3 := hok.2.good (by omega)
              have F88 := (F84.tr f88).r
              refine wp_iload_n (pc := 99) dX7_readsLine_99 rfl rfl ?_
              refine wp_if_ne (pc := 100) 110 dX7_readsLine_100 (by decide) (fun c_100 => ?_) (fun c_100 => ?_)
              · refine wp_iload_n (pc := 110) dX7_readsLine_110 rfl rfl ?_
                refine wp_iconst (pc := 111) dX7_readsLine_111 (by decide) ?_
                refine wp_icmp_ne (pc := 112) 122 dX7_readsLine_112 (by decide) (fun c_112 => ?_) (fun c_112 => ?_)
                · refine wp_aload_n (pc := 122) dX7_readsLine_122 rfl rfl ?_
                  refine wp_cvV0 (pc := 123) dX7_readsLine_123 mv_X7_162 (m_readsPar hg3 hpn rfl (by show s.D 0 0 < 8; omega) rfl) (Nat.le_of_ble_eq_true rfl) rfl (Nat.le_of_ble_eq_true rfl) (fun σ_123 h_123 => ?_)
                  obtain ⟨f123, q123, m123, s123, c123⟩ := h_123
                  first
                    | (exfalso; omega)
                    | (refine w126 _ q104 _ _ (F88.s.tr f104.s) m104 ?_ c104
                       rw [hP, if_neg (by omega), if_pos (by omega)]; exact s104)
                    | (refine w126 _ q116 _ _ (F88.s.tr f116) m116 ?_ c116
                       rw [hP, if_neg (by omega), if_neg (by omega), if_pos (by omega), if_neg (by omega)]; exact s116)
                    | (refine w126 _ q123 _ _ (F88.s.tr f123.s) m123 ?_ c123
                       rw [hP, if_neg (by omega), if_neg (by omega), if_neg (by omega), if_neg (by omega)]; exact s123)
                · refine wp_aload_n (pc := 115) dX7_readsLine_115 rfl rfl ?_
                  refine wp_cvV0 (pc := 116) dX7_readsLine_116 mv_X7_159 (m_readsShape hg3 hpn rfl (by omega) rfl) (Nat.le_of_ble_eq_true rfl) rfl (Nat.le_of_ble_eq_true rfl) (fun σ_116 h_116 => ?_)
                  obtain ⟨f116, q116, m116, s116, c116⟩ := h_116
                  refine wp_goto (pc := 119) 126 dX7_readsLine_119 (by decide) ?_
                  first
                    | (exfalso; omega)
                    | (refine w126 _ q104 _ _ (F88.s.tr f104.s) m104 ?_ c104
                       rw [hP, if_neg (by omega), if_pos (by omega)]; exact s104)
                    | (refine w126 _ q116 _ _ (F88.s.tr f116) m116 ?_ c116
                       rw [hP, if_neg (by omega), if_neg (by omega), if_pos (by omega), if_neg (by omega)]; exact s116)
                    | (refine w126 _ q123 _ _ (F88.s.tr f123.s) m123 ?_ c123
                       rw [hP, if_neg (by omega), if_neg (by omega), if_neg (by omega), if_neg (by omega)]; exact s123)
              · refine wp_aload_n (pc := 103) dX7_readsLine_103 rfl rfl ?_
                refine wp_cvV0 (pc := 104) dX7_readsLine_104 mv_X7_156 (m_readsSetting hg3 hpn rfl rfl) (Nat.le_of_ble_eq_true rfl) rfl (Nat.le_of_ble_eq_true rfl) (fun σ_104 h_104 => ?_)
                obtain ⟨f104, q104, m104, s104, c104⟩ := h_104
                refine wp_goto (pc := 107) 126 dX7_readsLine_107 (by decide) ?_
                first
                  | (exfalso; omega)
                  | (refine w126 _ q104 _ _ (F88.s.tr f104.s) m104 ?_ c104
                     rw [hP, if_neg (by omega), if_pos (by omega)]; exact s104)
                  | (refine w126 _ q116 _ _ (F88.s.tr f116) m116 ?_ c116
                     rw [hP, if_neg (by omega), if_neg (by omega), if_pos (by omega), if_neg (by omega)]; exact s116)
                  | (refine w126 _ q123 _ _ (F88.s.tr f123.s) m123 ?_ c123
                     rw [hP, if_neg (by omega), if_neg (by omega), if_neg (by omega), if_neg (by omega)]; exact s123)
            · refine wp_return (pc := 98) dX7_readsLine_98 rfl ?_
              first
                | (exfalso; omega)
                | (refine ⟨rfl, (F84.tr f88).r.s, Or.inr ?_⟩
                   rcases q88 with d | d
                   · have hbad := d.2.bad (by omega)
                     have hk3 : tkK t n (s.nx t n).x = 0 := by
                       rcases hbad.2.2 with e | e
                       · exact absurd hf0 e.1
                       · exact e.2.1
                     have hPb : P = (s.nx t n).bad t n 2 := by
                       rw [hP, if_neg (by omega)]
                       rcases (show W = 0 ∨ W = 1 ∨ W = 2 by omega) with e | e | e
                       · rw [if_pos e]; unfold pSet; rw [if_pos (Or.inl (by omega))]
                       · rw [if_neg (by omega), if_pos e, if_neg (by omega)]; unfold pShp; rw [if_pos (by omega)]
                       · rw [if_neg (by omega), if_neg (by omega), if_neg (by omega)]; unfold pPar; rw [if_pos (by omega)]; unfold pBdy; rw [if_pos (by omega)]
                     rw [hPb]; exact hbad.on hf0
                   · rw [d.2]
                     first
                       | (rw [hP, if_pos (by omega)]; exact hg.no (by decide) (by omega) (by omega))
                       | (rw [hP, if_neg (by omega), if_neg (by omega), if_pos (by omega), if_pos (by omega)]; exact hg.no (by decide) (by omega) (by omega))
                       | (rw [hP, if_neg (by omega), if_neg (by omega), if_neg (by omega), if_pos (by omega)]; exact hg.no (by decide) (by omega) (by omega)))
          · refine wp_iconst (pc := 78) dX7_readsLine_78 (by decide) ?_
            refine wp_goto (pc := 79) 83 dX7_readsLine_79 (by decide) ?_
            refine wp_iconst (pc := 83) dX7_readsLine_83 (by decide) ?_
            refine wp_cvV2 (pc := 84) dX7_readsLine_84 mv_X7_111 m_mustP (Nat.le_of_ble_eq_true rfl) rfl (Nat.le_of_ble_eq_true rfl) (fun σ_84 h_84 => ?_)
            have g_84 := h_84; obtain ⟨f_84, a12_84, a13_84, a14_84, a15_84, q_84⟩ := h_84; clear q_84; first | have w_84 := g_84.no (Or.inl (by decide)) | have w_84 := g_84.yes rfl (by omega)
            refine wp_aload_n (pc := 87) dX7_readsLine_87 rfl rfl ?_
            have F84 := (f_20.tr f_51).tr f_84
            refine wp_cvV0 (pc := 88) dX7_readsLine_88 mv_X7_115 (m_readsU (t := t) (n := n) (cnt := s.S 0 0) (q := s.nx t n) (by omega) (fun z => hg.nx F84 (by omega))) (Nat.le_of_ble_eq_true rfl) rfl (Nat.le_of_ble_eq_true rfl) (fun σ_88 h_88 => ?_)
            obtain ⟨f88, q88⟩ := h_88
            refine wp_aload_n (pc := 91) dX7_readsLine_91 rfl rfl ?_
            refine wp_getI (pc := 92) 10 dX7_readsLine_92 fl_X7_81 rfl rfl ?_
            refine wp_if_le (pc := 95) 99 dX7_readsLine_95 (by decide) (fun c_95 => ?_) (fun c_95 => ?_)
            · have hok : σ_84 71 10 = 0 ∧ MS t n σ_88 (s.nx t n) (s.S 0 0) := by
                rcases q88 with c | c
                · exact c
                · rw [c.2] at c_95; omega
              have hg3 := hok.2.good (by omega)
              have F88 := (F84.tr f88).r
              refine wp_iload_n (pc := 99) dX7_readsLine_99 rfl rfl ?_
              refine wp_if_ne (pc := 100) 110 dX7_readsLine_100 (by decide) (fun c_100 => ?_) (fun c_100 => ?_)
              · refine wp_iload_n (pc := 110) dX7_readsLine_110 rfl rfl ?_
                refine wp_iconst (pc := 111) dX7_readsLine_111 (by decide) ?_
                refine wp_icmp_ne (pc := 112) 122 dX7_readsLine_112 (by decide) (fun c_112 => ?_) (fun c_112 => ?_)
                · refine wp_aload_n (pc := 122) dX7_readsLine_122 rfl rfl ?_
                  refine wp_cvV0 (pc := 123) dX7_readsLine_123 mv_X7_162 (m_readsPar hg3 hpn rfl (by show s.D 0 0 < 8; omega) rfl) (Nat.le_of_ble_eq_true rfl) rfl (Nat.le_of_ble_eq_true rfl) (fun σ_123 h_123 => ?_)
                  obtain ⟨f123, q123, m123, s123, c123⟩ := h_123
                  first
                    | (exfalso; omega)
                    | (refine w126 _ q104 _ _ (F88.s.tr f104.s) m104 ?_ c104
                       rw [hP, if_neg (by omega), if_pos (by omega)]; exact s104)
                    | (refine w126 _ q116 _ _ (F88.s.tr f116) m116 ?_ c116
                       rw [hP, if_neg (by omega), if_neg (by omega), if_pos (by omega), if_neg (by omega)]; exact s116)
                    | (refine w126 _ q123 _ _ (F88.s.tr f123.s) m123 ?_ c123
                       rw [hP, if_neg (by omega), if_neg (by omega), if_neg (by omega), if_neg (by omega)]; exact s123)
                · refine wp_aload_n (pc := 115) dX7_readsLine_115 rfl rfl ?_
                  refine wp_cvV0 (pc := 116) dX7_readsLine_116 mv_X7_159 (m_readsShape hg3 hpn rfl (by omega) rfl) (Nat.le_of_ble_eq_true rfl) rfl (Nat.le_of_ble_eq_true rfl) (fun σ_116 h_116 => ?_)
                  obtain ⟨f116, q116, m116, s116, c116⟩ := h_116
                  refine wp_goto (pc := 119) 126 dX7_readsLine_119 (by decide) ?_
                  first
                    | (exfalso; omega)
                    | (refine w126 _ q104 _ _ (F88.s.tr f104.s) m104 ?_ c104
                       rw [hP, if_neg (by omega), if_pos (by omega)]; exact s104)
                    | (refine w126 _ q116 _ _ (F88.s.tr f116) m116 ?_ c116
                       rw [hP, if_neg (by omega), if_neg (by omega), if_pos (by omega), if_neg (by omega)]; exact s116)
                    | (refine w126 _ q123 _ _ (F88.s.tr f123.s) m123 ?_ c123
                       rw [hP, if_neg (by omega), if_neg (by omega), if_neg (by omega), if_neg (by omega)]; exact s123)
              · refine wp_aload_n (pc := 103) dX7_readsLine_103 rfl rfl ?_
                refine wp_cvV0 (pc := 104) dX7_readsLine_104 mv_X7_156 (m_readsSetting hg3 hpn rfl rfl) (Nat.le_of_ble_eq_true rfl) rfl (Nat.le_of_ble_eq_true rfl) (fun σ_104 h_104 => ?_)
                obtain ⟨f104, q104, m104, s104, c104⟩ := h_104
                refine wp_goto (pc := 107) 126 dX7_readsLine_107 (by decide) ?_
                first
                  | (exfalso; omega)
                  | (refine w126 _ q104 _ _ (F88.s.tr f104.s) m104 ?_ c104
                     rw [hP, if_neg (by omega), if_pos (by omega)]; exact s104)
                  | (refine w126 _ q116 _ _ (F88.s.tr f116) m116 ?_ c116
                     rw [hP, if_neg (by omega), if_neg (by omega), if_pos (by omega), if_neg (by omega)]; exact s116)
                  | (refine w126 _ q123 _ _ (F88.s.tr f123.s) m123 ?_ c123
                     rw [hP, if_neg (by omega), if_neg (by omega), if_neg (by omega), if_neg (by omega)]; exact s123)
            · refine wp_return (pc := 98) dX7_readsLine_98 rfl ?_
              first
                | (exfalso; omega)
                | (refine ⟨rfl, (F84.tr f88).r.s, Or.inr ?_⟩
                   rcases q88 with d | d
                   · have hbad := d.2.bad (by omega)
                     have hk3 : tkK t n (s.nx t n).x = 0 := by
                       rcases hbad.2.2 with e | e
                       · exact absurd hf0 e.1
                       · exact e.2.1
                     have hPb : P = (s.nx t n).bad t n 2 := by
                       rw [hP, if_neg (by omega)]
                       rcases (show W = 0 ∨ W = 1 ∨ W = 2 by omega) with e | e | e
                       · rw [if_pos e]; unfold pSet; rw [if_pos (Or.inl (by omega))]
                       · rw [if_neg (by omega), if_pos e, if_neg (by omega)]; unfold pShp; rw [if_pos (by omega)]
                       · rw [if_neg (by omega), if_neg (by omega), if_neg (by omega)]; unfold pPar; rw [if_pos (by omega)]; unfold pBdy; rw [if_pos (by omega)]
                     rw [hPb]; exact hbad.on hf0
                   · rw [d.2]
                     first
                       | (rw [hP, if_pos (by omega)]; exact hg.no (by decide) (by omega) (by omega))
                       | (rw [hP, if_neg (by omega), if_neg (by omega), if_pos (by omega), if_pos (by omega)]; exact hg.no (by decide) (by omega) (by omega))
                       | (rw [hP, if_neg (by omega), if_neg (by omega), if_neg (by omega), if_pos (by omega)]; exact hg.no (by decide) (by omega) (by omega)))
    · refine wp_iload_n (pc := 31) dX7_readsLine_31 rfl rfl ?_
      refine wp_iconst (pc := 32) dX7_readsLine_32 (by decide) ?_
      refine wp_icmp_ne (pc := 33) 45 dX7_readsLine_33 (by decide) (fun c_33 => ?_) (fun c_33 => ?_)
      · refine wp_iconst (pc := 45) dX7_readsLine_45 (by decide) ?_
        refine wp_goto (pc := 46) 50 dX7_readsLine_46 (by decide) ?_
        refine wp_iconst (pc := 50) dX7_readsLine_50 (by decide) ?_
        refine wp_cvV2 (pc := 51) dX7_readsLine_51 mv_X7_111 m_mustP (Nat.le_of_ble_eq_true rfl) rfl (Nat.le_of_ble_eq_true rfl) (fun σ_51 h_51 => ?_)
        have g_51 := h_51; obtain ⟨f_51, a12_51, a13_51, a14_51, a15_51, q_51⟩ := h_51; clear q_51; first | have w_51 := g_51.no (Or.inl (by decide)) | have w_51 := g_51.yes rfl (by omega)
        refine wp_aload_n (pc := 54) dX7_readsLine_54 rfl rfl ?_
        refine wp_aload_n (pc := 55) dX7_readsLine_55 rfl rfl ?_
        refine wp_getI (pc := 56) 10 dX7_readsLine_56 fl_X7_81 rfl rfl ?_
        refine wp_if_gt (pc := 59) 78 dX7_readsLine_59 (by decide) (fun c_59 => ?_) (fun c_59 => ?_)
        · refine wp_iconst (pc := 78) dX7_readsLine_78 (by decide) ?_
          refine wp_goto (pc := 79) 83 dX7_readsLine_79 (by decide) ?_
          refine wp_iconst (pc := 83) dX7_readsLine_83 (by decide) ?_
          refine wp_cvV2 (pc := 84) dX7_readsLine_84 mv_X7_111 m_mustP (Nat.le_of_ble_eq_true rfl) rfl (Nat.le_of_ble_eq_true rfl) (fun σ_84 h_84 => ?_)
          have g_84 := h_84; obtain ⟨f_84, a12_84, a13_84, a14_84, a15_84, q_84⟩ := h_84; clear q_84; first | have w_84 := g_84.no (Or.inl (by decide)) | have w_84 := g_84.yes rfl (by omega)
          refine wp_aload_n (pc := 87) dX7_readsLine_87 rfl rfl ?_
          have F84 := (f_20.tr f_51).tr f_84
          refine wp_cvV0 (pc := 88) dX7_readsLine_88 mv_X7_115 (m_readsU (t := t) (n := n) (cnt := s.S 0 0) (q := s.nx t n) (by omega) (fun z => hg.nx F84 (by omega))) (Nat.le_of_ble_eq_true rfl) rfl (Nat.le_of_ble_eq_true rfl) (fun σ_88 h_88 => ?_)
          obtain ⟨f88, q88⟩ := h_88
          refine wp_aload_n (pc := 91) dX7_readsLine_91 rfl rfl ?_
          refine wp_getI (pc := 92) 10 dX7_readsLine_92 fl_X7_81 rfl rfl ?_
          refine wp_if_le (pc := 95) 99 dX7_readsLine_95 (by decide) (fun c_95 => ?_) (fun c_95 => ?_)
          · have hok : σ_84 71 10 = 0 ∧ MS t n σ_88 (s.nx t n) (s.S 0 0) := by
              rcases q88 with c | c
              · exact c
              · rw [c.2] at c_95; omega
            have hg3 := hok.2.good (by omega)
            have F88 := (F84.tr f88).r
            refine wp_iload_n (pc := 99) dX7_readsLine_99 rfl rfl ?_
            refine wp_if_ne (pc := 100) 110 dX7_readsLine_100 (by decide) (fun c_100 => ?_) (fun c_100 => ?_)
            · refine wp_iload_n (pc := 110) dX7_readsLine_110 rfl rfl ?_
              refine wp_iconst (pc := 111) dX7_readsLine_111 (by decide) ?_
              refine wp_icmp_ne (pc := 112) 122 dX7_readsLine_112 (by decide) (fun c_112 => ?_) (fun c_112 => ?_)
              · refine wp_aload_n (pc := 122) dX7_readsLine_122 rfl rfl ?_
                refine wp_cvV0 (pc := 123) dX7_readsLine_123 mv_X7_162 (m_readsPar hg3 hpn rfl (by show s.D 0 0 < 8; omega) rfl) (Nat.le_of_ble_eq_true rfl) rfl (Nat.le_of_ble_eq_true rfl) (fun σ_123 h_123 => ?_)
                obtain ⟨f123, q123, m123, s123, c123⟩ := h_123
                first
                  | (exfalso; omega)
                  | (refine w126 _ q104 _ _ (F88.s.tr f104.s) m104 ?_ c104
                     rw [hP, if_neg (by omega), if_pos (by omega)]; exact s104)
                  | (refine w126 _ q116 _ _ (F88.s.tr f116) m116 ?_ c116
                     rw [hP, if_neg (by omega), if_neg (by omega), if_pos (by omega), if_neg (by omega)]; exact s116)
                  | (refine w126 _ q123 _ _ (F88.s.tr f123.s) m123 ?_ c123
                     rw [hP, if_neg (by omega), if_neg (by omega), if_neg (by omega), if_neg (by omega)]; exact s123)
              · refine wp_aload_n (pc := 115) dX7_readsLine_115 rfl rfl ?_
                refine wp_cvV0 (pc := 116) dX7_readsLine_116 mv_X7_159 (m_readsShape hg3 hpn rfl (by omega) rfl) (Nat.le_of_ble_eq_true rfl) rfl (Nat.le_of_ble_eq_true rfl) (fun σ_116 h_116 => ?_)
                obtain ⟨f116, q116, m116, s116, c116⟩ := h_116
                refine wp_goto (pc := 119) 126 dX7_readsLine_119 (by decide) ?_
                first
                  | (exfalso; omega)
                  | (refine w126 _ q104 _ _ (F88.s.tr f104.s) m104 ?_ c104
                     rw [hP, if_neg (by omega), if_pos (by omega)]; exact s104)
                  | (refine w126 _ q116 _ _ (F88.s.tr f116) m116 ?_ c116
                     rw [hP, if_neg (by omega), if_neg (by omega), if_pos (by omega), if_neg (by omega)]; exact s116)
                  | (refine w126 _ q123 _ _ (F88.s.tr f123.s) m123 ?_ c123
                     rw [hP, if_neg (by omega), if_neg (by omega), if_neg (by omega), if_neg (by omega)]; exact s123)
            · refine wp_aload_n (pc := 103) dX7_readsLine_103 rfl rfl ?_
              refine wp_cvV0 (pc := 104) dX7_readsLine_104 mv_X7_156 (m_readsSetting hg3 hpn rfl rfl) (Nat.le_of_ble_eq_true rfl) rfl (Nat.le_of_ble_eq_true rfl) (fun σ_104 h_104 => ?_)
              obtain ⟨f104, q104, m104, s104, c104⟩ := h_104
              refine wp_goto (pc := 107) 126 dX7_readsLine_107 (by decide) ?_
              first
                | (exfalso; omega)
                | (refine w126 _ q104 _ _ (F88.s.tr f104.s) m104 ?_ c104
                   rw [hP, if_neg (by omega), if_pos (by omega)]; exact s104)
                | (refine w126 _ q116 _ _ (F88.s.tr f116) m116 ?_ c116
                   rw [hP, if_neg (by omega), if_neg (by omega), if_pos (by omega), if_neg (by omega)]; exact s116)
                | (refine w126 _ q123 _ _ (F88.s.tr f123.s) m123 ?_ c123
                   rw [hP, if_neg (by omega), if_neg (by omega), if_neg (by omega), if_neg (by omega)]; exact s123)
          · refine wp_return (pc := 98) dX7_readsLine_98 rfl ?_
            first
              | (exfalso; omega)
              | (refine ⟨rfl, (F84.tr f88).r.s, Or.inr ?_⟩
                 rcases q88 with d | d
                 · have hbad := d.2.bad (by omega)
                   have hk3 : tkK t n (s.nx t n).x = 0 := by
                     rcases hbad.2.2 with e | e
                     · exact absurd hf0 e.1
                     · exact e.2.1
                   have hPb : P = (s.nx t n).bad t n 2 := by
                     rw [hP, if_neg (by omega)]
                     rcases (show W = 0 ∨ W = 1 ∨ W = 2 by omega) with e | e | e
                     · rw [if_pos e]; unfold pSet; rw [if_pos (Or.inl (by omega))]
                     · rw [if_neg (by omega), if_pos e, if_neg (by omega)]; unfold pShp; rw [if_pos (by omega)]
                     · rw [if_neg (by omega), if_neg (by omega), if_neg (by omega)]; unfold pPar; rw [if_pos (by omega)]; unfold pBdy; rw [if_pos (by omega)]
                   rw [hPb]; exact hbad.on hf0
                 · rw [d.2]
                   first
                     | (rw [hP, if_pos (by omega)]; exact hg.no (by decide) (by omega) (by omega))
                     | (rw [hP, if_neg (by omega), if_neg (by omega), if_pos (by omega), if_pos (by omega)]; exact hg.no (by decide) (by omega) (by omega))
                     | (rw [hP, if_neg (by omega), if_neg (by omega), if_neg (by omega), if_pos (by omega)]; exact hg.no (by decide) (by omega) (by omega)))
        · refine wp_iload_n (pc := 62) dX7_readsLine_62 rfl rfl ?_
          refine wp_iconst (pc := 63) dX7_readsLine_63 (by decide) ?_
          refine wp_icmp_ne (pc := 64) 78 dX7_readsLine_64 (by decide) (fun c_64 => ?_) (fun c_64 => ?_)
          · refine wp_iconst (pc := 78) dX7_readsLine_78 (by decide) ?_
            refine wp_goto (pc := 79) 83 dX7_readsLine_79 (by decide) ?_
            refine wp_iconst (pc := 83) dX7_readsLine_83 (by decide) ?_
            refine wp_cvV2 (pc := 84) dX7_readsLine_84 mv_X7_111 m_mustP (Nat.le_of_ble_eq_true rfl) rfl (Nat.le_of_ble_eq_true rfl) (fun σ_84 h_84 => ?_)
            have g_84 := h_84; obtain ⟨f_84, a12_84, a13_84, a14_84, a15_84, q_84⟩ := h_84; clear q_84; first | have w_84 := g_84.no (Or.inl (by decide)) | have w_84 := g_84.yes rfl (by omega)
            refine wp_aload_n (pc := 87) dX7_readsLine_87 rfl rfl ?_
            have F84 := (f_20.tr f_51).tr f_84
            refine wp_cvV0 (pc := 88) dX7_readsLine_88 mv_X7_115 (m_readsU (t := t) (n := n) (cnt := s.S 0 0) (q := s.nx t n) (by omega) (fun z => hg.nx F84 (by omega))) (Nat.le_of_ble_eq_true rfl) rfl (Nat.le_of_ble_eq_true rfl) (fun σ_88 h_88 => ?_)
            obtain ⟨f88, q88⟩ := h_88
            refine wp_aload_n (pc := 91) dX7_readsLine_91 rfl rfl ?_
            refine wp_getI (pc := 92) 10 dX7_readsLine_92 fl_X7_81 rfl rfl ?_
            refine wp_if_le (pc := 95) 99 dX7_readsLine_95 (by decide) (fun c_95 => ?_) (fun c_95 => ?_)
            · have hok : σ_84 71 10 = 0 ∧ MS t n σ_88 (s.nx t n) (s.S 0 0) := by
                rcases q88 with c | c
                · exact c
                · rw [c.2] at c_95; omega
              have hg3 := hok.2.good (by omega)
              have F88 := (F84.tr f88).r
              refine wp_iload_n (pc := 99) dX7_readsLine_99 rfl rfl ?_
              refine wp_if_ne (pc := 100) 110 dX7_readsLine_100 (by decide) (fun c_100 => ?_) (fun c_100 => ?_)
              · refine wp_iload_n (pc := 110) dX7_readsLine_110 rfl rfl ?_
                refine wp_iconst (pc := 111) dX7_readsLine_111 (by decide) ?_
                refine wp_icmp_ne (pc := 112) 122 dX7_readsLine_112 (by decide) (fun c_112 => ?_) (fun c_112 => ?_)
                · refine wp_aload_n (pc := 122) dX7_readsLine_122 rfl rfl ?_
                  refine wp_cvV0 (pc := 123) dX7_readsLine_123 mv_X7_162 (m_readsPar hg3 hpn rfl (by show s.D 0 0 < 8; omega) rfl) (Nat.le_of_ble_eq_true rfl) rfl (Nat.le_of_ble_eq_true rfl) (fun σ_123 h_123 => ?_)
                  obtain ⟨f123, q123, m123, s123, c123⟩ := h_123
                  first
                    | (exfalso; omega)
                    | (refine w126 _ q104 _ _ (F88.s.tr f104.s) m104 ?_ c104
                       rw [hP, if_neg (by omega), if_pos (by omega)]; exact s104)
                    | (refine w126 _ q116 _ _ (F88.s.tr f116) m116 ?_ c116
                       rw [hP, if_neg (by omega), if_neg (by omega), if_pos (by omega), if_neg (by omega)]; exact s116)
                    | (refine w126 _ q123 _ _ (F88.s.tr f123.s) m123 ?_ c123
                       rw [hP, if_neg (by omega), if_neg (by omega), if_neg (by omega), if_neg (by omega)]; exact s123)
                · refine wp_aload_n (pc := 115) dX7_readsLine_115 rfl rfl ?_
                  refine wp_cvV0 (pc := 116) dX7_readsLine_116 mv_X7_159 (m_readsShape hg3 hpn rfl (by omega) rfl) (Nat.le_of_ble_eq_true rfl) rfl (Nat.le_of_ble_eq_true rfl) (fun σ_116 h_116 => ?_)
                  obtain ⟨f116, q116, m116, s116, c116⟩ := h_116
                  refine wp_goto (pc := 119) 126 dX7_readsLine_119 (by decide) ?_
                  first
                    | (exfalso; omega)
                    | (refine w126 _ q104 _ _ (F88.s.tr f104.s) m104 ?_ c104
                       rw [hP, if_neg (by omega), if_pos (by omega)]; exact s104)
                    | (refine w126 _ q116 _ _ (F88.s.tr f116) m116 ?_ c116
                       rw [hP, if_neg (by omega), if_neg (by omega), if_pos (by omega), if_neg (by omega)]; exact s116)
                    | (refine w126 _ q123 _ _ (F88.s.tr f123.s) m123 ?_ c123
                       rw [hP, if_neg (by omega), if_neg (by omega), if_neg (by omega), if_neg (by omega)]; exact s123)
              · refine wp_aload_n (pc := 103) dX7_readsLine_103 rfl rfl ?_
                refine wp_cvV0 (pc := 104) dX7_readsLine_104 mv_X7_156 (m_readsSetting hg3 hpn rfl rfl) (Nat.le_of_ble_eq_true rfl) rfl (Nat.le_of_ble_eq_true rfl) (fun σ_104 h_104 => ?_)
                obtain ⟨f104, q104, m104, s104, c104⟩ := h_104
                refine wp_goto (pc := 107) 126 dX7_readsLine_107 (by decide) ?_
                first
                  | (exfalso; omega)
                  | (refine w126 _ q104 _ _ (F88.s.tr f104.s) m104 ?_ c104
                     rw [hP, if_neg (by omega), if_pos (by omega)]; exact s104)
                  | (refine w126 _ q116 _ _ (F88.s.tr f116) m116 ?_ c116
                     rw [hP, if_neg (by omega), if_neg (by omega), if_pos (by omega), if_neg (by omega)]; exact s116)
                  | (refine w126 _ q123 _ _ (F88.s.tr f123.s) m123 ?_ c123
                     rw [hP, if_neg (by omega), if_neg (by omega), if_neg (by omega), if_neg (by omega)]; exact s123)
            · refine wp_return (pc := 98) dX7_readsLine_98 rfl ?_
              first
                | (exfalso; omega)
                | (refine ⟨rfl, (F84.tr f88).r.s, Or.inr ?_⟩
                   rcases q88 with d | d
                   · have hbad := d.2.bad (by omega)
                     have hk3 : tkK t n (s.nx t n).x = 0 := by
                       rcases hbad.2.2 with e | e
                       · exact absurd hf0 e.1
                       · exact e.2.1
                     have hPb : P = (s.nx t n).bad t n 2 := by
                       rw [hP, if_neg (by omega)]
                       rcases (show W = 0 ∨ W = 1 ∨ W = 2 by omega) with e | e | e
                       · rw [if_pos e]; unfold pSet; rw [if_pos (Or.inl (by omega))]
                       · rw [if_neg (by omega), if_pos e, if_neg (by omega)]; unfold pShp; rw [if_pos (by omega)]
                       · rw [if_neg (by omega), if_neg (by omega), if_neg (by omega)]; unfold pPar; rw [if_pos (by omega)]; unfold pBdy; rw [if_pos (by omega)]
                     rw [hPb]; exact hbad.on hf0
                   · rw [d.2]
                     first
                       | (rw [hP, if_pos (by omega)]; exact hg.no (by decide) (by omega) (by omega))
                       | (rw [hP, if_neg (by omega), if_neg (by omega), if_pos (by omega), if_pos (by omega)]; exact hg.no (by decide) (by omega) (by omega))
                       | (rw [hP, if_neg (by omega), if_neg (by omega), if_neg (by omega), if_pos (by omega)]; exact hg.no (by decide) (by omega) (by omega)))
          · refine wp_aload_n (pc := 67) dX7_readsLine_67 rfl rfl ?_
            refine wp_getR (pc := 68) (q := 73) dX7_readsLine_68 fl_X7_13 rfl ?_
            refine wp_iconst (pc := 71) dX7_readsLine_71 (by decide) ?_
            refine wp_iald (pc := 72) 591 dX7_readsLine_72 rfl (by omega) ?_
            rw [show σ_51 73 0 = s.D 0 0 by rw [f_51.1 73 (by decide), f_20.1 73 (by decide)]; exact e730]
            refine wp_bipush (pc := 73) dX7_readsLine_73 (by decide) (by decide) ?_
            refine wp_icmp_ge (pc := 75) 82 dX7_readsLine_75 (by decide) (fun c_75 => ?_) (fun c_75 => ?_)
            · refine wp_iconst (pc := 82) dX7_readsLine_82 (by decide) ?_
              refine wp_iconst (pc := 83) dX7_readsLine_83 (by decide) ?_
              refine wp_cvV2 (pc := 84) dX7_readsLine_84 mv_X7_111 m_mustP (Nat.le_of_ble_eq_true rfl) rfl (Nat.le_of_ble_eq_true rfl) (fun σ_84 h_84 => ?_)
              have g_84 := h_84; obtain ⟨f_84, a12_84, a13_84, a14_84, a15_84, q_84⟩ := h_84; clear q_84; first | have w_84 := g_84.no (Or.inl (by decide)) | have w_84 := g_84.yes rfl (by omega)
              refine wp_aload_n (pc := 87) dX7_readsLine_87 rfl rfl ?_
              have F84 := (f_20.tr f_51).tr f_84
              refine wp_cvV0 (pc := 88) dX7_readsLine_88 mv_X7_115 (m_readsU (t := t) (n := n) (cnt := s.S 0 0) (q := s.nx t n) (by omega) (fun z => hg.nx F84 (by omega))) (Nat.le_of_ble_eq_true rfl) rfl (Nat.le_of_ble_eq_true rfl) (fun σ_88 h_88 => ?_)
              obtain ⟨f88, q88⟩ := h_88
              refine wp_aload_n (pc := 91) dX7_readsLine_91 rfl rfl ?_
              refine wp_getI (pc := 92) 10 dX7_readsLine_92 fl_X7_81 rfl rfl ?_
              refine wp_if_le (pc := 95) 99 dX7_readsLine_95 (by decide) (fun c_95 => ?_) (fun c_95 => ?_)
              · have hok : σ_84 71 10 = 0 ∧ MS t n σ_88 (s.nx t n) (s.S 0 0) := by
                  rcases q88 with c | c
                  · exact c
                  · rw [c.2] at c_95; omega
                have hg3 := hok.2.good (by omega)
                have F88 := (F84.tr f88).r
                refine wp_iload_n (pc := 99) dX7_readsLine_99 rfl rfl ?_
                refine wp_if_ne (pc := 100) 110 dX7_readsLine_100 (by decide) (fun c_100 => ?_) (fun c_100 => ?_)
                · refine wp_iload_n (pc := 110) dX7_readsLine_110 rfl rfl ?_
                  refine wp_iconst (pc := 111) dX7_readsLine_111 (by decide) ?_
                  refine wp_icmp_ne (pc := 112) 122 dX7_readsLine_112 (by decide) (fun c_112 => ?_) (fun c_112 => ?_)
                  · refine wp_aload_n (pc := 122) dX7_readsLine_122 rfl rfl ?_
                    refine wp_cvV0 (pc := 123) dX7_readsLine_123 mv_X7_162 (m_readsPar hg3 hpn rfl (by show s.D 0 0 < 8; omega) rfl) (Nat.le_of_ble_eq_true rfl) rfl (Nat.le_of_ble_eq_true rfl) (fun σ_123 h_123 => ?_)
                    obtain ⟨f123, q123, m123, s123, c123⟩ := h_123
                    first
                      | (exfalso; omega)
                      | (refine w126 _ q104 _ _ (F88.s.tr f104.s) m104 ?_ c104
                         rw [hP, if_neg (by omega), if_pos (by omega)]; exact s104)
                      | (refine w126 _ q116 _ _ (F88.s.tr f116) m116 ?_ c116
                         rw [hP, if_neg (by omega), if_neg (by omega), if_pos (by omega), if_neg (by omega)]; exact s116)
                      | (refine w126 _ q123 _ _ (F88.s.tr f123.s) m123 ?_ c123
                         rw [hP, if_neg (by omega), if_neg (by omega), if_neg (by omega), if_neg (by omega)]; exact s123)
                  · refine wp_aload_n (pc := 115) dX7_readsLine_115 rfl rfl ?_
                    refine wp_cvV0 (pc := 116) dX7_readsLine_116 mv_X7_159 (m_readsShape hg3 hpn rfl (by omega) rfl) (Nat.le_of_ble_eq_true rfl) rfl (Nat.le_of_ble_eq_true rfl) (fun σ_116 h_116 => ?_)
                    obtain ⟨f116, q116, m116, s116, c116⟩ := h_116
                    refine wp_goto (pc := 119) 126 dX7_readsLine_119 (by decide) ?_
                    first
                      | (exfalso; omega)
                      | (refine w126 _ q104 _ _ (F88.s.tr f104.s) m104 ?_ c104
                         rw [hP, if_neg (by omega), if_pos (by omega)]; exact s104)
                      | (refine w126 _ q116 _ _ (F88.s.tr f116) m116 ?_ c116
                         rw [hP, if_neg (by omega), if_neg (by omega), if_pos (by omega), if_neg (by omega)]; exact s116)
                      | (refine w126 _ q123 _ _ (F88.s.tr f123.s) m123 ?_ c123
                         rw [hP, if_neg (by omega), if_neg (by omega), if_neg (by omega), if_neg (by omega)]; exact s123)
                · refine wp_aload_n (pc := 103) dX7_readsLine_103 rfl rfl ?_
                  refine wp_cvV0 (pc := 104) dX7_readsLine_104 mv_X7_156 (m_readsSetting hg3 hpn rfl rfl) (Nat.le_of_ble_eq_true rfl) rfl (Nat.le_of_ble_eq_true rfl) (fun σ_104 h_104 => ?_)
                  obtain ⟨f104, q104, m104, s104, c104⟩ := h_104
                  refine wp_goto (pc := 107) 126 dX7_readsLine_107 (by decide) ?_
                  first
                    | (exfalso; omega)
                    | (refine w126 _ q104 _ _ (F88.s.tr f104.s) m104 ?_ c104
                       rw [hP, if_neg (by omega), if_pos (by omega)]; exact s104)
                    | (refine w126 _ q116 _ _ (F88.s.tr f116) m116 ?_ c116
                       rw [hP, if_neg (by omega), if_neg (by omega), if_pos (by omega), if_neg (by omega)]; exact s116)
                    | (refine w126 _ q123 _ _ (F88.s.tr f123.s) m123 ?_ c123
                       rw [hP, if_neg (by omega), if_neg (by omega), if_neg (by omega), if_neg (by omega)]; exact s123)
              · refine wp_return (pc := 98) dX7_readsLine_98 rfl ?_
                first
                  | (exfalso; omega)
                  | (refine ⟨rfl, (F84.tr f88).r.s, Or.inr ?_⟩
                     rcases q88 with d | d
                     · have hbad := d.2.bad (by omega)
                       have hk3 : tkK t n (s.nx t n).x = 0 := by
                         rcases hbad.2.2 with e | e
                         · exact absurd hf0 e.1
                         · exact e.2.1
                       have hPb : P = (s.nx t n).bad t n 2 := by
                         rw [hP, if_neg (by omega)]
                         rcases (show W = 0 ∨ W = 1 ∨ W = 2 by omega) with e | e | e
                         · rw [if_pos e]; unfold pSet; rw [if_pos (Or.inl (by omega))]
                         · rw [if_neg (by omega), if_pos e, if_neg (by omega)]; unfold pShp; rw [if_pos (by omega)]
                         · rw [if_neg (by omega), if_neg (by omega), if_neg (by omega)]; unfold pPar; rw [if_pos (by omega)]; unfold pBdy; rw [if_pos (by omega)]
                       rw [hPb]; exact hbad.on hf0
                     · rw [d.2]
                       first
                         | (rw [hP, if_pos (by omega)]; exact hg.no (by decide) (by omega) (by omega))
                         | (rw [hP, if_neg (by omega), if_neg (by omega), if_pos (by omega), if_pos (by omega)]; exact hg.no (by decide) (by omega) (by omega))
                         | (rw [hP, if_neg (by omega), if_neg (by omega), if_neg (by omega), if_pos (by omega)]; exact hg.no (by decide) (by omega) (by omega)))
            · refine wp_iconst (pc := 78) dX7_readsLine_78 (by decide) ?_
              refine wp_goto (pc := 79) 83 dX7_readsLine_79 (by decide) ?_
              refine wp_iconst (pc := 83) dX7_readsLine_83 (by decide) ?_
              refine wp_cvV2 (pc := 84) dX7_readsLine_84 mv_X7_111 m_mustP (Nat.le_of_ble_eq_true rfl) rfl (Nat.le_of_ble_eq_true rfl) (fun σ_84 h_84 => ?_)
              have g_84 := h_84; obtain ⟨f_84, a12_84, a13_84, a14_84, a15_84, q_84⟩ := h_84; clear q_84; first | have w_84 := g_84.no (Or.inl (by decide)) | have w_84 := g_84.yes rfl (by omega)
              refine wp_aload_n (pc := 87) dX7_readsLine_87 rfl rfl ?_
              have F84 := (f_20.tr f_51).tr f_84
              refine wp_cvV0 (pc := 88) dX7_readsLine_88 mv_X7_115 (m_readsU (t := t) (n := n) (cnt := s.S 0 0) (q := s.nx t n) (by omega) (fun z => hg.nx F84 (by omega))) (Nat.le_of_ble_eq_true rfl) rfl (Nat.le_of_ble_eq_true rfl) (fun σ_88 h_88 => ?_)
              obtain ⟨f88, q88⟩ := h_88
              refine wp_aload_n (pc := 91) dX7_readsLine_91 rfl rfl ?_
              refine wp_getI (pc := 92) 10 dX7_readsLine_92 fl_X7_81 rfl rfl ?_
              refine wp_if_le (pc := 95) 99 dX7_readsLine_95 (by decide) (fun c_95 => ?_) (fun c_95 => ?_)
              · have hok : σ_84 71 10 = 0 ∧ MS t n σ_88 (s.nx t n) (s.S 0 0) := by
                  rcases q88 with c | c
                  · exact c
                  · rw [c.2] at c_95; omega
                have hg3 := hok.2.good (by omega)
                have F88 := (F84.tr f88).r
                refine wp_iload_n (pc := 99) dX7_readsLine_99 rfl rfl ?_
                refine wp_if_ne (pc := 100) 110 dX7_readsLine_100 (by decide) (fun c_100 => ?_) (fun c_100 => ?_)
                · refine wp_iload_n (pc := 110) dX7_readsLine_110 rfl rfl ?_
                  refine wp_iconst (pc := 111) dX7_readsLine_111 (by decide) ?_
                  refine wp_icmp_ne (pc := 112) 122 dX7_readsLine_112 (by decide) (fun c_112 => ?_) (fun c_112 => ?_)
                  · refine wp_aload_n (pc := 122) dX7_readsLine_122 rfl rfl ?_
                    refine wp_cvV0 (pc := 123) dX7_readsLine_123 mv_X7_162 (m_readsPar hg3 hpn rfl (by show s.D 0 0 < 8; omega) rfl) (Nat.le_of_ble_eq_true rfl) rfl (Nat.le_of_ble_eq_true rfl) (fun σ_123 h_123 => ?_)
                    obtain ⟨f123, q123, m123, s123, c123⟩ := h_123
                    first
                      | (exfalso; omega)
                      | (refine w126 _ q104 _ _ (F88.s.tr f104.s) m104 ?_ c104
                         rw [hP, if_neg (by omega), if_pos (by omega)]; exact s104)
                      | (refine w126 _ q116 _ _ (F88.s.tr f116) m116 ?_ c116
                         rw [hP, if_neg (by omega), if_neg (by omega), if_pos (by omega), if_neg (by omega)]; exact s116)
                      | (refine w126 _ q123 _ _ (F88.s.tr f123.s) m123 ?_ c123
                         rw [hP, if_neg (by omega), if_neg (by omega), if_neg (by omega), if_neg (by omega)]; exact s123)
                  · refine wp_aload_n (pc := 115) dX7_readsLine_115 rfl rfl ?_
                    refine wp_cvV0 (pc := 116) dX7_readsLine_116 mv_X7_159 (m_readsShape hg3 hpn rfl (by omega) rfl) (Nat.le_of_ble_eq_true rfl) rfl (Nat.le_of_ble_eq_true rfl) (fun σ_116 h_116 => ?_)
                    obtain ⟨f116, q116, m116, s116, c116⟩ := h_116
                    refine wp_goto (pc := 119) 126 dX7_readsLine_119 (by decide) ?_
                    first
                      | (exfalso; omega)
                      | (refine w126 _ q104 _ _ (F88.s.tr f104.s) m104 ?_ c104
                         rw [hP, if_neg (by omega), if_pos (by omega)]; exact s104)
                      | (refine w126 _ q116 _ _ (F88.s.tr f116) m116 ?_ c116
                         rw [hP, if_neg (by omega), if_neg (by omega), if_pos (by omega), if_neg (by omega)]; exact s116)
                      | (refine w126 _ q123 _ _ (F88.s.tr f123.s) m123 ?_ c123
                         rw [hP, if_neg (by omega), if_neg (by omega), if_neg (by omega), if_neg (by omega)]; exact s123)
                · refine wp_aload_n (pc := 103) dX7_readsLine_103 rfl rfl ?_
                  refine wp_cvV0 (pc := 104) dX7_readsLine_104 mv_X7_156 (m_readsSetting hg3 hpn rfl rfl) (Nat.le_of_ble_eq_true rfl) rfl (Nat.le_of_ble_eq_true rfl) (fun σ_104 h_104 => ?_)
                  obtain ⟨f104, q104, m104, s104, c104⟩ := h_104
                  refine wp_goto (pc := 107) 126 dX7_readsLine_107 (by decide) ?_
                  first
                    | (exfalso; omega)
                    | (refine w126 _ q104 _ _ (F88.s.tr f104.s) m104 ?_ c104
                       rw [hP, if_neg (by omega), if_pos (by omega)]; exact s104)
                    | (refine w126 _ q116 _ _ (F88.s.tr f116) m116 ?_ c116
                       rw [hP, if_neg (by omega), if_neg (by omega), if_pos (by omega), if_neg (by omega)]; exact s116)
                    | (refine w126 _ q123 _ _ (F88.s.tr f123.s) m123 ?_ c123
                       rw [hP, if_neg (by omega), if_neg (by omega), if_neg (by omega), if_neg (by omega)]; exact s123)
              · refine wp_return (pc := 98) dX7_readsLine_98 rfl ?_
                first
                  | (exfalso; omega)
                  | (refine ⟨rfl, (F84.tr f88).r.s, Or.inr ?_⟩
                     rcases q88 with d | d
                     · have hbad := d.2.bad (by omega)
                       have hk3 : tkK t n (s.nx t n).x = 0 := by
                         rcases hbad.2.2 with e | e
                         · exact absurd hf0 e.1
                         · exact e.2.1
                       have hPb : P = (s.nx t n).bad t n 2 := by
                         rw [hP, if_neg (by omega)]
                         rcases (show W = 0 ∨ W = 1 ∨ W = 2 by omega) with e | e | e
                         · rw [if_pos e]; unfold pSet; rw [if_pos (Or.inl (by omega))]
                         · rw [if_neg (by omega), if_pos e, if_neg (by omega)]; unfold pShp; rw [if_pos (by omega)]
                         · rw [if_neg (by omega), if_neg (by omega), if_neg (by omega)]; unfold pPar; rw [if_pos (by omega)]; unfold pBdy; rw [if_pos (by omega)]
                       rw [hPb]; exact hbad.on hf0
                     · rw [d.2]
                       first
                         | (rw [hP, if_pos (by omega)]; exact hg.no (by decide) (by omega) (by omega))
                         | (rw [hP, if_neg (by omega), if_neg (by omega), if_pos (by omega), if_pos (by omega)]; exact hg.no (by decide) (by omega) (by omega))
                         | (rw [hP, if_neg (by omega), if_neg (by omega), if_neg (by omega), if_pos (by omega)]; exact hg.no (by decide) (by omega) (by omega)))
      · refine wp_aload_n (pc := 36) dX7_readsLine_36 rfl rfl ?_
        refine wp_getI (pc := 37) 5 dX7_readsLine_37 fl_X7_131 rfl rfl ?_
        rw [show σ_20 71 5 = s.S 0 0 by rw [f_20.2 5 (by decide)]; exact h5]
        refine wp_bipush (pc := 40) dX7_readsLine_40 (by decide) (by decide) ?_
        refine wp_icmp_ge (pc := 42) 49 dX7_readsLine_42 (by decide) (fun c_42 => ?_) (fun c_42 => ?_)
        · refine wp_iconst (pc := 49) dX7_readsLine_49 (by decide) ?_
          refine wp_iconst (pc := 50) dX7_readsLine_50 (by decide) ?_
          refine wp_cvV2 (pc := 51) dX7_readsLine_51 mv_X7_111 m_mustP (Nat.le_of_ble_eq_true rfl) rfl (Nat.le_of_ble_eq_true rfl) (fun σ_51 h_51 => ?_)
          have g_51 := h_51; obtain ⟨f_51, a12_51, a13_51, a14_51, a15_51, q_51⟩ := h_51; clear q_51; first | have w_51 := g_51.no (Or.inl (by decide)) | have w_51 := g_51.yes rfl (by omega)
          refine wp_aload_n (pc := 54) dX7_readsLine_54 rfl rfl ?_
          refine wp_aload_n (pc := 55) dX7_readsLine_55 rfl rfl ?_
          refine wp_getI (pc := 56) 10 dX7_readsLine_56 fl_X7_81 rfl rfl ?_
          refine wp_if_gt (pc := 59) 78 dX7_readsLine_59 (by decide) (fun c_59 => ?_) (fun c_59 => ?_)
          · refine wp_iconst (pc := 78) dX7_readsLine_78 (by decide) ?_
            refine wp_goto (pc := 79) 83 dX7_readsLine_79 (by decide) ?_
            refine wp_iconst (pc := 83) dX7_readsLine_83 (by decide) ?_
            refine wp_cvV2 (pc := 84) dX7_readsLine_84 mv_X7_111 m_mustP (Nat.le_of_ble_eq_true rfl) rfl (Nat.le_of_ble_eq_true rfl) (fun σ_84 h_84 => ?_)
            have g_84 := h_84; obtain ⟨f_84, a12_84, a13_84, a14_84, a15_84, q_84⟩ := h_84; clear q_84; first | have w_84 := g_84.no (Or.inl (by decide)) | have w_84 := g_84.yes rfl (by omega)
            refine wp_aload_n (pc := 87) dX7_readsLine_87 rfl rfl ?_
            have F84 := (f_20.tr f_51).tr f_84
            refine wp_cvV0 (pc := 88) dX7_readsLine_88 mv_X7_115 (m_readsU (t := t) (n := n) (cnt := s.S 0 0) (q := s.nx t n) (by omega) (fun z => hg.nx F84 (by omega))) (Nat.le_of_ble_eq_true rfl) rfl (Nat.le_of_ble_eq_true rfl) (fun σ_88 h_88 => ?_)
            obtain ⟨f88, q88⟩ := h_88
            refine wp_aload_n (pc := 91) dX7_readsLine_91 rfl rfl ?_
            refine wp_getI (pc := 92) 10 dX7_readsLine_92 fl_X7_81 rfl rfl ?_
            refine wp_if_le (pc := 95) 99 dX7_readsLine_95 (by decide) (fun c_95 => ?_) (fun c_95 => ?_)
            · have hok : σ_84 71 10 = 0 ∧ MS t n σ_88 (s.nx t n) (s.S 0 0) := by
                rcases q88 with c | c
                · exact c
                · rw [c.2] at c_95; omega
              have hg3 := hok.2.good (by omega)
              have F88 := (F84.tr f88).r
              refine wp_iload_n (pc := 99) dX7_readsLine_99 rfl rfl ?_
              refine wp_if_ne (pc := 100) 110 dX7_readsLine_100 (by decide) (fun c_100 => ?_) (fun c_100 => ?_)
              · refine wp_iload_n (pc := 110) dX7_readsLine_110 rfl rfl ?_
                refine wp_iconst (pc := 111) dX7_readsLine_111 (by decide) ?_
                refine wp_icmp_ne (pc := 112) 122 dX7_readsLine_112 (by decide) (fun c_112 => ?_) (fun c_112 => ?_)
                · refine wp_aload_n (pc := 122) dX7_readsLine_122 rfl rfl ?_
                  refine wp_cvV0 (pc := 123) dX7_readsLine_123 mv_X7_162 (m_readsPar hg3 hpn rfl (by show s.D 0 0 < 8; omega) rfl) (Nat.le_of_ble_eq_true rfl) rfl (Nat.le_of_ble_eq_true rfl) (fun σ_123 h_123 => ?_)
                  obtain ⟨f123, q123, m123, s123, c123⟩ := h_123
                  first
                    | (exfalso; omega)
                    | (refine w126 _ q104 _ _ (F88.s.tr f104.s) m104 ?_ c104
                       rw [hP, if_neg (by omega), if_pos (by omega)]; exact s104)
                    | (refine w126 _ q116 _ _ (F88.s.tr f116) m116 ?_ c116
                       rw [hP, if_neg (by omega), if_neg (by omega), if_pos (by omega), if_neg (by omega)]; exact s116)
                    | (refine w126 _ q123 _ _ (F88.s.tr f123.s) m123 ?_ c123
                       rw [hP, if_neg (by omega), if_neg (by omega), if_neg (by omega), if_neg (by omega)]; exact s123)
                · refine wp_aload_n (pc := 115) dX7_readsLine_115 rfl rfl ?_
                  refine wp_cvV0 (pc := 116) dX7_readsLine_116 mv_X7_159 (m_readsShape hg3 hpn rfl (by omega) rfl) (Nat.le_of_ble_eq_true rfl) rfl (Nat.le_of_ble_eq_true rfl) (fun σ_116 h_116 => ?_)
                  obtain ⟨f116, q116, m116, s116, c116⟩ := h_116
                  refine wp_goto (pc := 119) 126 dX7_readsLine_119 (by decide) ?_
                  first
                    | (exfalso; omega)
                    | (refine w126 _ q104 _ _ (F88.s.tr f104.s) m104 ?_ c104
                       rw [hP, if_neg (by omega), if_pos (by omega)]; exact s104)
                    | (refine w126 _ q116 _ _ (F88.s.tr f116) m116 ?_ c116
                       rw [hP, if_neg (by omega), if_neg (by omega), if_pos (by omega), if_neg (by omega)]; exact s116)
                    | (refine w126 _ q123 _ _ (F88.s.tr f123.s) m123 ?_ c123
                       rw [hP, if_neg (by omega), if_neg (by omega), if_neg (by omega), if_neg (by omega)]; exact s123)
              · refine wp_aload_n (pc := 103) dX7_readsLine_103 rfl rfl ?_
                refine wp_cvV0 (pc := 104) dX7_readsLine_104 mv_X7_156 (m_readsSetting hg3 hpn rfl rfl) (Nat.le_of_ble_eq_true rfl) rfl (Nat.le_of_ble_eq_true rfl) (fun σ_104 h_104 => ?_)
                obtain ⟨f104, q104, m104, s104, c104⟩ := h_104
                refine wp_goto (pc := 107) 126 dX7_readsLine_107 (by decide) ?_
                first
                  | (exfalso; omega)
                  | (refine w126 _ q104 _ _ (F88.s.tr f104.s) m104 ?_ c104
                     rw [hP, if_neg (by omega), if_pos (by omega)]; exact s104)
                  | (refine w126 _ q116 _ _ (F88.s.tr f116) m116 ?_ c116
                     rw [hP, if_neg (by omega), if_neg (by omega), if_pos (by omega), if_neg (by omega)]; exact s116)
                  | (refine w126 _ q123 _ _ (F88.s.tr f123.s) m123 ?_ c123
                     rw [hP, if_neg (by omega), if_neg (by omega), if_neg (by omega), if_neg (by omega)]; exact s123)
            · refine wp_return (pc := 98) dX7_readsLine_98 rfl ?_
              first
                | (exfalso; omega)
                | (refine ⟨rfl, (F84.tr f88).r.s, Or.inr ?_⟩
                   rcases q88 with d | d
                   · have hbad := d.2.bad (by omega)
                     have hk3 : tkK t n (s.nx t n).x = 0 := by
                       rcases hbad.2.2 with e | e
                       · exact absurd hf0 e.1
                       · exact e.2.1
                     have hPb : P = (s.nx t n).bad t n 2 := by
                       rw [hP, if_neg (by omega)]
                       rcases (show W = 0 ∨ W = 1 ∨ W = 2 by omega) with e | e | e
                       · rw [if_pos e]; unfold pSet; rw [if_pos (Or.inl (by omega))]
                       · rw [if_neg (by omega), if_pos e, if_neg (by omega)]; unfold pShp; rw [if_pos (by omega)]
                       · rw [if_neg (by omega), if_neg (by omega), if_neg (by omega)]; unfold pPar; rw [if_pos (by omega)]; unfold pBdy; rw [if_pos (by omega)]
                     rw [hPb]; exact hbad.on hf0
                   · rw [d.2]
                     first
                       | (rw [hP, if_pos (by omega)]; exact hg.no (by decide) (by omega) (by omega))
                       | (rw [hP, if_neg (by omega), if_neg (by omega), if_pos (by omega), if_pos (by omega)]; exact hg.no (by decide) (by omega) (by omega))
                       | (rw [hP, if_neg (by omega), if_neg (by omega), if_neg (by omega), if_pos (by omega)]; exact hg.no (by decide) (by omega) (by omega)))
          · refine wp_iload_n (pc := 62) dX7_readsLine_62 rfl rfl ?_
            refine wp_iconst (pc := 63) dX7_readsLine_63 (by decide) ?_
            refine wp_icmp_ne (pc := 64) 78 dX7_readsLine_64 (by decide) (fun c_64 => ?_) (fun c_64 => ?_)
            · refine wp_iconst (pc := 78) dX7_readsLine_78 (by decide) ?_
              refine wp_goto (pc := 79) 83 dX7_readsLine_79 (by decide) ?_
              refine wp_iconst (pc := 83) dX7_readsLine_83 (by decide) ?_
              refine wp_cvV2 (pc := 84) dX7_readsLine_84 mv_X7_111 m_mustP (Nat.le_of_ble_eq_true rfl) rfl (Nat.le_of_ble_eq_true rfl) (fun σ_84 h_84 => ?_)
              have g_84 := h_84; obtain ⟨f_84, a12_84, a13_84, a14_84, a15_84, q_84⟩ := h_84; clear q_84; first | have w_84 := g_84.no (Or.inl (by decide)) | have w_84 := g_84.yes rfl (by omega)
              refine wp_aload_n (pc := 87) dX7_readsLine_87 rfl rfl ?_
              have F84 := (f_20.tr f_51).tr f_84
              refine wp_cvV0 (pc := 88) dX7_readsLine_88 mv_X7_115 (m_readsU (t := t) (n := n) (cnt := s.S 0 0) (q := s.nx t n) (by omega) (fun z => hg.nx F84 (by omega))) (Nat.le_of_ble_eq_true rfl) rfl (Nat.le_of_ble_eq_true rfl) (fun σ_88 h_88 => ?_)
              obtain ⟨f88, q88⟩ := h_88
              refine wp_aload_n (pc := 91) dX7_readsLine_91 rfl rfl ?_
              refine wp_getI (pc := 92) 10 dX7_readsLine_92 fl_X7_81 rfl rfl ?_
              refine wp_if_le (pc := 95) 99 dX7_readsLine_95 (by decide) (fun c_95 => ?_) (fun c_95 => ?_)
              · have hok : σ_84 71 10 = 0 ∧ MS t n σ_88 (s.nx t n) (s.S 0 0) := by
                  rcases q88 with c | c
                  · exact c
                  · rw [c.2] at c_95; omega
                have hg3 := hok.2.good (by omega)
                have F88 := (F84.tr f88).r
                refine wp_iload_n (pc := 99) dX7_readsLine_99 rfl rfl ?_
                refine wp_if_ne (pc := 100) 110 dX7_readsLine_100 (by decide) (fun c_100 => ?_) (fun c_100 => ?_)
                · refine wp_iload_n (pc := 110) dX7_readsLine_110 rfl rfl ?_
                  refine wp_iconst (pc := 111) dX7_readsLine_111 (by decide) ?_
                  refine wp_icmp_ne (pc := 112) 122 dX7_readsLine_112 (by decide) (fun c_112 => ?_) (fun c_112 => ?_)
                  · refine wp_aload_n (pc := 122) dX7_readsLine_122 rfl rfl ?_
                    refine wp_cvV0 (pc := 123) dX7_readsLine_123 mv_X7_162 (m_readsPar hg3 hpn rfl (by show s.D 0 0 < 8; omega) rfl) (Nat.le_of_ble_eq_true rfl) rfl (Nat.le_of_ble_eq_true rfl) (fun σ_123 h_123 => ?_)
                    obtain ⟨f123, q123, m123, s123, c123⟩ := h_123
                    first
                      | (exfalso; omega)
                      | (refine w126 _ q104 _ _ (F88.s.tr f104.s) m104 ?_ c104
                         rw [hP, if_neg (by omega), if_pos (by omega)]; exact s104)
                      | (refine w126 _ q116 _ _ (F88.s.tr f116) m116 ?_ c116
                         rw [hP, if_neg (by omega), if_neg (by omega), if_pos (by omega), if_neg (by omega)]; exact s116)
                      | (refine w126 _ q123 _ _ (F88.s.tr f123.s) m123 ?_ c123
                         rw [hP, if_neg (by omega), if_neg (by omega), if_neg (by omega), if_neg (by omega)]; exact s123)
                  · refine wp_aload_n (pc := 115) dX7_readsLine_115 rfl rfl ?_
                    refine wp_cvV0 (pc := 116) dX7_readsLine_116 mv_X7_159 (m_readsShape hg3 hpn rfl (by omega) rfl) (Nat.le_of_ble_eq_true rfl) rfl (Nat.le_of_ble_eq_true rfl) (fun σ_116 h_116 => ?_)
                    obtain ⟨f116, q116, m116, s116, c116⟩ := h_116
                    refine wp_goto (pc := 119) 126 dX7_readsLine_119 (by decide) ?_
                    first
                      | (exfalso; omega)
                      | (refine w126 _ q104 _ _ (F88.s.tr f104.s) m104 ?_ c104
                         rw [hP, if_neg (by omega), if_pos (by omega)]; exact s104)
                      | (refine w126 _ q116 _ _ (F88.s.tr f116) m116 ?_ c116
                         rw [hP, if_neg (by omega), if_neg (by omega), if_pos (by omega), if_neg (by omega)]; exact s116)
                      | (refine w126 _ q123 _ _ (F88.s.tr f123.s) m123 ?_ c123
                         rw [hP, if_neg (by omega), if_neg (by omega), if_neg (by omega), if_neg (by omega)]; exact s123)
                · refine wp_aload_n (pc := 103) dX7_readsLine_103 rfl rfl ?_
                  refine wp_cvV0 (pc := 104) dX7_readsLine_104 mv_X7_156 (m_readsSetting hg3 hpn rfl rfl) (Nat.le_of_ble_eq_true rfl) rfl (Nat.le_of_ble_eq_true rfl) (fun σ_104 h_104 => ?_)
                  obtain ⟨f104, q104, m104, s104, c104⟩ := h_104
                  refine wp_goto (pc := 107) 126 dX7_readsLine_107 (by decide) ?_
                  first
                    | (exfalso; omega)
                    | (refine w126 _ q104 _ _ (F88.s.tr f104.s) m104 ?_ c104
                       rw [hP, if_neg (by omega), if_pos (by omega)]; exact s104)
                    | (refine w126 _ q116 _ _ (F88.s.tr f116) m116 ?_ c116
                       rw [hP, if_neg (by omega), if_neg (by omega), if_pos (by omega), if_neg (by omega)]; exact s116)
                    | (refine w126 _ q123 _ _ (F88.s.tr f123.s) m123 ?_ c123
                       rw [hP, if_neg (by omega), if_neg (by omega), if_neg (by omega), if_neg (by omega)]; exact s123)
              · refine wp_return (pc := 98) dX7_readsLine_98 rfl ?_
                first
                  | (exfalso; omega)
                  | (refine ⟨rfl, (F84.tr f88).r.s, Or.inr ?_⟩
                     rcases q88 with d | d
                     · have hbad := d.2.bad (by omega)
                       have hk3 : tkK t n (s.nx t n).x = 0 := by
                         rcases hbad.2.2 with e | e
                         · exact absurd hf0 e.1
                         · exact e.2.1
                       have hPb : P = (s.nx t n).bad t n 2 := by
                         rw [hP, if_neg (by omega)]
                         rcases (show W = 0 ∨ W = 1 ∨ W = 2 by omega) with e | e | e
                         · rw [if_pos e]; unfold pSet; rw [if_pos (Or.inl (by omega))]
                         · rw [if_neg (by omega), if_pos e, if_neg (by omega)]; unfold pShp; rw [if_pos (by omega)]
                         · rw [if_neg (by omega), if_neg (by omega), if_neg (by omega)]; unfold pPar; rw [if_pos (by omega)]; unfold pBdy; rw [if_pos (by omega)]
                       rw [hPb]; exact hbad.on hf0
                     · rw [d.2]
                       first
                         | (rw [hP, if_pos (by omega)]; exact hg.no (by decide) (by omega) (by omega))
                         | (rw [hP, if_neg (by omega), if_neg (by omega), if_pos (by omega), if_pos (by omega)]; exact hg.no (by decide) (by omega) (by omega))
                         | (rw [hP, if_neg (by omega), if_neg (by omega), if_neg (by omega), if_pos (by omega)]; exact hg.no (by decide) (by omega) (by omega)))
            · refine wp_aload_n (pc := 67) dX7_readsLine_67 rfl rfl ?_
              refine wp_getR (pc := 68) (q := 73) dX7_readsLine_68 fl_X7_13 rfl ?_
              refine wp_iconst (pc := 71) dX7_readsLine_71 (by decide) ?_
              refine wp_iald (pc := 72) 591 dX7_readsLine_72 rfl (by omega) ?_
              rw [show σ_51 73 0 = s.D 0 0 by rw [f_51.1 73 (by decide), f_20.1 73 (by decide)]; exact e730]
              refine wp_bipush (pc := 73) dX7_readsLine_73 (by decide) (by decide) ?_
              refine wp_icmp_ge (pc := 75) 82 dX7_readsLine_75 (by decide) (fun c_75 => ?_) (fun c_75 => ?_)
              · refine wp_iconst (pc := 82) dX7_readsLine_82 (by decide) ?_
                refine wp_iconst (pc := 83) dX7_readsLine_83 (by decide) ?_
                refine wp_cvV2 (pc := 84) dX7_readsLine_84 mv_X7_111 m_mustP (Nat.le_of_ble_eq_true rfl) rfl (Nat.le_of_ble_eq_true rfl) (fun σ_84 h_84 => ?_)
                have g_84 := h_84; obtain ⟨f_84, a12_84, a13_84, a14_84, a15_84, q_84⟩ := h_84; clear q_84; first | have w_84 := g_84.no (Or.inl (by decide)) | have w_84 := g_84.yes rfl (by omega)
                refine wp_aload_n (pc := 87) dX7_readsLine_87 rfl rfl ?_
                have F84 := (f_20.tr f_51).tr f_84
                refine wp_cvV0 (pc := 88) dX7_readsLine_88 mv_X7_115 (m_readsU (t := t) (n := n) (cnt := s.S 0 0) (q := s.nx t n) (by omega) (fun z => hg.nx F84 (by omega))) (Nat.le_of_ble_eq_true rfl) rfl (Nat.le_of_ble_eq_true rfl) (fun σ_88 h_88 => ?_)
                obtain ⟨f88, q88⟩ := h_88
                refine wp_aload_n (pc := 91) dX7_readsLine_91 rfl rfl ?_
                refine wp_getI (pc := 92) 10 dX7_readsLine_92 fl_X7_81 rfl rfl ?_
                refine wp_if_le (pc := 95) 99 dX7_readsLine_95 (by decide) (fun c_95 => ?_) (fun c_95 => ?_)
                · have hok : σ_84 71 10 = 0 ∧ MS t n σ_88 (s.nx t n) (s.S 0 0) := by
                    rcases q88 with c | c
                    · exact c
                    · rw [c.2] at c_95; omega
                  have hg3 := hok.2.good (by omega)
                  have F88 := (F84.tr f88).r
                  refine wp_iload_n (pc := 99) dX7_readsLine_99 rfl rfl ?_
                  refine wp_if_ne (pc := 100) 110 dX7_readsLine_100 (by decide) (fun c_100 => ?_) (fun c_100 => ?_)
                  · refine wp_iload_n (pc := 110) dX7_readsLine_110 rfl rfl ?_
                    refine wp_iconst (pc := 111) dX7_readsLine_111 (by decide) ?_
                    refine wp_icmp_ne (pc := 112) 122 dX7_readsLine_112 (by decide) (fun c_112 => ?_) (fun c_112 => ?_)
                    · refine wp_aload_n (pc := 122) dX7_readsLine_122 rfl rfl ?_
                      refine wp_cvV0 (pc := 123) dX7_readsLine_123 mv_X7_162 (m_readsPar hg3 hpn rfl (by show s.D 0 0 < 8; omega) rfl) (Nat.le_of_ble_eq_true rfl) rfl (Nat.le_of_ble_eq_true rfl) (fun σ_123 h_123 => ?_)
                      obtain ⟨f123, q123, m123, s123, c123⟩ := h_123
                      first
                        | (exfalso; omega)
                        | (refine w126 _ q104 _ _ (F88.s.tr f104.s) m104 ?_ c104
                           rw [hP, if_neg (by omega), if_pos (by omega)]; exact s104)
                        | (refine w126 _ q116 _ _ (F88.s.tr f116) m116 ?_ c116
                           rw [hP, if_neg (by omega), if_neg (by omega), if_pos (by omega), if_neg (by omega)]; exact s116)
                        | (refine w126 _ q123 _ _ (F88.s.tr f123.s) m123 ?_ c123
                           rw [hP, if_neg (by omega), if_neg (by omega), if_neg (by omega), if_neg (by omega)]; exact s123)
                    · refine wp_aload_n (pc := 115) dX7_readsLine_115 rfl rfl ?_
                      refine wp_cvV0 (pc := 116) dX7_readsLine_116 mv_X7_159 (m_readsShape hg3 hpn rfl (by omega) rfl) (Nat.le_of_ble_eq_true rfl) rfl (Nat.le_of_ble_eq_true rfl) (fun σ_116 h_116 => ?_)
                      obtain ⟨f116, q116, m116, s116, c116⟩ := h_116
                      refine wp_goto (pc := 119) 126 dX7_readsLine_119 (by decide) ?_
                      first
                        | (exfalso; omega)
                        | (refine w126 _ q104 _ _ (F88.s.tr f104.s) m104 ?_ c104
                           rw [hP, if_neg (by omega), if_pos (by omega)]; exact s104)
                        | (refine w126 _ q116 _ _ (F88.s.tr f116) m116 ?_ c116
                           rw [hP, if_neg (by omega), if_neg (by omega), if_pos (by omega), if_neg (by omega)]; exact s116)
                        | (refine w126 _ q123 _ _ (F88.s.tr f123.s) m123 ?_ c123
                           rw [hP, if_neg (by omega), if_neg (by omega), if_neg (by omega), if_neg (by omega)]; exact s123)
                  · refine wp_aload_n (pc := 103) dX7_readsLine_103 rfl rfl ?_
                    refine wp_cvV0 (pc := 104) dX7_readsLine_104 mv_X7_156 (m_readsSetting hg3 hpn rfl rfl) (Nat.le_of_ble_eq_true rfl) rfl (Nat.le_of_ble_eq_true rfl) (fun σ_104 h_104 => ?_)
                    obtain ⟨f104, q104, m104, s104, c104⟩ := h_104
                    refine wp_goto (pc := 107) 126 dX7_readsLine_107 (by decide) ?_
                    first
                      | (exfalso; omega)
                      | (refine w126 _ q104 _ _ (F88.s.tr f104.s) m104 ?_ c104
                         rw [hP, if_neg (by omega), if_pos (by omega)]; exact s104)
                      | (refine w126 _ q116 _ _ (F88.s.tr f116) m116 ?_ c116
                         rw [hP, if_neg (by omega), if_neg (by omega), if_pos (by omega), if_neg (by omega)]; exact s116)
                      | (refine w126 _ q123 _ _ (F88.s.tr f123.s) m123 ?_ c123
                         rw [hP, if_neg (by omega), if_neg (by omega), if_neg (by omega), if_neg (by omega)]; exact s123)
                · refine wp_return (pc := 98) dX7_readsLine_98 rfl ?_
                  first
                    | (exfalso; omega)
                    | (refine ⟨rfl, (F84.tr f88).r.s, Or.inr ?_⟩
                       rcases q88 with d | d
                       · have hbad := d.2.bad (by omega)
                         have hk3 : tkK t n (s.nx t n).x = 0 := by
                           rcases hbad.2.2 with e | e
                           · exact absurd hf0 e.1
                           · exact e.2.1
                         have hPb : P = (s.nx t n).bad t n 2 := by
                           rw [hP, if_neg (by omega)]
                           rcases (show W = 0 ∨ W = 1 ∨ W = 2 by omega) with e | e | e
                           · rw [if_pos e]; unfold pSet; rw [if_pos (Or.inl (by omega))]
                           · rw [if_neg (by omega), if_pos e, if_neg (by omega)]; unfold pShp; rw [if_pos (by omega)]
                           · rw [if_neg (by omega), if_neg (by omega), if_neg (by omega)]; unfold pPar; rw [if_pos (by omega)]; unfold pBdy; rw [if_pos (by omega)]
                         rw [hPb]; exact hbad.on hf0
                       · rw [d.2]
                         first
                           | (rw [hP, if_pos (by omega)]; exact hg.no (by decide) (by omega) (by omega))
                           | (rw [hP, if_neg (by omega), if_neg (by omega), if_pos (by omega), if_pos (by omega)]; exact hg.no (by decide) (by omega) (by omega))
                           | (rw [hP, if_neg (by omega), if_neg (by omega), if_neg (by omega), if_pos (by omega)]; exact hg.no (by decide) (by omega) (by omega)))
              · refine wp_iconst (pc := 78) dX7_readsLine_78 (by decide) ?_
                refine wp_goto (pc := 79) 83 dX7_readsLine_79 (by decide) ?_
                refine wp_iconst (pc := 83) dX7_readsLine_83 (by decide) ?_
                refine wp_cvV2 (pc := 84) dX7_readsLine_84 mv_X7_111 m_mustP (Nat.le_of_ble_eq_true rfl) rfl (Nat.le_of_ble_eq_true rfl) (fun σ_84 h_84 => ?_)
                have g_84 := h_84; obtain ⟨f_84, a12_84, a13_84, a14_84, a15_84, q_84⟩ := h_84; clear q_84; first | have w_84 := g_84.no (Or.inl (by decide)) | have w_84 := g_84.yes rfl (by omega)
                refine wp_aload_n (pc := 87) dX7_readsLine_87 rfl rfl ?_
                have F84 := (f_20.tr f_51).tr f_84
                refine wp_cvV0 (pc := 88) dX7_readsLine_88 mv_X7_115 (m_readsU (t := t) (n := n) (cnt := s.S 0 0) (q := s.nx t n) (by omega) (fun z => hg.nx F84 (by omega))) (Nat.le_of_ble_eq_true rfl) rfl (Nat.le_of_ble_eq_true rfl) (fun σ_88 h_88 => ?_)
                obtain ⟨f88, q88⟩ := h_88
                refine wp_aload_n (pc := 91) dX7_readsLine_91 rfl rfl ?_
                refine wp_getI (pc := 92) 10 dX7_readsLine_92 fl_X7_81 rfl rfl ?_
                refine wp_if_le (pc := 95) 99 dX7_readsLine_95 (by decide) (fun c_95 => ?_) (fun c_95 => ?_)
                · have hok : σ_84 71 10 = 0 ∧ MS t n σ_88 (s.nx t n) (s.S 0 0) := by
                    rcases q88 with c | c
                    · exact c
                    · rw [c.2] at c_95; omega
                  have hg3 := hok.2.good (by omega)
                  have F88 := (F84.tr f88).r
                  refine wp_iload_n (pc := 99) dX7_readsLine_99 rfl rfl ?_
                  refine wp_if_ne (pc := 100) 110 dX7_readsLine_100 (by decide) (fun c_100 => ?_) (fun c_100 => ?_)
                  · refine wp_iload_n (pc := 110) dX7_readsLine_110 rfl rfl ?_
                    refine wp_iconst (pc := 111) dX7_readsLine_111 (by decide) ?_
                    refine wp_icmp_ne (pc := 112) 122 dX7_readsLine_112 (by decide) (fun c_112 => ?_) (fun c_112 => ?_)
                    · refine wp_aload_n (pc := 122) dX7_readsLine_122 rfl rfl ?_
                      refine wp_cvV0 (pc := 123) dX7_readsLine_123 mv_X7_162 (m_readsPar hg3 hpn rfl (by show s.D 0 0 < 8; omega) rfl) (Nat.le_of_ble_eq_true rfl) rfl (Nat.le_of_ble_eq_true rfl) (fun σ_123 h_123 => ?_)
                      obtain ⟨f123, q123, m123, s123, c123⟩ := h_123
                      first
                        | (exfalso; omega)
                        | (refine w126 _ q104 _ _ (F88.s.tr f104.s) m104 ?_ c104
                           rw [hP, if_neg (by omega), if_pos (by omega)]; exact s104)
                        | (refine w126 _ q116 _ _ (F88.s.tr f116) m116 ?_ c116
                           rw [hP, if_neg (by omega), if_neg (by omega), if_pos (by omega), if_neg (by omega)]; exact s116)
                        | (refine w126 _ q123 _ _ (F88.s.tr f123.s) m123 ?_ c123
                           rw [hP, if_neg (by omega), if_neg (by omega), if_neg (by omega), if_neg (by omega)]; exact s123)
                    · refine wp_aload_n (pc := 115) dX7_readsLine_115 rfl rfl ?_
                      refine wp_cvV0 (pc := 116) dX7_readsLine_116 mv_X7_159 (m_readsShape hg3 hpn rfl (by omega) rfl) (Nat.le_of_ble_eq_true rfl) rfl (Nat.le_of_ble_eq_true rfl) (fun σ_116 h_116 => ?_)
                      obtain ⟨f116, q116, m116, s116, c116⟩ := h_116
                      refine wp_goto (pc := 119) 126 dX7_readsLine_119 (by decide) ?_
                      first
                        | (exfalso; omega)
                        | (refine w126 _ q104 _ _ (F88.s.tr f104.s) m104 ?_ c104
                           rw [hP, if_neg (by omega), if_pos (by omega)]; exact s104)
                        | (refine w126 _ q116 _ _ (F88.s.tr f116) m116 ?_ c116
                           rw [hP, if_neg (by omega), if_neg (by omega), if_pos (by omega), if_neg (by omega)]; exact s116)
                        | (refine w126 _ q123 _ _ (F88.s.tr f123.s) m123 ?_ c123
                           rw [hP, if_neg (by omega), if_neg (by omega), if_neg (by omega), if_neg (by omega)]; exact s123)
                  · refine wp_aload_n (pc := 103) dX7_readsLine_103 rfl rfl ?_
                    refine wp_cvV0 (pc := 104) dX7_readsLine_104 mv_X7_156 (m_readsSetting hg3 hpn rfl rfl) (Nat.le_of_ble_eq_true rfl) rfl (Nat.le_of_ble_eq_true rfl) (fun σ_104 h_104 => ?_)
                    obtain ⟨f104, q104, m104, s104, c104⟩ := h_104
                    refine wp_goto (pc := 107) 126 dX7_readsLine_107 (by decide) ?_
                    first
                      | (exfalso; omega)
                      | (refine w126 _ q104 _ _ (F88.s.tr f104.s) m104 ?_ c104
                         rw [hP, if_neg (by omega), if_pos (by omega)]; exact s104)
                      | (refine w126 _ q116 _ _ (F88.s.tr f116) m116 ?_ c116
                         rw [hP, if_neg (by omega), if_neg (by omega), if_pos (by omega), if_neg (by omega)]; exact s116)
                      | (refine w126 _ q123 _ _ (F88.s.tr f123.s) m123 ?_ c123
                         rw [hP, if_neg (by omega), if_neg (by omega), if_neg (by omega), if_neg (by omega)]; exact s123)
                · refine wp_return (pc := 98) dX7_readsLine_98 rfl ?_
                  first
                    | (exfalso; omega)
                    | (refine ⟨rfl, (F84.tr f88).r.s, Or.inr ?_⟩
                       rcases q88 with d | d
                       · have hbad := d.2.bad (by omega)
                         have hk3 : tkK t n (s.nx t n).x = 0 := by
                           rcases hbad.2.2 with e | e
                           · exact absurd hf0 e.1
                           · exact e.2.1
                         have hPb : P = (s.nx t n).bad t n 2 := by
                           rw [hP, if_neg (by omega)]
                           rcases (show W = 0 ∨ W = 1 ∨ W = 2 by omega) with e | e | e
                           · rw [if_pos e]; unfold pSet; rw [if_pos (Or.inl (by omega))]
                           · rw [if_neg (by omega), if_pos e, if_neg (by omega)]; unfold pShp; rw [if_pos (by omega)]
                           · rw [if_neg (by omega), if_neg (by omega), if_neg (by omega)]; unfold pPar; rw [if_pos (by omega)]; unfold pBdy; rw [if_pos (by omega)]
                         rw [hPb]; exact hbad.on hf0
                       · rw [d.2]
                         first
                           | (rw [hP, if_pos (by omega)]; exact hg.no (by decide) (by omega) (by omega))
                           | (rw [hP, if_neg (by omega), if_neg (by omega), if_pos (by omega), if_pos (by omega)]; exact hg.no (by decide) (by omega) (by omega))
                           | (rw [hP, if_neg (by omega), if_neg (by omega), if_neg (by omega), if_pos (by omega)]; exact hg.no (by decide) (by omega) (by omega)))
        · refine wp_iconst (pc := 45) dX7_readsLine_45 (by decide) ?_
          refine wp_goto (pc := 46) 50 dX7_readsLine_46 (by decide) ?_
          refine wp_iconst (pc := 50) dX7_readsLine_50 (by decide) ?_
          refine wp_cvV2 (pc := 51) dX7_readsLine_51 mv_X7_111 m_mustP (Nat.le_of_ble_eq_true rfl) rfl (Nat.le_of_ble_eq_true rfl) (fun σ_51 h_51 => ?_)
          have g_51 := h_51; obtain ⟨f_51, a12_51, a13_51, a14_51, a15_51, q_51⟩ := h_51; clear q_51; first | have w_51 := g_51.no (Or.inl (by decide)) | have w_51 := g_51.yes rfl (by omega)
          refine wp_aload_n (pc := 54) dX7_readsLine_54 rfl rfl ?_
          refine wp_aload_n (pc := 55) dX7_readsLine_55 rfl rfl ?_
          refine wp_getI (pc := 56) 10 dX7_readsLine_56 fl_X7_81 rfl rfl ?_
          refine wp_if_gt (pc := 59) 78 dX7_readsLine_59 (by decide) (fun c_59 => ?_) (fun c_59 => ?_)
          · refine wp_iconst (pc := 78) dX7_readsLine_78 (by decide) ?_
            refine wp_goto (pc := 79) 83 dX7_readsLine_79 (by decide) ?_
            refine wp_iconst (pc := 83) dX7_readsLine_83 (by decide) ?_
            refine wp_cvV2 (pc := 84) dX7_readsLine_84 mv_X7_111 m_mustP (Nat.le_of_ble_eq_true rfl) rfl (Nat.le_of_ble_eq_true rfl) (fun σ_84 h_84 => ?_)
            have g_84 := h_84; obtain ⟨f_84, a12_84, a13_84, a14_84, a15_84, q_84⟩ := h_84; clear q_84; first | have w_84 := g_84.no (Or.inl (by decide)) | have w_84 := g_84.yes rfl (by omega)
            refine wp_aload_n (pc := 87) dX7_readsLine_87 rfl rfl ?_
            have F84 := (f_20.tr f_51).tr f_84
            refine wp_cvV0 (pc := 88) dX7_readsLine_88 mv_X7_115 (m_readsU (t := t) (n := n) (cnt := s.S 0 0) (q := s.nx t n) (by omega) (fun z => hg.nx F84 (by omega))) (Nat.le_of_ble_eq_true rfl) rfl (Nat.le_of_ble_eq_true rfl) (fun σ_88 h_88 => ?_)
            obtain ⟨f88, q88⟩ := h_88
            refine wp_aload_n (pc := 91) dX7_readsLine_91 rfl rfl ?_
            refine wp_getI (pc := 92) 10 dX7_readsLine_92 fl_X7_81 rfl rfl ?_
            refine wp_if_le (pc := 95) 99 dX7_readsLine_95 (by decide) (fun c_95 => ?_) (fun c_95 => ?_)
            · have hok : σ_84 71 10 = 0 ∧ MS t n σ_88 (s.nx t n) (s.S 0 0) := by
                rcases q88 with c | c
                · exact c
                · rw [c.2] at c_95; omega
              have hg3 := hok.2.good (by omega)
              have F88 := (F84.tr f88).r
              refine wp_iload_n (pc := 99) dX7_readsLine_99 rfl rfl ?_
              refine wp_if_ne (pc := 100) 110 dX7_readsLine_100 (by decide) (fun c_100 => ?_) (fun c_100 => ?_)
              · refine wp_iload_n (pc := 110) dX7_readsLine_110 rfl rfl ?_
                refine wp_iconst (pc := 111) dX7_readsLine_111 (by decide) ?_
                refine wp_icmp_ne (pc := 112) 122 dX7_readsLine_112 (by decide) (fun c_112 => ?_) (fun c_112 => ?_)
                · refine wp_aload_n (pc := 122) dX7_readsLine_122 rfl rfl ?_
                  refine wp_cvV0 (pc := 123) dX7_readsLine_123 mv_X7_162 (m_readsPar hg3 hpn rfl (by show s.D 0 0 < 8; omega) rfl) (Nat.le_of_ble_eq_true rfl) rfl (Nat.le_of_ble_eq_true rfl) (fun σ_123 h_123 => ?_)
                  obtain ⟨f123, q123, m123, s123, c123⟩ := h_123
                  first
                    | (exfalso; omega)
                    | (refine w126 _ q104 _ _ (F88.s.tr f104.s) m104 ?_ c104
                       rw [hP, if_neg (by omega), if_pos (by omega)]; exact s104)
                    | (refine w126 _ q116 _ _ (F88.s.tr f116) m116 ?_ c116
                       rw [hP, if_neg (by omega), if_neg (by omega), if_pos (by omega), if_neg (by omega)]; exact s116)
                    | (refine w126 _ q123 _ _ (F88.s.tr f123.s) m123 ?_ c123
                       rw [hP, if_neg (by omega), if_neg (by omega), if_neg (by omega), if_neg (by omega)]; exact s123)
                · refine wp_aload_n (pc := 115) dX7_readsLine_115 rfl rfl ?_
                  refine wp_cvV0 (pc := 116) dX7_readsLine_116 mv_X7_159 (m_readsShape hg3 hpn rfl (by omega) rfl) (Nat.le_of_ble_eq_true rfl) rfl (Nat.le_of_ble_eq_true rfl) (fun σ_116 h_116 => ?_)
                  obtain ⟨f116, q116, m116, s116, c116⟩ := h_116
                  refine wp_goto (pc := 119) 126 dX7_readsLine_119 (by decide) ?_
                  first
                    | (exfalso; omega)
                    | (refine w126 _ q104 _ _ (F88.s.tr f104.s) m104 ?_ c104
                       rw [hP, if_neg (by omega), if_pos (by omega)]; exact s104)
                    | (refine w126 _ q116 _ _ (F88.s.tr f116) m116 ?_ c116
                       rw [hP, if_neg (by omega), if_neg (by omega), if_pos (by omega), if_neg (by omega)]; exact s116)
                    | (refine w126 _ q123 _ _ (F88.s.tr f123.s) m123 ?_ c123
                       rw [hP, if_neg (by omega), if_neg (by omega), if_neg (by omega), if_neg (by omega)]; exact s123)
              · refine wp_aload_n (pc := 103) dX7_readsLine_103 rfl rfl ?_
                refine wp_cvV0 (pc := 104) dX7_readsLine_104 mv_X7_156 (m_readsSetting hg3 hpn rfl rfl) (Nat.le_of_ble_eq_true rfl) rfl (Nat.le_of_ble_eq_true rfl) (fun σ_104 h_104 => ?_)
                obtain ⟨f104, q104, m104, s104, c104⟩ := h_104
                refine wp_goto (pc := 107) 126 dX7_readsLine_107 (by decide) ?_
                first
                  | (exfalso; omega)
                  | (refine w126 _ q104 _ _ (F88.s.tr f104.s) m104 ?_ c104
                     rw [hP, if_neg (by omega), if_pos (by omega)]; exact s104)
                  | (refine w126 _ q116 _ _ (F88.s.tr f116) m116 ?_ c116
                     rw [hP, if_neg (by omega), if_neg (by omega), if_pos (by omega), if_neg (by omega)]; exact s116)
                  | (refine w126 _ q123 _ _ (F88.s.tr f123.s) m123 ?_ c123
                     rw [hP, if_neg (by omega), if_neg (by omega), if_neg (by omega), if_neg (by omega)]; exact s123)
            · refine wp_return (pc := 98) dX7_readsLine_98 rfl ?_
              first
                | (exfalso; omega)
                | (refine ⟨rfl, (F84.tr f88).r.s, Or.inr ?_⟩
                   rcases q88 with d | d
                   · have hbad := d.2.bad (by omega)
                     have hk3 : tkK t n (s.nx t n).x = 0 := by
                       rcases hbad.2.2 with e | e
                       · exact absurd hf0 e.1
                       · exact e.2.1
                     have hPb : P = (s.nx t n).bad t n 2 := by
                       rw [hP, if_neg (by omega)]
                       rcases (show W = 0 ∨ W = 1 ∨ W = 2 by omega) with e | e | e
                       · rw [if_pos e]; unfold pSet; rw [if_pos (Or.inl (by omega))]
                       · rw [if_neg (by omega), if_pos e, if_neg (by omega)]; unfold pShp; rw [if_pos (by omega)]
                       · rw [if_neg (by omega), if_neg (by omega), if_neg (by omega)]; unfold pPar; rw [if_pos (by omega)]; unfold pBdy; rw [if_pos (by omega)]
                     rw [hPb]; exact hbad.on hf0
                   · rw [d.2]
                     first
                       | (rw [hP, if_pos (by omega)]; exact hg.no (by decide) (by omega) (by omega))
                       | (rw [hP, if_neg (by omega), if_neg (by omega), if_pos (by omega), if_pos (by omega)]; exact hg.no (by decide) (by omega) (by omega))
                       | (rw [hP, if_neg (by omega), if_neg (by omega), if_neg (by omega), if_pos (by omega)]; exact hg.no (by decide) (by omega) (by omega)))
          · refine wp_iload_n (pc := 62) dX7_readsLine_62 rfl rfl ?_
            refine wp_iconst (pc := 63) dX7_readsLine_63 (by decide) ?_
            refine wp_icmp_ne (pc := 64) 78 dX7_readsLine_64 (by decide) (fun c_64 => ?_) (fun c_64 => ?_)
            · refine wp_iconst (pc := 78) dX7_readsLine_78 (by decide) ?_
              refine wp_goto (pc := 79) 83 dX7_readsLine_79 (by decide) ?_
              refine wp_iconst (pc := 83) dX7_readsLine_83 (by decide) ?_
              refine wp_cvV2 (pc := 84) dX7_readsLine_84 mv_X7_111 m_mustP (Nat.le_of_ble_eq_true rfl) rfl (Nat.le_of_ble_eq_true rfl) (fun σ_84 h_84 => ?_)
              have g_84 := h_84; obtain ⟨f_84, a12_84, a13_84, a14_84, a15_84, q_84⟩ := h_84; clear q_84; first | have w_84 := g_84.no (Or.inl (by decide)) | have w_84 := g_84.yes rfl (by omega)
              refine wp_aload_n (pc := 87) dX7_readsLine_87 rfl rfl ?_
              have F84 := (f_20.tr f_51).tr f_84
              refine wp_cvV0 (pc := 88) dX7_readsLine_88 mv_X7_115 (m_readsU (t := t) (n := n) (cnt := s.S 0 0) (q := s.nx t n) (by omega) (fun z => hg.nx F84 (by omega))) (Nat.le_of_ble_eq_true rfl) rfl (Nat.le_of_ble_eq_true rfl) (fun σ_88 h_88 => ?_)
              obtain ⟨f88, q88⟩ := h_88
              refine wp_aload_n (pc := 91) dX7_readsLine_91 rfl rfl ?_
              refine wp_getI (pc := 92) 10 dX7_readsLine_92 fl_X7_81 rfl rfl ?_
              refine wp_if_le (pc := 95) 99 dX7_readsLine_95 (by decide) (fun c_95 => ?_) (fun c_95 => ?_)
              · have hok : σ_84 71 10 = 0 ∧ MS t n σ_88 (s.nx t n) (s.S 0 0) := by
                  rcases q88 with c | c
                  · exact c
                  · rw [c.2] at c_95; omega
                have hg3 := hok.2.good (by omega)
                have F88 := (F84.tr f88).r
                refine wp_iload_n (pc := 99) dX7_readsLine_99 rfl rfl ?_
                refine wp_if_ne (pc := 100) 110 dX7_readsLine_100 (by decide) (fun c_100 => ?_) (fun c_100 => ?_)
                · refine wp_iload_n (pc := 110) dX7_readsLine_110 rfl rfl ?_
                  refine wp_iconst (pc := 111) dX7_readsLine_111 (by decide) ?_
                  refine wp_icmp_ne (pc := 112) 122 dX7_readsLine_112 (by decide) (fun c_112 => ?_) (fun c_112 => ?_)
                  · refine wp_aload_n (pc := 122) dX7_readsLine_122 rfl rfl ?_
                    refine wp_cvV0 (pc := 123) dX7_readsLine_123 mv_X7_162 (m_readsPar hg3 hpn rfl (by show s.D 0 0 < 8; omega) rfl) (Nat.le_of_ble_eq_true rfl) rfl (Nat.le_of_ble_eq_true rfl) (fun σ_123 h_123 => ?_)
                    obtain ⟨f123, q123, m123, s123, c123⟩ := h_123
                    first
                      | (exfalso; omega)
                      | (refine w126 _ q104 _ _ (F88.s.tr f104.s) m104 ?_ c104
                         rw [hP, if_neg (by omega), if_pos (by omega)]; exact s104)
                      | (refine w126 _ q116 _ _ (F88.s.tr f116) m116 ?_ c116
                         rw [hP, if_neg (by omega), if_neg (by omega), if_pos (by omega), if_neg (by omega)]; exact s116)
                      | (refine w126 _ q123 _ _ (F88.s.tr f123.s) m123 ?_ c123
                         rw [hP, if_neg (by omega), if_neg (by omega), if_neg (by omega), if_neg (by omega)]; exact s123)
                  · refine wp_aload_n (pc := 115) dX7_readsLine_115 rfl rfl ?_
                    refine wp_cvV0 (pc := 116) dX7_readsLine_116 mv_X7_159 (m_readsShape hg3 hpn rfl (by omega) rfl) (Nat.le_of_ble_eq_true rfl) rfl (Nat.le_of_ble_eq_true rfl) (fun σ_116 h_116 => ?_)
                    obtain ⟨f116, q116, m116, s116, c116⟩ := h_116
                    refine wp_goto (pc := 119) 126 dX7_readsLine_119 (by decide) ?_
                    first
                      | (exfalso; omega)
                      | (refine w126 _ q104 _ _ (F88.s.tr f104.s) m104 ?_ c104
                         rw [hP, if_neg (by omega), if_pos (by omega)]; exact s104)
                      | (refine w126 _ q116 _ _ (F88.s.tr f116) m116 ?_ c116
                         rw [hP, if_neg (by omega), if_neg (by omega), if_pos (by omega), if_neg (by omega)]; exact s116)
                      | (refine w126 _ q123 _ _ (F88.s.tr f123.s) m123 ?_ c123
                         rw [hP, if_neg (by omega), if_neg (by omega), if_neg (by omega), if_neg (by omega)]; exact s123)
                · refine wp_aload_n (pc := 103) dX7_readsLine_103 rfl rfl ?_
                  refine wp_cvV0 (pc := 104) dX7_readsLine_104 mv_X7_156 (m_readsSetting hg3 hpn rfl rfl) (Nat.le_of_ble_eq_true rfl) rfl (Nat.le_of_ble_eq_true rfl) (fun σ_104 h_104 => ?_)
                  obtain ⟨f104, q104, m104, s104, c104⟩ := h_104
                  refine wp_goto (pc := 107) 126 dX7_readsLine_107 (by decide) ?_
                  first
                    | (exfalso; omega)
                    | (refine w126 _ q104 _ _ (F88.s.tr f104.s) m104 ?_ c104
                       rw [hP, if_neg (by omega), if_pos (by omega)]; exact s104)
                    | (refine w126 _ q116 _ _ (F88.s.tr f116) m116 ?_ c116
                       rw [hP, if_neg (by omega), if_neg (by omega), if_pos (by omega), if_neg (by omega)]; exact s116)
                    | (refine w126 _ q123 _ _ (F88.s.tr f123.s) m123 ?_ c123
                       rw [hP, if_neg (by omega), if_neg (by omega), if_neg (by omega), if_neg (by omega)]; exact s123)
              · refine wp_return (pc := 98) dX7_readsLine_98 rfl ?_
                first
                  | (exfalso; omega)
                  | (refine ⟨rfl, (F84.tr f88).r.s, Or.inr ?_⟩
                     rcases q88 with d | d
                     · have hbad := d.2.bad (by omega)
                       have hk3 : tkK t n (s.nx t n).x = 0 := by
                         rcases hbad.2.2 with e | e
                         · exact absurd hf0 e.1
                         · exact e.2.1
                       have hPb : P = (s.nx t n).bad t n 2 := by
                         rw [hP, if_neg (by omega)]
                         rcases (show W = 0 ∨ W = 1 ∨ W = 2 by omega) with e | e | e
                         · rw [if_pos e]; unfold pSet; rw [if_pos (Or.inl (by omega))]
                         · rw [if_neg (by omega), if_pos e, if_neg (by omega)]; unfold pShp; rw [if_pos (by omega)]
                         · rw [if_neg (by omega), if_neg (by omega), if_neg (by omega)]; unfold pPar; rw [if_pos (by omega)]; unfold pBdy; rw [if_pos (by omega)]
                       rw [hPb]; exact hbad.on hf0
                     · rw [d.2]
                       first
                         | (rw [hP, if_pos (by omega)]; exact hg.no (by decide) (by omega) (by omega))
                         | (rw [hP, if_neg (by omega), if_neg (by omega), if_pos (by omega), if_pos (by omega)]; exact hg.no (by decide) (by omega) (by omega))
                         | (rw [hP, if_neg (by omega), if_neg (by omega), if_neg (by omega), if_pos (by omega)]; exact hg.no (by decide) (by omega) (by omega)))
            · refine wp_aload_n (pc := 67) dX7_readsLine_67 rfl rfl ?_
              refine wp_getR (pc := 68) (q := 73) dX7_readsLine_68 fl_X7_13 rfl ?_
              refine wp_iconst (pc := 71) dX7_readsLine_71 (by decide) ?_
              refine wp_iald (pc := 72) 591 dX7_readsLine_72 rfl (by omega) ?_
              rw [show σ_51 73 0 = s.D 0 0 by rw [f_51.1 73 (by decide), f_20.1 73 (by decide)]; exact e730]
              refine wp_bipush (pc := 73) dX7_readsLine_73 (by decide) (by decide) ?_
              refine wp_icmp_ge (pc := 75) 82 dX7_readsLine_75 (by decide) (fun c_75 => ?_) (fun c_75 => ?_)
              · refine wp_iconst (pc := 82) dX7_readsLine_82 (by decide) ?_
                refine wp_iconst (pc := 83) dX7_readsLine_83 (by decide) ?_
                refine wp_cvV2 (pc := 84) dX7_readsLine_84 mv_X7_111 m_mustP (Nat.le_of_ble_eq_true rfl) rfl (Nat.le_of_ble_eq_true rfl) (fun σ_84 h_84 => ?_)
                have g_84 := h_84; obtain ⟨f_84, a12_84, a13_84, a14_84, a15_84, q_84⟩ := h_84; clear q_84; first | have w_84 := g_84.no (Or.inl (by decide)) | have w_84 := g_84.yes rfl (by omega)
                refine wp_aload_n (pc := 87) dX7_readsLine_87 rfl rfl ?_
                have F84 := (f_20.tr f_51).tr f_84
                refine wp_cvV0 (pc := 88) dX7_readsLine_88 mv_X7_115 (m_readsU (t := t) (n := n) (cnt := s.S 0 0) (q := s.nx t n) (by omega) (fun z => hg.nx F84 (by omega))) (Nat.le_of_ble_eq_true rfl) rfl (Nat.le_of_ble_eq_true rfl) (fun σ_88 h_88 => ?_)
                obtain ⟨f88, q88⟩ := h_88
                refine wp_aload_n (pc := 91) dX7_readsLine_91 rfl rfl ?_
                refine wp_getI (pc := 92) 10 dX7_readsLine_92 fl_X7_81 rfl rfl ?_
                refine wp_if_le (pc := 95) 99 dX7_readsLine_95 (by decide) (fun c_95 => ?_) (fun c_95 => ?_)
                · have hok : σ_84 71 10 = 0 ∧ MS t n σ_88 (s.nx t n) (s.S 0 0) := by
                    rcases q88 with c | c
                    · exact c
                    · rw [c.2] at c_95; omega
                  have hg3 := hok.2.good (by omega)
                  have F88 := (F84.tr f88).r
                  refine wp_iload_n (pc := 99) dX7_readsLine_99 rfl rfl ?_
                  refine wp_if_ne (pc := 100) 110 dX7_readsLine_100 (by decide) (fun c_100 => ?_) (fun c_100 => ?_)
                  · refine wp_iload_n (pc := 110) dX7_readsLine_110 rfl rfl ?_
                    refine wp_iconst (pc := 111) dX7_readsLine_111 (by decide) ?_
                    refine wp_icmp_ne (pc := 112) 122 dX7_readsLine_112 (by decide) (fun c_112 => ?_) (fun c_112 => ?_)
                    · refine wp_aload_n (pc := 122) dX7_readsLine_122 rfl rfl ?_
                      refine wp_cvV0 (pc := 123) dX7_readsLine_123 mv_X7_162 (m_readsPar hg3 hpn rfl (by show s.D 0 0 < 8; omega) rfl) (Nat.le_of_ble_eq_true rfl) rfl (Nat.le_of_ble_eq_true rfl) (fun σ_123 h_123 => ?_)
                      obtain ⟨f123, q123, m123, s123, c123⟩ := h_123
                      first
                        | (exfalso; omega)
                        | (refine w126 _ q104 _ _ (F88.s.tr f104.s) m104 ?_ c104
                           rw [hP, if_neg (by omega), if_pos (by omega)]; exact s104)
                        | (refine w126 _ q116 _ _ (F88.s.tr f116) m116 ?_ c116
                           rw [hP, if_neg (by omega), if_neg (by omega), if_pos (by omega), if_neg (by omega)]; exact s116)
                        | (refine w126 _ q123 _ _ (F88.s.tr f123.s) m123 ?_ c123
                           rw [hP, if_neg (by omega), if_neg (by omega), if_neg (by omega), if_neg (by omega)]; exact s123)
                    · refine wp_aload_n (pc := 115) dX7_readsLine_115 rfl rfl ?_
                      refine wp_cvV0 (pc := 116) dX7_readsLine_116 mv_X7_159 (m_readsShape hg3 hpn rfl (by omega) rfl) (Nat.le_of_ble_eq_true rfl) rfl (Nat.le_of_ble_eq_true rfl) (fun σ_116 h_116 => ?_)
                      obtain ⟨f116, q116, m116, s116, c116⟩ := h_116
                      refine wp_goto (pc := 119) 126 dX7_readsLine_119 (by decide) ?_
                      first
                        | (exfalso; omega)
                        | (refine w126 _ q104 _ _ (F88.s.tr f104.s) m104 ?_ c104
                           rw [hP, if_neg (by omega), if_pos (by omega)]; exact s104)
                        | (refine w126 _ q116 _ _ (F88.s.tr f116) m116 ?_ c116
                           rw [hP, if_neg (by omega), if_neg (by omega), if_pos (by omega), if_neg (by omega)]; exact s116)
                        | (refine w126 _ q123 _ _ (F88.s.tr f123.s) m123 ?_ c123
                           rw [hP, if_neg (by omega), if_neg (by omega), if_neg (by omega), if_neg (by omega)]; exact s123)
                  · refine wp_aload_n (pc := 103) dX7_readsLine_103 rfl rfl ?_
                    refine wp_cvV0 (pc := 104) dX7_readsLine_104 mv_X7_156 (m_readsSetting hg3 hpn rfl rfl) (Nat.le_of_ble_eq_true rfl) rfl (Nat.le_of_ble_eq_true rfl) (fun σ_104 h_104 => ?_)
                    obtain ⟨f104, q104, m104, s104, c104⟩ := h_104
                    refine wp_goto (pc := 107) 126 dX7_readsLine_107 (by decide) ?_
                    first
                      | (exfalso; omega)
                      | (refine w126 _ q104 _ _ (F88.s.tr f104.s) m104 ?_ c104
                         rw [hP, if_neg (by omega), if_pos (by omega)]; exact s104)
                      | (refine w126 _ q116 _ _ (F88.s.tr f116) m116 ?_ c116
                         rw [hP, if_neg (by omega), if_neg (by omega), if_pos (by omega), if_neg (by omega)]; exact s116)
                      | (refine w126 _ q123 _ _ (F88.s.tr f123.s) m123 ?_ c123
                         rw [hP, if_neg (by omega), if_neg (by omega), if_neg (by omega), if_neg (by omega)]; exact s123)
                · refine wp_return (pc := 98) dX7_readsLine_98 rfl ?_
                  first
                    | (exfalso; omega)
                    | (refine ⟨rfl, (F84.tr f88).r.s, Or.inr ?_⟩
                       rcases q88 with d | d
                       · have hbad := d.2.bad (by omega)
                         have hk3 : tkK t n (s.nx t n).x = 0 := by
                           rcases hbad.2.2 with e | e
                           · exact absurd hf0 e.1
                           · exact e.2.1
                         have hPb : P = (s.nx t n).bad t n 2 := by
                           rw [hP, if_neg (by omega)]
                           rcases (show W = 0 ∨ W = 1 ∨ W = 2 by omega) with e | e | e
                           · rw [if_pos e]; unfold pSet; rw [if_pos (Or.inl (by omega))]
                           · rw [if_neg (by omega), if_pos e, if_neg (by omega)]; unfold pShp; rw [if_pos (by omega)]
                           · rw [if_neg (by omega), if_neg (by omega), if_neg (by omega)]; unfold pPar; rw [if_pos (by omega)]; unfold pBdy; rw [if_pos (by omega)]
                         rw [hPb]; exact hbad.on hf0
                       · rw [d.2]
                         first
                           | (rw [hP, if_pos (by omega)]; exact hg.no (by decide) (by omega) (by omega))
                           | (rw [hP, if_neg (by omega), if_neg (by omega), if_pos (by omega), if_pos (by omega)]; exact hg.no (by decide) (by omega) (by omega))
                           | (rw [hP, if_neg (by omega), if_neg (by omega), if_neg (by omega), if_pos (by omega)]; exact hg.no (by decide) (by omega) (by omega)))
              · refine wp_iconst (pc := 78) dX7_readsLine_78 (by decide) ?_
                refine wp_goto (pc := 79) 83 dX7_readsLine_79 (by decide) ?_
                refine wp_iconst (pc := 83) dX7_readsLine_83 (by decide) ?_
                refine wp_cvV2 (pc := 84) dX7_readsLine_84 mv_X7_111 m_mustP (Nat.le_of_ble_eq_true rfl) rfl (Nat.le_of_ble_eq_true rfl) (fun σ_84 h_84 => ?_)
                have g_84 := h_84; obtain ⟨f_84, a12_84, a13_84, a14_84, a15_84, q_84⟩ := h_84; clear q_84; first | have w_84 := g_84.no (Or.inl (by decide)) | have w_84 := g_84.yes rfl (by omega)
                refine wp_aload_n (pc := 87) dX7_readsLine_87 rfl rfl ?_
                have F84 := (f_20.tr f_51).tr f_84
                refine wp_cvV0 (pc := 88) dX7_readsLine_88 mv_X7_115 (m_readsU (t := t) (n := n) (cnt := s.S 0 0) (q := s.nx t n) (by omega) (fun z => hg.nx F84 (by omega))) (Nat.le_of_ble_eq_true rfl) rfl (Nat.le_of_ble_eq_true rfl) (fun σ_88 h_88 => ?_)
                obtain ⟨f88, q88⟩ := h_88
                refine wp_aload_n (pc := 91) dX7_readsLine_91 rfl rfl ?_
                refine wp_getI (pc := 92) 10 dX7_readsLine_92 fl_X7_81 rfl rfl ?_
                refine wp_if_le (pc := 95) 99 dX7_readsLine_95 (by decide) (fun c_95 => ?_) (fun c_95 => ?_)
                · have hok : σ_84 71 10 = 0 ∧ MS t n σ_88 (s.nx t n) (s.S 0 0) := by
                    rcases q88 with c | c
                    · exact c
                    · rw [c.2] at c_95; omega
                  have hg3 := hok.2.good (by omega)
                  have F88 := (F84.tr f88).r
                  refine wp_iload_n (pc := 99) dX7_readsLine_99 rfl rfl ?_
                  refine wp_if_ne (pc := 100) 110 dX7_readsLine_100 (by decide) (fun c_100 => ?_) (fun c_100 => ?_)
                  · refine wp_iload_n (pc := 110) dX7_readsLine_110 rfl rfl ?_
                    refine wp_iconst (pc := 111) dX7_readsLine_111 (by decide) ?_
                    refine wp_icmp_ne (pc := 112) 122 dX7_readsLine_112 (by decide) (fun c_112 => ?_) (fun c_112 => ?_)
                    · refine wp_aload_n (pc := 122) dX7_readsLine_122 rfl rfl ?_
                      refine wp_cvV0 (pc := 123) dX7_readsLine_123 mv_X7_162 (m_readsPar hg3 hpn rfl (by show s.D 0 0 < 8; omega) rfl) (Nat.le_of_ble_eq_true rfl) rfl (Nat.le_of_ble_eq_true rfl) (fun σ_123 h_123 => ?_)
                      obtain ⟨f123, q123, m123, s123, c123⟩ := h_123
                      first
                        | (exfalso; omega)
                        | (refine w126 _ q104 _ _ (F88.s.tr f104.s) m104 ?_ c104
                           rw [hP, if_neg (by omega), if_pos (by omega)]; exact s104)
                        | (refine w126 _ q116 _ _ (F88.s.tr f116) m116 ?_ c116
                           rw [hP, if_neg (by omega), if_neg (by omega), if_pos (by omega), if_neg (by omega)]; exact s116)
                        | (refine w126 _ q123 _ _ (F88.s.tr f123.s) m123 ?_ c123
                           rw [hP, if_neg (by omega), if_neg (by omega), if_neg (by omega), if_neg (by omega)]; exact s123)
                    · refine wp_aload_n (pc := 115) dX7_readsLine_115 rfl rfl ?_
                      refine wp_cvV0 (pc := 116) dX7_readsLine_116 mv_X7_159 (m_readsShape hg3 hpn rfl (by omega) rfl) (Nat.le_of_ble_eq_true rfl) rfl (Nat.le_of_ble_eq_true rfl) (fun σ_116 h_116 => ?_)
                      obtain ⟨f116, q116, m116, s116, c116⟩ := h_116
                      refine wp_goto (pc := 119) 126 dX7_readsLine_119 (by decide) ?_
                      first
                        | (exfalso; omega)
                        | (refine w126 _ q104 _ _ (F88.s.tr f104.s) m104 ?_ c104
                           rw [hP, if_neg (by omega), if_pos (by omega)]; exact s104)
                        | (refine w126 _ q116 _ _ (F88.s.tr f116) m116 ?_ c116
                           rw [hP, if_neg (by omega), if_neg (by omega), if_pos (by omega), if_neg (by omega)]; exact s116)
                        | (refine w126 _ q123 _ _ (F88.s.tr f123.s) m123 ?_ c123
                           rw [hP, if_neg (by omega), if_neg (by omega), if_neg (by omega), if_neg (by omega)]; exact s123)
                  · refine wp_aload_n (pc := 103) dX7_readsLine_103 rfl rfl ?_
                    refine wp_cvV0 (pc := 104) dX7_readsLine_104 mv_X7_156 (m_readsSetting hg3 hpn rfl rfl) (Nat.le_of_ble_eq_true rfl) rfl (Nat.le_of_ble_eq_true rfl) (fun σ_104 h_104 => ?_)
                    obtain ⟨f104, q104, m104, s104, c104⟩ := h_104
                    refine wp_goto (pc := 107) 126 dX7_readsLine_107 (by decide) ?_
                    first
                      | (exfalso; omega)
                      | (refine w126 _ q104 _ _ (F88.s.tr f104.s) m104 ?_ c104
                         rw [hP, if_neg (by omega), if_pos (by omega)]; exact s104)
                      | (refine w126 _ q116 _ _ (F88.s.tr f116) m116 ?_ c116
                         rw [hP, if_neg (by omega), if_neg (by omega), if_pos (by omega), if_neg (by omega)]; exact s116)
                      | (refine w126 _ q123 _ _ (F88.s.tr f123.s) m123 ?_ c123
                         rw [hP, if_neg (by omega), if_neg (by omega), if_neg (by omega), if_neg (by omega)]; exact s123)
                · refine wp_return (pc := 98) dX7_readsLine_98 rfl ?_
                  first
                    | (exfalso; omega)
                    | (refine ⟨rfl, (F84.tr f88).r.s, Or.inr ?_⟩
                       rcases q88 with d | d
                       · have hbad := d.2.bad (by omega)
                         have hk3 : tkK t n (s.nx t n).x = 0 := by
                           rcases hbad.2.2 with e | e
                           · exact absurd hf0 e.1
                           · exact e.2.1
                         have hPb : P = (s.nx t n).bad t n 2 := by
                           rw [hP, if_neg (by omega)]
                           rcases (show W = 0 ∨ W = 1 ∨ W = 2 by omega) with e | e | e
                           · rw [if_pos e]; unfold pSet; rw [if_pos (Or.inl (by omega))]
                           · rw [if_neg (by omega), if_pos e, if_neg (by omega)]; unfold pShp; rw [if_pos (by omega)]
                           · rw [if_neg (by omega), if_neg (by omega), if_neg (by omega)]; unfold pPar; rw [if_pos (by omega)]; unfold pBdy; rw [if_pos (by omega)]
                         rw [hPb]; exact hbad.on hf0
                       · rw [d.2]
                         first
                           | (rw [hP, if_pos (by omega)]; exact hg.no (by decide) (by omega) (by omega))
                           | (rw [hP, if_neg (by omega), if_neg (by omega), if_pos (by omega), if_pos (by omega)]; exact hg.no (by decide) (by omega) (by omega))
                           | (rw [hP, if_neg (by omega), if_neg (by omega), if_neg (by omega), if_pos (by omega)]; exact hg.no (by decide) (by omega) (by omega)))
  · refine wp_iconst (pc := 14) dX7_readsLine_14 (by decide) ?_
    refine wp_goto (pc := 15) 19 dX7_readsLine_15 (by decide) ?_
    refine wp_iconst (pc := 19) dX7_readsLine_19 (by decide) ?_
    refine wp_cvV2 (pc := 20) dX7_readsLine_20 mv_X7_111 m_mustP (Nat.le_of_ble_eq_true rfl) rfl (Nat.le_of_ble_eq_true rfl) (fun σ_20 h_20 => ?_)
    have g_20 := h_20; obtain ⟨f_20, a12_20, a13_20, a14_20, a15_20, q_20⟩ := h_20; clear q_20; first | have w_20 := g_20.no (Or.inl (by decide)) | have w_20 := g_20.yes rfl (by omega)
    refine wp_aload_n (pc := 23) dX7_readsLine_23 rfl rfl ?_
    refine wp_aload_n (pc := 24) dX7_readsLine_24 rfl rfl ?_
    refine wp_getI (pc := 25) 10 dX7_readsLine_25 fl_X7_81 rfl rfl ?_
    refine wp_if_gt (pc := 28) 45 dX7_readsLine_28 (by decide) (fun c_28 => ?_) (fun c_28 => ?_)
    · refine wp_iconst (pc := 45) dX7_readsLine_45 (by decide) ?_
      refine wp_goto (pc := 46) 50 dX7_readsLine_46 (by decide) ?_
      refine wp_iconst (pc := 50) dX7_readsLine_50 (by decide) ?_
      refine wp_cvV2 (pc := 51) dX7_readsLine_51 mv_X7_111 m_mustP (Nat.le_of_ble_eq_true rfl) rfl (Nat.le_of_ble_eq_true rfl) (fun σ_51 h_51 => ?_)
      have g_51 := h_51; obtain ⟨f_51, a12_51, a13_51, a14_51, a15_51, q_51⟩ := h_51; clear q_51; first | have w_51 := g_51.no (Or.inl (by decide)) | have w_51 := g_51.yes rfl (by omega)
      refine wp_aload_n (pc := 54) dX7_readsLine_54 rfl rfl ?_
      refine wp_aload_n (pc := 55) dX7_readsLine_55 rfl rfl ?_
      refine wp_getI (pc := 56) 10 dX7_readsLine_56 fl_X7_81 rfl rfl ?_
      refine wp_if_gt (pc := 59) 78 dX7_readsLine_59 (by decide) (fun c_59 => ?_) (fun c_59 => ?_)
      · refine wp_iconst (pc := 78) dX7_readsLine_78 (by decide) ?_
        refine wp_goto (pc := 79) 83 dX7_readsLine_79 (by decide) ?_
        refine wp_iconst (pc := 83) dX7_readsLine_83 (by decide) ?_
        refine wp_cvV2 (pc := 84) dX7_readsLine_84 mv_X7_111 m_mustP (Nat.le_of_ble_eq_true rfl) rfl (Nat.le_of_ble_eq_true rfl) (fun σ_84 h_84 => ?_)
        have g_84 := h_84; obtain ⟨f_84, a12_84, a13_84, a14_84, a15_84, q_84⟩ := h_84; clear q_84; first | have w_84 := g_84.no (Or.inl (by decide)) | have w_84 := g_84.yes rfl (by omega)
        refine wp_aload_n (pc := 87) dX7_readsLine_87 rfl rfl ?_
        have F84 := (f_20.tr f_51).tr f_84
        refine wp_cvV0 (pc := 88) dX7_readsLine_88 mv_X7_115 (m_readsU (t := t) (n := n) (cnt := s.S 0 0) (q := s.nx t n) (by omega) (fun z => hg.nx F84 (by omega))) (Nat.le_of_ble_eq_true rfl) rfl (Nat.le_of_ble_eq_true rfl) (fun σ_88 h_88 => ?_)
        obtain ⟨f88, q88⟩ := h_88
        refine wp_aload_n (pc := 91) dX7_readsLine_91 rfl rfl ?_
        refine wp_getI (pc := 92) 10 dX7_readsLine_92 fl_X7_81 rfl rfl ?_
        refine wp_if_le (pc := 95) 99 dX7_readsLine_95 (by decide) (fun c_95 => ?_) (fun c_95 => ?_)
        · have hok : σ_84 71 10 = 0 ∧ MS t n σ_88 (s.nx t n) (s.S 0 0) := by
            rcases q88 with c | c
            · exact c
            · rw [c.2] at c_95; omega
          have hg3 := hok.2.good (by omega)
          have F88 := (F84.tr f88).r
          refine wp_iload_n (pc := 99) dX7_readsLine_99 rfl rfl ?_
          refine wp_if_ne (pc := 100) 110 dX7_readsLine_100 (by decide) (fun c_100 => ?_) (fun c_100 => ?_)
          · refine wp_iload_n (pc := 110) dX7_readsLine_110 rfl rfl ?_
            refine wp_iconst (pc := 111) dX7_readsLine_111 (by decide) ?_
            refine wp_icmp_ne (pc := 112) 122 dX7_readsLine_112 (by decide) (fun c_112 => ?_) (fun c_112 => ?_)
            · refine wp_aload_n (pc := 122) dX7_readsLine_122 rfl rfl ?_
              refine wp_cvV0 (pc := 123) dX7_readsLine_123 mv_X7_162 (m_readsPar hg3 hpn rfl (by show s.D 0 0 < 8; omega) rfl) (Nat.le_of_ble_eq_true rfl) rfl (Nat.le_of_ble_eq_true rfl) (fun σ_123 h_123 => ?_)
              obtain ⟨f123, q123, m123, s123, c123⟩ := h_123
              first
                | (exfalso; omega)
                | (refine w126 _ q104 _ _ (F88.s.tr f104.s) m104 ?_ c104
                   rw [hP, if_neg (by omega), if_pos (by omega)]; exact s104)
                | (refine w126 _ q116 _ _ (F88.s.tr f116) m116 ?_ c116
                   rw [hP, if_neg (by omega), if_neg (by omega), if_pos (by omega), if_neg (by omega)]; exact s116)
                | (refine w126 _ q123 _ _ (F88.s.tr f123.s) m123 ?_ c123
                   rw [hP, if_neg (by omega), if_neg (by omega), if_neg (by omega), if_neg (by omega)]; exact s123)
            · refine wp_aload_n (pc := 115) dX7_readsLine_115 rfl rfl ?_
              refine wp_cvV0 (pc := 116) dX7_readsLine_116 mv_X7_159 (m_readsShape hg3 hpn rfl (by omega) rfl) (Nat.le_of_ble_eq_true rfl) rfl (Nat.le_of_ble_eq_true rfl) (fun σ_116 h_116 => ?_)
              obtain ⟨f116, q116, m116, s116, c116⟩ := h_116
              refine wp_goto (pc := 119) 126 dX7_readsLine_119 (by decide) ?_
              first
                | (exfalso; omega)
                | (refine w126 _ q104 _ _ (F88.s.tr f104.s) m104 ?_ c104
                   rw [hP, if_neg (by omega), if_pos (by omega)]; exact s104)
                | (refine w126 _ q116 _ _ (F88.s.tr f116) m116 ?_ c116
                   rw [hP, if_neg (by omega), if_neg (by omega), if_pos (by omega), if_neg (by omega)]; exact s116)
                | (refine w126 _ q123 _ _ (F88.s.tr f123.s) m123 ?_ c123
                   rw [hP, if_neg (by omega), if_neg (by omega), if_neg (by omega), if_neg (by omega)]; exact s123)
          · refine wp_aload_n (pc := 103) dX7_readsLine_103 rfl rfl ?_
            refine wp_cvV0 (pc := 104) dX7_readsLine_104 mv_X7_156 (m_readsSetting hg3 hpn rfl rfl) (Nat.le_of_ble_eq_true rfl) rfl (Nat.le_of_ble_eq_true rfl) (fun σ_104 h_104 => ?_)
            obtain ⟨f104, q104, m104, s104, c104⟩ := h_104
            refine wp_goto (pc := 107) 126 dX7_readsLine_107 (by decide) ?_
            first
              | (exfalso; omega)
              | (refine w126 _ q104 _ _ (F88.s.tr f104.s) m104 ?_ c104
                 rw [hP, if_neg (by omega), if_pos (by omega)]; exact s104)
              | (refine w126 _ q116 _ _ (F88.s.tr f116) m116 ?_ c116
                 rw [hP, if_neg (by omega), if_neg (by omega), if_pos (by omega), if_neg (by omega)]; exact s116)
              | (refine w126 _ q123 _ _ (F88.s.tr f123.s) m123 ?_ c123
                 rw [hP, if_neg (by omega), if_neg (by omega), if_neg (by omega), if_neg (by omega)]; exact s123)
        · refine wp_return (pc := 98) dX7_readsLine_98 rfl ?_
          first
            | (exfalso; omega)
            | (refine ⟨rfl, (F84.tr f88).r.s, Or.inr ?_⟩
               rcases q88 with d | d
               · have hbad := d.2.bad (by omega)
                 have hk3 : tkK t n (s.nx t n).x = 0 := by
                   rcases hbad.2.2 with e | e
                   · exact absurd hf0 e.1
                   · exact e.2.1
                 have hPb : P = (s.nx t n).bad t n 2 := by
                   rw [hP, if_neg (by omega)]
                   rcases (show W = 0 ∨ W = 1 ∨ W = 2 by omega) with e | e | e
                   · rw [if_pos e]; unfold pSet; rw [if_pos (Or.inl (by omega))]
                   · rw [if_neg (by omega), if_pos e, if_neg (by omega)]; unfold pShp; rw [if_pos (by omega)]
                   · rw [if_neg (by omega), if_neg (by omega), if_neg (by omega)]; unfold pPar; rw [if_pos (by omega)]; unfold pBdy; rw [if_pos (by omega)]
                 rw [hPb]; exact hbad.on hf0
               · rw [d.2]
                 first
                   | (rw [hP, if_pos (by omega)]; exact hg.no (by decide) (by omega) (by omega))
                   | (rw [hP, if_neg (by omega), if_neg (by omega), if_pos (by omega), if_pos (by omega)]; exact hg.no (by decide) (by omega) (by omega))
                   | (rw [hP, if_neg (by omega), if_neg (by omega), if_neg (by omega), if_pos (by omega)]; exact hg.no (by decide) (by omega) (by omega)))
      · refine wp_iload_n (pc := 62) dX7_readsLine_62 rfl rfl ?_
        refine wp_iconst (pc := 63) dX7_readsLine_63 (by decide) ?_
        refine wp_icmp_ne (pc := 64) 78 dX7_readsLine_64 (by decide) (fun c_64 => ?_) (fun c_64 => ?_)
        · refine wp_iconst (pc := 78) dX7_readsLine_78 (by decide) ?_
          refine wp_goto (pc := 79) 83 dX7_readsLine_79 (by decide) ?_
          refine wp_iconst (pc := 83) dX7_readsLine_83 (by decide) ?_
          refine wp_cvV2 (pc := 84) dX7_readsLine_84 mv_X7_111 m_mustP (Nat.le_of_ble_eq_true rfl) rfl (Nat.le_of_ble_eq_true rfl) (fun σ_84 h_84 => ?_)
          have g_84 := h_84; obtain ⟨f_84, a12_84, a13_84, a14_84, a15_84, q_84⟩ := h_84; clear q_84; first | have w_84 := g_84.no (Or.inl (by decide)) | have w_84 := g_84.yes rfl (by omega)
          refine wp_aload_n (pc := 87) dX7_readsLine_87 rfl rfl ?_
          have F84 := (f_20.tr f_51).tr f_84
          refine wp_cvV0 (pc := 88) dX7_readsLine_88 mv_X7_115 (m_readsU (t := t) (n := n) (cnt := s.S 0 0) (q := s.nx t n) (by omega) (fun z => hg.nx F84 (by omega))) (Nat.le_of_ble_eq_true rfl) rfl (Nat.le_of_ble_eq_true rfl) (fun σ_88 h_88 => ?_)
          obtain ⟨f88, q88⟩ := h_88
          refine wp_aload_n (pc := 91) dX7_readsLine_91 rfl rfl ?_
          refine wp_getI (pc := 92) 10 dX7_readsLine_92 fl_X7_81 rfl rfl ?_
          refine wp_if_le (pc := 95) 99 dX7_readsLine_95 (by decide) (fun c_95 => ?_) (fun c_95 => ?_)
          · have hok : σ_84 71 10 = 0 ∧ MS t n σ_88 (s.nx t n) (s.S 0 0) := by
              rcases q88 with c | c
              · exact c
              · rw [c.2] at c_95; omega
            have hg3 := hok.2.good (by omega)
            have F88 := (F84.tr f88).r
            refine wp_iload_n (pc := 99) dX7_readsLine_99 rfl rfl ?_
            refine wp_if_ne (pc := 100) 110 dX7_readsLine_100 (by decide) (fun c_100 => ?_) (fun c_100 => ?_)
            · refine wp_iload_n (pc := 110) dX7_readsLine_110 rfl rfl ?_
              refine wp_iconst (pc := 111) dX7_readsLine_111 (by decide) ?_
              refine wp_icmp_ne (pc := 112) 122 dX7_readsLine_112 (by decide) (fun c_112 => ?_) (fun c_112 => ?_)
              · refine wp_aload_n (pc := 122) dX7_readsLine_122 rfl rfl ?_
                refine wp_cvV0 (pc := 123) dX7_readsLine_123 mv_X7_162 (m_readsPar hg3 hpn rfl (by show s.D 0 0 < 8; omega) rfl) (Nat.le_of_ble_eq_true rfl) rfl (Nat.le_of_ble_eq_true rfl) (fun σ_123 h_123 => ?_)
                obtain ⟨f123, q123, m123, s123, c123⟩ := h_123
                first
                  | (exfalso; omega)
                  | (refine w126 _ q104 _ _ (F88.s.tr f104.s) m104 ?_ c104
                     rw [hP, if_neg (by omega), if_pos (by omega)]; exact s104)
                  | (refine w126 _ q116 _ _ (F88.s.tr f116) m116 ?_ c116
                     rw [hP, if_neg (by omega), if_neg (by omega), if_pos (by omega), if_neg (by omega)]; exact s116)
                  | (refine w126 _ q123 _ _ (F88.s.tr f123.s) m123 ?_ c123
                     rw [hP, if_neg (by omega), if_neg (by omega), if_neg (by omega), if_neg (by omega)]; exact s123)
              · refine wp_aload_n (pc := 115) dX7_readsLine_115 rfl rfl ?_
                refine wp_cvV0 (pc := 116) dX7_readsLine_116 mv_X7_159 (m_readsShape hg3 hpn rfl (by omega) rfl) (Nat.le_of_ble_eq_true rfl) rfl (Nat.le_of_ble_eq_true rfl) (fun σ_116 h_116 => ?_)
                obtain ⟨f116, q116, m116, s116, c116⟩ := h_116
                refine wp_goto (pc := 119) 126 dX7_readsLine_119 (by decide) ?_
                first
                  | (exfalso; omega)
                  | (refine w126 _ q104 _ _ (F88.s.tr f104.s) m104 ?_ c104
                     rw [hP, if_neg (by omega), if_pos (by omega)]; exact s104)
                  | (refine w126 _ q116 _ _ (F88.s.tr f116) m116 ?_ c116
                     rw [hP, if_neg (by omega), if_neg (by omega), if_pos (by omega), if_neg (by omega)]; exact s116)
                  | (refine w126 _ q123 _ _ (F88.s.tr f123.s) m123 ?_ c123
                     rw [hP, if_neg (by omega), if_neg (by omega), if_neg (by omega), if_neg (by omega)]; exact s123)
            · refine wp_aload_n (pc := 103) dX7_readsLine_103 rfl rfl ?_
              refine wp_cvV0 (pc := 104) dX7_readsLine_104 mv_X7_156 (m_readsSetting hg3 hpn rfl rfl) (Nat.le_of_ble_eq_true rfl) rfl (Nat.le_of_ble_eq_true rfl) (fun σ_104 h_104 => ?_)
              obtain ⟨f104, q104, m104, s104, c104⟩ := h_104
              refine wp_goto (pc := 107) 126 dX7_readsLine_107 (by decide) ?_
              first
                | (exfalso; omega)
                | (refine w126 _ q104 _ _ (F88.s.tr f104.s) m104 ?_ c104
                   rw [hP, if_neg (by omega), if_pos (by omega)]; exact s104)
                | (refine w126 _ q116 _ _ (F88.s.tr f116) m116 ?_ c116
                   rw [hP, if_neg (by omega), if_neg (by omega), if_pos (by omega), if_neg (by omega)]; exact s116)
                | (refine w126 _ q123 _ _ (F88.s.tr f123.s) m123 ?_ c123
                   rw [hP, if_neg (by omega), if_neg (by omega), if_neg (by omega), if_neg (by omega)]; exact s123)
          · refine wp_return (pc := 98) dX7_readsLine_98 rfl ?_
            first
              | (exfalso; omega)
              | (refine ⟨rfl, (F84.tr f88).r.s, Or.inr ?_⟩
                 rcases q88 with d | d
                 · have hbad := d.2.bad (by omega)
                   have hk3 : tkK t n (s.nx t n).x = 0 := by
                     rcases hbad.2.2 with e | e
                     · exact absurd hf0 e.1
                     · exact e.2.1
                   have hPb : P = (s.nx t n).bad t n 2 := by
                     rw [hP, if_neg (by omega)]
                     rcases (show W = 0 ∨ W = 1 ∨ W = 2 by omega) with e | e | e
                     · rw [if_pos e]; unfold pSet; rw [if_pos (Or.inl (by omega))]
                     · rw [if_neg (by omega), if_pos e, if_neg (by omega)]; unfold pShp; rw [if_pos (by omega)]
                     · rw [if_neg (by omega), if_neg (by omega), if_neg (by omega)]; unfold pPar; rw [if_pos (by omega)]; unfold pBdy; rw [if_pos (by omega)]
                   rw [hPb]; exact hbad.on hf0
                 · rw [d.2]
                   first
                     | (rw [hP, if_pos (by omega)]; exact hg.no (by decide) (by omega) (by omega))
                     | (rw [hP, if_neg (by omega), if_neg (by omega), if_pos (by omega), if_pos (by omega)]; exact hg.no (by decide) (by omega) (by omega))
                     | (rw [hP, if_neg (by omega), if_neg (by omega), if_neg (by omega), if_pos (by omega)]; exact hg.no (by decide) (by omega) (by omega)))
        · refine wp_aload_n (pc := 67) dX7_readsLine_67 rfl rfl ?_
          refine wp_getR (pc := 68) (q := 73) dX7_readsLine_68 fl_X7_13 rfl ?_
          refine wp_iconst (pc := 71) dX7_readsLine_71 (by decide) ?_
          refine wp_iald (pc := 72) 591 dX7_readsLine_72 rfl (by omega) ?_
          rw [show σ_51 73 0 = s.D 0 0 by rw [f_51.1 73 (by decide), f_20.1 73 (by decide)]; exact e730]
          refine wp_bipush (pc := 73) dX7_readsLine_73 (by decide) (by decide) ?_
          refine wp_icmp_ge (pc := 75) 82 dX7_readsLine_75 (by decide) (fun c_75 => ?_) (fun c_75 => ?_)
          · refine wp_iconst (pc := 82) dX7_readsLine_82 (by decide) ?_
            refine wp_iconst (pc := 83) dX7_readsLine_83 (by decide) ?_
            refine wp_cvV2 (pc := 84) dX7_readsLine_84 mv_X7_111 m_mustP (Nat.le_of_ble_eq_true rfl) rfl (Nat.le_of_ble_eq_true rfl) (fun σ_84 h_84 => ?_)
            have g_84 := h_84; obtain ⟨f_84, a12_84, a13_84, a14_84, a15_84, q_84⟩ := h_84; clear q_84; first | have w_84 := g_84.no (Or.inl (by decide)) | have w_84 := g_84.yes rfl (by omega)
            refine wp_aload_n (pc := 87) dX7_readsLine_87 rfl rfl ?_
            have F84 := (f_20.tr f_51).tr f_84
            refine wp_cvV0 (pc := 88) dX7_readsLine_88 mv_X7_115 (m_readsU (t := t) (n := n) (cnt := s.S 0 0) (q := s.nx t n) (by omega) (fun z => hg.nx F84 (by omega))) (Nat.le_of_ble_eq_true rfl) rfl (Nat.le_of_ble_eq_true rfl) (fun σ_88 h_88 => ?_)
            obtain ⟨f88, q88⟩ := h_88
            refine wp_aload_n (pc := 91) dX7_readsLine_91 rfl rfl ?_
            refine wp_getI (pc := 92) 10 dX7_readsLine_92 fl_X7_81 rfl rfl ?_
            refine wp_if_le (pc := 95) 99 dX7_readsLine_95 (by decide) (fun c_95 => ?_) (fun c_95 => ?_)
            · have hok : σ_84 71 10 = 0 ∧ MS t n σ_88 (s.nx t n) (s.S 0 0) := by
                rcases q88 with c | c
                · exact c
                · rw [c.2] at c_95; omega
              have hg3 := hok.2.good (by omega)
              have F88 := (F84.tr f88).r
              refine wp_iload_n (pc := 99) dX7_readsLine_99 rfl rfl ?_
              refine wp_if_ne (pc := 100) 110 dX7_readsLine_100 (by decide) (fun c_100 => ?_) (fun c_100 => ?_)
              · refine wp_iload_n (pc := 110) dX7_readsLine_110 rfl rfl ?_
                refine wp_iconst (pc := 111) dX7_readsLine_111 (by decide) ?_
                refine wp_icmp_ne (pc := 112) 122 dX7_readsLine_112 (by decide) (fun c_112 => ?_) (fun c_112 => ?_)
                · refine wp_aload_n (pc := 122) dX7_readsLine_122 rfl rfl ?_
                  refine wp_cvV0 (pc := 123) dX7_readsLine_123 mv_X7_162 (m_readsPar hg3 hpn rfl (by show s.D 0 0 < 8; omega) rfl) (Nat.le_of_ble_eq_true rfl) rfl (Nat.le_of_ble_eq_true rfl) (fun σ_123 h_123 => ?_)
                  obtain ⟨f123, q123, m123, s123, c123⟩ := h_123
                  first
                    | (exfalso; omega)
                    | (refine w126 _ q104 _ _ (F88.s.tr f104.s) m104 ?_ c104
                       rw [hP, if_neg (by omega), if_pos (by omega)]; exact s104)
                    | (refine w126 _ q116 _ _ (F88.s.tr f116) m116 ?_ c116
                       rw [hP, if_neg (by omega), if_neg (by omega), if_pos (by omega), if_neg (by omega)]; exact s116)
                    | (refine w126 _ q123 _ _ (F88.s.tr f123.s) m123 ?_ c123
                       rw [hP, if_neg (by omega), if_neg (by omega), if_neg (by omega), if_neg (by omega)]; exact s123)
                · refine wp_aload_n (pc := 115) dX7_readsLine_115 rfl rfl ?_
                  refine wp_cvV0 (pc := 116) dX7_readsLine_116 mv_X7_159 (m_readsShape hg3 hpn rfl (by omega) rfl) (Nat.le_of_ble_eq_true rfl) rfl (Nat.le_of_ble_eq_true rfl) (fun σ_116 h_116 => ?_)
                  obtain ⟨f116, q116, m116, s116, c116⟩ := h_116
                  refine wp_goto (pc := 119) 126 dX7_readsLine_119 (by decide) ?_
                  first
                    | (exfalso; omega)
                    | (refine w126 _ q104 _ _ (F88.s.tr f104.s) m104 ?_ c104
                       rw [hP, if_neg (by omega), if_pos (by omega)]; exact s104)
                    | (refine w126 _ q116 _ _ (F88.s.tr f116) m116 ?_ c116
                       rw [hP, if_neg (by omega), if_neg (by omega), if_pos (by omega), if_neg (by omega)]; exact s116)
                    | (refine w126 _ q123 _ _ (F88.s.tr f123.s) m123 ?_ c123
                       rw [hP, if_neg (by omega), if_neg (by omega), if_neg (by omega), if_neg (by omega)]; exact s123)
              · refine wp_aload_n (pc := 103) dX7_readsLine_103 rfl rfl ?_
                refine wp_cvV0 (pc := 104) dX7_readsLine_104 mv_X7_156 (m_readsSetting hg3 hpn rfl rfl) (Nat.le_of_ble_eq_true rfl) rfl (Nat.le_of_ble_eq_true rfl) (fun σ_104 h_104 => ?_)
                obtain ⟨f104, q104, m104, s104, c104⟩ := h_104
                refine wp_goto (pc := 107) 126 dX7_readsLine_107 (by decide) ?_
                first
                  | (exfalso; omega)
                  | (refine w126 _ q104 _ _ (F88.s.tr f104.s) m104 ?_ c104
                     rw [hP, if_neg (by omega), if_pos (by omega)]; exact s104)
                  | (refine w126 _ q116 _ _ (F88.s.tr f116) m116 ?_ c116
                     rw [hP, if_neg (by omega), if_neg (by omega), if_pos (by omega), if_neg (by omega)]; exact s116)
                  | (refine w126 _ q123 _ _ (F88.s.tr f123.s) m123 ?_ c123
                     rw [hP, if_neg (by omega), if_neg (by omega), if_neg (by omega), if_neg (by omega)]; exact s123)
            · refine wp_return (pc := 98) dX7_readsLine_98 rfl ?_
              first
                | (exfalso; omega)
                | (refine ⟨rfl, (F84.tr f88).r.s, Or.inr ?_⟩
                   rcases q88 with d | d
                   · have hbad := d.2.bad (by omega)
                     have hk3 : tkK t n (s.nx t n).x = 0 := by
                       rcases hbad.2.2 with e | e
                       · exact absurd hf0 e.1
                       · exact e.2.1
                     have hPb : P = (s.nx t n).bad t n 2 := by
                       rw [hP, if_neg (by omega)]
                       rcases (show W = 0 ∨ W = 1 ∨ W = 2 by omega) with e | e | e
                       · rw [if_pos e]; unfold pSet; rw [if_pos (Or.inl (by omega))]
                       · rw [if_neg (by omega), if_pos e, if_neg (by omega)]; unfold pShp; rw [if_pos (by omega)]
                       · rw [if_neg (by omega), if_neg (by omega), if_neg (by omega)]; unfold pPar; rw [if_pos (by omega)]; unfold pBdy; rw [if_pos (by omega)]
                     rw [hPb]; exact hbad.on hf0
                   · rw [d.2]
                     first
                       | (rw [hP, if_pos (by omega)]; exact hg.no (by decide) (by omega) (by omega))
                       | (rw [hP, if_neg (by omega), if_neg (by omega), if_pos (by omega), if_pos (by omega)]; exact hg.no (by decide) (by omega) (by omega))
                       | (rw [hP, if_neg (by omega), if_neg (by omega), if_neg (by omega), if_pos (by omega)]; exact hg.no (by decide) (by omega) (by omega)))
          · refine wp_iconst (pc := 78) dX7_readsLine_78 (by decide) ?_
            refine wp_goto (pc := 79) 83 dX7_readsLine_79 (by decide) ?_
            refine wp_iconst (pc := 83) dX7_readsLine_83 (by decide) ?_
            refine wp_cvV2 (pc := 84) dX7_readsLine_84 mv_X7_111 m_mustP (Nat.le_of_ble_eq_true rfl) rfl (Nat.le_of_ble_eq_true rfl) (fun σ_84 h_84 => ?_)
            have g_84 := h_84; obtain ⟨f_84, a12_84, a13_84, a14_84, a15_84, q_84⟩ := h_84; clear q_84; first | have w_84 := g_84.no (Or.inl (by decide)) | have w_84 := g_84.yes rfl (by omega)
            refine wp_aload_n (pc := 87) dX7_readsLine_87 rfl rfl ?_
            have F84 := (f_20.tr f_51).tr f_84
            refine wp_cvV0 (pc := 88) dX7_readsLine_88 mv_X7_115 (m_readsU (t := t) (n := n) (cnt := s.S 0 0) (q := s.nx t n) (by omega) (fun z => hg.nx F84 (by omega))) (Nat.le_of_ble_eq_true rfl) rfl (Nat.le_of_ble_eq_true rfl) (fun σ_88 h_88 => ?_)
            obtain ⟨f88, q88⟩ := h_88
            refine wp_aload_n (pc := 91) dX7_readsLine_91 rfl rfl ?_
            refine wp_getI (pc := 92) 10 dX7_readsLine_92 fl_X7_81 rfl rfl ?_
            refine wp_if_le (pc := 95) 99 dX7_readsLine_95 (by decide) (fun c_95 => ?_) (fun c_95 => ?_)
            · have hok : σ_84 71 10 = 0 ∧ MS t n σ_88 (s.nx t n) (s.S 0 0) := by
                rcases q88 with c | c
                · exact c
                · rw [c.2] at c_95; omega
              have hg3 := hok.2.good (by omega)
              have F88 := (F84.tr f88).r
              refine wp_iload_n (pc := 99) dX7_readsLine_99 rfl rfl ?_
              refine wp_if_ne (pc := 100) 110 dX7_readsLine_100 (by decide) (fun c_100 => ?_) (fun c_100 => ?_)
              · refine wp_iload_n (pc := 110) dX7_readsLine_110 rfl rfl ?_
                refine wp_iconst (pc := 111) dX7_readsLine_111 (by decide) ?_
                refine wp_icmp_ne (pc := 112) 122 dX7_readsLine_112 (by decide) (fun c_112 => ?_) (fun c_112 => ?_)
                · refine wp_aload_n (pc := 122) dX7_readsLine_122 rfl rfl ?_
                  refine wp_cvV0 (pc := 123) dX7_readsLine_123 mv_X7_162 (m_readsPar hg3 hpn rfl (by show s.D 0 0 < 8; omega) rfl) (Nat.le_of_ble_eq_true rfl) rfl (Nat.le_of_ble_eq_true rfl) (fun σ_123 h_123 => ?_)
                  obtain ⟨f123, q123, m123, s123, c123⟩ := h_123
                  first
                    | (exfalso; omega)
                    | (refine w126 _ q104 _ _ (F88.s.tr f104.s) m104 ?_ c104
                       rw [hP, if_neg (by omega), if_pos (by omega)]; exact s104)
                    | (refine w126 _ q116 _ _ (F88.s.tr f116) m116 ?_ c116
                       rw [hP, if_neg (by omega), if_neg (by omega), if_pos (by omega), if_neg (by omega)]; exact s116)
                    | (refine w126 _ q123 _ _ (F88.s.tr f123.s) m123 ?_ c123
                       rw [hP, if_neg (by omega), if_neg (by omega), if_neg (by omega), if_neg (by omega)]; exact s123)
                · refine wp_aload_n (pc := 115) dX7_readsLine_115 rfl rfl ?_
                  refine wp_cvV0 (pc := 116) dX7_readsLine_116 mv_X7_159 (m_readsShape hg3 hpn rfl (by omega) rfl) (Nat.le_of_ble_eq_true rfl) rfl (Nat.le_of_ble_eq_true rfl) (fun σ_116 h_116 => ?_)
                  obtain ⟨f116, q116, m116, s116, c116⟩ := h_116
                  refine wp_goto (pc := 119) 126 dX7_readsLine_119 (by decide) ?_
                  first
                    | (exfalso; omega)
                    | (refine w126 _ q104 _ _ (F88.s.tr f104.s) m104 ?_ c104
                       rw [hP, if_neg (by omega), if_pos (by omega)]; exact s104)
                    | (refine w126 _ q116 _ _ (F88.s.tr f116) m116 ?_ c116
                       rw [hP, if_neg (by omega), if_neg (by omega), if_pos (by omega), if_neg (by omega)]; exact s116)
                    | (refine w126 _ q123 _ _ (F88.s.tr f123.s) m123 ?_ c123
                       rw [hP, if_neg (by omega), if_neg (by omega), if_neg (by omega), if_neg (by omega)]; exact s123)
              · refine wp_aload_n (pc := 103) dX7_readsLine_103 rfl rfl ?_
                refine wp_cvV0 (pc := 104) dX7_readsLine_104 mv_X7_156 (m_readsSetting hg3 hpn rfl rfl) (Nat.le_of_ble_eq_true rfl) rfl (Nat.le_of_ble_eq_true rfl) (fun σ_104 h_104 => ?_)
                obtain ⟨f104, q104, m104, s104, c104⟩ := h_104
                refine wp_goto (pc := 107) 126 dX7_readsLine_107 (by decide) ?_
                first
                  | (exfalso; omega)
                  | (refine w126 _ q104 _ _ (F88.s.tr f104.s) m104 ?_ c104
                     rw [hP, if_neg (by omega), if_pos (by omega)]; exact s104)
                  | (refine w126 _ q116 _ _ (F88.s.tr f116) m116 ?_ c116
                     rw [hP, if_neg (by omega), if_neg (by omega), if_pos (by omega), if_neg (by omega)]; exact s116)
                  | (refine w126 _ q123 _ _ (F88.s.tr f123.s) m123 ?_ c123
                     rw [hP, if_neg (by omega), if_neg (by omega), if_neg (by omega), if_neg (by omega)]; exact s123)
            · refine wp_return (pc := 98) dX7_readsLine_98 rfl ?_
              first
                | (exfalso; omega)
                | (refine ⟨rfl, (F84.tr f88).r.s, Or.inr ?_⟩
                   rcases q88 with d | d
                   · have hbad := d.2.bad (by omega)
                     have hk3 : tkK t n (s.nx t n).x = 0 := by
                       rcases hbad.2.2 with e | e
                       · exact absurd hf0 e.1
                       · exact e.2.1
                     have hPb : P = (s.nx t n).bad t n 2 := by
                       rw [hP, if_neg (by omega)]
                       rcases (show W = 0 ∨ W = 1 ∨ W = 2 by omega) with e | e | e
                       · rw [if_pos e]; unfold pSet; rw [if_pos (Or.inl (by omega))]
                       · rw [if_neg (by omega), if_pos e, if_neg (by omega)]; unfold pShp; rw [if_pos (by omega)]
                       · rw [if_neg (by omega), if_neg (by omega), if_neg (by omega)]; unfold pPar; rw [if_pos (by omega)]; unfold pBdy; rw [if_pos (by omega)]
                     rw [hPb]; exact hbad.on hf0
                   · rw [d.2]
                     first
                       | (rw [hP, if_pos (by omega)]; exact hg.no (by decide) (by omega) (by omega))
                       | (rw [hP, if_neg (by omega), if_neg (by omega), if_pos (by omega), if_pos (by omega)]; exact hg.no (by decide) (by omega) (by omega))
                       | (rw [hP, if_neg (by omega), if_neg (by omega), if_neg (by omega), if_pos (by omega)]; exact hg.no (by decide) (by omega) (by omega)))
    · refine wp_iload_n (pc := 31) dX7_readsLine_31 rfl rfl ?_
      refine wp_iconst (pc := 32) dX7_readsLine_32 (by decide) ?_
      refine wp_icmp_ne (pc := 33) 45 dX7_readsLine_33 (by decide) (fun c_33 => ?_) (fun c_33 => ?_)
      · refine wp_iconst (pc := 45) dX7_readsLine_45 (by decide) ?_
        refine wp_goto (pc := 46) 50 dX7_readsLine_46 (by decide) ?_
        refine wp_iconst (pc := 50) dX7_readsLine_50 (by decide) ?_
        refine wp_cvV2 (pc := 51) dX7_readsLine_51 mv_X7_111 m_mustP (Nat.le_of_ble_eq_true rfl) rfl (Nat.le_of_ble_eq_true rfl) (fun σ_51 h_51 => ?_)
        have g_51 := h_51; obtain ⟨f_51, a12_51, a13_51, a14_51, a15_51, q_51⟩ := h_51; clear q_51; first | have w_51 := g_51.no (Or.inl (by decide)) | have w_51 := g_51.yes rfl (by omega)
        refine wp_aload_n (pc := 54) dX7_readsLine_54 rfl rfl ?_
        refine wp_aload_n (pc := 55) dX7_readsLine_55 rfl rfl ?_
        refine wp_getI (pc := 56) 10 dX7_readsLine_56 fl_X7_81 rfl rfl ?_
        refine wp_if_gt (pc := 59) 78 dX7_readsLine_59 (by decide) (fun c_59 => ?_) (fun c_59 => ?_)
        · refine wp_iconst (pc := 78) dX7_readsLine_78 (by decide) ?_
          refine wp_goto (pc := 79) 83 dX7_readsLine_79 (by decide) ?_
          refine wp_iconst (pc := 83) dX7_readsLine_83 (by decide) ?_
          refine wp_cvV2 (pc := 84) dX7_readsLine_84 mv_X7_111 m_mustP (Nat.le_of_ble_eq_true rfl) rfl (Nat.le_of_ble_eq_true rfl) (fun σ_84 h_84 => ?_)
          have g_84 := h_84; obtain ⟨f_84, a12_84, a13_84, a14_84, a15_84, q_84⟩ := h_84; clear q_84; first | have w_84 := g_84.no (Or.inl (by decide)) | have w_84 := g_84.yes rfl (by omega)
          refine wp_aload_n (pc := 87) dX7_readsLine_87 rfl rfl ?_
          have F84 := (f_20.tr f_51).tr f_84
          refine wp_cvV0 (pc := 88) dX7_readsLine_88 mv_X7_115 (m_readsU (t := t) (n := n) (cnt := s.S 0 0) (q := s.nx t n) (by omega) (fun z => hg.nx F84 (by omega))) (Nat.le_of_ble_eq_true rfl) rfl (Nat.le_of_ble_eq_true rfl) (fun σ_88 h_88 => ?_)
          obtain ⟨f88, q88⟩ := h_88
          refine wp_aload_n (pc := 91) dX7_readsLine_91 rfl rfl ?_
          refine wp_getI (pc := 92) 10 dX7_readsLine_92 fl_X7_81 rfl rfl ?_
          refine wp_if_le (pc := 95) 99 dX7_readsLine_95 (by decide) (fun c_95 => ?_) (fun c_95 => ?_)
          · have hok : σ_84 71 10 = 0 ∧ MS t n σ_88 (s.nx t n) (s.S 0 0) := by
              rcases q88 with c | c
              · exact c
              · rw [c.2] at c_95; omega
            have hg3 := hok.2.good (by omega)
            have F88 := (F84.tr f88).r
            refine wp_iload_n (pc := 99) dX7_readsLine_99 rfl rfl ?_
            refine wp_if_ne (pc := 100) 110 dX7_readsLine_100 (by decide) (fun c_100 => ?_) (fun c_100 => ?_)
            · refine wp_iload_n (pc := 110) dX7_readsLine_110 rfl rfl ?_
              refine wp_iconst (pc := 111) dX7_readsLine_111 (by decide) ?_
              refine wp_icmp_ne (pc := 112) 122 dX7_readsLine_112 (by decide) (fun c_112 => ?_) (fun c_112 => ?_)
              · refine wp_aload_n (pc := 122) dX7_readsLine_122 rfl rfl ?_
                refine wp_cvV0 (pc := 123) dX7_readsLine_123 mv_X7_162 (m_readsPar hg3 hpn rfl (by show s.D 0 0 < 8; omega) rfl) (Nat.le_of_ble_eq_true rfl) rfl (Nat.le_of_ble_eq_true rfl) (fun σ_123 h_123 => ?_)
                obtain ⟨f123, q123, m123, s123, c123⟩ := h_123
                first
                  | (exfalso; omega)
                  | (refine w126 _ q104 _ _ (F88.s.tr f104.s) m104 ?_ c104
                     rw [hP, if_neg (by omega), if_pos (by omega)]; exact s104)
                  | (refine w126 _ q116 _ _ (F88.s.tr f116) m116 ?_ c116
                     rw [hP, if_neg (by omega), if_neg (by omega), if_pos (by omega), if_neg (by omega)]; exact s116)
                  | (refine w126 _ q123 _ _ (F88.s.tr f123.s) m123 ?_ c123
                     rw [hP, if_neg (by omega), if_neg (by omega), if_neg (by omega), if_neg (by omega)]; exact s123)
              · refine wp_aload_n (pc := 115) dX7_readsLine_115 rfl rfl ?_
                refine wp_cvV0 (pc := 116) dX7_readsLine_116 mv_X7_159 (m_readsShape hg3 hpn rfl (by omega) rfl) (Nat.le_of_ble_eq_true rfl) rfl (Nat.le_of_ble_eq_true rfl) (fun σ_116 h_116 => ?_)
                obtain ⟨f116, q116, m116, s116, c116⟩ := h_116
                refine wp_goto (pc := 119) 126 dX7_readsLine_119 (by decide) ?_
                first
                  | (exfalso; omega)
                  | (refine w126 _ q104 _ _ (F88.s.tr f104.s) m104 ?_ c104
                     rw [hP, if_neg (by omega), if_pos (by omega)]; exact s104)
                  | (refine w126 _ q116 _ _ (F88.s.tr f116) m116 ?_ c116
                     rw [hP, if_neg (by omega), if_neg (by omega), if_pos (by omega), if_neg (by omega)]; exact s116)
                  | (refine w126 _ q123 _ _ (F88.s.tr f123.s) m123 ?_ c123
                     rw [hP, if_neg (by omega), if_neg (by omega), if_neg (by omega), if_neg (by omega)]; exact s123)
            · refine wp_aload_n (pc := 103) dX7_readsLine_103 rfl rfl ?_
              refine wp_cvV0 (pc := 104) dX7_readsLine_104 mv_X7_156 (m_readsSetting hg3 hpn rfl rfl) (Nat.le_of_ble_eq_true rfl) rfl (Nat.le_of_ble_eq_true rfl) (fun σ_104 h_104 => ?_)
              obtain ⟨f104, q104, m104, s104, c104⟩ := h_104
              refine wp_goto (pc := 107) 126 dX7_readsLine_107 (by decide) ?_
              first
                | (exfalso; omega)
                | (refine w126 _ q104 _ _ (F88.s.tr f104.s) m104 ?_ c104
                   rw [hP, if_neg (by omega), if_pos (by omega)]; exact s104)
                | (refine w126 _ q116 _ _ (F88.s.tr f116) m116 ?_ c116
                   rw [hP, if_neg (by omega), if_neg (by omega), if_pos (by omega), if_neg (by omega)]; exact s116)
                | (refine w126 _ q123 _ _ (F88.s.tr f123.s) m123 ?_ c123
                   rw [hP, if_neg (by omega), if_neg (by omega), if_neg (by omega), if_neg (by omega)]; exact s123)
          · refine wp_return (pc := 98) dX7_readsLine_98 rfl ?_
            first
              | (exfalso; omega)
              | (refine ⟨rfl, (F84.tr f88).r.s, Or.inr ?_⟩
                 rcases q88 with d | d
                 · have hbad := d.2.bad (by omega)
                   have hk3 : tkK t n (s.nx t n).x = 0 := by
                     rcases hbad.2.2 with e | e
                     · exact absurd hf0 e.1
                     · exact e.2.1
                   have hPb : P = (s.nx t n).bad t n 2 := by
                     rw [hP, if_neg (by omega)]
                     rcases (show W = 0 ∨ W = 1 ∨ W = 2 by omega) with e | e | e
                     · rw [if_pos e]; unfold pSet; rw [if_pos (Or.inl (by omega))]
                     · rw [if_neg (by omega), if_pos e, if_neg (by omega)]; unfold pShp; rw [if_pos (by omega)]
                     · rw [if_neg (by omega), if_neg (by omega), if_neg (by omega)]; unfold pPar; rw [if_pos (by omega)]; unfold pBdy; rw [if_pos (by omega)]
                   rw [hPb]; exact hbad.on hf0
                 · rw [d.2]
                   first
                     | (rw [hP, if_pos (by omega)]; exact hg.no (by decide) (by omega) (by omega))
                     | (rw [hP, if_neg (by omega), if_neg (by omega), if_pos (by omega), if_pos (by omega)]; exact hg.no (by decide) (by omega) (by omega))
                     | (rw [hP, if_neg (by omega), if_neg (by omega), if_neg (by omega), if_pos (by omega)]; exact hg.no (by decide) (by omega) (by omega)))
        · refine wp_iload_n (pc := 62) dX7_readsLine_62 rfl rfl ?_
          refine wp_iconst (pc := 63) dX7_readsLine_63 (by decide) ?_
          refine wp_icmp_ne (pc := 64) 78 dX7_readsLine_64 (by decide) (fun c_64 => ?_) (fun c_64 => ?_)
          · refine wp_iconst (pc := 78) dX7_readsLine_78 (by decide) ?_
            refine wp_goto (pc := 79) 83 dX7_readsLine_79 (by decide) ?_
            refine wp_iconst (pc := 83) dX7_readsLine_83 (by decide) ?_
            refine wp_cvV2 (pc := 84) dX7_readsLine_84 mv_X7_111 m_mustP (Nat.le_of_ble_eq_true rfl) rfl (Nat.le_of_ble_eq_true rfl) (fun σ_84 h_84 => ?_)
            have g_84 := h_84; obtain ⟨f_84, a12_84, a13_84, a14_84, a15_84, q_84⟩ := h_84; clear q_84; first | have w_84 := g_84.no (Or.inl (by decide)) | have w_84 := g_84.yes rfl (by omega)
            refine wp_aload_n (pc := 87) dX7_readsLine_87 rfl rfl ?_
            have F84 := (f_20.tr f_51).tr f_84
            refine wp_cvV0 (pc := 88) dX7_readsLine_88 mv_X7_115 (m_readsU (t := t) (n := n) (cnt := s.S 0 0) (q := s.nx t n) (by omega) (fun z => hg.nx F84 (by omega))) (Nat.le_of_ble_eq_true rfl) rfl (Nat.le_of_ble_eq_true rfl) (fun σ_88 h_88 => ?_)
            obtain ⟨f88, q88⟩ := h_88
            refine wp_aload_n (pc := 91) dX7_readsLine_91 rfl rfl ?_
            refine wp_getI (pc := 92) 10 dX7_readsLine_92 fl_X7_81 rfl rfl ?_
            refine wp_if_le (pc := 95) 99 dX7_readsLine_95 (by decide) (fun c_95 => ?_) (fun c_95 => ?_)
            · have hok : σ_84 71 10 = 0 ∧ MS t n σ_88 (s.nx t n) (s.S 0 0) := by
                rcases q88 with c | c
                · exact c
                · rw [c.2] at c_95; omega
              have hg3 := hok.2.good (by omega)
              have F88 := (F84.tr f88).r
              refine wp_iload_n (pc := 99) dX7_readsLine_99 rfl rfl ?_
              refine wp_if_ne (pc := 100) 110 dX7_readsLine_100 (by decide) (fun c_100 => ?_) (fun c_100 => ?_)
              · refine wp_iload_n (pc := 110) dX7_readsLine_110 rfl rfl ?_
                refine wp_iconst (pc := 111) dX7_readsLine_111 (by decide) ?_
                refine wp_icmp_ne (pc := 112) 122 dX7_readsLine_112 (by decide) (fun c_112 => ?_) (fun c_112 => ?_)
                · refine wp_aload_n (pc := 122) dX7_readsLine_122 rfl rfl ?_
                  refine wp_cvV0 (pc := 123) dX7_readsLine_123 mv_X7_162 (m_readsPar hg3 hpn rfl (by show s.D 0 0 < 8; omega) rfl) (Nat.le_of_ble_eq_true rfl) rfl (Nat.le_of_ble_eq_true rfl) (fun σ_123 h_123 => ?_)
                  obtain ⟨f123, q123, m123, s123, c123⟩ := h_123
                  first
                    | (exfalso; omega)
                    | (refine w126 _ q104 _ _ (F88.s.tr f104.s) m104 ?_ c104
                       rw [hP, if_neg (by omega), if_pos (by omega)]; exact s104)
                    | (refine w126 _ q116 _ _ (F88.s.tr f116) m116 ?_ c116
                       rw [hP, if_neg (by omega), if_neg (by omega), if_pos (by omega), if_neg (by omega)]; exact s116)
                    | (refine w126 _ q123 _ _ (F88.s.tr f123.s) m123 ?_ c123
                       rw [hP, if_neg (by omega), if_neg (by omega), if_neg (by omega), if_neg (by omega)]; exact s123)
                · refine wp_aload_n (pc := 115) dX7_readsLine_115 rfl rfl ?_
                  refine wp_cvV0 (pc := 116) dX7_readsLine_116 mv_X7_159 (m_readsShape hg3 hpn rfl (by omega) rfl) (Nat.le_of_ble_eq_true rfl) rfl (Nat.le_of_ble_eq_true rfl) (fun σ_116 h_116 => ?_)
                  obtain ⟨f116, q116, m116, s116, c116⟩ := h_116
                  refine wp_goto (pc := 119) 126 dX7_readsLine_119 (by decide) ?_
                  first
                    | (exfalso; omega)
                    | (refine w126 _ q104 _ _ (F88.s.tr f104.s) m104 ?_ c104
                       rw [hP, if_neg (by omega), if_pos (by omega)]; exact s104)
                    | (refine w126 _ q116 _ _ (F88.s.tr f116) m116 ?_ c116
                       rw [hP, if_neg (by omega), if_neg (by omega), if_pos (by omega), if_neg (by omega)]; exact s116)
                    | (refine w126 _ q123 _ _ (F88.s.tr f123.s) m123 ?_ c123
                       rw [hP, if_neg (by omega), if_neg (by omega), if_neg (by omega), if_neg (by omega)]; exact s123)
              · refine wp_aload_n (pc := 103) dX7_readsLine_103 rfl rfl ?_
                refine wp_cvV0 (pc := 104) dX7_readsLine_104 mv_X7_156 (m_readsSetting hg3 hpn rfl rfl) (Nat.le_of_ble_eq_true rfl) rfl (Nat.le_of_ble_eq_true rfl) (fun σ_104 h_104 => ?_)
                obtain ⟨f104, q104, m104, s104, c104⟩ := h_104
                refine wp_goto (pc := 107) 126 dX7_readsLine_107 (by decide) ?_
                first
                  | (exfalso; omega)
                  | (refine w126 _ q104 _ _ (F88.s.tr f104.s) m104 ?_ c104
                     rw [hP, if_neg (by omega), if_pos (by omega)]; exact s104)
                  | (refine w126 _ q116 _ _ (F88.s.tr f116) m116 ?_ c116
                     rw [hP, if_neg (by omega), if_neg (by omega), if_pos (by omega), if_neg (by omega)]; exact s116)
                  | (refine w126 _ q123 _ _ (F88.s.tr f123.s) m123 ?_ c123
                     rw [hP, if_neg (by omega), if_neg (by omega), if_neg (by omega), if_neg (by omega)]; exact s123)
            · refine wp_return (pc := 98) dX7_readsLine_98 rfl ?_
              first
                | (exfalso; omega)
                | (refine ⟨rfl, (F84.tr f88).r.s, Or.inr ?_⟩
                   rcases q88 with d | d
                   · have hbad := d.2.bad (by omega)
                     have hk3 : tkK t n (s.nx t n).x = 0 := by
                       rcases hbad.2.2 with e | e
                       · exact absurd hf0 e.1
                       · exact e.2.1
                     have hPb : P = (s.nx t n).bad t n 2 := by
                       rw [hP, if_neg (by omega)]
                       rcases (show W = 0 ∨ W = 1 ∨ W = 2 by omega) with e | e | e
                       · rw [if_pos e]; unfold pSet; rw [if_pos (Or.inl (by omega))]
                       · rw [if_neg (by omega), if_pos e, if_neg (by omega)]; unfold pShp; rw [if_pos (by omega)]
                       · rw [if_neg (by omega), if_neg (by omega), if_neg (by omega)]; unfold pPar; rw [if_pos (by omega)]; unfold pBdy; rw [if_pos (by omega)]
                     rw [hPb]; exact hbad.on hf0
                   · rw [d.2]
                     first
                       | (rw [hP, if_pos (by omega)]; exact hg.no (by decide) (by omega) (by omega))
                       | (rw [hP, if_neg (by omega), if_neg (by omega), if_pos (by omega), if_pos (by omega)]; exact hg.no (by decide) (by omega) (by omega))
                       | (rw [hP, if_neg (by omega), if_neg (by omega), if_neg (by omega), if_pos (by omega)]; exact hg.no (by decide) (by omega) (by omega)))
          · refine wp_aload_n (pc := 67) dX7_readsLine_67 rfl rfl ?_
            refine wp_getR (pc := 68) (q := 73) dX7_readsLine_68 fl_X7_13 rfl ?_
            refine wp_iconst (pc := 71) dX7_readsLine_71 (by decide) ?_
            refine wp_iald (pc := 72) 591 dX7_readsLine_72 rfl (by omega) ?_
            rw [show σ_51 73 0 = s.D 0 0 by rw [f_51.1 73 (by decide), f_20.1 73 (by decide)]; exact e730]
            refine wp_bipush (pc := 73) dX7_readsLine_73 (by decide) (by decide) ?_
            refine wp_icmp_ge (pc := 75) 82 dX7_readsLine_75 (by decide) (fun c_75 => ?_) (fun c_75 => ?_)
            · refine wp_iconst (pc := 82) dX7_readsLine_82 (by decide) ?_
              refine wp_iconst (pc := 83) dX7_readsLine_83 (by decide) ?_
              refine wp_cvV2 (pc := 84) dX7_readsLine_84 mv_X7_111 m_mustP (Nat.le_of_ble_eq_true rfl) rfl (Nat.le_of_ble_eq_true rfl) (fun σ_84 h_84 => ?_)
              have g_84 := h_84; obtain ⟨f_84, a12_84, a13_84, a14_84, a15_84, q_84⟩ := h_84; clear q_84; first | have w_84 := g_84.no (Or.inl (by decide)) | have w_84 := g_84.yes rfl (by omega)
              refine wp_aload_n (pc := 87) dX7_readsLine_87 rfl rfl ?_
              have F84 := (f_20.tr f_51).tr f_84
              refine wp_cvV0 (pc := 88) dX7_readsLine_88 mv_X7_115 (m_readsU (t := t) (n := n) (cnt := s.S 0 0) (q := s.nx t n) (by omega) (fun z => hg.nx F84 (by omega))) (Nat.le_of_ble_eq_true rfl) rfl (Nat.le_of_ble_eq_true rfl) (fun σ_88 h_88 => ?_)
              obtain ⟨f88, q88⟩ := h_88
              refine wp_aload_n (pc := 91) dX7_readsLine_91 rfl rfl ?_
              refine wp_getI (pc := 92) 10 dX7_readsLine_92 fl_X7_81 rfl rfl ?_
              refine wp_if_le (pc := 95) 99 dX7_readsLine_95 (by decide) (fun c_95 => ?_) (fun c_95 => ?_)
              · have hok : σ_84 71 10 = 0 ∧ MS t n σ_88 (s.nx t n) (s.S 0 0) := by
                  rcases q88 with c | c
                  · exact c
                  · rw [c.2] at c_95; omega
                have hg3 := hok.2.good (by omega)
                have F88 := (F84.tr f88).r
                refine wp_iload_n (pc := 99) dX7_readsLine_99 rfl rfl ?_
                refine wp_if_ne (pc := 100) 110 dX7_readsLine_100 (by decide) (fun c_100 => ?_) (fun c_100 => ?_)
                · refine wp_iload_n (pc := 110) dX7_readsLine_110 rfl rfl ?_
                  refine wp_iconst (pc := 111) dX7_readsLine_111 (by decide) ?_
                  refine wp_icmp_ne (pc := 112) 122 dX7_readsLine_112 (by decide) (fun c_112 => ?_) (fun c_112 => ?_)
                  · refine wp_aload_n (pc := 122) dX7_readsLine_122 rfl rfl ?_
                    refine wp_cvV0 (pc := 123) dX7_readsLine_123 mv_X7_162 (m_readsPar hg3 hpn rfl (by show s.D 0 0 < 8; omega) rfl) (Nat.le_of_ble_eq_true rfl) rfl (Nat.le_of_ble_eq_true rfl) (fun σ_123 h_123 => ?_)
                    obtain ⟨f123, q123, m123, s123, c123⟩ := h_123
                    first
                      | (exfalso; omega)
                      | (refine w126 _ q104 _ _ (F88.s.tr f104.s) m104 ?_ c104
                         rw [hP, if_neg (by omega), if_pos (by omega)]; exact s104)
                      | (refine w126 _ q116 _ _ (F88.s.tr f116) m116 ?_ c116
                         rw [hP, if_neg (by omega), if_neg (by omega), if_pos (by omega), if_neg (by omega)]; exact s116)
                      | (refine w126 _ q123 _ _ (F88.s.tr f123.s) m123 ?_ c123
                         rw [hP, if_neg (by omega), if_neg (by omega), if_neg (by omega), if_neg (by omega)]; exact s123)
                  · refine wp_aload_n (pc := 115) dX7_readsLine_115 rfl rfl ?_
                    refine wp_cvV0 (pc := 116) dX7_readsLine_116 mv_X7_159 (m_readsShape hg3 hpn rfl (by omega) rfl) (Nat.le_of_ble_eq_true rfl) rfl (Nat.le_of_ble_eq_true rfl) (fun σ_116 h_116 => ?_)
                    obtain ⟨f116, q116, m116, s116, c116⟩ := h_116
                    refine wp_goto (pc := 119) 126 dX7_readsLine_119 (by decide) ?_
                    first
                      | (exfalso; omega)
                      | (refine w126 _ q104 _ _ (F88.s.tr f104.s) m104 ?_ c104
                         rw [hP, if_neg (by omega), if_pos (by omega)]; exact s104)
                      | (refine w126 _ q116 _ _ (F88.s.tr f116) m116 ?_ c116
                         rw [hP, if_neg (by omega), if_neg (by omega), if_pos (by omega), if_neg (by omega)]; exact s116)
                      | (refine w126 _ q123 _ _ (F88.s.tr f123.s) m123 ?_ c123
                         rw [hP, if_neg (by omega), if_neg (by omega), if_neg (by omega), if_neg (by omega)]; exact s123)
                · refine wp_aload_n (pc := 103) dX7_readsLine_103 rfl rfl ?_
                  refine wp_cvV0 (pc := 104) dX7_readsLine_104 mv_X7_156 (m_readsSetting hg3 hpn rfl rfl) (Nat.le_of_ble_eq_true rfl) rfl (Nat.le_of_ble_eq_true rfl) (fun σ_104 h_104 => ?_)
                  obtain ⟨f104, q104, m104, s104, c104⟩ := h_104
                  refine wp_goto (pc := 107) 126 dX7_readsLine_107 (by decide) ?_
                  first
                    | (exfalso; omega)
                    | (refine w126 _ q104 _ _ (F88.s.tr f104.s) m104 ?_ c104
                       rw [hP, if_neg (by omega), if_pos (by omega)]; exact s104)
                    | (refine w126 _ q116 _ _ (F88.s.tr f116) m116 ?_ c116
                       rw [hP, if_neg (by omega), if_neg (by omega), if_pos (by omega), if_neg (by omega)]; exact s116)
                    | (refine w126 _ q123 _ _ (F88.s.tr f123.s) m123 ?_ c123
                       rw [hP, if_neg (by omega), if_neg (by omega), if_neg (by omega), if_neg (by omega)]; exact s123)
              · refine wp_return (pc := 98) dX7_readsLine_98 rfl ?_
                first
                  | (exfalso; omega)
                  | (refine ⟨rfl, (F84.tr f88).r.s, Or.inr ?_⟩
                     rcases q88 with d | d
                     · have hbad := d.2.bad (by omega)
                       have hk3 : tkK t n (s.nx t n).x = 0 := by
                         rcases hbad.2.2 with e | e
                         · exact absurd hf0 e.1
                         · exact e.2.1
                       have hPb : P = (s.nx t n).bad t n 2 := by
                         rw [hP, if_neg (by omega)]
                         rcases (show W = 0 ∨ W = 1 ∨ W = 2 by omega) with e | e | e
                         · rw [if_pos e]; unfold pSet; rw [if_pos (Or.inl (by omega))]
                         · rw [if_neg (by omega), if_pos e, if_neg (by omega)]; unfold pShp; rw [if_pos (by omega)]
                         · rw [if_neg (by omega), if_neg (by omega), if_neg (by omega)]; unfold pPar; rw [if_pos (by omega)]; unfold pBdy; rw [if_pos (by omega)]
                       rw [hPb]; exact hbad.on hf0
                     · rw [d.2]
                       first
                         | (rw [hP, if_pos (by omega)]; exact hg.no (by decide) (by omega) (by omega))
                         | (rw [hP, if_neg (by omega), if_neg (by omega), if_pos (by omega), if_pos (by omega)]; exact hg.no (by decide) (by omega) (by omega))
                         | (rw [hP, if_neg (by omega), if_neg (by omega), if_neg (by omega), if_pos (by omega)]; exact hg.no (by decide) (by omega) (by omega)))
            · refine wp_iconst (pc := 78) dX7_readsLine_78 (by decide) ?_
              refine wp_goto (pc := 79) 83 dX7_readsLine_79 (by decide) ?_
              refine wp_iconst (pc := 83) dX7_readsLine_83 (by decide) ?_
              refine wp_cvV2 (pc := 84) dX7_readsLine_84 mv_X7_111 m_mustP (Nat.le_of_ble_eq_true rfl) rfl (Nat.le_of_ble_eq_true rfl) (fun σ_84 h_84 => ?_)
              have g_84 := h_84; obtain ⟨f_84, a12_84, a13_84, a14_84, a15_84, q_84⟩ := h_84; clear q_84; first | have w_84 := g_84.no (Or.inl (by decide)) | have w_84 := g_84.yes rfl (by omega)
              refine wp_aload_n (pc := 87) dX7_readsLine_87 rfl rfl ?_
              have F84 := (f_20.tr f_51).tr f_84
              refine wp_cvV0 (pc := 88) dX7_readsLine_88 mv_X7_115 (m_readsU (t := t) (n := n) (cnt := s.S 0 0) (q := s.nx t n) (by omega) (fun z => hg.nx F84 (by omega))) (Nat.le_of_ble_eq_true rfl) rfl (Nat.le_of_ble_eq_true rfl) (fun σ_88 h_88 => ?_)
              obtain ⟨f88, q88⟩ := h_88
              refine wp_aload_n (pc := 91) dX7_readsLine_91 rfl rfl ?_
              refine wp_getI (pc := 92) 10 dX7_readsLine_92 fl_X7_81 rfl rfl ?_
              refine wp_if_le (pc := 95) 99 dX7_readsLine_95 (by decide) (fun c_95 => ?_) (fun c_95 => ?_)
              · have hok : σ_84 71 10 = 0 ∧ MS t n σ_88 (s.nx t n) (s.S 0 0) := by
                  rcases q88 with c | c
                  · exact c
                  · rw [c.2] at c_95; omega
                have hg3 := hok.2.good (by omega)
                have F88 := (F84.tr f88).r
                refine wp_iload_n (pc := 99) dX7_readsLine_99 rfl rfl ?_
                refine wp_if_ne (pc := 100) 110 dX7_readsLine_100 (by decide) (fun c_100 => ?_) (fun c_100 => ?_)
                · refine wp_iload_n (pc := 110) dX7_readsLine_110 rfl rfl ?_
                  refine wp_iconst (pc := 111) dX7_readsLine_111 (by decide) ?_
                  refine wp_icmp_ne (pc := 112) 122 dX7_readsLine_112 (by decide) (fun c_112 => ?_) (fun c_112 => ?_)
                  · refine wp_aload_n (pc := 122) dX7_readsLine_122 rfl rfl ?_
                    refine wp_cvV0 (pc := 123) dX7_readsLine_123 mv_X7_162 (m_readsPar hg3 hpn rfl (by show s.D 0 0 < 8; omega) rfl) (Nat.le_of_ble_eq_true rfl) rfl (Nat.le_of_ble_eq_true rfl) (fun σ_123 h_123 => ?_)
                    obtain ⟨f123, q123, m123, s123, c123⟩ := h_123
                    first
                      | (exfalso; omega)
                      | (refine w126 _ q104 _ _ (F88.s.tr f104.s) m104 ?_ c104
                         rw [hP, if_neg (by omega), if_pos (by omega)]; exact s104)
                      | (refine w126 _ q116 _ _ (F88.s.tr f116) m116 ?_ c116
                         rw [hP, if_neg (by omega), if_neg (by omega), if_pos (by omega), if_neg (by omega)]; exact s116)
                      | (refine w126 _ q123 _ _ (F88.s.tr f123.s) m123 ?_ c123
                         rw [hP, if_neg (by omega), if_neg (by omega), if_neg (by omega), if_neg (by omega)]; exact s123)
                  · refine wp_aload_n (pc := 115) dX7_readsLine_115 rfl rfl ?_
                    refine wp_cvV0 (pc := 116) dX7_readsLine_116 mv_X7_159 (m_readsShape hg3 hpn rfl (by omega) rfl) (Nat.le_of_ble_eq_true rfl) rfl (Nat.le_of_ble_eq_true rfl) (fun σ_116 h_116 => ?_)
                    obtain ⟨f116, q116, m116, s116, c116⟩ := h_116
                    refine wp_goto (pc := 119) 126 dX7_readsLine_119 (by decide) ?_
                    first
                      | (exfalso; omega)
                      | (refine w126 _ q104 _ _ (F88.s.tr f104.s) m104 ?_ c104
                         rw [hP, if_neg (by omega), if_pos (by omega)]; exact s104)
                      | (refine w126 _ q116 _ _ (F88.s.tr f116) m116 ?_ c116
                         rw [hP, if_neg (by omega), if_neg (by omega), if_pos (by omega), if_neg (by omega)]; exact s116)
                      | (refine w126 _ q123 _ _ (F88.s.tr f123.s) m123 ?_ c123
                         rw [hP, if_neg (by omega), if_neg (by omega), if_neg (by omega), if_neg (by omega)]; exact s123)
                · refine wp_aload_n (pc := 103) dX7_readsLine_103 rfl rfl ?_
                  refine wp_cvV0 (pc := 104) dX7_readsLine_104 mv_X7_156 (m_readsSetting hg3 hpn rfl rfl) (Nat.le_of_ble_eq_true rfl) rfl (Nat.le_of_ble_eq_true rfl) (fun σ_104 h_104 => ?_)
                  obtain ⟨f104, q104, m104, s104, c104⟩ := h_104
                  refine wp_goto (pc := 107) 126 dX7_readsLine_107 (by decide) ?_
                  first
                    | (exfalso; omega)
                    | (refine w126 _ q104 _ _ (F88.s.tr f104.s) m104 ?_ c104
                       rw [hP, if_neg (by omega), if_pos (by omega)]; exact s104)
                    | (refine w126 _ q116 _ _ (F88.s.tr f116) m116 ?_ c116
                       rw [hP, if_neg (by omega), if_neg (by omega), if_pos (by omega), if_neg (by omega)]; exact s116)
                    | (refine w126 _ q123 _ _ (F88.s.tr f123.s) m123 ?_ c123
                       rw [hP, if_neg (by omega), if_neg (by omega), if_neg (by omega), if_neg (by omega)]; exact s123)
              · refine wp_return (pc := 98) dX7_readsLine_98 rfl ?_
                first
                  | (exfalso; omega)
                  | (refine ⟨rfl, (F84.tr f88).r.s, Or.inr ?_⟩
                     rcases q88 with d | d
                     · have hbad := d.2.bad (by omega)
                       have hk3 : tkK t n (s.nx t n).x = 0 := by
                         rcases hbad.2.2 with e | e
                         · exact absurd hf0 e.1
                         · exact e.2.1
                       have hPb : P = (s.nx t n).bad t n 2 := by
                         rw [hP, if_neg (by omega)]
                         rcases (show W = 0 ∨ W = 1 ∨ W = 2 by omega) with e | e | e
                         · rw [if_pos e]; unfold pSet; rw [if_pos (Or.inl (by omega))]
                         · rw [if_neg (by omega), if_pos e, if_neg (by omega)]; unfold pShp; rw [if_pos (by omega)]
                         · rw [if_neg (by omega), if_neg (by omega), if_neg (by omega)]; unfold pPar; rw [if_pos (by omega)]; unfold pBdy; rw [if_pos (by omega)]
                       rw [hPb]; exact hbad.on hf0
                     · rw [d.2]
                       first
                         | (rw [hP, if_pos (by omega)]; exact hg.no (by decide) (by omega) (by omega))
                         | (rw [hP, if_neg (by omega), if_neg (by omega), if_pos (by omega), if_pos (by omega)]; exact hg.no (by decide) (by omega) (by omega))
                         | (rw [hP, if_neg (by omega), if_neg (by omega), if_neg (by omega), if_pos (by omega)]; exact hg.no (by decide) (by omega) (by omega)))
      · refine wp_aload_n (pc := 36) dX7_readsLine_36 rfl rfl ?_
        refine wp_getI (pc := 37) 5 dX7_readsLine_37 fl_X7_131 rfl rfl ?_
        rw [show σ_20 71 5 = s.S 0 0 by rw [f_20.2 5 (by decide)]; exact h5]
        refine wp_bipush (pc := 40) dX7_readsLine_40 (by decide) (by decide) ?_
        refine wp_icmp_ge (pc := 42) 49 dX7_readsLine_42 (by decide) (fun c_42 => ?_) (fun c_42 => ?_)
        · refine wp_iconst (pc := 49) dX7_readsLine_49 (by decide) ?_
          refine wp_iconst (pc := 50) dX7_readsLine_50 (by decide) ?_
          refine wp_cvV2 (pc := 51) dX7_readsLine_51 mv_X7_111 m_mustP (Nat.le_of_ble_eq_true rfl) rfl (Nat.le_of_ble_eq_true rfl) (fun σ_51 h_51 => ?_)
          have g_51 := h_51; obtain ⟨f_51, a12_51, a13_51, a14_51, a15_51, q_51⟩ := h_51; clear q_51; first | have w_51 := g_51.no (Or.inl (by decide)) | have w_51 := g_51.yes rfl (by omega)
          refine wp_aload_n (pc := 54) dX7_readsLine_54 rfl rfl ?_
          refine wp_aload_n (pc := 55) dX7_readsLine_55 rfl rfl ?_
          refine wp_getI (pc := 56) 10 dX7_readsLine_56 fl_X7_81 rfl rfl ?_
          refine wp_if_gt (pc := 59) 78 dX7_readsLine_59 (by decide) (fun c_59 => ?_) (fun c_59 => ?_)
          · refine wp_iconst (pc := 78) dX7_readsLine_78 (by decide) ?_
            refine wp_goto (pc := 79) 83 dX7_readsLine_79 (by decide) ?_
            refine wp_iconst (pc := 83) dX7_readsLine_83 (by decide) ?_
            refine wp_cvV2 (pc := 84) dX7_readsLine_84 mv_X7_111 m_mustP (Nat.le_of_ble_eq_true rfl) rfl (Nat.le_of_ble_eq_true rfl) (fun σ_84 h_84 => ?_)
            have g_84 := h_84; obtain ⟨f_84, a12_84, a13_84, a14_84, a15_84, q_84⟩ := h_84; clear q_84; first | have w_84 := g_84.no (Or.inl (by decide)) | have w_84 := g_84.yes rfl (by omega)
            refine wp_aload_n (pc := 87) dX7_readsLine_87 rfl rfl ?_
            have F84 := (f_20.tr f_51).tr f_84
            refine wp_cvV0 (pc := 88) dX7_readsLine_88 mv_X7_115 (m_readsU (t := t) (n := n) (cnt := s.S 0 0) (q := s.nx t n) (by omega) (fun z => hg.nx F84 (by omega))) (Nat.le_of_ble_eq_true rfl) rfl (Nat.le_of_ble_eq_true rfl) (fun σ_88 h_88 => ?_)
            obtain ⟨f88, q88⟩ := h_88
            refine wp_aload_n (pc := 91) dX7_readsLine_91 rfl rfl ?_
            refine wp_getI (pc := 92) 10 dX7_readsLine_92 fl_X7_81 rfl rfl ?_
            refine wp_if_le (pc := 95) 99 dX7_readsLine_95 (by decide) (fun c_95 => ?_) (fun c_95 => ?_)
            · have hok : σ_84 71 10 = 0 ∧ MS t n σ_88 (s.nx t n) (s.S 0 0) := by
                rcases q88 with c | c
                · exact c
                · rw [c.2] at c_95; omega
              have hg3 := hok.2.good (by omega)
              have F88 := (F84.tr f88).r
              refine wp_iload_n (pc := 99) dX7_readsLine_99 rfl rfl ?_
              refine wp_if_ne (pc := 100) 110 dX7_readsLine_100 (by decide) (fun c_100 => ?_) (fun c_100 => ?_)
              · refine wp_iload_n (pc := 110) dX7_readsLine_110 rfl rfl ?_
                refine wp_iconst (pc := 111) dX7_readsLine_111 (by decide) ?_
                refine wp_icmp_ne (pc := 112) 122 dX7_readsLine_112 (by decide) (fun c_112 => ?_) (fun c_112 => ?_)
                · refine wp_aload_n (pc := 122) dX7_readsLine_122 rfl rfl ?_
                  refine wp_cvV0 (pc := 123) dX7_readsLine_123 mv_X7_162 (m_readsPar hg3 hpn rfl (by show s.D 0 0 < 8; omega) rfl) (Nat.le_of_ble_eq_true rfl) rfl (Nat.le_of_ble_eq_true rfl) (fun σ_123 h_123 => ?_)
                  obtain ⟨f123, q123, m123, s123, c123⟩ := h_123
                  first
                    | (exfalso; omega)
                    | (refine w126 _ q104 _ _ (F88.s.tr f104.s) m104 ?_ c104
                       rw [hP, if_neg (by omega), if_pos (by omega)]; exact s104)
                    | (refine w126 _ q116 _ _ (F88.s.tr f116) m116 ?_ c116
                       rw [hP, if_neg (by omega), if_neg (by omega), if_pos (by omega), if_neg (by omega)]; exact s116)
                    | (refine w126 _ q123 _ _ (F88.s.tr f123.s) m123 ?_ c123
                       rw [hP, if_neg (by omega), if_neg (by omega), if_neg (by omega), if_neg (by omega)]; exact s123)
                · refine wp_aload_n (pc := 115) dX7_readsLine_115 rfl rfl ?_
                  refine wp_cvV0 (pc := 116) dX7_readsLine_116 mv_X7_159 (m_readsShape hg3 hpn rfl (by omega) rfl) (Nat.le_of_ble_eq_true rfl) rfl (Nat.le_of_ble_eq_true rfl) (fun σ_116 h_116 => ?_)
                  obtain ⟨f116, q116, m116, s116, c116⟩ := h_116
                  refine wp_goto (pc := 119) 126 dX7_readsLine_119 (by decide) ?_
                  first
                    | (exfalso; omega)
                    | (refine w126 _ q104 _ _ (F88.s.tr f104.s) m104 ?_ c104
                       rw [hP, if_neg (by omega), if_pos (by omega)]; exact s104)
                    | (refine w126 _ q116 _ _ (F88.s.tr f116) m116 ?_ c116
                       rw [hP, if_neg (by omega), if_neg (by omega), if_pos (by omega), if_neg (by omega)]; exact s116)
                    | (refine w126 _ q123 _ _ (F88.s.tr f123.s) m123 ?_ c123
                       rw [hP, if_neg (by omega), if_neg (by omega), if_neg (by omega), if_neg (by omega)]; exact s123)
              · refine wp_aload_n (pc := 103) dX7_readsLine_103 rfl rfl ?_
                refine wp_cvV0 (pc := 104) dX7_readsLine_104 mv_X7_156 (m_readsSetting hg3 hpn rfl rfl) (Nat.le_of_ble_eq_true rfl) rfl (Nat.le_of_ble_eq_true rfl) (fun σ_104 h_104 => ?_)
                obtain ⟨f104, q104, m104, s104, c104⟩ := h_104
                refine wp_goto (pc := 107) 126 dX7_readsLine_107 (by decide) ?_
                first
                  | (exfalso; omega)
                  | (refine w126 _ q104 _ _ (F88.s.tr f104.s) m104 ?_ c104
                     rw [hP, if_neg (by omega), if_pos (by omega)]; exact s104)
                  | (refine w126 _ q116 _ _ (F88.s.tr f116) m116 ?_ c116
                     rw [hP, if_neg (by omega), if_neg (by omega), if_pos (by omega), if_neg (by omega)]; exact s116)
                  | (refine w126 _ q123 _ _ (F88.s.tr f123.s) m123 ?_ c123
                     rw [hP, if_neg (by omega), if_neg (by omega), if_neg (by omega), if_neg (by omega)]; exact s123)
            · refine wp_return (pc := 98) dX7_readsLine_98 rfl ?_
              first
                | (exfalso; omega)
                | (refine ⟨rfl, (F84.tr f88).r.s, Or.inr ?_⟩
                   rcases q88 with d | d
                   · have hbad := d.2.bad (by omega)
                     have hk3 : tkK t n (s.nx t n).x = 0 := by
                       rcases hbad.2.2 with e | e
                       · exact absurd hf0 e.1
                       · exact e.2.1
                     have hPb : P = (s.nx t n).bad t n 2 := by
                       rw [hP, if_neg (by omega)]
                       rcases (show W = 0 ∨ W = 1 ∨ W = 2 by omega) with e | e | e
                       · rw [if_pos e]; unfold pSet; rw [if_pos (Or.inl (by omega))]
                       · rw [if_neg (by omega), if_pos e, if_neg (by omega)]; unfold pShp; rw [if_pos (by omega)]
                       · rw [if_neg (by omega), if_neg (by omega), if_neg (by omega)]; unfold pPar; rw [if_pos (by omega)]; unfold pBdy; rw [if_pos (by omega)]
                     rw [hPb]; exact hbad.on hf0
                   · rw [d.2]
                     first
                       | (rw [hP, if_pos (by omega)]; exact hg.no (by decide) (by omega) (by omega))
                       | (rw [hP, if_neg (by omega), if_neg (by omega), if_pos (by omega), if_pos (by omega)]; exact hg.no (by decide) (by omega) (by omega))
                       | (rw [hP, if_neg (by omega), if_neg (by omega), if_neg (by omega), if_pos (by omega)]; exact hg.no (by decide) (by omega) (by omega)))
          · refine wp_iload_n (pc := 62) dX7_readsLine_62 rfl rfl ?_
            refine wp_iconst (pc := 63) dX7_readsLine_63 (by decide) ?_
            refine wp_icmp_ne (pc := 64) 78 dX7_readsLine_64 (by decide) (fun c_64 => ?_) (fun c_64 => ?_)
            · refine wp_iconst (pc := 78) dX7_readsLine_78 (by decide) ?_
              refine wp_goto (pc := 79) 83 dX7_readsLine_79 (by decide) ?_
              refine wp_iconst (pc := 83) dX7_readsLine_83 (by decide) ?_
              refine wp_cvV2 (pc := 84) dX7_readsLine_84 mv_X7_111 m_mustP (Nat.le_of_ble_eq_true rfl) rfl (Nat.le_of_ble_eq_true rfl) (fun σ_84 h_84 => ?_)
              have g_84 := h_84; obtain ⟨f_84, a12_84, a13_84, a14_84, a15_84, q_84⟩ := h_84; clear q_84; first | have w_84 := g_84.no (Or.inl (by decide)) | have w_84 := g_84.yes rfl (by omega)
              refine wp_aload_n (pc := 87) dX7_readsLine_87 rfl rfl ?_
              have F84 := (f_20.tr f_51).tr f_84
              refine wp_cvV0 (pc := 88) dX7_readsLine_88 mv_X7_115 (m_readsU (t := t) (n := n) (cnt := s.S 0 0) (q := s.nx t n) (by omega) (fun z => hg.nx F84 (by omega))) (Nat.le_of_ble_eq_true rfl) rfl (Nat.le_of_ble_eq_true rfl) (fun σ_88 h_88 => ?_)
              obtain ⟨f88, q88⟩ := h_88
              refine wp_aload_n (pc := 91) dX7_readsLine_91 rfl rfl ?_
              refine wp_getI (pc := 92) 10 dX7_readsLine_92 fl_X7_81 rfl rfl ?_
              refine wp_if_le (pc := 95) 99 dX7_readsLine_95 (by decide) (fun c_95 => ?_) (fun c_95 => ?_)
              · have hok : σ_84 71 10 = 0 ∧ MS t n σ_88 (s.nx t n) (s.S 0 0) := by
                  rcases q88 with c | c
                  · exact c
                  · rw [c.2] at c_95; omega
                have hg3 := hok.2.good (by omega)
                have F88 := (F84.tr f88).r
                refine wp_iload_n (pc := 99) dX7_readsLine_99 rfl rfl ?_
                refine wp_if_ne (pc := 100) 110 dX7_readsLine_100 (by decide) (fun c_100 => ?_) (fun c_100 => ?_)
                · refine wp_iload_n (pc := 110) dX7_readsLine_110 rfl rfl ?_
                  refine wp_iconst (pc := 111) dX7_readsLine_111 (by decide) ?_
                  refine wp_icmp_ne (pc := 112) 122 dX7_readsLine_112 (by decide) (fun c_112 => ?_) (fun c_112 => ?_)
                  · refine wp_aload_n (pc := 122) dX7_readsLine_122 rfl rfl ?_
                    refine wp_cvV0 (pc := 123) dX7_readsLine_123 mv_X7_162 (m_readsPar hg3 hpn rfl (by show s.D 0 0 < 8; omega) rfl) (Nat.le_of_ble_eq_true rfl) rfl (Nat.le_of_ble_eq_true rfl) (fun σ_123 h_123 => ?_)
                    obtain ⟨f123, q123, m123, s123, c123⟩ := h_123
                    first
                      | (exfalso; omega)
                      | (refine w126 _ q104 _ _ (F88.s.tr f104.s) m104 ?_ c104
                         rw [hP, if_neg (by omega), if_pos (by omega)]; exact s104)
                      | (refine w126 _ q116 _ _ (F88.s.tr f116) m116 ?_ c116
                         rw [hP, if_neg (by omega), if_neg (by omega), if_pos (by omega), if_neg (by omega)]; exact s116)
                      | (refine w126 _ q123 _ _ (F88.s.tr f123.s) m123 ?_ c123
                         rw [hP, if_neg (by omega), if_neg (by omega), if_neg (by omega), if_neg (by omega)]; exact s123)
                  · refine wp_aload_n (pc := 115) dX7_readsLine_115 rfl rfl ?_
                    refine wp_cvV0 (pc := 116) dX7_readsLine_116 mv_X7_159 (m_readsShape hg3 hpn rfl (by omega) rfl) (Nat.le_of_ble_eq_true rfl) rfl (Nat.le_of_ble_eq_true rfl) (fun σ_116 h_116 => ?_)
                    obtain ⟨f116, q116, m116, s116, c116⟩ := h_116
                    refine wp_goto (pc := 119) 126 dX7_readsLine_119 (by decide) ?_
                    first
                      | (exfalso; omega)
                      | (refine w126 _ q104 _ _ (F88.s.tr f104.s) m104 ?_ c104
                         rw [hP, if_neg (by omega), if_pos (by omega)]; exact s104)
                      | (refine w126 _ q116 _ _ (F88.s.tr f116) m116 ?_ c116
                         rw [hP, if_neg (by omega), if_neg (by omega), if_pos (by omega), if_neg (by omega)]; exact s116)
                      | (refine w126 _ q123 _ _ (F88.s.tr f123.s) m123 ?_ c123
                         rw [hP, if_neg (by omega), if_neg (by omega), if_neg (by omega), if_neg (by omega)]; exact s123)
                · refine wp_aload_n (pc := 103) dX7_readsLine_103 rfl rfl ?_
                  refine wp_cvV0 (pc := 104) dX7_readsLine_104 mv_X7_156 (m_readsSetting hg3 hpn rfl rfl) (Nat.le_of_ble_eq_true rfl) rfl (Nat.le_of_ble_eq_true rfl) (fun σ_104 h_104 => ?_)
                  obtain ⟨f104, q104, m104, s104, c104⟩ := h_104
                  refine wp_goto (pc := 107) 126 dX7_readsLine_107 (by decide) ?_
                  first
                    | (exfalso; omega)
                    | (refine w126 _ q104 _ _ (F88.s.tr f104.s) m104 ?_ c104
                       rw [hP, if_neg (by omega), if_pos (by omega)]; exact s104)
                    | (refine w126 _ q116 _ _ (F88.s.tr f116) m116 ?_ c116
                       rw [hP, if_neg (by omega), if_neg (by omega), if_pos (by omega), if_neg (by omega)]; exact s116)
                    | (refine w126 _ q123 _ _ (F88.s.tr f123.s) m123 ?_ c123
                       rw [hP, if_neg (by omega), if_neg (by omega), if_neg (by omega), if_neg (by omega)]; exact s123)
              · refine wp_return (pc := 98) dX7_readsLine_98 rfl ?_
                first
                  | (exfalso; omega)
                  | (refine ⟨rfl, (F84.tr f88).r.s, Or.inr ?_⟩
                     rcases q88 with d | d
                     · have hbad := d.2.bad (by omega)
                       have hk3 : tkK t n (s.nx t n).x = 0 := by
                         rcases hbad.2.2 with e | e
                         · exact absurd hf0 e.1
                         · exact e.2.1
                       have hPb : P = (s.nx t n).bad t n 2 := by
                         rw [hP, if_neg (by omega)]
                         rcases (show W = 0 ∨ W = 1 ∨ W = 2 by omega) with e | e | e
                         · rw [if_pos e]; unfold pSet; rw [if_pos (Or.inl (by omega))]
                         · rw [if_neg (by omega), if_pos e, if_neg (by omega)]; unfold pShp; rw [if_pos (by omega)]
                         · rw [if_neg (by omega), if_neg (by omega), if_neg (by omega)]; unfold pPar; rw [if_pos (by omega)]; unfold pBdy; rw [if_pos (by omega)]
                       rw [hPb]; exact hbad.on hf0
                     · rw [d.2]
                       first
                         | (rw [hP, if_pos (by omega)]; exact hg.no (by decide) (by omega) (by omega))
                         | (rw [hP, if_neg (by omega), if_neg (by omega), if_pos (by omega), if_pos (by omega)]; exact hg.no (by decide) (by omega) (by omega))
                         | (rw [hP, if_neg (by omega), if_neg (by omega), if_neg (by omega), if_pos (by omega)]; exact hg.no (by decide) (by omega) (by omega)))
            · refine wp_aload_n (pc := 67) dX7_readsLine_67 rfl rfl ?_
              refine wp_getR (pc := 68) (q := 73) dX7_readsLine_68 fl_X7_13 rfl ?_
              refine wp_iconst (pc := 71) dX7_readsLine_71 (by decide) ?_
              refine wp_iald (pc := 72) 591 dX7_readsLine_72 rfl (by omega) ?_
              rw [show σ_51 73 0 = s.D 0 0 by rw [f_51.1 73 (by decide), f_20.1 73 (by decide)]; exact e730]
              refine wp_bipush (pc := 73) dX7_readsLine_73 (by decide) (by decide) ?_
              refine wp_icmp_ge (pc := 75) 82 dX7_readsLine_75 (by decide) (fun c_75 => ?_) (fun c_75 => ?_)
              · refine wp_iconst (pc := 82) dX7_readsLine_82 (by decide) ?_
                refine wp_iconst (pc := 83) dX7_readsLine_83 (by decide) ?_
                refine wp_cvV2 (pc := 84) dX7_readsLine_84 mv_X7_111 m_mustP (Nat.le_of_ble_eq_true rfl) rfl (Nat.le_of_ble_eq_true rfl) (fun σ_84 h_84 => ?_)
                have g_84 := h_84; obtain ⟨f_84, a12_84, a13_84, a14_84, a15_84, q_84⟩ := h_84; clear q_84; first | have w_84 := g_84.no (Or.inl (by decide)) | have w_84 := g_84.yes rfl (by omega)
                refine wp_aload_n (pc := 87) dX7_readsLine_87 rfl rfl ?_
                have F84 := (f_20.tr f_51).tr f_84
                refine wp_cvV0 (pc := 88) dX7_readsLine_88 mv_X7_115 (m_readsU (t := t) (n := n) (cnt := s.S 0 0) (q := s.nx t n) (by omega) (fun z => hg.nx F84 (by omega))) (Nat.le_of_ble_eq_true rfl) rfl (Nat.le_of_ble_eq_true rfl) (fun σ_88 h_88 => ?_)
                obtain ⟨f88, q88⟩ := h_88
                refine wp_aload_n (pc := 91) dX7_readsLine_91 rfl rfl ?_
                refine wp_getI (pc := 92) 10 dX7_readsLine_92 fl_X7_81 rfl rfl ?_
                refine wp_if_le (pc := 95) 99 dX7_readsLine_95 (by decide) (fun c_95 => ?_) (fun c_95 => ?_)
                · have hok : σ_84 71 10 = 0 ∧ MS t n σ_88 (s.nx t n) (s.S 0 0) := by
                    rcases q88 with c | c
                    · exact c
                    · rw [c.2] at c_95; omega
                  have hg3 := hok.2.good (by omega)
                  have F88 := (F84.tr f88).r
                  refine wp_iload_n (pc := 99) dX7_readsLine_99 rfl rfl ?_
                  refine wp_if_ne (pc := 100) 110 dX7_readsLine_100 (by decide) (fun c_100 => ?_) (fun c_100 => ?_)
                  · refine wp_iload_n (pc := 110) dX7_readsLine_110 rfl rfl ?_
                    refine wp_iconst (pc := 111) dX7_readsLine_111 (by decide) ?_
                    refine wp_icmp_ne (pc := 112) 122 dX7_readsLine_112 (by decide) (fun c_112 => ?_) (fun c_112 => ?_)
                    · refine wp_aload_n (pc := 122) dX7_readsLine_122 rfl rfl ?_
                      refine wp_cvV0 (pc := 123) dX7_readsLine_123 mv_X7_162 (m_readsPar hg3 hpn rfl (by show s.D 0 0 < 8; omega) rfl) (Nat.le_of_ble_eq_true rfl) rfl (Nat.le_of_ble_eq_true rfl) (fun σ_123 h_123 => ?_)
                      obtain ⟨f123, q123, m123, s123, c123⟩ := h_123
                      first
                        | (exfalso; omega)
                        | (refine w126 _ q104 _ _ (F88.s.tr f104.s) m104 ?_ c104
                           rw [hP, if_neg (by omega), if_pos (by omega)]; exact s104)
                        | (refine w126 _ q116 _ _ (F88.s.tr f116) m116 ?_ c116
                           rw [hP, if_neg (by omega), if_neg (by omega), if_pos (by omega), if_neg (by omega)]; exact s116)
                        | (refine w126 _ q123 _ _ (F88.s.tr f123.s) m123 ?_ c123
                           rw [hP, if_neg (by omega), if_neg (by omega), if_neg (by omega), if_neg (by omega)]; exact s123)
                    · refine wp_aload_n (pc := 115) dX7_readsLine_115 rfl rfl ?_
                      refine wp_cvV0 (pc := 116) dX7_readsLine_116 mv_X7_159 (m_readsShape hg3 hpn rfl (by omega) rfl) (Nat.le_of_ble_eq_true rfl) rfl (Nat.le_of_ble_eq_true rfl) (fun σ_116 h_116 => ?_)
                      obtain ⟨f116, q116, m116, s116, c116⟩ := h_116
                      refine wp_goto (pc := 119) 126 dX7_readsLine_119 (by decide) ?_
                      first
                        | (exfalso; omega)
                        | (refine w126 _ q104 _ _ (F88.s.tr f104.s) m104 ?_ c104
                           rw [hP, if_neg (by omega), if_pos (by omega)]; exact s104)
                        | (refine w126 _ q116 _ _ (F88.s.tr f116) m116 ?_ c116
                           rw [hP, if_neg (by omega), if_neg (by omega), if_pos (by omega), if_neg (by omega)]; exact s116)
                        | (refine w126 _ q123 _ _ (F88.s.tr f123.s) m123 ?_ c123
                           rw [hP, if_neg (by omega), if_neg (by omega), if_neg (by omega), if_neg (by omega)]; exact s123)
                  · refine wp_aload_n (pc := 103) dX7_readsLine_103 rfl rfl ?_
                    refine wp_cvV0 (pc := 104) dX7_readsLine_104 mv_X7_156 (m_readsSetting hg3 hpn rfl rfl) (Nat.le_of_ble_eq_true rfl) rfl (Nat.le_of_ble_eq_true rfl) (fun σ_104 h_104 => ?_)
                    obtain ⟨f104, q104, m104, s104, c104⟩ := h_104
                    refine wp_goto (pc := 107) 126 dX7_readsLine_107 (by decide) ?_
                    first
                      | (exfalso; omega)
                      | (refine w126 _ q104 _ _ (F88.s.tr f104.s) m104 ?_ c104
                         rw [hP, if_neg (by omega), if_pos (by omega)]; exact s104)
                      | (refine w126 _ q116 _ _ (F88.s.tr f116) m116 ?_ c116
                         rw [hP, if_neg (by omega), if_neg (by omega), if_pos (by omega), if_neg (by omega)]; exact s116)
                      | (refine w126 _ q123 _ _ (F88.s.tr f123.s) m123 ?_ c123
                         rw [hP, if_neg (by omega), if_neg (by omega), if_neg (by omega), if_neg (by omega)]; exact s123)
                · refine wp_return (pc := 98) dX7_readsLine_98 rfl ?_
                  first
                    | (exfalso; omega)
                    | (refine ⟨rfl, (F84.tr f88).r.s, Or.inr ?_⟩
                       rcases q88 with d | d
                       · have hbad := d.2.bad (by omega)
                         have hk3 : tkK t n (s.nx t n).x = 0 := by
                           rcases hbad.2.2 with e | e
                           · exact absurd hf0 e.1
                           · exact e.2.1
                         have hPb : P = (s.nx t n).bad t n 2 := by
                           rw [hP, if_neg (by omega)]
                           rcases (show W = 0 ∨ W = 1 ∨ W = 2 by omega) with e | e | e
                           · rw [if_pos e]; unfold pSet; rw [if_pos (Or.inl (by omega))]
                           · rw [if_neg (by omega), if_pos e, if_neg (by omega)]; unfold pShp; rw [if_pos (by omega)]
                           · rw [if_neg (by omega), if_neg (by omega), if_neg (by omega)]; unfold pPar; rw [if_pos (by omega)]; unfold pBdy; rw [if_pos (by omega)]
                         rw [hPb]; exact hbad.on hf0
                       · rw [d.2]
                         first
                           | (rw [hP, if_pos (by omega)]; exact hg.no (by decide) (by omega) (by omega))
                           | (rw [hP, if_neg (by omega), if_neg (by omega), if_pos (by omega), if_pos (by omega)]; exact hg.no (by decide) (by omega) (by omega))
                           | (rw [hP, if_neg (by omega), if_neg (by omega), if_neg (by omega), if_pos (by omega)]; exact hg.no (by decide) (by omega) (by omega)))
              · refine wp_iconst (pc := 78) dX7_readsLine_78 (by decide) ?_
                refine wp_goto (pc := 79) 83 dX7_readsLine_79 (by decide) ?_
                refine wp_iconst (pc := 83) dX7_readsLine_83 (by decide) ?_
                refine wp_cvV2 (pc := 84) dX7_readsLine_84 mv_X7_111 m_mustP (Nat.le_of_ble_eq_true rfl) rfl (Nat.le_of_ble_eq_true rfl) (fun σ_84 h_84 => ?_)
                have g_84 := h_84; obtain ⟨f_84, a12_84, a13_84, a14_84, a15_84, q_84⟩ := h_84; clear q_84; first | have w_84 := g_84.no (Or.inl (by decide)) | have w_84 := g_84.yes rfl (by omega)
                refine wp_aload_n (pc := 87) dX7_readsLine_87 rfl rfl ?_
                have F84 := (f_20.tr f_51).tr f_84
                refine wp_cvV0 (pc := 88) dX7_readsLine_88 mv_X7_115 (m_readsU (t := t) (n := n) (cnt := s.S 0 0) (q := s.nx t n) (by omega) (fun z => hg.nx F84 (by omega))) (Nat.le_of_ble_eq_true rfl) rfl (Nat.le_of_ble_eq_true rfl) (fun σ_88 h_88 => ?_)
                obtain ⟨f88, q88⟩ := h_88
                refine wp_aload_n (pc := 91) dX7_readsLine_91 rfl rfl ?_
                refine wp_getI (pc := 92) 10 dX7_readsLine_92 fl_X7_81 rfl rfl ?_
                refine wp_if_le (pc := 95) 99 dX7_readsLine_95 (by decide) (fun c_95 => ?_) (fun c_95 => ?_)
                · have hok : σ_84 71 10 = 0 ∧ MS t n σ_88 (s.nx t n) (s.S 0 0) := by
                    rcases q88 with c | c
                    · exact c
                    · rw [c.2] at c_95; omega
                  have hg3 := hok.2.good (by omega)
                  have F88 := (F84.tr f88).r
                  refine wp_iload_n (pc := 99) dX7_readsLine_99 rfl rfl ?_
                  refine wp_if_ne (pc := 100) 110 dX7_readsLine_100 (by decide) (fun c_100 => ?_) (fun c_100 => ?_)
                  · refine wp_iload_n (pc := 110) dX7_readsLine_110 rfl rfl ?_
                    refine wp_iconst (pc := 111) dX7_readsLine_111 (by decide) ?_
                    refine wp_icmp_ne (pc := 112) 122 dX7_readsLine_112 (by decide) (fun c_112 => ?_) (fun c_112 => ?_)
                    · refine wp_aload_n (pc := 122) dX7_readsLine_122 rfl rfl ?_
                      refine wp_cvV0 (pc := 123) dX7_readsLine_123 mv_X7_162 (m_readsPar hg3 hpn rfl (by show s.D 0 0 < 8; omega) rfl) (Nat.le_of_ble_eq_true rfl) rfl (Nat.le_of_ble_eq_true rfl) (fun σ_123 h_123 => ?_)
                      obtain ⟨f123, q123, m123, s123, c123⟩ := h_123
                      first
                        | (exfalso; omega)
                        | (refine w126 _ q104 _ _ (F88.s.tr f104.s) m104 ?_ c104
                           rw [hP, if_neg (by omega), if_pos (by omega)]; exact s104)
                        | (refine w126 _ q116 _ _ (F88.s.tr f116) m116 ?_ c116
                           rw [hP, if_neg (by omega), if_neg (by omega), if_pos (by omega), if_neg (by omega)]; exact s116)
                        | (refine w126 _ q123 _ _ (F88.s.tr f123.s) m123 ?_ c123
                           rw [hP, if_neg (by omega), if_neg (by omega), if_neg (by omega), if_neg (by omega)]; exact s123)
                    · refine wp_aload_n (pc := 115) dX7_readsLine_115 rfl rfl ?_
                      refine wp_cvV0 (pc := 116) dX7_readsLine_116 mv_X7_159 (m_readsShape hg3 hpn rfl (by omega) rfl) (Nat.le_of_ble_eq_true rfl) rfl (Nat.le_of_ble_eq_true rfl) (fun σ_116 h_116 => ?_)
                      obtain ⟨f116, q116, m116, s116, c116⟩ := h_116
                      refine wp_goto (pc := 119) 126 dX7_readsLine_119 (by decide) ?_
                      first
                        | (exfalso; omega)
                        | (refine w126 _ q104 _ _ (F88.s.tr f104.s) m104 ?_ c104
                           rw [hP, if_neg (by omega), if_pos (by omega)]; exact s104)
                        | (refine w126 _ q116 _ _ (F88.s.tr f116) m116 ?_ c116
                           rw [hP, if_neg (by omega), if_neg (by omega), if_pos (by omega), if_neg (by omega)]; exact s116)
                        | (refine w126 _ q123 _ _ (F88.s.tr f123.s) m123 ?_ c123
                           rw [hP, if_neg (by omega), if_neg (by omega), if_neg (by omega), if_neg (by omega)]; exact s123)
                  · refine wp_aload_n (pc := 103) dX7_readsLine_103 rfl rfl ?_
                    refine wp_cvV0 (pc := 104) dX7_readsLine_104 mv_X7_156 (m_readsSetting hg3 hpn rfl rfl) (Nat.le_of_ble_eq_true rfl) rfl (Nat.le_of_ble_eq_true rfl) (fun σ_104 h_104 => ?_)
                    obtain ⟨f104, q104, m104, s104, c104⟩ := h_104
                    refine wp_goto (pc := 107) 126 dX7_readsLine_107 (by decide) ?_
                    first
                      | (exfalso; omega)
                      | (refine w126 _ q104 _ _ (F88.s.tr f104.s) m104 ?_ c104
                         rw [hP, if_neg (by omega), if_pos (by omega)]; exact s104)
                      | (refine w126 _ q116 _ _ (F88.s.tr f116) m116 ?_ c116
                         rw [hP, if_neg (by omega), if_neg (by omega), if_pos (by omega), if_neg (by omega)]; exact s116)
                      | (refine w126 _ q123 _ _ (F88.s.tr f123.s) m123 ?_ c123
                         rw [hP, if_neg (by omega), if_neg (by omega), if_neg (by omega), if_neg (by omega)]; exact s123)
                · refine wp_return (pc := 98) dX7_readsLine_98 rfl ?_
                  first
                    | (exfalso; omega)
                    | (refine ⟨rfl, (F84.tr f88).r.s, Or.inr ?_⟩
                       rcases q88 with d | d
                       · have hbad := d.2.bad (by omega)
                         have hk3 : tkK t n (s.nx t n).x = 0 := by
                           rcases hbad.2.2 with e | e
                           · exact absurd hf0 e.1
                           · exact e.2.1
                         have hPb : P = (s.nx t n).bad t n 2 := by
                           rw [hP, if_neg (by omega)]
                           rcases (show W = 0 ∨ W = 1 ∨ W = 2 by omega) with e | e | e
                           · rw [if_pos e]; unfold pSet; rw [if_pos (Or.inl (by omega))]
                           · rw [if_neg (by omega), if_pos e, if_neg (by omega)]; unfold pShp; rw [if_pos (by omega)]
                           · rw [if_neg (by omega), if_neg (by omega), if_neg (by omega)]; unfold pPar; rw [if_pos (by omega)]; unfold pBdy; rw [if_pos (by omega)]
                         rw [hPb]; exact hbad.on hf0
                       · rw [d.2]
                         first
                           | (rw [hP, if_pos (by omega)]; exact hg.no (by decide) (by omega) (by omega))
                           | (rw [hP, if_neg (by omega), if_neg (by omega), if_pos (by omega), if_pos (by omega)]; exact hg.no (by decide) (by omega) (by omega))
                           | (rw [hP, if_neg (by omega), if_neg (by omega), if_neg (by omega), if_pos (by omega)]; exact hg.no (by decide) (by omega) (by omega)))
        · refine wp_iconst (pc := 45) dX7_readsLine_45 (by decide) ?_
          refine wp_goto (pc := 46) 50 dX7_readsLine_46 (by decide) ?_
          refine wp_iconst (pc := 50) dX7_readsLine_50 (by decide) ?_
          refine wp_cvV2 (pc := 51) dX7_readsLine_51 mv_X7_111 m_mustP (Nat.le_of_ble_eq_true rfl) rfl (Nat.le_of_ble_eq_true rfl) (fun σ_51 h_51 => ?_)
          have g_51 := h_51; obtain ⟨f_51, a12_51, a13_51, a14_51, a15_51, q_51⟩ := h_51; clear q_51; first | have w_51 := g_51.no (Or.inl (by decide)) | have w_51 := g_51.yes rfl (by omega)
          refine wp_aload_n (pc := 54) dX7_readsLine_54 rfl rfl ?_
          refine wp_aload_n (pc := 55) dX7_readsLine_55 rfl rfl ?_
          refine wp_getI (pc := 56) 10 dX7_readsLine_56 fl_X7_81 rfl rfl ?_
          refine wp_if_gt (pc := 59) 78 dX7_readsLine_59 (by decide) (fun c_59 => ?_) (fun c_59 => ?_)
          · refine wp_iconst (pc := 78) dX7_readsLine_78 (by decide) ?_
            refine wp_goto (pc := 79) 83 dX7_readsLine_79 (by decide) ?_
            refine wp_iconst (pc := 83) dX7_readsLine_83 (by decide) ?_
            refine wp_cvV2 (pc := 84) dX7_readsLine_84 mv_X7_111 m_mustP (Nat.le_of_ble_eq_true rfl) rfl (Nat.le_of_ble_eq_true rfl) (fun σ_84 h_84 => ?_)
            have g_84 := h_84; obtain ⟨f_84, a12_84, a13_84, a14_84, a15_84, q_84⟩ := h_84; clear q_84; first | have w_84 := g_84.no (Or.inl (by decide)) | have w_84 := g_84.yes rfl (by omega)
            refine wp_aload_n (pc := 87) dX7_readsLine_87 rfl rfl ?_
            have F84 := (f_20.tr f_51).tr f_84
            refine wp_cvV0 (pc := 88) dX7_readsLine_88 mv_X7_115 (m_readsU (t := t) (n := n) (cnt := s.S 0 0) (q := s.nx t n) (by omega) (fun z => hg.nx F84 (by omega))) (Nat.le_of_ble_eq_true rfl) rfl (Nat.le_of_ble_eq_true rfl) (fun σ_88 h_88 => ?_)
            obtain ⟨f88, q88⟩ := h_88
            refine wp_aload_n (pc := 91) dX7_readsLine_91 rfl rfl ?_
            refine wp_getI (pc := 92) 10 dX7_readsLine_92 fl_X7_81 rfl rfl ?_
            refine wp_if_le (pc := 95) 99 dX7_readsLine_95 (by decide) (fun c_95 => ?_) (fun c_95 => ?_)
            · have hok : σ_84 71 10 = 0 ∧ MS t n σ_88 (s.nx t n) (s.S 0 0) := by
                rcases q88 with c | c
                · exact c
                · rw [c.2] at c_95; omega
              have hg3 := hok.2.good (by omega)
              have F88 := (F84.tr f88).r
              refine wp_iload_n (pc := 99) dX7_readsLine_99 rfl rfl ?_
              refine wp_if_ne (pc := 100) 110 dX7_readsLine_100 (by decide) (fun c_100 => ?_) (fun c_100 => ?_)
              · refine wp_iload_n (pc := 110) dX7_readsLine_110 rfl rfl ?_
                refine wp_iconst (pc := 111) dX7_readsLine_111 (by decide) ?_
                refine wp_icmp_ne (pc := 112) 122 dX7_readsLine_112 (by decide) (fun c_112 => ?_) (fun c_112 => ?_)
                · refine wp_aload_n (pc := 122) dX7_readsLine_122 rfl rfl ?_
                  refine wp_cvV0 (pc := 123) dX7_readsLine_123 mv_X7_162 (m_readsPar hg3 hpn rfl (by show s.D 0 0 < 8; omega) rfl) (Nat.le_of_ble_eq_true rfl) rfl (Nat.le_of_ble_eq_true rfl) (fun σ_123 h_123 => ?_)
                  obtain ⟨f123, q123, m123, s123, c123⟩ := h_123
                  first
                    | (exfalso; omega)
                    | (refine w126 _ q104 _ _ (F88.s.tr f104.s) m104 ?_ c104
                       rw [hP, if_neg (by omega), if_pos (by omega)]; exact s104)
                    | (refine w126 _ q116 _ _ (F88.s.tr f116) m116 ?_ c116
                       rw [hP, if_neg (by omega), if_neg (by omega), if_pos (by omega), if_neg (by omega)]; exact s116)
                    | (refine w126 _ q123 _ _ (F88.s.tr f123.s) m123 ?_ c123
                       rw [hP, if_neg (by omega), if_neg (by omega), if_neg (by omega), if_neg (by omega)]; exact s123)
                · refine wp_aload_n (pc := 115) dX7_readsLine_115 rfl rfl ?_
                  refine wp_cvV0 (pc := 116) dX7_readsLine_116 mv_X7_159 (m_readsShape hg3 hpn rfl (by omega) rfl) (Nat.le_of_ble_eq_true rfl) rfl (Nat.le_of_ble_eq_true rfl) (fun σ_116 h_116 => ?_)
                  obtain ⟨f116, q116, m116, s116, c116⟩ := h_116
                  refine wp_goto (pc := 119) 126 dX7_readsLine_119 (by decide) ?_
                  first
                    | (exfalso; omega)
                    | (refine w126 _ q104 _ _ (F88.s.tr f104.s) m104 ?_ c104
                       rw [hP, if_neg (by omega), if_pos (by omega)]; exact s104)
                    | (refine w126 _ q116 _ _ (F88.s.tr f116) m116 ?_ c116
                       rw [hP, if_neg (by omega), if_neg (by omega), if_pos (by omega), if_neg (by omega)]; exact s116)
                    | (refine w126 _ q123 _ _ (F88.s.tr f123.s) m123 ?_ c123
                       rw [hP, if_neg (by omega), if_neg (by omega), if_neg (by omega), if_neg (by omega)]; exact s123)
              · refine wp_aload_n (pc := 103) dX7_readsLine_103 rfl rfl ?_
                refine wp_cvV0 (pc := 104) dX7_readsLine_104 mv_X7_156 (m_readsSetting hg3 hpn rfl rfl) (Nat.le_of_ble_eq_true rfl) rfl (Nat.le_of_ble_eq_true rfl) (fun σ_104 h_104 => ?_)
                obtain ⟨f104, q104, m104, s104, c104⟩ := h_104
                refine wp_goto (pc := 107) 126 dX7_readsLine_107 (by decide) ?_
                first
                  | (exfalso; omega)
                  | (refine w126 _ q104 _ _ (F88.s.tr f104.s) m104 ?_ c104
                     rw [hP, if_neg (by omega), if_pos (by omega)]; exact s104)
                  | (refine w126 _ q116 _ _ (F88.s.tr f116) m116 ?_ c116
                     rw [hP, if_neg (by omega), if_neg (by omega), if_pos (by omega), if_neg (by omega)]; exact s116)
                  | (refine w126 _ q123 _ _ (F88.s.tr f123.s) m123 ?_ c123
                     rw [hP, if_neg (by omega), if_neg (by omega), if_neg (by omega), if_neg (by omega)]; exact s123)
            · refine wp_return (pc := 98) dX7_readsLine_98 rfl ?_
              first
                | (exfalso; omega)
                | (refine ⟨rfl, (F84.tr f88).r.s, Or.inr ?_⟩
                   rcases q88 with d | d
                   · have hbad := d.2.bad (by omega)
                     have hk3 : tkK t n (s.nx t n).x = 0 := by
                       rcases hbad.2.2 with e | e
                       · exact absurd hf0 e.1
                       · exact e.2.1
                     have hPb : P = (s.nx t n).bad t n 2 := by
                       rw [hP, if_neg (by omega)]
                       rcases (show W = 0 ∨ W = 1 ∨ W = 2 by omega) with e | e | e
                       · rw [if_pos e]; unfold pSet; rw [if_pos (Or.inl (by omega))]
                       · rw [if_neg (by omega), if_pos e, if_neg (by omega)]; unfold pShp; rw [if_pos (by omega)]
                       · rw [if_neg (by omega), if_neg (by omega), if_neg (by omega)]; unfold pPar; rw [if_pos (by omega)]; unfold pBdy; rw [if_pos (by omega)]
                     rw [hPb]; exact hbad.on hf0
                   · rw [d.2]
                     first
                       | (rw [hP, if_pos (by omega)]; exact hg.no (by decide) (by omega) (by omega))
                       | (rw [hP, if_neg (by omega), if_neg (by omega), if_pos (by omega), if_pos (by omega)]; exact hg.no (by decide) (by omega) (by omega))
                       | (rw [hP, if_neg (by omega), if_neg (by omega), if_neg (by omega), if_pos (by omega)]; exact hg.no (by decide) (by omega) (by omega)))
          · refine wp_iload_n (pc := 62) dX7_readsLine_62 rfl rfl ?_
            refine wp_iconst (pc := 63) dX7_readsLine_63 (by decide) ?_
            refine wp_icmp_ne (pc := 64) 78 dX7_readsLine_64 (by decide) (fun c_64 => ?_) (fun c_64 => ?_)
            · refine wp_iconst (pc := 78) dX7_readsLine_78 (by decide) ?_
              refine wp_goto (pc := 79) 83 dX7_readsLine_79 (by decide) ?_
              refine wp_iconst (pc := 83) dX7_readsLine_83 (by decide) ?_
              refine wp_cvV2 (pc := 84) dX7_readsLine_84 mv_X7_111 m_mustP (Nat.le_of_ble_eq_true rfl) rfl (Nat.le_of_ble_eq_true rfl) (fun σ_84 h_84 => ?_)
              have g_84 := h_84; obtain ⟨f_84, a12_84, a13_84, a14_84, a15_84, q_84⟩ := h_84; clear q_84; first | have w_84 := g_84.no (Or.inl (by decide)) | have w_84 := g_84.yes rfl (by omega)
              refine wp_aload_n (pc := 87) dX7_readsLine_87 rfl rfl ?_
              have F84 := (f_20.tr f_51).tr f_84
              refine wp_cvV0 (pc := 88) dX7_readsLine_88 mv_X7_115 (m_readsU (t := t) (n := n) (cnt := s.S 0 0) (q := s.nx t n) (by omega) (fun z => hg.nx F84 (by omega))) (Nat.le_of_ble_eq_true rfl) rfl (Nat.le_of_ble_eq_true rfl) (fun σ_88 h_88 => ?_)
              obtain ⟨f88, q88⟩ := h_88
              refine wp_aload_n (pc := 91) dX7_readsLine_91 rfl rfl ?_
              refine wp_getI (pc := 92) 10 dX7_readsLine_92 fl_X7_81 rfl rfl ?_
              refine wp_if_le (pc := 95) 99 dX7_readsLine_95 (by decide) (fun c_95 => ?_) (fun c_95 => ?_)
              · have hok : σ_84 71 10 = 0 ∧ MS t n σ_88 (s.nx t n) (s.S 0 0) := by
                  rcases q88 with c | c
                  · exact c
                  · rw [c.2] at c_95; omega
                have hg3 := hok.2.good (by omega)
                have F88 := (F84.tr f88).r
                refine wp_iload_n (pc := 99) dX7_readsLine_99 rfl rfl ?_
                refine wp_if_ne (pc := 100) 110 dX7_readsLine_100 (by decide) (fun c_100 => ?_) (fun c_100 => ?_)
                · refine wp_iload_n (pc := 110) dX7_readsLine_110 rfl rfl ?_
                  refine wp_iconst (pc := 111) dX7_readsLine_111 (by decide) ?_
                  refine wp_icmp_ne (pc := 112) 122 dX7_readsLine_112 (by decide) (fun c_112 => ?_) (fun c_112 => ?_)
                  · refine wp_aload_n (pc := 122) dX7_readsLine_122 rfl rfl ?_
                    refine wp_cvV0 (pc := 123) dX7_readsLine_123 mv_X7_162 (m_readsPar hg3 hpn rfl (by show s.D 0 0 < 8; omega) rfl) (Nat.le_of_ble_eq_true rfl) rfl (Nat.le_of_ble_eq_true rfl) (fun σ_123 h_123 => ?_)
                    obtain ⟨f123, q123, m123, s123, c123⟩ := h_123
                    first
                      | (exfalso; omega)
                      | (refine w126 _ q104 _ _ (F88.s.tr f104.s) m104 ?_ c104
                         rw [hP, if_neg (by omega), if_pos (by omega)]; exact s104)
                      | (refine w126 _ q116 _ _ (F88.s.tr f116) m116 ?_ c116
                         rw [hP, if_neg (by omega), if_neg (by omega), if_pos (by omega), if_neg (by omega)]; exact s116)
                      | (refine w126 _ q123 _ _ (F88.s.tr f123.s) m123 ?_ c123
                         rw [hP, if_neg (by omega), if_neg (by omega), if_neg (by omega), if_neg (by omega)]; exact s123)
                  · refine wp_aload_n (pc := 115) dX7_readsLine_115 rfl rfl ?_
                    refine wp_cvV0 (pc := 116) dX7_readsLine_116 mv_X7_159 (m_readsShape hg3 hpn rfl (by omega) rfl) (Nat.le_of_ble_eq_true rfl) rfl (Nat.le_of_ble_eq_true rfl) (fun σ_116 h_116 => ?_)
                    obtain ⟨f116, q116, m116, s116, c116⟩ := h_116
                    refine wp_goto (pc := 119) 126 dX7_readsLine_119 (by decide) ?_
                    first
                      | (exfalso; omega)
                      | (refine w126 _ q104 _ _ (F88.s.tr f104.s) m104 ?_ c104
                         rw [hP, if_neg (by omega), if_pos (by omega)]; exact s104)
                      | (refine w126 _ q116 _ _ (F88.s.tr f116) m116 ?_ c116
                         rw [hP, if_neg (by omega), if_neg (by omega), if_pos (by omega), if_neg (by omega)]; exact s116)
                      | (refine w126 _ q123 _ _ (F88.s.tr f123.s) m123 ?_ c123
                         rw [hP, if_neg (by omega), if_neg (by omega), if_neg (by omega), if_neg (by omega)]; exact s123)
                · refine wp_aload_n (pc := 103) dX7_readsLine_103 rfl rfl ?_
                  refine wp_cvV0 (pc := 104) dX7_readsLine_104 mv_X7_156 (m_readsSetting hg3 hpn rfl rfl) (Nat.le_of_ble_eq_true rfl) rfl (Nat.le_of_ble_eq_true rfl) (fun σ_104 h_104 => ?_)
                  obtain ⟨f104, q104, m104, s104, c104⟩ := h_104
                  refine wp_goto (pc := 107) 126 dX7_readsLine_107 (by decide) ?_
                  first
                    | (exfalso; omega)
                    | (refine w126 _ q104 _ _ (F88.s.tr f104.s) m104 ?_ c104
                       rw [hP, if_neg (by omega), if_pos (by omega)]; exact s104)
                    | (refine w126 _ q116 _ _ (F88.s.tr f116) m116 ?_ c116
                       rw [hP, if_neg (by omega), if_neg (by omega), if_pos (by omega), if_neg (by omega)]; exact s116)
                    | (refine w126 _ q123 _ _ (F88.s.tr f123.s) m123 ?_ c123
                       rw [hP, if_neg (by omega), if_neg (by omega), if_neg (by omega), if_neg (by omega)]; exact s123)
              · refine wp_return (pc := 98) dX7_readsLine_98 rfl ?_
                first
                  | (exfalso; omega)
                  | (refine ⟨rfl, (F84.tr f88).r.s, Or.inr ?_⟩
                     rcases q88 with d | d
                     · have hbad := d.2.bad (by omega)
                       have hk3 : tkK t n (s.nx t n).x = 0 := by
                         rcases hbad.2.2 with e | e
                         · exact absurd hf0 e.1
                         · exact e.2.1
                       have hPb : P = (s.nx t n).bad t n 2 := by
                         rw [hP, if_neg (by omega)]
                         rcases (show W = 0 ∨ W = 1 ∨ W = 2 by omega) with e | e | e
                         · rw [if_pos e]; unfold pSet; rw [if_pos (Or.inl (by omega))]
                         · rw [if_neg (by omega), if_pos e, if_neg (by omega)]; unfold pShp; rw [if_pos (by omega)]
                         · rw [if_neg (by omega), if_neg (by omega), if_neg (by omega)]; unfold pPar; rw [if_pos (by omega)]; unfold pBdy; rw [if_pos (by omega)]
                       rw [hPb]; exact hbad.on hf0
                     · rw [d.2]
                       first
                         | (rw [hP, if_pos (by omega)]; exact hg.no (by decide) (by omega) (by omega))
                         | (rw [hP, if_neg (by omega), if_neg (by omega), if_pos (by omega), if_pos (by omega)]; exact hg.no (by decide) (by omega) (by omega))
                         | (rw [hP, if_neg (by omega), if_neg (by omega), if_neg (by omega), if_pos (by omega)]; exact hg.no (by decide) (by omega) (by omega)))
            · refine wp_aload_n (pc := 67) dX7_readsLine_67 rfl rfl ?_
              refine wp_getR (pc := 68) (q := 73) dX7_readsLine_68 fl_X7_13 rfl ?_
              refine wp_iconst (pc := 71) dX7_readsLine_71 (by decide) ?_
              refine wp_iald (pc := 72) 591 dX7_readsLine_72 rfl (by omega) ?_
              rw [show σ_51 73 0 = s.D 0 0 by rw [f_51.1 73 (by decide), f_20.1 73 (by decide)]; exact e730]
              refine wp_bipush (pc := 73) dX7_readsLine_73 (by decide) (by decide) ?_
              refine wp_icmp_ge (pc := 75) 82 dX7_readsLine_75 (by decide) (fun c_75 => ?_) (fun c_75 => ?_)
              · refine wp_iconst (pc := 82) dX7_readsLine_82 (by decide) ?_
                refine wp_iconst (pc := 83) dX7_readsLine_83 (by decide) ?_
                refine wp_cvV2 (pc := 84) dX7_readsLine_84 mv_X7_111 m_mustP (Nat.le_of_ble_eq_true rfl) rfl (Nat.le_of_ble_eq_true rfl) (fun σ_84 h_84 => ?_)
                have g_84 := h_84; obtain ⟨f_84, a12_84, a13_84, a14_84, a15_84, q_84⟩ := h_84; clear q_84; first | have w_84 := g_84.no (Or.inl (by decide)) | have w_84 := g_84.yes rfl (by omega)
                refine wp_aload_n (pc := 87) dX7_readsLine_87 rfl rfl ?_
                have F84 := (f_20.tr f_51).tr f_84
                refine wp_cvV0 (pc := 88) dX7_readsLine_88 mv_X7_115 (m_readsU (t := t) (n := n) (cnt := s.S 0 0) (q := s.nx t n) (by omega) (fun z => hg.nx F84 (by omega))) (Nat.le_of_ble_eq_true rfl) rfl (Nat.le_of_ble_eq_true rfl) (fun σ_88 h_88 => ?_)
                obtain ⟨f88, q88⟩ := h_88
                refine wp_aload_n (pc := 91) dX7_readsLine_91 rfl rfl ?_
                refine wp_getI (pc := 92) 10 dX7_readsLine_92 fl_X7_81 rfl rfl ?_
                refine wp_if_le (pc := 95) 99 dX7_readsLine_95 (by decide) (fun c_95 => ?_) (fun c_95 => ?_)
                · have hok : σ_84 71 10 = 0 ∧ MS t n σ_88 (s.nx t n) (s.S 0 0) := by
                    rcases q88 with c | c
                    · exact c
                    · rw [c.2] at c_95; omega
                  have hg3 := hok.2.good (by omega)
                  have F88 := (F84.tr f88).r
                  refine wp_iload_n (pc := 99) dX7_readsLine_99 rfl rfl ?_
                  refine wp_if_ne (pc := 100) 110 dX7_readsLine_100 (by decide) (fun c_100 => ?_) (fun c_100 => ?_)
                  · refine wp_iload_n (pc := 110) dX7_readsLine_110 rfl rfl ?_
                    refine wp_iconst (pc := 111) dX7_readsLine_111 (by decide) ?_
                    refine wp_icmp_ne (pc := 112) 122 dX7_readsLine_112 (by decide) (fun c_112 => ?_) (fun c_112 => ?_)
                    · refine wp_aload_n (pc := 122) dX7_readsLine_122 rfl rfl ?_
                      refine wp_cvV0 (pc := 123) dX7_readsLine_123 mv_X7_162 (m_readsPar hg3 hpn rfl (by show s.D 0 0 < 8; omega) rfl) (Nat.le_of_ble_eq_true rfl) rfl (Nat.le_of_ble_eq_true rfl) (fun σ_123 h_123 => ?_)
                      obtain ⟨f123, q123, m123, s123, c123⟩ := h_123
                      first
                        | (exfalso; omega)
                        | (refine w126 _ q104 _ _ (F88.s.tr f104.s) m104 ?_ c104
                           rw [hP, if_neg (by omega), if_pos (by omega)]; exact s104)
                        | (refine w126 _ q116 _ _ (F88.s.tr f116) m116 ?_ c116
                           rw [hP, if_neg (by omega), if_neg (by omega), if_pos (by omega), if_neg (by omega)]; exact s116)
                        | (refine w126 _ q123 _ _ (F88.s.tr f123.s) m123 ?_ c123
                           rw [hP, if_neg (by omega), if_neg (by omega), if_neg (by omega), if_neg (by omega)]; exact s123)
                    · refine wp_aload_n (pc := 115) dX7_readsLine_115 rfl rfl ?_
                      refine wp_cvV0 (pc := 116) dX7_readsLine_116 mv_X7_159 (m_readsShape hg3 hpn rfl (by omega) rfl) (Nat.le_of_ble_eq_true rfl) rfl (Nat.le_of_ble_eq_true rfl) (fun σ_116 h_116 => ?_)
                      obtain ⟨f116, q116, m116, s116, c116⟩ := h_116
                      refine wp_goto (pc := 119) 126 dX7_readsLine_119 (by decide) ?_
                      first
                        | (exfalso; omega)
                        | (refine w126 _ q104 _ _ (F88.s.tr f104.s) m104 ?_ c104
                           rw [hP, if_neg (by omega), if_pos (by omega)]; exact s104)
                        | (refine w126 _ q116 _ _ (F88.s.tr f116) m116 ?_ c116
                           rw [hP, if_neg (by omega), if_neg (by omega), if_pos (by omega), if_neg (by omega)]; exact s116)
                        | (refine w126 _ q123 _ _ (F88.s.tr f123.s) m123 ?_ c123
                           rw [hP, if_neg (by omega), if_neg (by omega), if_neg (by omega), if_neg (by omega)]; exact s123)
                  · refine wp_aload_n (pc := 103) dX7_readsLine_103 rfl rfl ?_
                    refine wp_cvV0 (pc := 104) dX7_readsLine_104 mv_X7_156 (m_readsSetting hg3 hpn rfl rfl) (Nat.le_of_ble_eq_true rfl) rfl (Nat.le_of_ble_eq_true rfl) (fun σ_104 h_104 => ?_)
                    obtain ⟨f104, q104, m104, s104, c104⟩ := h_104
                    refine wp_goto (pc := 107) 126 dX7_readsLine_107 (by decide) ?_
                    first
                      | (exfalso; omega)
                      | (refine w126 _ q104 _ _ (F88.s.tr f104.s) m104 ?_ c104
                         rw [hP, if_neg (by omega), if_pos (by omega)]; exact s104)
                      | (refine w126 _ q116 _ _ (F88.s.tr f116) m116 ?_ c116
                         rw [hP, if_neg (by omega), if_neg (by omega), if_pos (by omega), if_neg (by omega)]; exact s116)
                      | (refine w126 _ q123 _ _ (F88.s.tr f123.s) m123 ?_ c123
                         rw [hP, if_neg (by omega), if_neg (by omega), if_neg (by omega), if_neg (by omega)]; exact s123)
                · refine wp_return (pc := 98) dX7_readsLine_98 rfl ?_
                  first
                    | (exfalso; omega)
                    | (refine ⟨rfl, (F84.tr f88).r.s, Or.inr ?_⟩
                       rcases q88 with d | d
                       · have hbad := d.2.bad (by omega)
                         have hk3 : tkK t n (s.nx t n).x = 0 := by
                           rcases hbad.2.2 with e | e
                           · exact absurd hf0 e.1
                           · exact e.2.1
                         have hPb : P = (s.nx t n).bad t n 2 := by
                           rw [hP, if_neg (by omega)]
                           rcases (show W = 0 ∨ W = 1 ∨ W = 2 by omega) with e | e | e
                           · rw [if_pos e]; unfold pSet; rw [if_pos (Or.inl (by omega))]
                           · rw [if_neg (by omega), if_pos e, if_neg (by omega)]; unfold pShp; rw [if_pos (by omega)]
                           · rw [if_neg (by omega), if_neg (by omega), if_neg (by omega)]; unfold pPar; rw [if_pos (by omega)]; unfold pBdy; rw [if_pos (by omega)]
                         rw [hPb]; exact hbad.on hf0
                       · rw [d.2]
                         first
                           | (rw [hP, if_pos (by omega)]; exact hg.no (by decide) (by omega) (by omega))
                           | (rw [hP, if_neg (by omega), if_neg (by omega), if_pos (by omega), if_pos (by omega)]; exact hg.no (by decide) (by omega) (by omega))
                           | (rw [hP, if_neg (by omega), if_neg (by omega), if_neg (by omega), if_pos (by omega)]; exact hg.no (by decide) (by omega) (by omega)))
              · refine wp_iconst (pc := 78) dX7_readsLine_78 (by decide) ?_
                refine wp_goto (pc := 79) 83 dX7_readsLine_79 (by decide) ?_
                refine wp_iconst (pc := 83) dX7_readsLine_83 (by decide) ?_
                refine wp_cvV2 (pc := 84) dX7_readsLine_84 mv_X7_111 m_mustP (Nat.le_of_ble_eq_true rfl) rfl (Nat.le_of_ble_eq_true rfl) (fun σ_84 h_84 => ?_)
                have g_84 := h_84; obtain ⟨f_84, a12_84, a13_84, a14_84, a15_84, q_84⟩ := h_84; clear q_84; first | have w_84 := g_84.no (Or.inl (by decide)) | have w_84 := g_84.yes rfl (by omega)
                refine wp_aload_n (pc := 87) dX7_readsLine_87 rfl rfl ?_
                have F84 := (f_20.tr f_51).tr f_84
                refine wp_cvV0 (pc := 88) dX7_readsLine_88 mv_X7_115 (m_readsU (t := t) (n := n) (cnt := s.S 0 0) (q := s.nx t n) (by omega) (fun z => hg.nx F84 (by omega))) (Nat.le_of_ble_eq_true rfl) rfl (Nat.le_of_ble_eq_true rfl) (fun σ_88 h_88 => ?_)
                obtain ⟨f88, q88⟩ := h_88
                refine wp_aload_n (pc := 91) dX7_readsLine_91 rfl rfl ?_
                refine wp_getI (pc := 92) 10 dX7_readsLine_92 fl_X7_81 rfl rfl ?_
                refine wp_if_le (pc := 95) 99 dX7_readsLine_95 (by decide) (fun c_95 => ?_) (fun c_95 => ?_)
                · have hok : σ_84 71 10 = 0 ∧ MS t n σ_88 (s.nx t n) (s.S 0 0) := by
                    rcases q88 with c | c
                    · exact c
                    · rw [c.2] at c_95; omega
                  have hg3 := hok.2.good (by omega)
                  have F88 := (F84.tr f88).r
                  refine wp_iload_n (pc := 99) dX7_readsLine_99 rfl rfl ?_
                  refine wp_if_ne (pc := 100) 110 dX7_readsLine_100 (by decide) (fun c_100 => ?_) (fun c_100 => ?_)
                  · refine wp_iload_n (pc := 110) dX7_readsLine_110 rfl rfl ?_
                    refine wp_iconst (pc := 111) dX7_readsLine_111 (by decide) ?_
                    refine wp_icmp_ne (pc := 112) 122 dX7_readsLine_112 (by decide) (fun c_112 => ?_) (fun c_112 => ?_)
                    · refine wp_aload_n (pc := 122) dX7_readsLine_122 rfl rfl ?_
                      refine wp_cvV0 (pc := 123) dX7_readsLine_123 mv_X7_162 (m_readsPar hg3 hpn rfl (by show s.D 0 0 < 8; omega) rfl) (Nat.le_of_ble_eq_true rfl) rfl (Nat.le_of_ble_eq_true rfl) (fun σ_123 h_123 => ?_)
                      obtain ⟨f123, q123, m123, s123, c123⟩ := h_123
                      first
                        | (exfalso; omega)
                        | (refine w126 _ q104 _ _ (F88.s.tr f104.s) m104 ?_ c104
                           rw [hP, if_neg (by omega), if_pos (by omega)]; exact s104)
                        | (refine w126 _ q116 _ _ (F88.s.tr f116) m116 ?_ c116
                           rw [hP, if_neg (by omega), if_neg (by omega), if_pos (by omega), if_neg (by omega)]; exact s116)
                        | (refine w126 _ q123 _ _ (F88.s.tr f123.s) m123 ?_ c123
                           rw [hP, if_neg (by omega), if_neg (by omega), if_neg (by omega), if_neg (by omega)]; exact s123)
                    · refine wp_aload_n (pc := 115) dX7_readsLine_115 rfl rfl ?_
                      refine wp_cvV0 (pc := 116) dX7_readsLine_116 mv_X7_159 (m_readsShape hg3 hpn rfl (by omega) rfl) (Nat.le_of_ble_eq_true rfl) rfl (Nat.le_of_ble_eq_true rfl) (fun σ_116 h_116 => ?_)
                      obtain ⟨f116, q116, m116, s116, c116⟩ := h_116
                      refine wp_goto (pc := 119) 126 dX7_readsLine_119 (by decide) ?_
                      first
                        | (exfalso; omega)
                        | (refine w126 _ q104 _ _ (F88.s.tr f104.s) m104 ?_ c104
                           rw [hP, if_neg (by omega), if_pos (by omega)]; exact s104)
                        | (refine w126 _ q116 _ _ (F88.s.tr f116) m116 ?_ c116
                           rw [hP, if_neg (by omega), if_neg (by omega), if_pos (by omega), if_neg (by omega)]; exact s116)
                        | (refine w126 _ q123 _ _ (F88.s.tr f123.s) m123 ?_ c123
                           rw [hP, if_neg (by omega), if_neg (by omega), if_neg (by omega), if_neg (by omega)]; exact s123)
                  · refine wp_aload_n (pc := 103) dX7_readsLine_103 rfl rfl ?_
                    refine wp_cvV0 (pc := 104) dX7_readsLine_104 mv_X7_156 (m_readsSetting hg3 hpn rfl rfl) (Nat.le_of_ble_eq_true rfl) rfl (Nat.le_of_ble_eq_true rfl) (fun σ_104 h_104 => ?_)
                    obtain ⟨f104, q104, m104, s104, c104⟩ := h_104
                    refine wp_goto (pc := 107) 126 dX7_readsLine_107 (by decide) ?_
                    first
                      | (exfalso; omega)
                      | (refine w126 _ q104 _ _ (F88.s.tr f104.s) m104 ?_ c104
                         rw [hP, if_neg (by omega), if_pos (by omega)]; exact s104)
                      | (refine w126 _ q116 _ _ (F88.s.tr f116) m116 ?_ c116
                         rw [hP, if_neg (by omega), if_neg (by omega), if_pos (by omega), if_neg (by omega)]; exact s116)
                      | (refine w126 _ q123 _ _ (F88.s.tr f123.s) m123 ?_ c123
                         rw [hP, if_neg (by omega), if_neg (by omega), if_neg (by omega), if_neg (by omega)]; exact s123)
                · refine wp_return (pc := 98) dX7_readsLine_98 rfl ?_
                  first
                    | (exfalso; omega)
                    | (refine ⟨rfl, (F84.tr f88).r.s, Or.inr ?_⟩
                       rcases q88 with d | d
                       · have hbad := d.2.bad (by omega)
                         have hk3 : tkK t n (s.nx t n).x = 0 := by
                           rcases hbad.2.2 with e | e
                           · exact absurd hf0 e.1
                           · exact e.2.1
                         have hPb : P = (s.nx t n).bad t n 2 := by
                           rw [hP, if_neg (by omega)]
                           rcases (show W = 0 ∨ W = 1 ∨ W = 2 by omega) with e | e | e
                           · rw [if_pos e]; unfold pSet; rw [if_pos (Or.inl (by omega))]
                           · rw [if_neg (by omega), if_pos e, if_neg (by omega)]; unfold pShp; rw [if_pos (by omega)]
                           · rw [if_neg (by omega), if_neg (by omega), if_neg (by omega)]; unfold pPar; rw [if_pos (by omega)]; unfold pBdy; rw [if_pos (by omega)]
                         rw [hPb]; exact hbad.on hf0
                       · rw [d.2]
                         first
                           | (rw [hP, if_pos (by omega)]; exact hg.no (by decide) (by omega) (by omega))
                           | (rw [hP, if_neg (by omega), if_neg (by omega), if_pos (by omega), if_pos (by omega)]; exact hg.no (by decide) (by omega) (by omega))
                           | (rw [hP, if_neg (by omega), if_neg (by omega), if_neg (by omega), if_pos (by omega)]; exact hg.no (by decide) (by omega) (by omega)))
