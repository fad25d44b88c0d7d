set_option maxHeartbeats 4000000 in
set_option maxRecDepth 100000 in
theorem adP_at {D : Sto} {g m : Int} : adP D g m 0 0 = D 0 0 + 1 ∧ adP D g m 1 (D 0 0) = 0 ∧ adP D g m 2 (D 0 0) = g ∧ adP D g m 3 (D 0 0) = m ∧ (∀ k, ¬ k = D 0 0 → adP D g m 1 k = D 1 k ∧ adP D g m 2 k = D 2 k ∧ adP D g m 3 k = D 3 k) ∧ adP D g m 4 = D 4 ∧ adP D g m 5 = D 5 := by
  refine ⟨?_, ?_, ?_, ?_, fun k hk => ?_, ?_, ?_⟩
  · simp [adP]
  · simp [adP]
  · simp [adP]
  · simp [adP]
  · simp [adP, hk]
  · funext i; simp [adP]
  · funext i; simp [adP]
set_option maxHeartbeats 4000000 in
set_option maxRecDepth 100000 in
theorem adP_tot {D : Sto} {g m : Int} (h : 0 ≤ D 0 0) : tot (adP D g m) = tot D := by
  obtain ⟨e0, e1, -, -, ek, -⟩ := adP_at (D := D) (g := g) (m := m)
  unfold tot
  rw [e0, sumI_s h, e1, sumI_cong (fun k k0 k1 => (ek k (by omega)).1)]
  omega
set_option maxHeartbeats 4000000 in
set_option maxRecDepth 100000 in
theorem adP_DW {D S : Sto} {g m : Int} (h : OKD D S) (hc : D 0 0 < 8) (hg : (g = -4 ∧ m = 0) ∨ (0 ≤ g ∧ g < S 0 0 ∧ 2 ≤ m ∧ m ≤ 5)) : DW (adP D g m) S := by
  have et := adP_tot (D := D) (g := g) (m := m) h.1.1
  obtain ⟨e0, e1, e2, e3, ek, e4, e5⟩ := adP_at (D := D) (g := g) (m := m)
  obtain ⟨a, b, c, d, e, f⟩ := h
  refine ⟨by omega, fun p p0 p1 => ?_, by omega, fun p p0 p1 => ?_, by rw [et, e4]; exact e, by rw [e5]; exact f⟩
  · by_cases hp : p = D 0 0
    · rw [hp, e1]; omega
    · rw [(ek p hp).1]; have := b p p0 (by omega); omega
  · by_cases hp : p = D 0 0
    · rw [hp, e2, e3]; exact hg
    · rw [(ek p hp).2.1, (ek p hp).2.2]; exact d p p0 (by omega)
set_option maxHeartbeats 4000000 in
set_option maxRecDepth 100000 in
theorem DN_addP {σ : Sto} {g m : Int} : DN (upd2 (upd2 (upd2 (upd2 σ 22 (σ 20 0) 0) 23 (σ 20 0) g) 24 (σ 20 0) m) 20 0 (σ 20 0 + 1)) = adP (DN σ) g m := by
  have e0 : DN σ 0 0 = σ 20 0 := rfl
  funext k i
  show _ = adP (DN σ) g m k i
  unfold adP
  rw [e0]
  by_cases h0 : k = 0
  · subst h0; simp [DI, upd2]
  · by_cases h1 : k = 1
    · subst h1; simp [DI, upd2]
    · by_cases h2 : k = 2
      · subst h2; simp [DI, upd2]
      · by_cases h3 : k = 3
        · subst h3; simp [DI, upd2]
        · by_cases h4 : k = 4
          · subst h4; simp [DI, upd2]
          · simp [DI, upd2, h0, h1, h2, h3, h4]
-- a step of the reader that writes the draft alone
set_option maxHeartbeats 4000000 in
set_option maxRecDepth 100000 in
theorem RP.wr {t : Int → Int} {n : Int} {σ υ : Sto} {s : PS} (h : RP t n σ s) {D S : Sto} {L : List Nat} (hf : Frm L σ υ) (hL : 1 ∉ L ∧ 38 ∉ L) (hD : DN υ = D) (hS : SN υ = S) (ht : υ 20 1 = tot D) : RP t n υ ((s.wD D).wS S) := by
  obtain ⟨⟨r1, r2, r3⟩, h2, h3, h4, h5, h6, h7, h8, h9, h10, h11⟩ := h
  have e1 := hf 1 hL.1
  have e38 := hf 38 hL.2
  exact ⟨⟨by rw [e38]; exact r1, by rw [e38]; exact r2, by rw [e38, e1]; exact r3⟩, e1.trans h2, by rw [e38]; exact h3, by rw [e38]; exact h4, h5, by rw [e38]; exact h6, hD, hS, ht, by rw [e38]; exact h10, by rw [e38]; exact h11⟩
set_option maxHeartbeats 4000000 in
set_option maxRecDepth 100000 in
theorem SN_of {σ υ : Sto} {L : List Nat} (hf : Frm L σ υ) (hL : ∀ r ∈ L, r < 8 ∨ 13 < r) : SN υ = SN σ := by
  have e : ∀ r, 8 ≤ r → r ≤ 13 → υ r = σ r := fun r a b => hf r (fun q => by have := hL r q; omega)
  funext k i
  simp only [SN, e 8 (by decide) (by decide), e 9 (by decide) (by decide), e 10 (by decide) (by decide), e 11 (by decide) (by decide), e 12 (by decide) (by decide), e 13 (by decide) (by decide)]
set_option maxHeartbeats 4000000 in
set_option maxRecDepth 100000 in
theorem DN_of {σ υ : Sto} {L : List Nat} (hf : Frm L σ υ) (hL : ∀ r ∈ L, r < 20 ∨ 25 < r) : DN υ = DN σ := by
  have e : ∀ r, 20 ≤ r → r ≤ 25 → υ r = σ r := fun r a b => hf r (fun q => by have := hL r q; omega)
  funext k i
  simp only [DN, DI, e 20 (by decide) (by decide), e 21 (by decide) (by decide), e 22 (by decide) (by decide), e 23 (by decide) (by decide), e 24 (by decide) (by decide), e 25 (by decide) (by decide)]
set_option maxHeartbeats 4000000 in
set_option maxRecDepth 100000 in
theorem RP.addP {t : Int → Int} {n : Int} {σ : Sto} {s : PS} (h : RP t n σ s) (hc : 0 ≤ s.D 0 0) (g m : Int) : RP t n (upd2 (upd2 (upd2 (upd2 σ 22 (σ 20 0) 0) 23 (σ 20 0) g) 24 (σ 20 0) m) 20 0 (σ 20 0 + 1)) (s.wD (adP s.D g m)) := by
  have hf : Frm [20, 22, 23, 24] σ (upd2 (upd2 (upd2 (upd2 σ 22 (σ 20 0) 0) 23 (σ 20 0) g) 24 (σ 20 0) m) 20 0 (σ 20 0 + 1)) := (((Frm.rf.up (by decide)).up (by decide)).up (by decide)).up (by decide)
  have h7 := h.2.2.2.2.2.2.1
  have h8 := h.2.2.2.2.2.2.2.1
  have h9 := h.2.2.2.2.2.2.2.2.1
  refine h.wr (D := adP s.D g m) (S := s.S) hf (by decide) (by rw [DN_addP, h7]) ((SN_of hf (by decide)).trans h8) ?_
  rw [upd2_k (by decide), upd2_r (by decide), upd2_r (by decide), upd2_r (by decide), h9]
  exact (adP_tot hc).symm
set_option maxHeartbeats 4000000 in
set_option maxRecDepth 100000 in
theorem c_readParP {t : Int → Int} {n : Int} {σ : Sto} {s P : PS} (h : RP t n σ s) (hD : OKD s.D s.S) (hS : OKS s.S) (hc : s.D 0 0 < 8) (hP : P = pPar t n s) : CtI yX4_readPar cX4_readPar 3 (some .boolean) 3 [mR 38] σ (fun z σ' => RQ t n σ σ' P z) := by
  refine ct_of rfl [some (mR 38), none, none] (Nat.le_of_ble_eq_true rfl) rfl (fun hσ => ?_)
  show Wp cX4_readPar RX4 (some .boolean) 3 0 [some (mR 38), none, none] [] _ _
  have hS6 := hS.1
  have w76 : ∀ (τ ω : Sto) (q : PS) (g m : Int), RP t n τ q → advP τ ω q.x → q.D = s.D → q.S = s.S → Frm [8, 9, 10, 11, 12, 13, 20, 21, 22, 23, 24, 25, 38] σ τ → P = pBdy t n g m q → ((g = -4 ∧ m = 0) ∨ (0 ≤ g ∧ g < s.S 0 0 ∧ 2 ≤ m ∧ m ≤ 5)) → Wp cX4_readPar RX4 (some .boolean) 3 76 [some (mR 38), some (mI g), some (mI m)] [] ω (fun v σ' => ∃ z, v = some (mI z) ∧ (fun z σ' => RQ t n σ σ' P z) z σ') := by
    intro τ ω q g m hq ha eD eS hF he hg
    obtain ⟨hr, a5, a6, a7, a8, a9, a10⟩ := hq.adv ha
    have e20 : ω 20 0 = q.D 0 0 := congrFun (congrFun hr.2.2.2.2.2.2.1 0) 0
    have hD0 := hD.1
    rw [← eD, ← eS] at hD
    rw [← eD] at hc hD0
    rw [← eS] at hg
    unfold pBdy at he
    have hW := adP_DW hD hc hg
    refine wp_aload_n (pc := 76) dX4_readPar_76 rfl rfl ?_
    refine wp_getI (pc := 77) 5 dX4_readPar_77 fl_X4_55 rfl rfl ?_
    refine wp_iconst (pc := 80) dX4_readPar_80 (by decide) ?_
    refine wp_icmp_eq (pc := 81) 90 dX4_readPar_81 (by decide) (fun c_81 => ?_) (fun c_81 => ?_)
    · refine wp_aload_n (pc := 90) dX4_readPar_90 rfl rfl ?_
      refine wp_getR (pc := 91) (q := 20) dX4_readPar_91 fl_X4_19 rfl ?_
      refine wp_iload_n (pc := 94) dX4_readPar_94 rfl rfl ?_
      refine wp_iload_n (pc := 95) dX4_readPar_95 rfl rfl ?_
      refine wp_cvV2 (pc := 96) dX4_readPar_96 mv_X4_127 (c_addPar (by omega)) (Nat.le_of_ble_eq_true rfl) rfl (Nat.le_of_ble_eq_true rfl) (fun σ_96 h_96 => ?_)
      subst h_96
      have hr2 := hr.addP (by show 0 ≤ q.D 0 0; omega) g m
      rw [if_neg (by omega)] at he
      refine wp_aload_n (pc := 99) dX4_readPar_99 rfl rfl ?_
      refine wp_cvI0 (pc := 100) dX4_readPar_100 mv_X4_130 (c_readWordsP hr2 hW (by show 1 ≤ adP q.D g m 0 0; rw [adP_at.1]; omega) he) (Nat.le_of_ble_eq_true rfl) rfl (Nat.le_of_ble_eq_true rfl) (fun z_100 σ_100 h_100 => ?_)
      refine wp_zreturn (pc := 103) dX4_readPar_103 rfl (by rcases h_100.2 with y | y <;> omega) ?_
      exact ⟨_, rfl, RQ.tr (((((hF.tr ha.frm).up (by decide)).up (by decide)).up (by decide)).up (by decide)) h_100⟩
    · refine wp_aload_n (pc := 84) dX4_readPar_84 rfl rfl ?_
      refine wp_iconst (pc := 85) dX4_readPar_85 (by decide) ?_
      refine wp_cvI1 (pc := 86) dX4_readPar_86 mv_X4_65 (c_refuse (w := 2)) (Nat.le_of_ble_eq_true rfl) rfl (Nat.le_of_ble_eq_true rfl) (fun z_86 σ_86 h_86 => ?_)
      obtain ⟨rfl, rfl⟩ := h_86
      refine wp_zreturn (pc := 89) dX4_readPar_89 rfl (by omega) ?_
      have eP : P = q.bad t n 2 := by rw [he, if_pos (by omega)]
      rw [eP]
      exact ⟨_, rfl, RQ.tr hF (RQ.no2 hq ha (by decide))⟩
  have w46 : ∀ (ω : Sto) (g : Int), advP σ ω s.x → tkK t n s.x = 1 → g = (if tkE t n s.x - tkS t n s.x = 1 then fnd (s.S 1) (s.S 0 0) (t (tkS t n s.x) - 96) else -4) → Wp cX4_readPar RX4 (some .boolean) 3 46 [some (mR 38), some (mI g), some (mI 0)] [] ω (fun v σ' => ∃ z, v = some (mI z) ∧ (fun z σ' => RQ t n σ σ' P z) z σ') := by
    intro ω g ha hk hg
    obtain ⟨hr, a5, a6, a7, a8, a9, a10⟩ := h.adv ha
    unfold pPar at hP
    rw [if_neg (fun z => z hk)] at hP
    have hfb := fnd_bd (s.S 1) (s.S 0 0) (t (tkS t n s.x) - 96)
    refine wp_iload_n (pc := 46) dX4_readPar_46 rfl rfl ?_
    refine wp_if_ge (pc := 47) 56 dX4_readPar_47 (by decide) (fun c_47 => ?_) (fun c_47 => ?_)
    · have h1 : tkE t n s.x - tkS t n s.x = 1 := Classical.byContradiction fun h1 => by rw [if_neg h1] at hg; omega
      rw [if_pos h1] at hg
      rw [if_neg (by omega)] at hP
      refine wp_aload_n (pc := 56) dX4_readPar_56 rfl rfl ?_
      refine wp_iconst (pc := 57) dX4_readPar_57 (by decide) ?_
      refine wp_iconst (pc := 58) dX4_readPar_58 (by decide) ?_
      refine wp_cvI2 (pc := 59) dX4_readPar_59 mv_X4_100 (c_readNumberP hr) (Nat.le_of_ble_eq_true rfl) rfl (Nat.le_of_ble_eq_true rfl) (fun z_59 σ_59 h_59 => ?_)
      obtain ⟨q59, v59⟩ := h_59
      refine wp_if_ne (pc := 62) 67 dX4_readPar_62 (by decide) (fun c_62 => ?_) (fun c_62 => ?_)
      · obtain ⟨y1, y2, y3⟩ : (pNum t n 2 5 (s.nx t n)).f = 0 ∧ z_59 = 1 ∧ RP t n σ_59 (pNum t n 2 5 (s.nx t n)) := by
          rcases q59.2 with y | y
          · exact y
          · exact absurd y.2.1 c_62
        obtain ⟨v1, v2, v3, v4⟩ := v59 y2
        rw [v4] at y3
        rw [if_neg (fun z => z y1)] at hP
        refine wp_aload_n (pc := 67) dX4_readPar_67 rfl rfl ?_
        refine wp_getI (pc := 68) 8 dX4_readPar_68 fl_X4_107 rfl rfl ?_
        refine wp_istore_n (pc := 71) dX4_readPar_71 rfl (Nat.le_of_ble_eq_true rfl) rfl ?_
        refine wp_aload_n (pc := 72) dX4_readPar_72 rfl rfl ?_
        refine wp_cvV0 (pc := 73) dX4_readPar_73 mv_X4_52 (c_adv y3.1 y3.2.2.2.1) (Nat.le_of_ble_eq_true rfl) rfl (Nat.le_of_ble_eq_true rfl) (fun σ_73 h_73 => ?_)
        rw [v1, hg]
        exact w76 _ _ _ _ _ y3 h_73 rfl rfl (ha.frm.tr q59.1) hP (Or.inr (by omega))
      · refine wp_iconst (pc := 65) dX4_readPar_65 (by decide) ?_
        refine wp_zreturn (pc := 66) dX4_readPar_66 rfl (by omega) ?_
        refine ⟨_, rfl, ?_⟩
        rcases q59.2 with ⟨y1, y2, y3⟩ | ⟨y1, y2, y3⟩
        · omega
        · rw [if_pos y1] at hP
          rw [hP]
          rw [y2] at q59
          exact q59.tr ha.frm
    · refine wp_aload_n (pc := 50) dX4_readPar_50 rfl rfl ?_
      refine wp_iconst (pc := 51) dX4_readPar_51 (by decide) ?_
      refine wp_cvI1 (pc := 52) dX4_readPar_52 mv_X4_65 (c_refuse (w := 2)) (Nat.le_of_ble_eq_true rfl) rfl (Nat.le_of_ble_eq_true rfl) (fun z_52 σ_52 h_52 => ?_)
      obtain ⟨rfl, rfl⟩ := h_52
      refine wp_zreturn (pc := 55) dX4_readPar_55 rfl (by omega) ?_
      have eP : P = s.bad t n 2 := by
        rw [hP, if_pos]
        by_cases h1 : tkE t n s.x - tkS t n s.x = 1
        · rw [if_pos h1] at hg; exact Or.inr (by omega)
        · exact Or.inl h1
      rw [eP]
      exact ⟨_, rfl, RQ.no2 h ha (by decide)⟩
  refine wp_aload_n (pc := 0) dX4_readPar_0 rfl rfl ?_
  refine wp_cvV0 (pc := 1) dX4_readPar_1 mv_X4_52 (c_adv h.1 h.2.2.2.1) (Nat.le_of_ble_eq_true rfl) rfl (Nat.le_of_ble_eq_true rfl) (fun σ_1 h_1 => ?_)
  obtain ⟨hr, a5, a6, a7, a8, a9, a10⟩ := h.adv h_1
  have e8 : σ_1 8 0 = s.S 0 0 := congrFun (congrFun hr.2.2.2.2.2.2.2.1 0) 0
  have e9 : σ_1 9 = s.S 1 := congrFun hr.2.2.2.2.2.2.2.1 1
  refine wp_bipush (pc := 4) dX4_readPar_4 (by decide) (by decide) ?_
  refine wp_istore_n (pc := 6) dX4_readPar_6 rfl (Nat.le_of_ble_eq_true rfl) rfl ?_
  refine wp_iconst (pc := 7) dX4_readPar_7 (by decide) ?_
  refine wp_istore_n (pc := 8) dX4_readPar_8 rfl (Nat.le_of_ble_eq_true rfl) rfl ?_
  refine wp_aload_n (pc := 9) dX4_readPar_9 rfl rfl ?_
  refine wp_getI (pc := 10) 5 dX4_readPar_10 fl_X4_55 rfl rfl ?_
  refine wp_iconst (pc := 13) dX4_readPar_13 (by decide) ?_
  refine wp_icmp_ne (pc := 14) 76 dX4_readPar_14 (by decide) (fun c_14 => ?_) (fun c_14 => ?_)
  · refine w76 σ σ_1 s (-4) 0 h h_1 rfl rfl Frm.rf ?_ (Or.inl ⟨rfl, rfl⟩)
    unfold pPar at hP
    rw [hP, if_pos (by omega)]
  · refine wp_aload_n (pc := 17) dX4_readPar_17 rfl rfl ?_
    refine wp_getI (pc := 18) 7 dX4_readPar_18 fl_X4_110 rfl rfl ?_
    refine wp_iconst (pc := 21) dX4_readPar_21 (by decide) ?_
    refine wp_icmp_ne (pc := 22) 43 dX4_readPar_22 (by decide) (fun c_22 => ?_) (fun c_22 => ?_)
    · refine wp_bipush (pc := 43) dX4_readPar_43 (by decide) (by decide) ?_
      refine wp_istore_n (pc := 45) dX4_readPar_45 rfl (Nat.le_of_ble_eq_true rfl) rfl ?_
      first
        | exact w46 _ _ h_1 (by omega) (by rw [if_pos (by omega), zz_37, zz_34, e8, e9, hr.2.1, a6])
        | exact w46 _ _ h_1 (by omega) (by rw [if_neg (by omega)])
    · refine wp_aload_n (pc := 25) dX4_readPar_25 rfl rfl ?_
      refine wp_getR (pc := 26) (q := 8) dX4_readPar_26 fl_X4_15 rfl ?_
      refine wp_aload_n (pc := 29) dX4_readPar_29 rfl rfl ?_
      refine wp_aload_n (pc := 30) dX4_readPar_30 rfl rfl ?_
      refine wp_getI (pc := 31) 6 dX4_readPar_31 fl_X4_62 rfl rfl ?_
      have hr1 := hr.1
      refine wp_cvI1 (pc := 34) dX4_readPar_34 mv_X4_113 (c_letterAt hr1.1 (by have := hr1.2.1; omega) (hr1.2.2 _ (by omega) (by have := hr1.2.1; omega))) (Nat.le_of_ble_eq_true rfl) rfl (Nat.le_of_ble_eq_true rfl) (fun z_34 σ_34 h_34 => ?_)
      obtain ⟨zz_34, e_34⟩ := h_34; have e2_34 := e_34.symm; subst e2_34
      refine wp_cvI1 (pc := 37) dX4_readPar_37 mv_X4_117 (c_withSign (by omega)) (Nat.le_of_ble_eq_true rfl) rfl (Nat.le_of_ble_eq_true rfl) (fun z_37 σ_37 h_37 => ?_)
      obtain ⟨zz_37, e_37⟩ := h_37; have e2_37 := e_37.symm; subst e2_37
      refine wp_goto (pc := 40) 45 dX4_readPar_40 (by decide) ?_
      refine wp_istore_n (pc := 45) dX4_readPar_45 rfl (Nat.le_of_ble_eq_true rfl) rfl ?_
      first
        | exact w46 _ _ h_1 (by omega) (by rw [if_pos (by omega), zz_37, zz_34, e8, e9, hr.2.1, a6])
        | exact w46 _ _ h_1 (by omega) (by rw [if_neg (by omega)])
