set_option maxHeartbeats 4000000 in
set_option maxRecDepth 100000 in
theorem RQ.no2 {t : Int → Int} {n w : Int} {σ τ : Sto} {s : PS} (h : RP t n σ s) (ha : advP σ τ s.x) (hw : ¬ w = 0) : RQ t n σ (upd2 τ 38 10 (if τ 38 5 = 0 then 1 else w)) (s.bad t n w) 0 := by
  have a5 := (h.adv ha).2.1
  refine RQ.no h ha ?_ (by rw [a5]) hw
  split
  · decide
  · exact hw
set_option maxHeartbeats 4000000 in
set_option maxRecDepth 100000 in
theorem p6 {w : Int} (w0 : 0 ≤ w) (w1 : w < 6) : 1 ≤ (1 : Int) * 2 ^ w.toNat ∧ (1 : Int) * 2 ^ w.toNat ≤ 32 := by
  have : w = 0 ∨ w = 1 ∨ w = 2 ∨ w = 3 ∨ w = 4 ∨ w = 5 := by omega
  rcases this with rfl | rfl | rfl | rfl | rfl | rfl <;> decide
set_option maxHeartbeats 4000000 in
set_option maxRecDepth 100000 in
theorem c_readSettingP {t : Int → Int} {n : Int} {σ : Sto} {s : PS} (h : RP t n σ s) : CtI yX4_readSetting cX4_readSetting 3 (some .boolean) 7 [mR 38] σ (fun z σ' => RQ t n σ σ' (pSet t n s) z) := by
  refine ct_of rfl [some (mR 38), none, none] (Nat.le_of_ble_eq_true rfl) rfl (fun hσ => ?_)
  show Wp cX4_readSetting RX4 (some .boolean) 7 0 [some (mR 38), none, none] [] _ _
  have w97 : ∀ (wz bt : Int) (q : PS) (υ ω : Sto), RP t n υ q → Frm [8, 9, 10, 11, 12, 13, 20, 21, 22, 23, 24, 25, 38] σ υ → advP υ ω q.x → pSet t n s = (if tkK t n q.x = 4 then q.nx t n else q.bad t n 2) → Wp cX4_readSetting RX4 (some .boolean) 7 97 [some (mR 38), some (mI wz), some (mI bt)] [] ω (fun v σ' => ∃ z, v = some (mI z) ∧ (fun z σ' => RQ t n σ σ' (pSet t n s) z) z σ') := by
    intro wz bt q υ ω hq hfr ha he
    obtain ⟨hr, a5, a6, a7, a8, a9, a10⟩ := hq.adv ha
    refine wp_aload_n (pc := 97) dX4_readSetting_97 rfl rfl ?_
    refine wp_getI (pc := 98) 5 dX4_readSetting_98 fl_X4_55 rfl rfl ?_
    refine wp_iconst (pc := 101) dX4_readSetting_101 (by decide) ?_
    refine wp_icmp_eq (pc := 102) 113 dX4_readSetting_102 (by decide) (fun c_102 => ?_) (fun c_102 => ?_)
    · refine wp_iconst (pc := 113) dX4_readSetting_113 (by decide) ?_
      refine wp_goto (pc := 114) 118 dX4_readSetting_114 (by decide) ?_
      refine wp_zreturn (pc := 118) dX4_readSetting_118 rfl (by omega) ?_
      first
        | exact absurd rfl c_110
        | (refine ⟨_, rfl, ?_⟩
           show RQ t n σ _ (pSet t n s) 1
           rw [he, if_pos (show tkK t n q.x = 4 by omega)]
           exact ⟨hfr.tr ha.frm, Or.inl ⟨hq.2.2.2.2.1, rfl, hr⟩⟩)
        | (refine ⟨_, rfl, ?_⟩
           show RQ t n σ _ (pSet t n s) 0
           rw [he, if_neg (show ¬ tkK t n q.x = 4 by omega)]
           exact RQ.tr hfr (RQ.no2 hq ha (by decide)))
    · refine wp_aload_n (pc := 105) dX4_readSetting_105 rfl rfl ?_
      refine wp_iconst (pc := 106) dX4_readSetting_106 (by decide) ?_
      refine wp_cvI1 (pc := 107) dX4_readSetting_107 mv_X4_65 (c_refuse (w := 2)) (Nat.le_of_ble_eq_true rfl) rfl (Nat.le_of_ble_eq_true rfl) (fun z_107 σ_107 h_107 => ?_)
      obtain ⟨rfl, rfl⟩ := h_107
      refine wp_if_eq (pc := 110) 117 dX4_readSetting_110 (by decide) (fun c_110 => ?_) (fun c_110 => ?_)
      · refine wp_iconst (pc := 117) dX4_readSetting_117 (by decide) ?_
        refine wp_zreturn (pc := 118) dX4_readSetting_118 rfl (by omega) ?_
        first
          | exact absurd rfl c_110
          | (refine ⟨_, rfl, ?_⟩
             show RQ t n σ _ (pSet t n s) 1
             rw [he, if_pos (show tkK t n q.x = 4 by omega)]
             exact ⟨hfr.tr ha.frm, Or.inl ⟨hq.2.2.2.2.1, rfl, hr⟩⟩)
          | (refine ⟨_, rfl, ?_⟩
             show RQ t n σ _ (pSet t n s) 0
             rw [he, if_neg (show ¬ tkK t n q.x = 4 by omega)]
             exact RQ.tr hfr (RQ.no2 hq ha (by decide)))
      · refine wp_iconst (pc := 113) dX4_readSetting_113 (by decide) ?_
        refine wp_goto (pc := 114) 118 dX4_readSetting_114 (by decide) ?_
        refine wp_zreturn (pc := 118) dX4_readSetting_118 rfl (by omega) ?_
        first
          | exact absurd rfl c_110
          | (refine ⟨_, rfl, ?_⟩
             show RQ t n σ _ (pSet t n s) 1
             rw [he, if_pos (show tkK t n q.x = 4 by omega)]
             exact ⟨hfr.tr ha.frm, Or.inl ⟨hq.2.2.2.2.1, rfl, hr⟩⟩)
          | (refine ⟨_, rfl, ?_⟩
             show RQ t n σ _ (pSet t n s) 0
             rw [he, if_neg (show ¬ tkK t n q.x = 4 by omega)]
             exact RQ.tr hfr (RQ.no2 hq ha (by decide)))
  have w21 : ∀ τ, advP σ τ s.x → ∀ wz : Int, wz = (if tkK t n s.x = 1 then nm6 (s.nm t n) else -4) → Wp cX4_readSetting RX4 (some .boolean) 7 21 [some (mR 38), none, none] [mI wz] τ (fun v σ' => ∃ z, v = some (mI z) ∧ (fun z σ' => RQ t n σ σ' (pSet t n s) z) z σ') := by
    intro τ ha wz hwz
    obtain ⟨hr, a5, a6, a7, a8, a9, a10⟩ := h.adv ha
    have hb := nm6_bd (s.nm t n)
    have hb2 : wz < 6 := by split at hwz <;> omega
    have htd := hr.2.2.2.2.2.2.2.2.2.1
    have yesw : 0 ≤ wz → tkK t n s.x = 1 ∧ wz = nm6 (s.nm t n) := fun q => by
      by_cases q1 : tkK t n s.x = 1
      · rw [if_pos q1] at hwz; exact ⟨q1, hwz⟩
      · rw [if_neg q1] at hwz; omega
    have c1 : wz < 0 → pSet t n s = s.bad t n 2 := fun q => by
      unfold pSet
      rw [if_pos]
      by_cases q1 : tkK t n s.x = 1
      · rw [if_pos q1] at hwz; exact Or.inr (by rw [← hwz]; exact q)
      · exact Or.inl q1
    have c2 : 0 ≤ wz → ¬ s.T wz = 0 → pSet t n s = s.bad t n 4 := fun q q2 => by
      obtain ⟨q1, q3⟩ := yesw q
      unfold pSet
      rw [← q3, if_neg (by omega), if_pos q2]
    have c3 : 0 ≤ wz → s.T wz = 0 → ¬ (pNum t n (stV 0 wz) (stV 1 wz) (s.nx t n)).f = 0 → pSet t n s = pNum t n (stV 0 wz) (stV 1 wz) (s.nx t n) := fun q q2 q4 => by
      obtain ⟨q1, q3⟩ := yesw q
      unfold pSet
      rw [← q3, if_neg (by omega), if_neg (fun z => z q2), if_pos q4]
    have c4 : 0 ≤ wz → s.T wz = 0 → (pNum t n (stV 0 wz) (stV 1 wz) (s.nx t n)).f = 0 → pSet t n s = (fun q : PS => if tkK t n q.x = 4 then q.nx t n else q.bad t n 2) ((((s.nx t n).nx t n).wT (upf s.T wz 1)).wD (setSt s.D wz (tkN t n (s.nx t n).x))) := fun q q2 q4 => by
      obtain ⟨q1, q3⟩ := yesw q
      unfold pSet
      rw [← q3, if_neg (by omega), if_neg (fun z => z q2), if_neg (fun z => z q4)]
    refine wp_istore_n (pc := 21) dX4_readSetting_21 rfl (Nat.le_of_ble_eq_true rfl) rfl ?_
    refine wp_iload_n (pc := 22) dX4_readSetting_22 rfl rfl ?_
    refine wp_if_ge (pc := 23) 32 dX4_readSetting_23 (by decide) (fun c_23 => ?_) (fun c_23 => ?_)
    · refine wp_iconst (pc := 32) dX4_readSetting_32 (by decide) ?_
      refine wp_iload_n (pc := 33) dX4_readSetting_33 rfl rfl ?_
      have hp6 := p6 (w := wz) (by omega) hb2
      obtain ⟨b1, b2, b3⟩ := bit_at htd.1 htd.2 (w := wz) (by omega) hb2
      have hT : s.T wz = τ 38 9 / 2 ^ wz.toNat % 2 := hr.2.2.2.2.2.2.2.2.2.2 wz (by omega) hb2
      refine wp_ishl (pc := 34) dX4_readSetting_34 (by exact ⟨by decide, by omega, by omega, by omega⟩) ?_
      refine wp_istore_n (pc := 35) dX4_readSetting_35 rfl (Nat.le_of_ble_eq_true rfl) rfl ?_
      refine wp_aload_n (pc := 36) dX4_readSetting_36 rfl rfl ?_
      refine wp_getI (pc := 37) 9 dX4_readSetting_37 fl_X4_39 rfl rfl ?_
      refine wp_iload_n (pc := 40) dX4_readSetting_40 rfl rfl ?_
      refine wp_iand (pc := 41) dX4_readSetting_41 (by exact ⟨htd.1, by omega⟩) ?_
      refine wp_if_eq (pc := 42) 51 dX4_readSetting_42 (by decide) (fun c_42 => ?_) (fun c_42 => ?_)
      · refine wp_aload_n (pc := 51) dX4_readSetting_51 rfl rfl ?_
        refine wp_gets (pc := 52) 0 dX4_readSetting_52 sl_X4_93 ?_
        refine wp_iload_n (pc := 55) dX4_readSetting_55 rfl rfl ?_
        refine wp_tald (pc := 56) 0 (by decide) dX4_readSetting_56 (by omega) (stV_ok _ _) ?_
        refine wp_gets (pc := 57) 1 dX4_readSetting_57 sl_X4_97 ?_
        refine wp_iload_n (pc := 60) dX4_readSetting_60 rfl rfl ?_
        refine wp_tald (pc := 61) 1 (by decide) dX4_readSetting_61 (by omega) (stV_ok _ _) ?_
        refine wp_cvI2 (pc := 62) dX4_readSetting_62 mv_X4_100 (c_readNumberP hr) (Nat.le_of_ble_eq_true rfl) rfl (Nat.le_of_ble_eq_true rfl) (fun z_62 σ_62 h_62 => ?_)
        obtain ⟨q62, v62⟩ := h_62
        have hT0 : s.T wz = 0 := by rw [hT]; exact b1.mp c_42
        refine wp_if_ne (pc := 65) 70 dX4_readSetting_65 (by decide) (fun c_65 => ?_) (fun c_65 => ?_)
        · obtain ⟨y1, y2, y3⟩ : (pNum t n (stV 0 wz) (stV 1 wz) (s.nx t n)).f = 0 ∧ z_62 = 1 ∧ RP t n σ_62 (pNum t n (stV 0 wz) (stV 1 wz) (s.nx t n)) := by
            rcases q62.2 with y | y
            · exact y
            · exact absurd y.2.1 c_65
          obtain ⟨v1, v2, v3, v4⟩ := v62 y2
          rw [v4] at y3
          have td2 := y3.2.2.2.2.2.2.2.2.2.1
          have hset := y3.set (w := wz) (v := tkN t n (s.nx t n).x) (by omega) hb2
          refine wp_aload_n (pc := 70) dX4_readSetting_70 rfl rfl ?_
          refine wp_dup (pc := 71) dX4_readSetting_71 (fun _ h => by cases h) ?_
          refine wp_getI (pc := 72) 9 dX4_readSetting_72 fl_X4_39 rfl rfl ?_
          refine wp_iload_n (pc := 75) dX4_readSetting_75 rfl rfl ?_
          refine wp_ior (pc := 76) dX4_readSetting_76 (by exact ⟨td2.1, by omega⟩) ?_
          refine wp_putI (pc := 77) 9 dX4_readSetting_77 fl_X4_39 ⟨rfl, rfl⟩ rfl rfl ?_
          refine wp_aload_n (pc := 80) dX4_readSetting_80 rfl rfl ?_
          refine wp_getR (pc := 81) (q := 20) dX4_readSetting_81 fl_X4_19 rfl ?_
          refine wp_getR (pc := 84) (q := 25) dX4_readSetting_84 fl_X4_104 rfl ?_
          refine wp_iload_n (pc := 87) dX4_readSetting_87 rfl rfl ?_
          refine wp_aload_n (pc := 88) dX4_readSetting_88 rfl rfl ?_
          refine wp_getI (pc := 89) 8 dX4_readSetting_89 fl_X4_107 rfl rfl ?_
          rw [upd2_k (r := 38) (k := 9) (k' := 8) (by decide)]
          refine wp_iast (pc := 92) 6 dX4_readSetting_92 rfl (by omega) ?_
          refine wp_aload_n (pc := 93) dX4_readSetting_93 rfl rfl ?_
          refine wp_cvV0 (pc := 94) dX4_readSetting_94 mv_X4_52 (c_advance (x := ((s.nx t n).nx t n).x) (by rw [v1]; exact hset.1) (by rw [v1]; exact hset.2.2.2.1)) (Nat.le_of_ble_eq_true rfl) rfl (Nat.le_of_ble_eq_true rfl) (fun σ_94 h_94 => ?_)
          rw [v1] at h_94
          have hfr : Frm [8, 9, 10, 11, 12, 13, 20, 21, 22, 23, 24, 25, 38] σ σ_62 := ha.frm.tr q62.1
          exact w97 wz _ _ _ σ_94 hset ((hfr.up (by decide)).up (by decide)) h_94 (c4 (by omega) hT0 y1)
        · refine wp_iconst (pc := 68) dX4_readSetting_68 (by decide) ?_
          refine wp_zreturn (pc := 69) dX4_readSetting_69 rfl (by omega) ?_
          refine ⟨_, rfl, ?_⟩
          rcases q62.2 with ⟨y1, y2, y3⟩ | ⟨y1, y2, y3⟩
          · omega
          · rw [c3 (by omega) hT0 y1]
            rw [y2] at q62
            exact q62.tr ha.frm
      · refine wp_aload_n (pc := 45) dX4_readSetting_45 rfl rfl ?_
        refine wp_iconst (pc := 46) dX4_readSetting_46 (by decide) ?_
        refine wp_cvI1 (pc := 47) dX4_readSetting_47 mv_X4_65 (c_refuse (w := 4)) (Nat.le_of_ble_eq_true rfl) rfl (Nat.le_of_ble_eq_true rfl) (fun z_47 σ_47 h_47 => ?_)
        obtain ⟨rfl, rfl⟩ := h_47
        refine wp_zreturn (pc := 50) dX4_readSetting_50 rfl (by omega) ?_
        refine ⟨_, rfl, ?_⟩
        show RQ t n σ _ (pSet t n s) 0
        rw [c2 (by omega) (by rw [hT]; exact fun q => c_42 (b1.mpr q))]
        exact RQ.no2 h ha (by decide)
    · refine wp_aload_n (pc := 26) dX4_readSetting_26 rfl rfl ?_
      refine wp_iconst (pc := 27) dX4_readSetting_27 (by decide) ?_
      refine wp_cvI1 (pc := 28) dX4_readSetting_28 mv_X4_65 (c_refuse (w := 2)) (Nat.le_of_ble_eq_true rfl) rfl (Nat.le_of_ble_eq_true rfl) (fun z_28 σ_28 h_28 => ?_)
      obtain ⟨rfl, rfl⟩ := h_28
      refine wp_zreturn (pc := 31) dX4_readSetting_31 rfl (by omega) ?_
      refine ⟨_, rfl, ?_⟩
      show RQ t n σ _ (pSet t n s) 0
      rw [c1 (by omega)]
      exact RQ.no2 h ha (by decide)
  refine wp_aload_n (pc := 0) dX4_readSetting_0 rfl rfl ?_
  refine wp_cvV0 (pc := 1) dX4_readSetting_1 mv_X4_52 (c_advance h.1 h.2.2.2.1) (Nat.le_of_ble_eq_true rfl) rfl (Nat.le_of_ble_eq_true rfl) (fun σ_1 h_1 => ?_)
  obtain ⟨hr, a5, a6, a7, a8, a9, a10⟩ := h.adv h_1
  refine wp_aload_n (pc := 4) dX4_readSetting_4 rfl rfl ?_
  refine wp_getI (pc := 5) 5 dX4_readSetting_5 fl_X4_55 rfl rfl ?_
  refine wp_iconst (pc := 8) dX4_readSetting_8 (by decide) ?_
  refine wp_icmp_ne (pc := 9) 19 dX4_readSetting_9 (by decide) (fun c_9 => ?_) (fun c_9 => ?_)
  · refine wp_bipush (pc := 19) dX4_readSetting_19 (by decide) (by decide) ?_
    first
      | exact w21 _ h_1 _ (by rw [if_pos (by omega), e13, e14])
      | exact w21 _ h_1 _ (by rw [if_neg (by omega)])
  · refine wp_aload_n (pc := 12) dX4_readSetting_12 rfl rfl ?_
    refine wp_cvI0 (pc := 13) dX4_readSetting_13 mv_X4_89 (c_settingNamed a9.1 a9.2.1 a9.2.2) (Nat.le_of_ble_eq_true rfl) rfl (Nat.le_of_ble_eq_true rfl) (fun z_13 σ_13 h_13 => ?_)
    obtain ⟨zz_13, e_13⟩ := h_13; have e2_13 := e_13.symm; subst e2_13
    have e13 := nm6_of zz_13
    have e14 : nmd σ_1 = s.nm t n := by
      funext k
      rw [nmd_eq, a6, a7, hr.2.1]
    refine wp_goto (pc := 16) 21 dX4_readSetting_16 (by decide) ?_
    first
      | exact w21 _ h_1 _ (by rw [if_pos (by omega), e13, e14])
      | exact w21 _ h_1 _ (by rw [if_neg (by omega)])
