set_option maxHeartbeats 4000000 in
set_option maxRecDepth 100000 in
theorem nm3_of0 {P : Nat → Prop} (h : P 0) : nm3 P = 0 := by unfold nm3; rw [cif_pos h]
set_option maxHeartbeats 4000000 in
set_option maxRecDepth 100000 in
theorem nm3_of1 {P : Nat → Prop} (h0 : ¬ P 0) (h : P 1) : nm3 P = 1 := by unfold nm3; rw [cif_neg h0, cif_pos h]
set_option maxHeartbeats 4000000 in
set_option maxRecDepth 100000 in
theorem nm3_of2 {P : Nat → Prop} (h0 : ¬ P 0) (h1 : ¬ P 1) (h : P 2) : nm3 P = 2 := by unfold nm3; rw [cif_neg h0, cif_neg h1, cif_pos h]
set_option maxHeartbeats 4000000 in
set_option maxRecDepth 100000 in
theorem nm3_no {P : Nat → Prop} (h0 : ¬ P 0) (h1 : ¬ P 1) (h : ¬ P 2) : nm3 P = -4 := by unfold nm3; rw [cif_neg h0, cif_neg h1, cif_neg h]
set_option maxHeartbeats 4000000 in
set_option maxRecDepth 100000 in
theorem yesz {z : Int} {p : Prop} (h : z = 1 ∧ p ∨ z = 0 ∧ ¬ p) (hz : ¬ z = 0) : p := by
  rcases h with h | h
  · exact h.2
  · exact absurd h.1 hz
set_option maxHeartbeats 4000000 in
set_option maxRecDepth 100000 in
theorem nayz {z : Int} {p : Prop} (h : z = 1 ∧ p ∨ z = 0 ∧ ¬ p) (hz : z = 0) : ¬ p := by
  rcases h with h | h
  · exact absurd h.1 (by omega)
  · exact h.2
-- a line, its first token at hand
set_option maxHeartbeats 4000000 in
set_option maxRecDepth 100000 in
theorem c_readLineP {t : Int → Int} {n : Int} {σ₀ σ : Sto} {s P : PS} (h : RP t n σ₀ s) (ha : advP σ₀ σ s.x) (hD : OKD s.D s.S) (hS : OKS s.S) (hP : P = pLin t n s) : CtI yX4_readLine cX4_readLine 1 (some .boolean) 8 [mR 38] σ (fun z σ' => RQ t n σ₀ σ' P z) := by
  refine ct_of rfl [some (mR 38)] (Nat.le_of_ble_eq_true rfl) rfl (fun hσ => ?_)
  show Wp cX4_readLine RX4 (some .boolean) 8 0 [some (mR 38)] [] _ _
  obtain ⟨hr, a5, a6, a7, a8, a9, a10⟩ := h.adv ha
  have e14 : nmd σ = s.nm t n := by
    funext k
    rw [nmd_eq, a6, a7, hr.2.1]
  have e8 : σ 8 0 = s.S 0 0 := congrFun (congrFun hr.2.2.2.2.2.2.2.1 0) 0
  have e20 : σ 20 0 = s.D 0 0 := congrFun (congrFun hr.2.2.2.2.2.2.1 0) 0
  have hnx : (s.nx t n).D = s.D := rfl
  unfold pLin at hP
  refine wp_aload_n (pc := 0) dX4_readLine_0 rfl rfl ?_
  refine wp_getI (pc := 1) 5 dX4_readLine_1 fl_X4_55 rfl rfl ?_
  refine wp_iconst (pc := 4) dX4_readLine_4 (by decide) ?_
  refine wp_icmp_eq (pc := 5) 14 dX4_readLine_5 (by decide) (fun c_5 => ?_) (fun c_5 => ?_)
  · refine wp_aload_n (pc := 14) dX4_readLine_14 rfl rfl ?_
    refine wp_ldcS (pc := 15) 0 dX4_readLine_15 rfl (by decide) rfl ?_
    refine wp_cvI1 (pc := 17) dX4_readLine_17 mv_X4_71 (c_isNamed_0 a9.1 a9.2.1 a9.2.2) (Nat.le_of_ble_eq_true rfl) rfl (Nat.le_of_ble_eq_true rfl) (fun z_17 σ_17 h_17 => ?_)
    obtain ⟨zz_17, e_17⟩ := h_17; have e2_17 := e_17.symm; subst e2_17
    rw [e14] at zz_17
    refine wp_if_eq (pc := 20) 28 dX4_readLine_20 (by decide) (fun c_20 => ?_) (fun c_20 => ?_)
    · refine wp_aload_n (pc := 28) dX4_readLine_28 rfl rfl ?_
      refine wp_ldcS (pc := 29) 1 dX4_readLine_29 rfl (by decide) rfl ?_
      refine wp_cvI1 (pc := 31) dX4_readLine_31 mv_X4_71 (c_isNamed_1 a9.1 a9.2.1 a9.2.2) (Nat.le_of_ble_eq_true rfl) rfl (Nat.le_of_ble_eq_true rfl) (fun z_31 σ_31 h_31 => ?_)
      obtain ⟨zz_31, e_31⟩ := h_31; have e2_31 := e_31.symm; subst e2_31
      rw [e14] at zz_31
      refine wp_if_eq (pc := 34) 62 dX4_readLine_34 (by decide) (fun c_34 => ?_) (fun c_34 => ?_)
      · refine wp_aload_n (pc := 62) dX4_readLine_62 rfl rfl ?_
        refine wp_ldcS (pc := 63) 2 dX4_readLine_63 rfl (by decide) rfl ?_
        refine wp_cvI1 (pc := 65) dX4_readLine_65 mv_X4_71 (c_isNamed_2 a9.1 a9.2.1 a9.2.2) (Nat.le_of_ble_eq_true rfl) rfl (Nat.le_of_ble_eq_true rfl) (fun z_65 σ_65 h_65 => ?_)
        obtain ⟨zz_65, e_65⟩ := h_65; have e2_65 := e_65.symm; subst e2_65
        rw [e14] at zz_65
        refine wp_if_eq (pc := 68) 96 dX4_readLine_68 (by decide) (fun c_68 => ?_) (fun c_68 => ?_)
        · refine wp_aload_n (pc := 96) dX4_readLine_96 rfl rfl ?_
          refine wp_iconst (pc := 97) dX4_readLine_97 (by decide) ?_
          refine wp_cvI1 (pc := 98) dX4_readLine_98 mv_X4_65 (c_refuse (w := 2)) (Nat.le_of_ble_eq_true rfl) rfl (Nat.le_of_ble_eq_true rfl) (fun z_98 σ_98 h_98 => ?_)
          obtain ⟨rfl, rfl⟩ := h_98
          refine wp_zreturn (pc := 101) dX4_readLine_101 rfl (by omega) ?_
          have e := nm3_no (nayz zz_17 c_20) (nayz zz_31 c_34) (nayz zz_65 c_68)
          have eP : P = s.bad t n 2 := by rw [hP, if_pos (Or.inr (by omega))]
          rw [eP]
          exact ⟨_, rfl, RQ.no2 h ha (by decide)⟩
        · refine wp_aload_n (pc := 71) dX4_readLine_71 rfl rfl ?_
          refine wp_getR (pc := 72) (q := 20) dX4_readLine_72 fl_X4_19 rfl ?_
          refine wp_getI (pc := 75) 0 dX4_readLine_75 fl_X4_85 rfl rfl ?_
          refine wp_bipush (pc := 78) dX4_readLine_78 (by decide) (by decide) ?_
          refine wp_icmp_lt (pc := 80) 91 dX4_readLine_80 (by decide) (fun c_80 => ?_) (fun c_80 => ?_)
          · refine wp_aload_n (pc := 91) dX4_readLine_91 rfl rfl ?_
            refine wp_cvI0 (pc := 92) dX4_readLine_92 mv_X4_86 (c_readParP hr hD hS (by show s.D 0 0 < 8; omega) rfl) (Nat.le_of_ble_eq_true rfl) rfl (Nat.le_of_ble_eq_true rfl) (fun z_92 σ_92 h_92 => ?_)
            refine wp_zreturn (pc := 95) dX4_readLine_95 rfl (by first | (rcases h_92.2 with y | y <;> omega) | omega) ?_
            have e := nm3_of2 (nayz zz_17 c_20) (nayz zz_31 c_34) (yesz zz_65 c_68)
            first
              | (have eP : P = pPar t n (s.nx t n) := by rw [hP, if_neg (by omega), if_neg (by omega), if_neg (by omega), if_neg (by omega)]
                 rw [eP]
                 exact ⟨_, rfl, h_92.tr ha.frm⟩)
              | (have eP : P = s.bad t n 5 := by rw [hP, if_neg (by omega), if_neg (by omega), if_neg (by omega), if_pos (by omega)]
                 rw [eP]
                 exact ⟨_, rfl, RQ.no2 h ha (by decide)⟩)
          · refine wp_aload_n (pc := 83) dX4_readLine_83 rfl rfl ?_
            refine wp_iconst (pc := 84) dX4_readLine_84 (by decide) ?_
            refine wp_cvI1 (pc := 85) dX4_readLine_85 mv_X4_65 (c_refuse (w := 5)) (Nat.le_of_ble_eq_true rfl) rfl (Nat.le_of_ble_eq_true rfl) (fun z_85 σ_85 h_85 => ?_)
            obtain ⟨rfl, rfl⟩ := h_85
            refine wp_goto (pc := 88) 95 dX4_readLine_88 (by decide) ?_
            refine wp_zreturn (pc := 95) dX4_readLine_95 rfl (by first | (rcases h_92.2 with y | y <;> omega) | omega) ?_
            have e := nm3_of2 (nayz zz_17 c_20) (nayz zz_31 c_34) (yesz zz_65 c_68)
            first
              | (have eP : P = pPar t n (s.nx t n) := by rw [hP, if_neg (by omega), if_neg (by omega), if_neg (by omega), if_neg (by omega)]
                 rw [eP]
                 exact ⟨_, rfl, h_92.tr ha.frm⟩)
              | (have eP : P = s.bad t n 5 := by rw [hP, if_neg (by omega), if_neg (by omega), if_neg (by omega), if_pos (by omega)]
                 rw [eP]
                 exact ⟨_, rfl, RQ.no2 h ha (by decide)⟩)
      · refine wp_aload_n (pc := 37) dX4_readLine_37 rfl rfl ?_
        refine wp_getR (pc := 38) (q := 8) dX4_readLine_38 fl_X4_15 rfl ?_
        refine wp_getI (pc := 41) 0 dX4_readLine_41 fl_X4_42 rfl rfl ?_
        refine wp_bipush (pc := 44) dX4_readLine_44 (by decide) (by decide) ?_
        refine wp_icmp_lt (pc := 46) 57 dX4_readLine_46 (by decide) (fun c_46 => ?_) (fun c_46 => ?_)
        · refine wp_aload_n (pc := 57) dX4_readLine_57 rfl rfl ?_
          refine wp_cvI0 (pc := 58) dX4_readLine_58 mv_X4_80 (c_readShapeP hr hS (by show s.S 0 0 < 6; omega) rfl) (Nat.le_of_ble_eq_true rfl) rfl (Nat.le_of_ble_eq_true rfl) (fun z_58 σ_58 h_58 => ?_)
          refine wp_zreturn (pc := 61) dX4_readLine_61 rfl (by first | (rcases h_58.2 with y | y <;> omega) | omega) ?_
          have e := nm3_of1 (nayz zz_17 c_20) (yesz zz_31 c_34)
          first
            | (have eP : P = pShp t n (s.nx t n) := by rw [hP, if_neg (by omega), if_neg (by omega), if_pos e, if_neg (by omega)]
               rw [eP]
               exact ⟨_, rfl, h_58.tr ha.frm⟩)
            | (have eP : P = s.bad t n 5 := by rw [hP, if_neg (by omega), if_neg (by omega), if_pos e, if_pos (by omega)]
               rw [eP]
               exact ⟨_, rfl, RQ.no2 h ha (by decide)⟩)
        · refine wp_aload_n (pc := 49) dX4_readLine_49 rfl rfl ?_
          refine wp_iconst (pc := 50) dX4_readLine_50 (by decide) ?_
          refine wp_cvI1 (pc := 51) dX4_readLine_51 mv_X4_65 (c_refuse (w := 5)) (Nat.le_of_ble_eq_true rfl) rfl (Nat.le_of_ble_eq_true rfl) (fun z_51 σ_51 h_51 => ?_)
          obtain ⟨rfl, rfl⟩ := h_51
          refine wp_goto (pc := 54) 61 dX4_readLine_54 (by decide) ?_
          refine wp_zreturn (pc := 61) dX4_readLine_61 rfl (by first | (rcases h_58.2 with y | y <;> omega) | omega) ?_
          have e := nm3_of1 (nayz zz_17 c_20) (yesz zz_31 c_34)
          first
            | (have eP : P = pShp t n (s.nx t n) := by rw [hP, if_neg (by omega), if_neg (by omega), if_pos e, if_neg (by omega)]
               rw [eP]
               exact ⟨_, rfl, h_58.tr ha.frm⟩)
            | (have eP : P = s.bad t n 5 := by rw [hP, if_neg (by omega), if_neg (by omega), if_pos e, if_pos (by omega)]
               rw [eP]
               exact ⟨_, rfl, RQ.no2 h ha (by decide)⟩)
    · refine wp_aload_n (pc := 23) dX4_readLine_23 rfl rfl ?_
      refine wp_cvI0 (pc := 24) dX4_readLine_24 mv_X4_75 (c_readSettingP hr) (Nat.le_of_ble_eq_true rfl) rfl (Nat.le_of_ble_eq_true rfl) (fun z_24 σ_24 h_24 => ?_)
      refine wp_zreturn (pc := 27) dX4_readLine_27 rfl (by rcases h_24.2 with y | y <;> omega) ?_
      have e := nm3_of0 (yesz zz_17 c_20)
      have eP : P = pSet t n (s.nx t n) := by rw [hP, if_neg (by omega), if_pos e]
      rw [eP]
      exact ⟨_, rfl, h_24.tr ha.frm⟩
  · refine wp_aload_n (pc := 8) dX4_readLine_8 rfl rfl ?_
    refine wp_iconst (pc := 9) dX4_readLine_9 (by decide) ?_
    refine wp_cvI1 (pc := 10) dX4_readLine_10 mv_X4_65 (c_refuse (w := 2)) (Nat.le_of_ble_eq_true rfl) rfl (Nat.le_of_ble_eq_true rfl) (fun z_10 σ_10 h_10 => ?_)
    obtain ⟨rfl, rfl⟩ := h_10
    refine wp_zreturn (pc := 13) dX4_readLine_13 rfl (by omega) ?_
    have eP : P = s.bad t n 2 := by rw [hP, if_pos (Or.inl (by omega))]
    rw [eP]
    exact ⟨_, rfl, RQ.no2 h ha (by decide)⟩
