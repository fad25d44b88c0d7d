-- sums over the lines of the class, in the words of the document
set_option maxHeartbeats 4000000 in
set_option maxRecDepth 100000 in
theorem lay_sums {τ D S : Sto} (h : OKD D S) {L l1 l2 l3 l4 l5 l6 l7 l8 l9 l10 : Nat} (hO : LayOK τ L l1 l2 l3 l4 l5 l6 l7 l8 l9 l10 D S (D 0 0)) {a n : Int} (a0 : 0 ≤ a) (han : a + n ≤ nL D S) : sumI (fun k => if τ l10 (a + k) = 0 then 0 else 1) n = sumI (fun k => lX D S (a + k)) n ∧ sumI (fun k => if 0 ≤ τ l4 (a + k) ∧ τ l8 (a + k) < τ l9 (a + k) then 1 else 0) n = sumI (fun k => lO D S (a + k)) n := by
  constructor
  · refine sumI_cong (fun k k0 k1 => ?_)
    have h1 := lay_line h hO (l := a + k) (by omega) (by omega)
    rw [h1.2.1]
    rcases lX_01 D S (a + k) with q | q
    · rw [q, if_pos rfl]
    · rw [q, if_neg (by omega)]
  · refine sumI_cong (fun k k0 k1 => ?_)
    have h1 := lay_line h hO (l := a + k) (by omega) (by omega)
    rw [h1.1]
    unfold lO
    by_cases q : 0 ≤ own D S (a + k)
    · have h2 := h1.2.2 q
      rw [h2.2.2.2.1, h2.2.2.2.2]
    · rw [if_neg (by omega), if_neg (by omega)]
set_option maxHeartbeats 4000000 in
set_option maxRecDepth 100000 in
theorem sumI_z {f : Int → Int} {n : Int} : sumI (fun k => f (0 + k)) n = sumI f n := by
  congr 1
  funext k
  rw [Int.zero_add]
set_option maxHeartbeats 4000000 in
set_option maxRecDepth 100000 in
theorem c_rule {σ D S : Sto} {w : Int} (hC : CI σ D S) : CtI yX6_rule cX6_rule 2 (some .int) 5 [mR 0, mI w] σ (fun z σ' => z = aRule D S (σ 0 1) ((if σ 0 14 = 0 then 0 else 1) + (if σ 0 15 = 0 then 0 else 1)) w ∧ Obs σ σ' ∧ CI σ' D S) := by
  refine ct_of rfl [some (mR 0), some (mI w)] (Nat.le_of_ble_eq_true rfl) rfl (fun hσ => ?_)
  show Wp cX6_rule RX6 (some .int) 5 0 [some (mR 0), some (mI w)] [] _ _
  obtain ⟨n1, n2, n3, n4, n5, n6, n7⟩ := hC.n
  have hD := hC.2.2.1
  have hnl := nL_bd hD
  have ht := hC.2.2.2.2.1
  refine wp_iload_n (pc := 0) dX6_rule_0 rfl rfl ?_
  refine wp_bipush (pc := 1) dX6_rule_1 (by decide) (by decide) ?_
  refine wp_icmp_lt (pc := 3) 25 dX6_rule_3 (by decide) (fun c_3 => ?_) (fun c_3 => ?_)
  · refine wp_iload_n (pc := 25) dX6_rule_25 rfl rfl ?_
    refine wp_top (fun sw_26 esw_26 => ?_)
    rcases (show (sw_26 < 0 ∨ 15 < sw_26) ∨ sw_26 = 0 ∨ sw_26 = 1 ∨ sw_26 = 2 ∨ sw_26 = 3 ∨ sw_26 = 4 ∨ sw_26 = 5 ∨ sw_26 = 6 ∨ sw_26 = 7 ∨ sw_26 = 8 ∨ sw_26 = 9 ∨ sw_26 = 10 ∨ sw_26 = 11 ∨ sw_26 = 12 ∨ sw_26 = 13 ∨ sw_26 = 14 ∨ sw_26 = 15 by omega) with c_26 | c_26 | c_26 | c_26 | c_26 | c_26 | c_26 | c_26 | c_26 | c_26 | c_26 | c_26 | c_26 | c_26 | c_26 | c_26 | c_26
    · refine wp_tabOut (pc := 26) 207 dX6_rule_26 c_26 (by decide) ?_
      refine wp_iconst (pc := 207) dX6_rule_207 (by decide) ?_
      refine wp_ireturn (pc := 208) dX6_rule_208 rfl ?_
      refine ⟨_, rfl, ?_, Obs.rf, hC⟩
      unfold aRule
      rw [if_pos (by omega)]
    · refine wp_tabIn (pc := 26) (78) 104 dX6_rule_26 (by omega) (by omega) (by rw [c_26]; rfl) (by decide) ?_
      refine wp_aload_n (pc := 104) dX6_rule_104 rfl rfl ?_
      refine wp_getR (pc := 105) (q := 2) dX6_rule_105 fl_X6_16 rfl ?_
      refine wp_getI (pc := 108) 0 dX6_rule_108 fl_X6_112 rfl rfl ?_
      refine wp_ireturn (pc := 111) dX6_rule_111 rfl ?_
      exact ⟨_, rfl, by unfold aRule; rw [if_neg (by omega), if_neg (by omega), if_pos (by omega)]; omega, Obs.rf, hC⟩
    · refine wp_tabIn (pc := 26) (86) 112 dX6_rule_26 (by omega) (by omega) (by rw [c_26]; rfl) (by decide) ?_
      refine wp_aload_n (pc := 112) dX6_rule_112 rfl rfl ?_
      refine wp_getR (pc := 113) (q := 14) dX6_rule_113 fl_X6_23 rfl ?_
      refine wp_getI (pc := 116) 0 dX6_rule_116 fl_X6_115 rfl rfl ?_
      refine wp_ireturn (pc := 119) dX6_rule_119 rfl ?_
      exact ⟨_, rfl, by unfold aRule; rw [if_neg (by omega), if_neg (by omega), if_neg (by omega), if_pos (by omega)]; omega, Obs.rf, hC⟩
    · refine wp_tabIn (pc := 26) (94) 120 dX6_rule_26 (by omega) (by omega) (by rw [c_26]; rfl) (by decide) ?_
      refine wp_aload_n (pc := 120) dX6_rule_120 rfl rfl ?_
      refine wp_getR (pc := 121) (q := 14) dX6_rule_121 fl_X6_23 rfl ?_
      refine wp_getI (pc := 124) 1 dX6_rule_124 fl_X6_116 rfl rfl ?_
      refine wp_ireturn (pc := 127) dX6_rule_127 rfl ?_
      exact ⟨_, rfl, by unfold aRule; rw [if_neg (by omega), if_neg (by omega), if_neg (by omega), if_neg (by omega), if_pos (by omega)]; omega, Obs.rf, hC⟩
    · refine wp_tabIn (pc := 26) (102) 128 dX6_rule_26 (by omega) (by omega) (by rw [c_26]; rfl) (by decide) ?_
      refine wp_aload_n (pc := 128) dX6_rule_128 rfl rfl ?_
      refine wp_getR (pc := 129) (q := 14) dX6_rule_129 fl_X6_23 rfl ?_
      refine wp_cvI0 (pc := 132) dX6_rule_132 mv_X6_119 (c_unlikeWords (by omega)) (Nat.le_of_ble_eq_true rfl) rfl (Nat.le_of_ble_eq_true rfl) (fun z_132 σ_132 h_132 => ?_)
      obtain ⟨rfl, e_132⟩ := h_132; have e2_132 := e_132.symm; subst e2_132
      refine wp_ireturn (pc := 135) dX6_rule_135 rfl ?_
      refine ⟨_, rfl, ?_, Obs.rf, hC⟩
      unfold aRule
      rw [if_neg (by omega), if_neg (by omega), if_neg (by omega), if_neg (by omega), if_neg (by omega), if_pos (by omega), ← ht]
      rw [show D 4 = σ 15 from funext fun k => (n5 k).2.2.2.1]
    · refine wp_tabIn (pc := 26) (110) 136 dX6_rule_26 (by omega) (by omega) (by rw [c_26]; rfl) (by decide) ?_
      refine wp_aload_n (pc := 136) dX6_rule_136 rfl rfl ?_
      refine wp_cvR0 (pc := 137) dX6_rule_137 mv_X6_122 (c_laid hC) (Nat.le_of_ble_eq_true rfl) rfl (Nat.le_of_ble_eq_true rfl) (fun z_137 σ_137 h_137 => ?_)
      obtain ⟨rfl, o_137, C_137, l_137⟩ := h_137
      have en : σ_137 49 3 = nL D S := l_137.1
      refine wp_getI (pc := 140) 3 dX6_rule_140 fl_X6_126 rfl rfl ?_
      refine wp_ireturn (pc := 143) dX6_rule_143 rfl ?_
      refine ⟨_, rfl, ?_, o_137, C_137⟩
      unfold aRule
      rw [if_neg (by omega), if_neg (by omega), if_neg (by omega), if_neg (by omega), if_neg (by omega), if_neg (by omega), if_pos (by omega)]
      exact en
    · refine wp_tabIn (pc := 26) (118) 144 dX6_rule_26 (by omega) (by omega) (by rw [c_26]; rfl) (by decide) ?_
      refine wp_aload_n (pc := 144) dX6_rule_144 rfl rfl ?_
      refine wp_cvR0 (pc := 145) dX6_rule_145 mv_X6_122 (c_laid hC) (Nat.le_of_ble_eq_true rfl) rfl (Nat.le_of_ble_eq_true rfl) (fun z_145 σ_145 h_145 => ?_)
      obtain ⟨rfl, o_145, C_145, l_145⟩ := h_145
      have en : σ_145 49 3 = nL D S := l_145.1
      refine wp_cvI0 (pc := 148) dX6_rule_148 mv_X6_129 (c_emptyLines (by omega)) (Nat.le_of_ble_eq_true rfl) rfl (Nat.le_of_ble_eq_true rfl) (fun z_148 σ_148 h_148 => ?_)
      obtain ⟨rfl, e_148⟩ := h_148; have e2_148 := e_148.symm; subst e2_148
      refine wp_ireturn (pc := 151) dX6_rule_151 rfl ?_
      refine ⟨_, rfl, ?_, o_145, C_145⟩
      unfold aRule
      rw [if_neg (by omega), if_neg (by omega), if_neg (by omega), if_neg (by omega), if_neg (by omega), if_neg (by omega), if_neg (by omega), if_pos (by omega), en]
      exact sumI_cong (fun k k0 k1 => by rw [(lay_line hD l_145 k0 k1).1])
    · refine wp_tabIn (pc := 26) (126) 152 dX6_rule_26 (by omega) (by omega) (by rw [c_26]; rfl) (by decide) ?_
      refine wp_aload_n (pc := 152) dX6_rule_152 rfl rfl ?_
      refine wp_cvR0 (pc := 153) dX6_rule_153 mv_X6_122 (c_laid hC) (Nat.le_of_ble_eq_true rfl) rfl (Nat.le_of_ble_eq_true rfl) (fun z_153 σ_153 h_153 => ?_)
      obtain ⟨rfl, o_153, C_153, l_153⟩ := h_153
      refine wp_iconst (pc := 156) dX6_rule_156 (by decide) ?_
      refine wp_sipush (pc := 157) dX6_rule_157 (by decide) (by decide) ?_
      have en : σ_153 49 3 = nL D S := l_153.1
      refine wp_cvI2 (pc := 160) dX6_rule_160 mv_X6_132 (c_clashesWithin_49 (by omega) (by omega)) (Nat.le_of_ble_eq_true rfl) rfl (Nat.le_of_ble_eq_true rfl) (fun z_160 σ_160 h_160 => ?_)
      obtain ⟨rfl, e_160⟩ := h_160; have e2_160 := e_160.symm; subst e2_160
      rw [en, show min 152 (nL D S) - 0 = nL D S by omega]
      refine wp_ireturn (pc := 163) dX6_rule_163 rfl ?_
      refine ⟨_, rfl, ?_, o_153, C_153⟩
      unfold aRule
      rw [if_neg (by omega), if_neg (by omega), if_neg (by omega), if_neg (by omega), if_neg (by omega), if_neg (by omega), if_neg (by omega), if_neg (by omega), if_pos (by omega)]
      exact ((lay_sums hD l_153 (a := 0) (n := nL D S) (by omega) (by omega)).1).trans sumI_z
    · refine wp_tabIn (pc := 26) (138) 164 dX6_rule_26 (by omega) (by omega) (by rw [c_26]; rfl) (by decide) ?_
      refine wp_aload_n (pc := 164) dX6_rule_164 rfl rfl ?_
      refine wp_cvR0 (pc := 165) dX6_rule_165 mv_X6_122 (c_laid hC) (Nat.le_of_ble_eq_true rfl) rfl (Nat.le_of_ble_eq_true rfl) (fun z_165 σ_165 h_165 => ?_)
      obtain ⟨rfl, o_165, C_165, l_165⟩ := h_165
      refine wp_iconst (pc := 168) dX6_rule_168 (by decide) ?_
      refine wp_sipush (pc := 169) dX6_rule_169 (by decide) (by decide) ?_
      have en : σ_165 49 3 = nL D S := l_165.1
      refine wp_cvI2 (pc := 172) dX6_rule_172 mv_X6_136 (c_oversWithin_49 (by omega) (by omega)) (Nat.le_of_ble_eq_true rfl) rfl (Nat.le_of_ble_eq_true rfl) (fun z_172 σ_172 h_172 => ?_)
      obtain ⟨rfl, e_172⟩ := h_172; have e2_172 := e_172.symm; subst e2_172
      rw [en, show min 152 (nL D S) - 0 = nL D S by omega]
      refine wp_ireturn (pc := 175) dX6_rule_175 rfl ?_
      refine ⟨_, rfl, ?_, o_165, C_165⟩
      unfold aRule
      rw [if_neg (by omega), if_neg (by omega), if_neg (by omega), if_neg (by omega), if_neg (by omega), if_neg (by omega), if_neg (by omega), if_neg (by omega), if_neg (by omega), if_pos (by omega)]
      exact ((lay_sums hD l_165 (a := 0) (n := nL D S) (by omega) (by omega)).2).trans sumI_z
    · refine wp_tabIn (pc := 26) (181) 207 dX6_rule_26 (by omega) (by omega) (by rw [c_26]; rfl) (by decide) ?_
      refine wp_iconst (pc := 207) dX6_rule_207 (by decide) ?_
      refine wp_ireturn (pc := 208) dX6_rule_208 rfl ?_
      refine ⟨_, rfl, ?_, Obs.rf, hC⟩
      unfold aRule
      rw [if_pos (by omega)]
    · refine wp_tabIn (pc := 26) (181) 207 dX6_rule_26 (by omega) (by omega) (by rw [c_26]; rfl) (by decide) ?_
      refine wp_iconst (pc := 207) dX6_rule_207 (by decide) ?_
      refine wp_ireturn (pc := 208) dX6_rule_208 rfl ?_
      refine ⟨_, rfl, ?_, Obs.rf, hC⟩
      unfold aRule
      rw [if_pos (by omega)]
    · refine wp_tabIn (pc := 26) (181) 207 dX6_rule_26 (by omega) (by omega) (by rw [c_26]; rfl) (by decide) ?_
      refine wp_iconst (pc := 207) dX6_rule_207 (by decide) ?_
      refine wp_ireturn (pc := 208) dX6_rule_208 rfl ?_
      refine ⟨_, rfl, ?_, Obs.rf, hC⟩
      unfold aRule
      rw [if_pos (by omega)]
    · refine wp_tabIn (pc := 26) (181) 207 dX6_rule_26 (by omega) (by omega) (by rw [c_26]; rfl) (by decide) ?_
      refine wp_iconst (pc := 207) dX6_rule_207 (by decide) ?_
      refine wp_ireturn (pc := 208) dX6_rule_208 rfl ?_
      refine ⟨_, rfl, ?_, Obs.rf, hC⟩
      unfold aRule
      rw [if_pos (by omega)]
    · refine wp_tabIn (pc := 26) (181) 207 dX6_rule_26 (by omega) (by omega) (by rw [c_26]; rfl) (by decide) ?_
      refine wp_iconst (pc := 207) dX6_rule_207 (by decide) ?_
      refine wp_ireturn (pc := 208) dX6_rule_208 rfl ?_
      refine ⟨_, rfl, ?_, Obs.rf, hC⟩
      unfold aRule
      rw [if_pos (by omega)]
    · refine wp_tabIn (pc := 26) (181) 207 dX6_rule_26 (by omega) (by omega) (by rw [c_26]; rfl) (by decide) ?_
      refine wp_iconst (pc := 207) dX6_rule_207 (by decide) ?_
      refine wp_ireturn (pc := 208) dX6_rule_208 rfl ?_
      refine ⟨_, rfl, ?_, Obs.rf, hC⟩
      unfold aRule
      rw [if_pos (by omega)]
    · refine wp_tabIn (pc := 26) (150) 176 dX6_rule_26 (by omega) (by omega) (by rw [c_26]; rfl) (by decide) ?_
      refine wp_aload_n (pc := 176) dX6_rule_176 rfl rfl ?_
      refine wp_getI (pc := 177) 1 dX6_rule_177 fl_X6_80 rfl rfl ?_
      refine wp_ireturn (pc := 180) dX6_rule_180 rfl ?_
      refine ⟨_, rfl, ?_, Obs.rf, hC⟩
      unfold aRule
      rw [if_neg (by omega), if_neg (by omega), if_neg (by omega), if_neg (by omega), if_neg (by omega), if_neg (by omega), if_neg (by omega), if_neg (by omega), if_neg (by omega), if_neg (by omega), if_pos (by omega)]
    · refine wp_tabIn (pc := 26) (155) 181 dX6_rule_26 (by omega) (by omega) (by rw [c_26]; rfl) (by decide) ?_
      refine wp_aload_n (pc := 181) dX6_rule_181 rfl rfl ?_
      refine wp_getI (pc := 182) 14 dX6_rule_182 fl_X6_102 rfl rfl ?_
      refine wp_if_eq (pc := 185) 192 dX6_rule_185 (by decide) (fun c_185 => ?_) (fun c_185 => ?_)
      · refine wp_iconst (pc := 192) dX6_rule_192 (by decide) ?_
        refine wp_aload_n (pc := 193) dX6_rule_193 rfl rfl ?_
        refine wp_getI (pc := 194) 15 dX6_rule_194 fl_X6_105 rfl rfl ?_
        refine wp_if_eq (pc := 197) 204 dX6_rule_197 (by decide) (fun c_197 => ?_) (fun c_197 => ?_)
        · refine wp_iconst (pc := 204) dX6_rule_204 (by decide) ?_
          refine wp_iadd (pc := 205) dX6_rule_205 (by omega) ?_
          refine wp_ireturn (pc := 206) dX6_rule_206 rfl ?_
          refine ⟨_, rfl, ?_, Obs.rf, hC⟩
          unfold aRule
          rw [if_neg (by omega), if_neg (by omega), if_neg (by omega), if_neg (by omega), if_neg (by omega), if_neg (by omega), if_neg (by omega), if_neg (by omega), if_neg (by omega), if_neg (by omega), if_neg (by omega)]
          first | rw [if_pos c_185] | rw [if_neg c_185]
          first | rw [if_pos c_197] | rw [if_neg c_197]
        · refine wp_iconst (pc := 200) dX6_rule_200 (by decide) ?_
          refine wp_goto (pc := 201) 205 dX6_rule_201 (by decide) ?_
          refine wp_iadd (pc := 205) dX6_rule_205 (by omega) ?_
          refine wp_ireturn (pc := 206) dX6_rule_206 rfl ?_
          refine ⟨_, rfl, ?_, Obs.rf, hC⟩
          unfold aRule
          rw [if_neg (by omega), if_neg (by omega), if_neg (by omega), if_neg (by omega), if_neg (by omega), if_neg (by omega), if_neg (by omega), if_neg (by omega), if_neg (by omega), if_neg (by omega), if_neg (by omega)]
          first | rw [if_pos c_185] | rw [if_neg c_185]
          first | rw [if_pos c_197] | rw [if_neg c_197]
      · refine wp_iconst (pc := 188) dX6_rule_188 (by decide) ?_
        refine wp_goto (pc := 189) 193 dX6_rule_189 (by decide) ?_
        refine wp_aload_n (pc := 193) dX6_rule_193 rfl rfl ?_
        refine wp_getI (pc := 194) 15 dX6_rule_194 fl_X6_105 rfl rfl ?_
        refine wp_if_eq (pc := 197) 204 dX6_rule_197 (by decide) (fun c_197 => ?_) (fun c_197 => ?_)
        · refine wp_iconst (pc := 204) dX6_rule_204 (by decide) ?_
          refine wp_iadd (pc := 205) dX6_rule_205 (by omega) ?_
          refine wp_ireturn (pc := 206) dX6_rule_206 rfl ?_
          refine ⟨_, rfl, ?_, Obs.rf, hC⟩
          unfold aRule
          rw [if_neg (by omega), if_neg (by omega), if_neg (by omega), if_neg (by omega), if_neg (by omega), if_neg (by omega), if_neg (by omega), if_neg (by omega), if_neg (by omega), if_neg (by omega), if_neg (by omega)]
          first | rw [if_pos c_185] | rw [if_neg c_185]
          first | rw [if_pos c_197] | rw [if_neg c_197]
        · refine wp_iconst (pc := 200) dX6_rule_200 (by decide) ?_
          refine wp_goto (pc := 201) 205 dX6_rule_201 (by decide) ?_
          refine wp_iadd (pc := 205) dX6_rule_205 (by omega) ?_
          refine wp_ireturn (pc := 206) dX6_rule_206 rfl ?_
          refine ⟨_, rfl, ?_, Obs.rf, hC⟩
          unfold aRule
          rw [if_neg (by omega), if_neg (by omega), if_neg (by omega), if_neg (by omega), if_neg (by omega), if_neg (by omega), if_neg (by omega), if_neg (by omega), if_neg (by omega), if_neg (by omega), if_neg (by omega)]
          first | rw [if_pos c_185] | rw [if_neg c_185]
          first | rw [if_pos c_197] | rw [if_neg c_197]
  · refine wp_iload_n (pc := 6) dX6_rule_6 rfl rfl ?_
    refine wp_bipush (pc := 7) dX6_rule_7 (by decide) (by decide) ?_
    refine wp_icmp_ge (pc := 9) 25 dX6_rule_9 (by decide) (fun c_9 => ?_) (fun c_9 => ?_)
    · refine wp_iload_n (pc := 25) dX6_rule_25 rfl rfl ?_
      refine wp_top (fun sw_26 esw_26 => ?_)
      rcases (show (sw_26 < 0 ∨ 15 < sw_26) ∨ sw_26 = 0 ∨ sw_26 = 1 ∨ sw_26 = 2 ∨ sw_26 = 3 ∨ sw_26 = 4 ∨ sw_26 = 5 ∨ sw_26 = 6 ∨ sw_26 = 7 ∨ sw_26 = 8 ∨ sw_26 = 9 ∨ sw_26 = 10 ∨ sw_26 = 11 ∨ sw_26 = 12 ∨ sw_26 = 13 ∨ sw_26 = 14 ∨ sw_26 = 15 by omega) with c_26 | c_26 | c_26 | c_26 | c_26 | c_26 | c_26 | c_26 | c_26 | c_26 | c_26 | c_26 | c_26 | c_26 | c_26 | c_26 | c_26
      · refine wp_tabOut (pc := 26) 207 dX6_rule_26 c_26 (by decide) ?_
        refine wp_iconst (pc := 207) dX6_rule_207 (by decide) ?_
        refine wp_ireturn (pc := 208) dX6_rule_208 rfl ?_
        refine ⟨_, rfl, ?_, Obs.rf, hC⟩
        unfold aRule
        rw [if_pos (by omega)]
      · refine wp_tabIn (pc := 26) (78) 104 dX6_rule_26 (by omega) (by omega) (by rw [c_26]; rfl) (by decide) ?_
        refine wp_aload_n (pc := 104) dX6_rule_104 rfl rfl ?_
        refine wp_getR (pc := 105) (q := 2) dX6_rule_105 fl_X6_16 rfl ?_
        refine wp_getI (pc := 108) 0 dX6_rule_108 fl_X6_112 rfl rfl ?_
        refine wp_ireturn (pc := 111) dX6_rule_111 rfl ?_
        exact ⟨_, rfl, by unfold aRule; rw [if_neg (by omega), if_neg (by omega), if_pos (by omega)]; omega, Obs.rf, hC⟩
      · refine wp_tabIn (pc := 26) (86) 112 dX6_rule_26 (by omega) (by omega) (by rw [c_26]; rfl) (by decide) ?_
        refine wp_aload_n (pc := 112) dX6_rule_112 rfl rfl ?_
        refine wp_getR (pc := 113) (q := 14) dX6_rule_113 fl_X6_23 rfl ?_
        refine wp_getI (pc := 116) 0 dX6_rule_116 fl_X6_115 rfl rfl ?_
        refine wp_ireturn (pc := 119) dX6_rule_119 rfl ?_
        exact ⟨_, rfl, by unfold aRule; rw [if_neg (by omega), if_neg (by omega), if_neg (by omega), if_pos (by omega)]; omega, Obs.rf, hC⟩
      · refine wp_tabIn (pc := 26) (94) 120 dX6_rule_26 (by omega) (by omega) (by rw [c_26]; rfl) (by decide) ?_
        refine wp_aload_n (pc := 120) dX6_rule_120 rfl rfl ?_
        refine wp_getR (pc := 121) (q := 14) dX6_rule_121 fl_X6_23 rfl ?_
        refine wp_getI (pc := 124) 1 dX6_rule_124 fl_X6_116 rfl rfl ?_
        refine wp_ireturn (pc := 127) dX6_rule_127 rfl ?_
        exact ⟨_, rfl, by unfold aRule; rw [if_neg (by omega), if_neg (by omega), if_neg (by omega), if_neg (by omega), if_pos (by omega)]; omega, Obs.rf, hC⟩
      · refine wp_tabIn (pc := 26) (102) 128 dX6_rule_26 (by omega) (by omega) (by rw [c_26]; rfl) (by decide) ?_
        refine wp_aload_n (pc := 128) dX6_rule_128 rfl rfl ?_
        refine wp_getR (pc := 129) (q := 14) dX6_rule_129 fl_X6_23 rfl ?_
        refine wp_cvI0 (pc := 132) dX6_rule_132 mv_X6_119 (c_unlikeWords (by omega)) (Nat.le_of_ble_eq_true rfl) rfl (Nat.le_of_ble_eq_true rfl) (fun z_132 σ_132 h_132 => ?_)
        obtain ⟨rfl, e_132⟩ := h_132; have e2_132 := e_132.symm; subst e2_132
        refine wp_ireturn (pc := 135) dX6_rule_135 rfl ?_
        refine ⟨_, rfl, ?_, Obs.rf, hC⟩
        unfold aRule
        rw [if_neg (by omega), if_neg (by omega), if_neg (by omega), if_neg (by omega), if_neg (by omega), if_pos (by omega), ← ht]
        rw [show D 4 = σ 15 from funext fun k => (n5 k).2.2.2.1]
      · refine wp_tabIn (pc := 26) (110) 136 dX6_rule_26 (by omega) (by omega) (by rw [c_26]; rfl) (by decide) ?_
        refine wp_aload_n (pc := 136) dX6_rule_136 rfl rfl ?_
        refine wp_cvR0 (pc := 137) dX6_rule_137 mv_X6_122 (c_laid hC) (Nat.le_of_ble_eq_true rfl) rfl (Nat.le_of_ble_eq_true rfl) (fun z_137 σ_137 h_137 => ?_)
        obtain ⟨rfl, o_137, C_137, l_137⟩ := h_137
        have en : σ_137 49 3 = nL D S := l_137.1
        refine wp_getI (pc := 140) 3 dX6_rule_140 fl_X6_126 rfl rfl ?_
        refine wp_ireturn (pc := 143) dX6_rule_143 rfl ?_
        refine ⟨_, rfl, ?_, o_137, C_137⟩
        unfold aRule
        rw [if_neg (by omega), if_neg (by omega), if_neg (by omega), if_neg (by omega), if_neg (by omega), if_neg (by omega), if_pos (by omega)]
        exact en
      · refine wp_tabIn (pc := 26) (118) 144 dX6_rule_26 (by omega) (by omega) (by rw [c_26]; rfl) (by decide) ?_
        refine wp_aload_n (pc := 144) dX6_rule_144 rfl rfl ?_
        refine wp_cvR0 (pc := 145) dX6_rule_145 mv_X6_122 (c_laid hC) (Nat.le_of_ble_eq_true rfl) rfl (Nat.le_of_ble_eq_true rfl) (fun z_145 σ_145 h_145 => ?_)
        obtain ⟨rfl, o_145, C_145, l_145⟩ := h_145
        have en : σ_145 49 3 = nL D S := l_145.1
        refine wp_cvI0 (pc := 148) dX6_rule_148 mv_X6_129 (c_emptyLines (by omega)) (Nat.le_of_ble_eq_true rfl) rfl (Nat.le_of_ble_eq_true rfl) (fun z_148 σ_148 h_148 => ?_)
        obtain ⟨rfl, e_148⟩ := h_148; have e2_148 := e_148.symm; subst e2_148
        refine wp_ireturn (pc := 151) dX6_rule_151 rfl ?_
        refine ⟨_, rfl, ?_, o_145, C_145⟩
        unfold aRule
        rw [if_neg (by omega), if_neg (by omega), if_neg (by omega), if_neg (by omega), if_neg (by omega), if_neg (by omega), if_neg (by omega), if_pos (by omega), en]
        exact sumI_cong (fun k k0 k1 => by rw [(lay_line hD l_145 k0 k1).1])
      · refine wp_tabIn (pc := 26) (126) 152 dX6_rule_26 (by omega) (by omega) (by rw [c_26]; rfl) (by decide) ?_
        refine wp_aload_n (pc := 152) dX6_rule_152 rfl rfl ?_
        refine wp_cvR0 (pc := 153) dX6_rule_153 mv_X6_122 (c_laid hC) (Nat.le_of_ble_eq_true rfl) rfl (Nat.le_of_ble_eq_true rfl) (fun z_153 σ_153 h_153 => ?_)
        obtain ⟨rfl, o_153, C_153, l_153⟩ := h_153
        refine wp_iconst (pc := 156) dX6_rule_156 (by decide) ?_
        refine wp_sipush (pc := 157) dX6_rule_157 (by decide) (by decide) ?_
        have en : σ_153 49 3 = nL D S := l_153.1
        refine wp_cvI2 (pc := 160) dX6_rule_160 mv_X6_132 (c_clashesWithin_49 (by omega) (by omega)) (Nat.le_of_ble_eq_true rfl) rfl (Nat.le_of_ble_eq_true rfl) (fun z_160 σ_160 h_160 => ?_)
        obtain ⟨rfl, e_160⟩ := h_160; have e2_160 := e_160.symm; subst e2_160
        rw [en, show min 152 (nL D S) - 0 = nL D S by omega]
        refine wp_ireturn (pc := 163) dX6_rule_163 rfl ?_
        refine ⟨_, rfl, ?_, o_153, C_153⟩
        unfold aRule
        rw [if_neg (by omega), if_neg (by omega), if_neg (by omega), if_neg (by omega), if_neg (by omega), if_neg (by omega), if_neg (by omega), if_neg (by omega), if_pos (by omega)]
        exact ((lay_sums hD l_153 (a := 0) (n := nL D S) (by omega) (by omega)).1).trans sumI_z
      · refine wp_tabIn (pc := 26) (138) 164 dX6_rule_26 (by omega) (by omega) (by rw [c_26]; rfl) (by decide) ?_
        refine wp_aload_n (pc := 164) dX6_rule_164 rfl rfl ?_
        refine wp_cvR0 (pc := 165) dX6_rule_165 mv_X6_122 (c_laid hC) (Nat.le_of_ble_eq_true rfl) rfl (Nat.le_of_ble_eq_true rfl) (fun z_165 σ_165 h_165 => ?_)
        obtain ⟨rfl, o_165, C_165, l_165⟩ := h_165
        refine wp_iconst (pc := 168) dX6_rule_168 (by decide) ?_
        refine wp_sipush (pc := 169) dX6_rule_169 (by decide) (by decide) ?_
        have en : σ_165 49 3 = nL D S := l_165.1
        refine wp_cvI2 (pc := 172) dX6_rule_172 mv_X6_136 (c_oversWithin_49 (by omega) (by omega)) (Nat.le_of_ble_eq_true rfl) rfl (Nat.le_of_ble_eq_true rfl) (fun z_172 σ_172 h_172 => ?_)
        obtain ⟨rfl, e_172⟩ := h_172; have e2_172 := e_172.symm; subst e2_172
        rw [en, show min 152 (nL D S) - 0 = nL D S by omega]
        refine wp_ireturn (pc := 175) dX6_rule_175 rfl ?_
        refine ⟨_, rfl, ?_, o_165, C_165⟩
        unfold aRule
        rw [if_neg (by omega), if_neg (by omega), if_neg (by omega), if_neg (by omega), if_neg (by omega), if_neg (by omega), if_neg (by omega), if_neg (by omega), if_neg (by omega), if_pos (by omega)]
        exact ((lay_sums hD l_165 (a := 0) (n := nL D S) (by omega) (by omega)).2).trans sumI_z
      · refine wp_tabIn (pc := 26) (181) 207 dX6_rule_26 (by omega) (by omega) (by rw [c_26]; rfl) (by decide) ?_
        refine wp_iconst (pc := 207) dX6_rule_207 (by decide) ?_
        refine wp_ireturn (pc := 208) dX6_rule_208 rfl ?_
        refine ⟨_, rfl, ?_, Obs.rf, hC⟩
        unfold aRule
        rw [if_pos (by omega)]
      · refine wp_tabIn (pc := 26) (181) 207 dX6_rule_26 (by omega) (by omega) (by rw [c_26]; rfl) (by decide) ?_
        refine wp_iconst (pc := 207) dX6_rule_207 (by decide) ?_
        refine wp_ireturn (pc := 208) dX6_rule_208 rfl ?_
        refine ⟨_, rfl, ?_, Obs.rf, hC⟩
        unfold aRule
        rw [if_pos (by omega)]
      · refine wp_tabIn (pc := 26) (181) 207 dX6_rule_26 (by omega) (by omega) (by rw [c_26]; rfl) (by decide) ?_
        refine wp_iconst (pc := 207) dX6_rule_207 (by decide) ?_
        refine wp_ireturn (pc := 208) dX6_rule_208 rfl ?_
        refine ⟨_, rfl, ?_, Obs.rf, hC⟩
        unfold aRule
        rw [if_pos (by omega)]
      · refine wp_tabIn (pc := 26) (181) 207 dX6_rule_26 (by omega) (by omega) (by rw [c_26]; rfl) (by decide) ?_
        refine wp_iconst (pc := 207) dX6_rule_207 (by decide) ?_
        refine wp_ireturn (pc := 208) dX6_rule_208 rfl ?_
        refine ⟨_, rfl, ?_, Obs.rf, hC⟩
        unfold aRule
        rw [if_pos (by omega)]
      · refine wp_tabIn (pc := 26) (181) 207 dX6_rule_26 (by omega) (by omega) (by rw [c_26]; rfl) (by decide) ?_
        refine wp_iconst (pc := 207) dX6_rule_207 (by decide) ?_
        refine wp_ireturn (pc := 208) dX6_rule_208 rfl ?_
        refine ⟨_, rfl, ?_, Obs.rf, hC⟩
        unfold aRule
        rw [if_pos (by omega)]
      · refine wp_tabIn (pc := 26) (181) 207 dX6_rule_26 (by omega) (by omega) (by rw [c_26]; rfl) (by decide) ?_
        refine wp_iconst (pc := 207) dX6_rule_207 (by decide) ?_
        refine wp_ireturn (pc := 208) dX6_rule_208 rfl ?_
        refine ⟨_, rfl, ?_, Obs.rf, hC⟩
        unfold aRule
        rw [if_pos (by omega)]
      · refine wp_tabIn (pc := 26) (150) 176 dX6_rule_26 (by omega) (by omega) (by rw [c_26]; rfl) (by decide) ?_
        refine wp_aload_n (pc := 176) dX6_rule_176 rfl rfl ?_
        refine wp_getI (pc := 177) 1 dX6_rule_177 fl_X6_80 rfl rfl ?_
        refine wp_ireturn (pc := 180) dX6_rule_180 rfl ?_
        refine ⟨_, rfl, ?_, Obs.rf, hC⟩
        unfold aRule
        rw [if_neg (by omega), if_neg (by omega), if_neg (by omega), if_neg (by omega), if_neg (by omega), if_neg (by omega), if_neg (by omega), if_neg (by omega), if_neg (by omega), if_neg (by omega), if_pos (by omega)]
      · refine wp_tabIn (pc := 26) (155) 181 dX6_rule_26 (by omega) (by omega) (by rw [c_26]; rfl) (by decide) ?_
        refine wp_aload_n (pc := 181) dX6_rule_181 rfl rfl ?_
        refine wp_getI (pc := 182) 14 dX6_rule_182 fl_X6_102 rfl rfl ?_
        refine wp_if_eq (pc := 185) 192 dX6_rule_185 (by decide) (fun c_185 => ?_) (fun c_185 => ?_)
        · refine wp_iconst (pc := 192) dX6_rule_192 (by decide) ?_
          refine wp_aload_n (pc := 193) dX6_rule_193 rfl rfl ?_
          refine wp_getI (pc := 194) 15 dX6_rule_194 fl_X6_105 rfl rfl ?_
          refine wp_if_eq (pc := 197) 204 dX6_rule_197 (by decide) (fun c_197 => ?_) (fun c_197 => ?_)
          · refine wp_iconst (pc := 204) dX6_rule_204 (by decide) ?_
            refine wp_iadd (pc := 205) dX6_rule_205 (by omega) ?_
            refine wp_ireturn (pc := 206) dX6_rule_206 rfl ?_
            refine ⟨_, rfl, ?_, Obs.rf, hC⟩
            unfold aRule
            rw [if_neg (by omega), if_neg (by omega), if_neg (by omega), if_neg (by omega), if_neg (by omega), if_neg (by omega), if_neg (by omega), if_neg (by omega), if_neg (by omega), if_neg (by omega), if_neg (by omega)]
            first | rw [if_pos c_185] | rw [if_neg c_185]
            first | rw [if_pos c_197] | rw [if_neg c_197]
          · refine wp_iconst (pc := 200) dX6_rule_200 (by decide) ?_
            refine wp_goto (pc := 201) 205 dX6_rule_201 (by decide) ?_
            refine wp_iadd (pc := 205) dX6_rule_205 (by omega) ?_
            refine wp_ireturn (pc := 206) dX6_rule_206 rfl ?_
            refine ⟨_, rfl, ?_, Obs.rf, hC⟩
            unfold aRule
            rw [if_neg (by omega), if_neg (by omega), if_neg (by omega), if_neg (by omega), if_neg (by omega), if_neg (by omega), if_neg (by omega), if_neg (by omega), if_neg (by omega), if_neg (by omega), if_neg (by omega)]
            first | rw [if_pos c_185] | rw [if_neg c_185]
            first | rw [if_pos c_197] | rw [if_neg c_197]
        · refine wp_iconst (pc := 188) dX6_rule_188 (by decide) ?_
          refine wp_goto (pc := 189) 193 dX6_rule_189 (by decide) ?_
          refine wp_aload_n (pc := 193) dX6_rule_193 rfl rfl ?_
          refine wp_getI (pc := 194) 15 dX6_rule_194 fl_X6_105 rfl rfl ?_
          refine wp_if_eq (pc := 197) 204 dX6_rule_197 (by decide) (fun c_197 => ?_) (fun c_197 => ?_)
          · refine wp_iconst (pc := 204) dX6_rule_204 (by decide) ?_
            refine wp_iadd (pc := 205) dX6_rule_205 (by omega) ?_
            refine wp_ireturn (pc := 206) dX6_rule_206 rfl ?_
            refine ⟨_, rfl, ?_, Obs.rf, hC⟩
            unfold aRule
            rw [if_neg (by omega), if_neg (by omega), if_neg (by omega), if_neg (by omega), if_neg (by omega), if_neg (by omega), if_neg (by omega), if_neg (by omega), if_neg (by omega), if_neg (by omega), if_neg (by omega)]
            first | rw [if_pos c_185] | rw [if_neg c_185]
            first | rw [if_pos c_197] | rw [if_neg c_197]
          · refine wp_iconst (pc := 200) dX6_rule_200 (by decide) ?_
            refine wp_goto (pc := 201) 205 dX6_rule_201 (by decide) ?_
            refine wp_iadd (pc := 205) dX6_rule_205 (by omega) ?_
            refine wp_ireturn (pc := 206) dX6_rule_206 rfl ?_
            refine ⟨_, rfl, ?_, Obs.rf, hC⟩
            unfold aRule
            rw [if_neg (by omega), if_neg (by omega), if_neg (by omega), if_neg (by omega), if_neg (by omega), if_neg (by omega), if_neg (by omega), if_neg (by omega), if_neg (by omega), if_neg (by omega), if_neg (by omega)]
            first | rw [if_pos c_185] | rw [if_neg c_185]
            first | rw [if_pos c_197] | rw [if_neg c_197]
    · refine wp_aload_n (pc := 12) dX6_rule_12 rfl rfl ?_
      refine wp_getR (pc := 13) (q := 14) dX6_rule_13 fl_X6_23 rfl ?_
      refine wp_getR (pc := 16) (q := 19) dX6_rule_16 fl_X6_108 rfl ?_
      refine wp_iload_n (pc := 19) dX6_rule_19 rfl rfl ?_
      refine wp_bipush (pc := 20) dX6_rule_20 (by decide) (by decide) ?_
      refine wp_isub (pc := 22) dX6_rule_22 (by omega) ?_
      refine wp_iald (pc := 23) 6 dX6_rule_23 rfl (by omega) ?_
      refine wp_ireturn (pc := 24) dX6_rule_24 rfl ?_
      refine ⟨_, rfl, ?_, Obs.rf, hC⟩
      unfold aRule
      rw [if_neg (by omega), if_pos (by omega)]
      exact ((n5 _).2.2.2.2).symm
set_option maxHeartbeats 4000000 in
set_option maxRecDepth 100000 in
theorem c_drawnHeight {σ D S : Sto} {p : Int} (hC : CI σ D S) (hp : 0 ≤ p ∧ p < σ 14 0) : CtI yX6_drawnHeight cX6_drawnHeight 2 (some .int) 1 [mR 0, mI p] σ (fun z σ' => z = (if D 2 p < 0 then 0 else hgt D p) ∧ Obs σ σ' ∧ CI σ' D S) := by
  refine ct_of rfl [some (mR 0), some (mI p)] (Nat.le_of_ble_eq_true rfl) rfl (fun hσ => ?_)
  show Wp cX6_drawnHeight RX6 (some .int) 1 0 [some (mR 0), some (mI p)] [] _ _
  obtain ⟨n1, n2, n3, n4, n5, n6, n7⟩ := hC.n
  have e1 := hC.1
  have e2 := hC.2.1
  refine wp_aload_n (pc := 0) dX6_drawnHeight_0 rfl rfl ?_
  refine wp_getR (pc := 1) (q := 39) dX6_drawnHeight_1 fl_X6_47 rfl ?_
  refine wp_iload_n (pc := 4) dX6_drawnHeight_4 rfl rfl ?_
  refine wp_cvV1 (pc := 5) dX6_drawnHeight_5 mv_X6_200 (c_draw (by rw [e1, e2]; exact hC.2.2.1) (by rw [e2]; exact hC.2.2.2.1) hp) (Nat.le_of_ble_eq_true rfl) rfl (Nat.le_of_ble_eq_true rfl) (fun σ_5 h_5 => ?_)
  obtain ⟨f5, d5⟩ := h_5
  refine wp_aload_n (pc := 8) dX6_drawnHeight_8 rfl rfl ?_
  refine wp_getR (pc := 9) (q := 39) dX6_drawnHeight_9 fl_X6_47 rfl ?_
  refine wp_getI (pc := 12) 2 dX6_drawnHeight_12 fl_X6_282 rfl rfl ?_
  refine wp_ireturn (pc := 15) dX6_drawnHeight_15 rfl ?_
  have hx := hC.drw f5 (by decide)
  refine ⟨_, rfl, ?_, hx.1, hx.2⟩
  unfold drwn at d5
  rw [(n5 p).2.1]
  split at d5
  · rw [if_pos (by assumption)]; exact d5.1
  · rw [if_neg (by assumption), ← e1]; exact d5.1
set_option maxHeartbeats 4000000 in
set_option maxRecDepth 100000 in
theorem c_parLies {σ D S : Sto} {p w : Int} (hC : CI σ D S) (hp : 0 ≤ p ∧ p < σ 14 0) (hw : w < 0 ∨ 3 < w) : CtI yX6_parLies cX6_parLies 6 (some .int) 5 [mR 0, mI p, mI w] σ (fun z σ' => z = aPar D S p w ∧ Obs σ σ' ∧ CI σ' D S) := by
  refine ct_of rfl [some (mR 0), some (mI p), some (mI w), none, none, none] (Nat.le_of_ble_eq_true rfl) rfl (fun hσ => ?_)
  show Wp cX6_parLies RX6 (some .int) 5 0 [some (mR 0), some (mI p), some (mI w), none, none, none] [] _ _
  obtain ⟨n1, n2, n3, n4, n5, n6, n7⟩ := hC.n
  have hD := hC.2.2.1
  have hS := hC.2.2.2.1
  have hnl := nL_bd hD
  have hb := LBb hD hp.1 (show p < D 0 0 by omega)
  have hE := LE_eq D S hp.1
  have hEn := LE_nL hD hp.1 (show p < D 0 0 by omega)
  have hown : ∀ k, 0 ≤ k → k < LM D S p → own D S (LB D S p + k) = p := fun k k0 k1 => own_in hD hp.1 (by omega) (by omega) (by omega)
  refine wp_aload_n (pc := 0) dX6_parLies_0 rfl rfl ?_
  refine wp_cvR0 (pc := 1) dX6_parLies_1 mv_X6_122 (c_laid hC) (Nat.le_of_ble_eq_true rfl) rfl (Nat.le_of_ble_eq_true rfl) (fun z_1 σ_1 h_1 => ?_)
  obtain ⟨rfl, o_1, C_1, l_1⟩ := h_1
  refine wp_astore_n (pc := 4) dX6_parLies_4 rfl (Nat.le_of_ble_eq_true rfl) rfl ?_
  have en : σ_1 49 3 = nL D S := l_1.1
  have e50 := (l_1.2.1 p hp.1 (by omega)).1
  have e51 := (l_1.2.2.1 p hp.1 (by omega)).1
  refine wp_aload_n (pc := 5) dX6_parLies_5 rfl rfl ?_
  refine wp_getR (pc := 6) (q := 50) dX6_parLies_6 fl_X6_285 rfl ?_
  refine wp_iload_n (pc := 9) dX6_parLies_9 rfl rfl ?_
  refine wp_iald (pc := 10) 8 dX6_parLies_10 rfl (by omega) ?_
  rw [e50]
  refine wp_istore (pc := 11) dX6_parLies_11 (Nat.le_of_ble_eq_true rfl) rfl ?_
  refine wp_aload_n (pc := 13) dX6_parLies_13 rfl rfl ?_
  refine wp_getR (pc := 14) (q := 51) dX6_parLies_14 fl_X6_286 rfl ?_
  refine wp_iload_n (pc := 17) dX6_parLies_17 rfl rfl ?_
  refine wp_iald (pc := 18) 8 dX6_parLies_18 rfl (by omega) ?_
  rw [e51]
  refine wp_istore (pc := 19) dX6_parLies_19 (Nat.le_of_ble_eq_true rfl) rfl ?_
  refine wp_iload_n (pc := 21) dX6_parLies_21 rfl rfl ?_
  refine wp_top (fun sw_22 esw_22 => ?_)
  rcases (show (sw_22 < 4 ∨ 9 < sw_22) ∨ sw_22 = 4 ∨ sw_22 = 5 ∨ sw_22 = 6 ∨ sw_22 = 7 ∨ sw_22 = 8 ∨ sw_22 = 9 by omega) with c_22 | c_22 | c_22 | c_22 | c_22 | c_22 | c_22
  · refine wp_tabOut (pc := 22) 107 dX6_parLies_22 c_22 (by decide) ?_
    refine wp_iconst (pc := 107) dX6_parLies_107 (by decide) ?_
    refine wp_ireturn (pc := 108) dX6_parLies_108 rfl ?_
    refine ⟨_, rfl, ?_, o_1, C_1⟩
    unfold aPar
    rw [if_pos (by omega)]
  · refine wp_tabIn (pc := 22) (38) 60 dX6_parLies_22 (by omega) (by omega) (by rw [c_22]; rfl) (by decide) ?_
    refine wp_iload (pc := 60) dX6_parLies_60 rfl ?_
    refine wp_ireturn (pc := 62) dX6_parLies_62 rfl ?_
    refine ⟨_, rfl, ?_, o_1, C_1⟩
    unfold aPar
    rw [if_neg (by omega), if_neg (by omega), if_neg (by omega), if_neg (by omega), if_neg (by omega), if_pos (by omega)]
  · refine wp_tabIn (pc := 22) (41) 63 dX6_parLies_22 (by omega) (by omega) (by rw [c_22]; rfl) (by decide) ?_
    refine wp_iload (pc := 63) dX6_parLies_63 rfl ?_
    refine wp_iload (pc := 65) dX6_parLies_65 rfl ?_
    refine wp_isub (pc := 67) dX6_parLies_67 (by omega) ?_
    refine wp_ireturn (pc := 68) dX6_parLies_68 rfl ?_
    refine ⟨_, rfl, ?_, o_1, C_1⟩
    unfold aPar
    rw [if_neg (by omega), if_neg (by omega), if_neg (by omega), if_neg (by omega), if_neg (by omega), if_neg (by omega), if_pos (by omega)]
    omega
  · refine wp_tabIn (pc := 22) (47) 69 dX6_parLies_22 (by omega) (by omega) (by rw [c_22]; rfl) (by decide) ?_
    refine wp_aload_n (pc := 69) dX6_parLies_69 rfl rfl ?_
    refine wp_iload (pc := 70) dX6_parLies_70 rfl ?_
    refine wp_iload (pc := 72) dX6_parLies_72 rfl ?_
    refine wp_cvI2 (pc := 74) dX6_parLies_74 mv_X6_132 (c_clashesWithin_49 (by omega) (by omega)) (Nat.le_of_ble_eq_true rfl) rfl (Nat.le_of_ble_eq_true rfl) (fun z_74 σ_74 h_74 => ?_)
    obtain ⟨rfl, e_74⟩ := h_74; have e2_74 := e_74.symm; subst e2_74
    rw [en, show min (LE D S p) (nL D S) - LB D S p = LM D S p by omega]
    refine wp_ireturn (pc := 77) dX6_parLies_77 rfl ?_
    refine ⟨_, rfl, ?_, o_1, C_1⟩
    unfold aPar
    rw [if_neg (by omega), if_neg (by omega), if_neg (by omega), if_neg (by omega), if_neg (by omega), if_neg (by omega), if_neg (by omega), if_pos (by omega)]
    exact (lay_sums hD l_1 (a := LB D S p) (n := LM D S p) (by omega) (by omega)).1
  · refine wp_tabIn (pc := 22) (56) 78 dX6_parLies_22 (by omega) (by omega) (by rw [c_22]; rfl) (by decide) ?_
    refine wp_aload_n (pc := 78) dX6_parLies_78 rfl rfl ?_
    refine wp_iload (pc := 79) dX6_parLies_79 rfl ?_
    refine wp_iload (pc := 81) dX6_parLies_81 rfl ?_
    refine wp_cvI2 (pc := 83) dX6_parLies_83 mv_X6_289 (c_firstClashWithin (by omega) (by omega)) (Nat.le_of_ble_eq_true rfl) rfl (Nat.le_of_ble_eq_true rfl) (fun z_83 σ_83 h_83 => ?_)
    obtain ⟨f83, e_83⟩ := h_83; have e2_83 := e_83.symm; subst e2_83
    refine wp_ireturn (pc := 86) dX6_parLies_86 rfl ?_
    refine ⟨_, rfl, ?_, o_1, C_1⟩
    unfold aPar
    rw [if_neg (by omega), if_neg (by omega), if_neg (by omega), if_neg (by omega), if_neg (by omega), if_neg (by omega), if_neg (by omega), if_neg (by omega), if_pos (by omega)]
    have ex : ∀ l, LB D S p ≤ l → l < LE D S p → σ_1 59 l = lX D S l := fun l l0 l1 => (lay_line hD l_1 (l := l) (by omega) (by omega)).2.1
    unfold fcl
    rcases f83 with ⟨q1, q2⟩ | ⟨q1, q2, q3, q4⟩
    · have e9 : fnd (fun t => lX D S (LB D S p + t)) (LM D S p) 1 = -4 := fnd_none (fun k k0 k1 => by have h1 := q2 (LB D S p + k) (by omega) (by omega); rw [ex _ (by omega) (by omega)] at h1; omega)
      rw [e9, if_pos rfl]
      exact q1
    · have e9 : fnd (fun t => lX D S (LB D S p + t)) (LM D S p) 1 = z_83 - LB D S p := fnd_hit (by omega) (by omega) (fun k k0 k1 => by have h1 := q4 (LB D S p + k) (by omega) (by omega); rw [ex _ (by omega) (by omega)] at h1; omega) (by
          rw [ex z_83 q1 q2] at q3
          have := lX_01 D S z_83
          show lX D S (LB D S p + (z_83 - LB D S p)) = 1
          rw [show LB D S p + (z_83 - LB D S p) = z_83 by omega]
          omega)
      rw [e9, if_neg (by omega)]
      omega
  · refine wp_tabIn (pc := 22) (65) 87 dX6_parLies_22 (by omega) (by omega) (by rw [c_22]; rfl) (by decide) ?_
    refine wp_aload_n (pc := 87) dX6_parLies_87 rfl rfl ?_
    refine wp_iload (pc := 88) dX6_parLies_88 rfl ?_
    refine wp_iload (pc := 90) dX6_parLies_90 rfl ?_
    refine wp_cvI2 (pc := 92) dX6_parLies_92 mv_X6_136 (c_oversWithin_49 (by omega) (by omega)) (Nat.le_of_ble_eq_true rfl) rfl (Nat.le_of_ble_eq_true rfl) (fun z_92 σ_92 h_92 => ?_)
    obtain ⟨rfl, e_92⟩ := h_92; have e2_92 := e_92.symm; subst e2_92
    rw [en, show min (LE D S p) (nL D S) - LB D S p = LM D S p by omega]
    refine wp_ireturn (pc := 95) dX6_parLies_95 rfl ?_
    refine ⟨_, rfl, ?_, o_1, C_1⟩
    unfold aPar
    rw [if_neg (by omega), if_neg (by omega), if_neg (by omega), if_neg (by omega), if_neg (by omega), if_neg (by omega), if_neg (by omega), if_neg (by omega), if_neg (by omega), if_pos (by omega)]
    exact (lay_sums hD l_1 (a := LB D S p) (n := LM D S p) (by omega) (by omega)).2
  · refine wp_tabIn (pc := 22) (74) 96 dX6_parLies_22 (by omega) (by omega) (by rw [c_22]; rfl) (by decide) ?_
    refine wp_aload_n (pc := 96) dX6_parLies_96 rfl rfl ?_
    refine wp_iload (pc := 97) dX6_parLies_97 rfl ?_
    refine wp_iload (pc := 99) dX6_parLies_99 rfl ?_
    refine wp_iconst (pc := 101) dX6_parLies_101 (by decide) ?_
    refine wp_isub (pc := 102) dX6_parLies_102 (by omega) ?_
    have hsl : ∀ l, LB D S p ≤ l → l < LE D S p - 1 → 0 ≤ σ_1 53 l ∧ 0 ≤ σ_1 57 l ∧ σ_1 57 l ≤ 99 ∧ 0 ≤ σ_1 58 l := fun l l0 l1 => by
      have h1 := lay_line hD l_1 (l := l) (by omega) (by omega)
      have h2 := own_in hD hp.1 (show p < D 0 0 by omega) (l := l) (by omega) (by omega)
      have h3 := h1.2.2 (by omega)
      have h4 := lU_bd hD hS (l := l) (by omega)
      rw [h1.1, h3.2.2.2.1, h3.2.2.2.2]
      omega
    refine wp_cvI2 (pc := 103) dX6_parLies_103 mv_X6_292 (c_slacksSquared (by omega) (by omega) hsl) (Nat.le_of_ble_eq_true rfl) rfl (Nat.le_of_ble_eq_true rfl) (fun z_103 σ_103 h_103 => ?_)
    obtain ⟨rfl, e_103⟩ := h_103; have e2_103 := e_103.symm; subst e2_103
    refine wp_ireturn (pc := 106) dX6_parLies_106 rfl ?_
    refine ⟨_, rfl, ?_, o_1, C_1⟩
    unfold aPar
    rw [if_neg (by omega), if_neg (by omega), if_neg (by omega), if_neg (by omega), if_neg (by omega), if_neg (by omega), if_neg (by omega), if_neg (by omega), if_neg (by omega), if_neg (by omega), show LE D S p - 1 - LB D S p = LM D S p - 1 by omega]
    refine sumI_cong (fun k k0 k1 => ?_)
    have h1 := lay_line hD l_1 (l := LB D S p + k) (by omega) (by omega)
    have h3 := h1.2.2 (by rw [hown k k0 (by omega)]; exact hp.1)
    unfold slk
    rw [h3.2.2.2.1, h3.2.2.2.2]
set_option maxHeartbeats 4000000 in
set_option maxRecDepth 100000 in
theorem c_par {σ D S : Sto} {p w : Int} (hC : CI σ D S) : CtI yX6_par cX6_par 3 (some .int) 6 [mR 0, mI p, mI w] σ (fun z σ' => z = aPar D S p w ∧ Obs σ σ' ∧ CI σ' D S) := by
  refine ct_of rfl [some (mR 0), some (mI p), some (mI w)] (Nat.le_of_ble_eq_true rfl) rfl (fun hσ => ?_)
  show Wp cX6_par RX6 (some .int) 6 0 [some (mR 0), some (mI p), some (mI w)] [] _ _
  obtain ⟨n1, n2, n3, n4, n5, n6, n7⟩ := hC.n
  have n5p := n5 p
  refine wp_aload_n (pc := 0) dX6_par_0 rfl rfl ?_
  refine wp_iload_n (pc := 1) dX6_par_1 rfl rfl ?_
  refine wp_cvI1 (pc := 2) dX6_par_2 mv_X6_161 c_isPar (Nat.le_of_ble_eq_true rfl) rfl (Nat.le_of_ble_eq_true rfl) (fun z_2 σ_2 h_2 => ?_)
  obtain ⟨zz_2, e_2⟩ := h_2; have e2_2 := e_2.symm; subst e2_2; have y_2 : (z_2 = 1 ∧ 0 ≤ p ∧ p < σ 14 0) ∨ (z_2 = 0 ∧ ¬ (0 ≤ p ∧ p < σ 14 0)) := by split at zz_2 <;> omega
  refine wp_if_ne (pc := 5) 10 dX6_par_5 (by decide) (fun c_5 => ?_) (fun c_5 => ?_)
  · refine wp_iload_n (pc := 10) dX6_par_10 rfl rfl ?_
    refine wp_top (fun sw_11 esw_11 => ?_)
    rcases (show (sw_11 < 0 ∨ 3 < sw_11) ∨ sw_11 = 0 ∨ sw_11 = 1 ∨ sw_11 = 2 ∨ sw_11 = 3 by omega) with c_11 | c_11 | c_11 | c_11 | c_11
    · refine wp_tabOut (pc := 11) 76 dX6_par_11 c_11 (by decide) ?_
      refine wp_aload_n (pc := 76) dX6_par_76 rfl rfl ?_
      refine wp_iload_n (pc := 77) dX6_par_77 rfl rfl ?_
      refine wp_iload_n (pc := 78) dX6_par_78 rfl rfl ?_
      refine wp_cvI2 (pc := 79) dX6_par_79 mv_X6_176 (c_parLies hC (by omega) (by omega)) (Nat.le_of_ble_eq_true rfl) rfl (Nat.le_of_ble_eq_true rfl) (fun z_79 σ_79 h_79 => ?_)
      obtain ⟨z79, o79, C79⟩ := h_79
      refine wp_ireturn (pc := 82) dX6_par_82 rfl ?_
      exact ⟨_, rfl, z79, o79, C79⟩
    · refine wp_tabIn (pc := 11) (29) 40 dX6_par_11 (by omega) (by omega) (by rw [c_11]; rfl) (by decide) ?_
      refine wp_aload_n (pc := 40) dX6_par_40 rfl rfl ?_
      refine wp_getR (pc := 41) (q := 14) dX6_par_41 fl_X6_23 rfl ?_
      refine wp_getR (pc := 44) (q := 16) dX6_par_44 fl_X6_164 rfl ?_
      refine wp_iload_n (pc := 47) dX6_par_47 rfl rfl ?_
      refine wp_iald (pc := 48) 8 dX6_par_48 rfl (by omega) ?_
      refine wp_ireturn (pc := 49) dX6_par_49 rfl ?_
      exact ⟨_, rfl, by unfold aPar; rw [if_neg (by omega), if_pos (by omega)]; omega, Obs.rf, hC⟩
    · refine wp_tabIn (pc := 11) (39) 50 dX6_par_11 (by omega) (by omega) (by rw [c_11]; rfl) (by decide) ?_
      refine wp_aload_n (pc := 50) dX6_par_50 rfl rfl ?_
      refine wp_getR (pc := 51) (q := 14) dX6_par_51 fl_X6_23 rfl ?_
      refine wp_getR (pc := 54) (q := 17) dX6_par_54 fl_X6_167 rfl ?_
      refine wp_iload_n (pc := 57) dX6_par_57 rfl rfl ?_
      refine wp_iald (pc := 58) 8 dX6_par_58 rfl (by omega) ?_
      refine wp_ireturn (pc := 59) dX6_par_59 rfl ?_
      exact ⟨_, rfl, by unfold aPar; rw [if_neg (by omega), if_neg (by omega), if_pos (by omega)]; omega, Obs.rf, hC⟩
    · refine wp_tabIn (pc := 11) (49) 60 dX6_par_11 (by omega) (by omega) (by rw [c_11]; rfl) (by decide) ?_
      refine wp_aload_n (pc := 60) dX6_par_60 rfl rfl ?_
      refine wp_getR (pc := 61) (q := 14) dX6_par_61 fl_X6_23 rfl ?_
      refine wp_getR (pc := 64) (q := 18) dX6_par_64 fl_X6_170 rfl ?_
      refine wp_iload_n (pc := 67) dX6_par_67 rfl rfl ?_
      refine wp_iald (pc := 68) 8 dX6_par_68 rfl (by omega) ?_
      refine wp_ireturn (pc := 69) dX6_par_69 rfl ?_
      exact ⟨_, rfl, by unfold aPar; rw [if_neg (by omega), if_neg (by omega), if_neg (by omega), if_pos (by omega)]; omega, Obs.rf, hC⟩
    · refine wp_tabIn (pc := 11) (59) 70 dX6_par_11 (by omega) (by omega) (by rw [c_11]; rfl) (by decide) ?_
      refine wp_aload_n (pc := 70) dX6_par_70 rfl rfl ?_
      refine wp_iload_n (pc := 71) dX6_par_71 rfl rfl ?_
      refine wp_cvI1 (pc := 72) dX6_par_72 mv_X6_173 (c_drawnHeight hC (by omega)) (Nat.le_of_ble_eq_true rfl) rfl (Nat.le_of_ble_eq_true rfl) (fun z_72 σ_72 h_72 => ?_)
      obtain ⟨z72, o72, C72⟩ := h_72
      refine wp_ireturn (pc := 75) dX6_par_75 rfl ?_
      exact ⟨_, rfl, by unfold aPar; rw [if_neg (by omega), if_neg (by omega), if_neg (by omega), if_neg (by omega), if_pos (by omega)]; exact z72, o72, C72⟩
  · refine wp_iconst (pc := 8) dX6_par_8 (by decide) ?_
    refine wp_ireturn (pc := 9) dX6_par_9 rfl ?_
    exact ⟨_, rfl, by unfold aPar; rw [if_pos (by omega)], Obs.rf, hC⟩
set_option maxHeartbeats 4000000 in
set_option maxRecDepth 100000 in
theorem c_reach {σ D S : Sto} {p j : Int} (hC : CI σ D S) : CtI yX6_reach cX6_reach 3 (some .int) 1 [mR 0, mI p, mI j] σ (fun z σ' => z = aReach D S p j ∧ Obs σ σ' ∧ CI σ' D S) := by
  refine ct_of rfl [some (mR 0), some (mI p), some (mI j)] (Nat.le_of_ble_eq_true rfl) rfl (fun hσ => ?_)
  show Wp cX6_reach RX6 (some .int) 1 0 [some (mR 0), some (mI p), some (mI j)] [] _ _
  obtain ⟨n1, n2, n3, n4, n5, n6, n7⟩ := hC.n
  have n5p := n5 p
  have e1 := hC.1
  have e2 := hC.2.1
  refine wp_aload_n (pc := 0) dX6_reach_0 rfl rfl ?_
  refine wp_iload_n (pc := 1) dX6_reach_1 rfl rfl ?_
  refine wp_cvI1 (pc := 2) dX6_reach_2 mv_X6_161 c_isPar (Nat.le_of_ble_eq_true rfl) rfl (Nat.le_of_ble_eq_true rfl) (fun z_2 σ_2 h_2 => ?_)
  obtain ⟨zz_2, e_2⟩ := h_2; have e2_2 := e_2.symm; subst e2_2; have y_2 : (z_2 = 1 ∧ 0 ≤ p ∧ p < σ 14 0) ∨ (z_2 = 0 ∧ ¬ (0 ≤ p ∧ p < σ 14 0)) := by split at zz_2 <;> omega
  refine wp_if_eq (pc := 5) 12 dX6_reach_5 (by decide) (fun c_5 => ?_) (fun c_5 => ?_)
  · refine wp_iconst (pc := 12) dX6_reach_12 (by decide) ?_
    refine wp_ireturn (pc := 13) dX6_reach_13 rfl ?_
    exact ⟨_, rfl, by unfold aReach; rw [if_pos (by omega)], Obs.rf, hC⟩
  · refine wp_iload_n (pc := 8) dX6_reach_8 rfl rfl ?_
    refine wp_if_ge (pc := 9) 14 dX6_reach_9 (by decide) (fun c_9 => ?_) (fun c_9 => ?_)
    · refine wp_aload_n (pc := 14) dX6_reach_14 rfl rfl ?_
      refine wp_getR (pc := 15) (q := 14) dX6_reach_15 fl_X6_23 rfl ?_
      refine wp_iload_n (pc := 18) dX6_reach_18 rfl rfl ?_
      refine wp_cvI1 (pc := 19) dX6_reach_19 mv_X6_215 (c_hasShape (by omega)) (Nat.le_of_ble_eq_true rfl) rfl (Nat.le_of_ble_eq_true rfl) (fun z_19 σ_19 h_19 => ?_)
      obtain ⟨zz_19, e_19⟩ := h_19; have e2_19 := e_19.symm; subst e2_19; have y_19 : (z_19 = 0 ∧ σ 17 p < 0) ∨ (z_19 = 1 ∧ ¬ σ 17 p < 0) := by split at zz_19 <;> omega
      refine wp_if_ne (pc := 22) 28 dX6_reach_22 (by decide) (fun c_22 => ?_) (fun c_22 => ?_)
      · refine wp_aload_n (pc := 28) dX6_reach_28 rfl rfl ?_
        refine wp_getR (pc := 29) (q := 39) dX6_reach_29 fl_X6_47 rfl ?_
        refine wp_iload_n (pc := 32) dX6_reach_32 rfl rfl ?_
        refine wp_cvV1 (pc := 33) dX6_reach_33 mv_X6_200 (c_draw (by rw [e1, e2]; exact hC.2.2.1) (by rw [e2]; exact hC.2.2.2.1) (by omega)) (Nat.le_of_ble_eq_true rfl) rfl (Nat.le_of_ble_eq_true rfl) (fun σ_33 h_33 => ?_)
        obtain ⟨f33, d33⟩ := h_33
        have hx := hC.drw f33 (by decide)
        refine wp_aload_n (pc := 36) dX6_reach_36 rfl rfl ?_
        refine wp_getR (pc := 37) (q := 39) dX6_reach_37 fl_X6_47 rfl ?_
        refine wp_iload_n (pc := 40) dX6_reach_40 rfl rfl ?_
        refine wp_cvI1 (pc := 41) dX6_reach_41 mv_X6_218 (c_reachAt (by rw [e1, e2]; exact hC.2.2.1) (by rw [e2]; exact hC.2.2.2.1) (by omega) d33 (f33 19 (by decide))) (Nat.le_of_ble_eq_true rfl) rfl (Nat.le_of_ble_eq_true rfl) (fun z_41 σ_41 h_41 => ?_)
        obtain ⟨rfl, e_41⟩ := h_41; have e2_41 := e_41.symm; subst e2_41
        rw [e1, e2]
        refine wp_ireturn (pc := 44) dX6_reach_44 rfl ?_
        exact ⟨_, rfl, by unfold aReach; rw [if_neg (by omega), if_neg (by omega)], hx.1, hx.2⟩
      · refine wp_bipush (pc := 25) dX6_reach_25 (by decide) (by decide) ?_
        refine wp_ireturn (pc := 27) dX6_reach_27 rfl ?_
        exact ⟨_, rfl, by unfold aReach; rw [if_neg (by omega), if_pos (by omega)], Obs.rf, hC⟩
    · refine wp_iconst (pc := 12) dX6_reach_12 (by decide) ?_
      refine wp_ireturn (pc := 13) dX6_reach_13 rfl ?_
      exact ⟨_, rfl, by unfold aReach; rw [if_pos (by omega)], Obs.rf, hC⟩
set_option maxHeartbeats 4000000 in
set_option maxRecDepth 100000 in
theorem c_drawn {σ D S : Sto} {p i w : Int} (hC : CI σ D S) : CtI yX6_drawn cX6_drawn 4 (some .int) 1 [mR 0, mI p, mI i, mI w] σ (fun z σ' => z = aDrawn D S p i w ∧ Obs σ σ' ∧ CI σ' D S) := by
  refine ct_of rfl [some (mR 0), some (mI p), some (mI i), some (mI w)] (Nat.le_of_ble_eq_true rfl) rfl (fun hσ => ?_)
  show Wp cX6_drawn RX6 (some .int) 1 0 [some (mR 0), some (mI p), some (mI i), some (mI w)] [] _ _
  obtain ⟨n1, n2, n3, n4, n5, n6, n7⟩ := hC.n
  have n5p := n5 p
  have e1 := hC.1
  have e2 := hC.2.1
  have hst : 0 ≤ p → p < σ 14 0 → ¬ σ 17 p < 0 → 1 ≤ σ 5 (σ 17 p) ∧ σ 5 (σ 17 p) ≤ 8 := fun a b c => by
    have h9 := hC.2.2.1.2.2.2.1 p a (by omega)
    have := (hC.2.2.2.1.2 (σ 17 p) (by omega) (by omega)).2.2.1
    rw [(n6 _).2.2.1] at this
    exact this
  refine wp_aload_n (pc := 0) dX6_drawn_0 rfl rfl ?_
  refine wp_iload_n (pc := 1) dX6_drawn_1 rfl rfl ?_
  refine wp_cvI1 (pc := 2) dX6_drawn_2 mv_X6_161 c_isPar (Nat.le_of_ble_eq_true rfl) rfl (Nat.le_of_ble_eq_true rfl) (fun z_2 σ_2 h_2 => ?_)
  obtain ⟨zz_2, e_2⟩ := h_2; have e2_2 := e_2.symm; subst e2_2; have y_2 : (z_2 = 1 ∧ 0 ≤ p ∧ p < σ 14 0) ∨ (z_2 = 0 ∧ ¬ (0 ≤ p ∧ p < σ 14 0)) := by split at zz_2 <;> omega
  refine wp_if_eq (pc := 5) 21 dX6_drawn_5 (by decide) (fun c_5 => ?_) (fun c_5 => ?_)
  · refine wp_iconst (pc := 21) dX6_drawn_21 (by decide) ?_
    refine wp_ireturn (pc := 22) dX6_drawn_22 rfl ?_
    exact ⟨_, rfl, by unfold aDrawn; rw [if_pos (by omega)], Obs.rf, hC⟩
  · refine wp_iload_n (pc := 8) dX6_drawn_8 rfl rfl ?_
    refine wp_if_lt (pc := 9) 21 dX6_drawn_9 (by decide) (fun c_9 => ?_) (fun c_9 => ?_)
    · refine wp_iconst (pc := 21) dX6_drawn_21 (by decide) ?_
      refine wp_ireturn (pc := 22) dX6_drawn_22 rfl ?_
      exact ⟨_, rfl, by unfold aDrawn; rw [if_pos (by omega)], Obs.rf, hC⟩
    · refine wp_iload_n (pc := 12) dX6_drawn_12 rfl rfl ?_
      refine wp_if_lt (pc := 13) 21 dX6_drawn_13 (by decide) (fun c_13 => ?_) (fun c_13 => ?_)
      · refine wp_iconst (pc := 21) dX6_drawn_21 (by decide) ?_
        refine wp_ireturn (pc := 22) dX6_drawn_22 rfl ?_
        exact ⟨_, rfl, by unfold aDrawn; rw [if_pos (by omega)], Obs.rf, hC⟩
      · refine wp_iload_n (pc := 16) dX6_drawn_16 rfl rfl ?_
        refine wp_iconst (pc := 17) dX6_drawn_17 (by decide) ?_
        refine wp_icmp_le (pc := 18) 23 dX6_drawn_18 (by decide) (fun c_18 => ?_) (fun c_18 => ?_)
        · refine wp_aload_n (pc := 23) dX6_drawn_23 rfl rfl ?_
          refine wp_getR (pc := 24) (q := 39) dX6_drawn_24 fl_X6_47 rfl ?_
          refine wp_iload_n (pc := 27) dX6_drawn_27 rfl rfl ?_
          refine wp_cvV1 (pc := 28) dX6_drawn_28 mv_X6_200 (c_draw (by rw [e1, e2]; exact hC.2.2.1) (by rw [e2]; exact hC.2.2.2.1) (by omega)) (Nat.le_of_ble_eq_true rfl) rfl (Nat.le_of_ble_eq_true rfl) (fun σ_28 h_28 => ?_)
          obtain ⟨f28, d28⟩ := h_28
          have hx := hC.drw f28 (by decide)
          have hst2 := hst (by omega) (by omega)
          have hn3 : σ_28 39 3 = if σ 17 p < 0 then 0 else σ 5 (σ 17 p) := by unfold drwn at d28; split at d28 <;> rename_i hq <;> simp only [hq, if_true, if_false] <;> omega
          have hn4 : (σ 17 p < 0 ∧ σ_28 39 3 = 0) ∨ (¬ σ 17 p < 0 ∧ σ_28 39 3 = σ 5 (σ 17 p)) := by split at hn3 <;> omega
          have hdd : ¬ σ 17 p < 0 → 0 ≤ i → i < σ 5 (σ 17 p) → σ_28 40 i = dbg D S p i ∧ σ_28 41 i = den D S p i ∧ σ_28 42 i = dex D S p i := fun a b c => by
            unfold drwn at d28
            rw [if_neg a, e1, e2] at d28
            exact d28.2.2 i b c
          have n6s := n6 (σ 17 p)
          refine wp_iload_n (pc := 31) dX6_drawn_31 rfl rfl ?_
          refine wp_aload_n (pc := 32) dX6_drawn_32 rfl rfl ?_
          refine wp_getR (pc := 33) (q := 39) dX6_drawn_33 fl_X6_47 rfl ?_
          refine wp_getI (pc := 36) 3 dX6_drawn_36 fl_X6_204 rfl rfl ?_
          refine wp_icmp_lt (pc := 39) 45 dX6_drawn_39 (by decide) (fun c_39 => ?_) (fun c_39 => ?_)
          · refine wp_iload_n (pc := 45) dX6_drawn_45 rfl rfl ?_
            refine wp_top (fun sw_46 esw_46 => ?_)
            rcases (show (sw_46 ≠ 0 ∧ sw_46 ≠ 1) ∨ sw_46 = 0 ∨ sw_46 = 1 by omega) with c_46 | c_46 | c_46
            · refine wp_look (pc := 46) (46) 92 dX6_drawn_46 (by decide) (by show Op.lookupswitch.offset [(0, 26), (1, 36)] (46) _ = _; rw [Op.lookupswitch.offset_cons, if_neg (by omega), Op.lookupswitch.offset_cons, if_neg (by omega)]; rfl) (by decide) ?_
              refine wp_aload_n (pc := 92) dX6_drawn_92 rfl rfl ?_
              refine wp_getR (pc := 93) (q := 39) dX6_drawn_93 fl_X6_47 rfl ?_
              refine wp_getR (pc := 96) (q := 42) dX6_drawn_96 fl_X6_212 rfl ?_
              refine wp_iload_n (pc := 99) dX6_drawn_99 rfl rfl ?_
              refine wp_iald (pc := 100) 8 dX6_drawn_100 rfl (by omega) ?_
              refine wp_ireturn (pc := 101) dX6_drawn_101 rfl ?_
              refine ⟨_, rfl, ?_, hx.1, hx.2⟩
              have h9 := hdd (by omega) (by omega) (by omega)
              unfold aDrawn
              rw [if_neg (by omega), n5p.2.1, if_neg (by omega)]
              first
                | (rw [if_pos (by omega)]; exact h9.1)
                | (rw [if_neg (by omega), if_pos (by omega)]; exact h9.2.1)
                | (rw [if_neg (by omega), if_neg (by omega)]; exact h9.2.2)
            · refine wp_look (pc := 46) (26) 72 dX6_drawn_46 (by decide) (by rw [c_46]; decide) (by decide) ?_
              refine wp_aload_n (pc := 72) dX6_drawn_72 rfl rfl ?_
              refine wp_getR (pc := 73) (q := 39) dX6_drawn_73 fl_X6_47 rfl ?_
              refine wp_getR (pc := 76) (q := 40) dX6_drawn_76 fl_X6_206 rfl ?_
              refine wp_iload_n (pc := 79) dX6_drawn_79 rfl rfl ?_
              refine wp_iald (pc := 80) 8 dX6_drawn_80 rfl (by omega) ?_
              refine wp_ireturn (pc := 81) dX6_drawn_81 rfl ?_
              refine ⟨_, rfl, ?_, hx.1, hx.2⟩
              have h9 := hdd (by omega) (by omega) (by omega)
              unfold aDrawn
              rw [if_neg (by omega), n5p.2.1, if_neg (by omega)]
              first
                | (rw [if_pos (by omega)]; exact h9.1)
                | (rw [if_neg (by omega), if_pos (by omega)]; exact h9.2.1)
                | (rw [if_neg (by omega), if_neg (by omega)]; exact h9.2.2)
            · refine wp_look (pc := 46) (36) 82 dX6_drawn_46 (by decide) (by rw [c_46]; decide) (by decide) ?_
              refine wp_aload_n (pc := 82) dX6_drawn_82 rfl rfl ?_
              refine wp_getR (pc := 83) (q := 39) dX6_drawn_83 fl_X6_47 rfl ?_
              refine wp_getR (pc := 86) (q := 41) dX6_drawn_86 fl_X6_209 rfl ?_
              refine wp_iload_n (pc := 89) dX6_drawn_89 rfl rfl ?_
              refine wp_iald (pc := 90) 8 dX6_drawn_90 rfl (by omega) ?_
              refine wp_ireturn (pc := 91) dX6_drawn_91 rfl ?_
              refine ⟨_, rfl, ?_, hx.1, hx.2⟩
              have h9 := hdd (by omega) (by omega) (by omega)
              unfold aDrawn
              rw [if_neg (by omega), n5p.2.1, if_neg (by omega)]
              first
                | (rw [if_pos (by omega)]; exact h9.1)
                | (rw [if_neg (by omega), if_pos (by omega)]; exact h9.2.1)
                | (rw [if_neg (by omega), if_neg (by omega)]; exact h9.2.2)
          · refine wp_bipush (pc := 42) dX6_drawn_42 (by decide) (by decide) ?_
            refine wp_ireturn (pc := 44) dX6_drawn_44 rfl ?_
            refine ⟨_, rfl, ?_, hx.1, hx.2⟩
            unfold aDrawn
            rw [if_neg (by omega), n5p.2.1, if_pos (by omega)]
        · refine wp_iconst (pc := 21) dX6_drawn_21 (by decide) ?_
          refine wp_ireturn (pc := 22) dX6_drawn_22 rfl ?_
          exact ⟨_, rfl, by unfold aDrawn; rw [if_pos (by omega)], Obs.rf, hC⟩
