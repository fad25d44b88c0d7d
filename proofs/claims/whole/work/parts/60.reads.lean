set_option maxHeartbeats 4000000 in
set_option maxRecDepth 100000 in
theorem SN_addS {σ : Sto} {g m : Int} : SN (upd2 (upd2 (upd2 (upd2 σ 9 (σ 8 0) g) 10 (σ 8 0) m) 11 (σ 8 0) 0) 8 0 (σ 8 0 + 1)) = adS (SN σ) g m := by
  have e0 : SN σ 0 0 = σ 8 0 := rfl
  funext k i
  show _ = adS (SN σ) g m k i
  unfold adS
  rw [e0]
  by_cases h0 : k = 0
  · subst h0; simp [SN, upd2]
  · by_cases h1 : k = 1
    · subst h1; simp [SN, upd2]
    · by_cases h2 : k = 2
      · subst h2; simp [SN, upd2]
      · by_cases h3 : k = 3
        · subst h3; simp [SN, upd2]
        · by_cases h4 : k = 4
          · subst h4; simp [SN, upd2]
          · simp [SN, upd2, h0, h1, h2, h3, h4]
def stS (S : Sto) (a b : Int) : Sto := updD (updD (updD S 4 ((S 0 0 - 1) * 8 + S 3 (S 0 0 - 1)) a) 5 ((S 0 0 - 1) * 8 + S 3 (S 0 0 - 1)) b) 3 (S 0 0 - 1) (S 3 (S 0 0 - 1) + 1)
set_option maxHeartbeats 4000000 in
set_option maxRecDepth 100000 in
theorem SN_addT {σ : Sto} {a b : Int} : SN (upd2 (upd2 (upd2 σ 12 ((σ 8 0 - 1) * 8 + σ 11 (σ 8 0 - 1)) a) 13 ((σ 8 0 - 1) * 8 + σ 11 (σ 8 0 - 1)) b) 11 (σ 8 0 - 1) (σ 11 (σ 8 0 - 1) + 1)) = stS (SN σ) a b := by
  have e0 : SN σ 0 0 = σ 8 0 := rfl
  have e3 : ∀ k, SN σ 3 k = σ 11 k := fun _ => rfl
  funext k i
  show _ = stS (SN σ) a b k i
  unfold stS
  rw [e0, e3]
  by_cases h0 : k = 0
  · subst h0; simp [SN, upd2, updD]
  · by_cases h1 : k = 1
    · subst h1; simp [SN, upd2, updD]
    · by_cases h2 : k = 2
      · subst h2; simp [SN, upd2, updD]
      · by_cases h3 : k = 3
        · subst h3; simp [SN, upd2, updD]
        · by_cases h4 : k = 4
          · subst h4; simp [SN, upd2, updD]
          · by_cases h5 : k = 5
            · subst h5; simp [SN, upd2, updD]
            · simp [SN, upd2, updD, h0, h1, h2, h3, h4, h5]
set_option maxHeartbeats 4000000 in
set_option maxRecDepth 100000 in
theorem RP.addS {t : Int → Int} {n : Int} {σ : Sto} {s : PS} (h : RP t n σ s) (g m : Int) : RP t n (upd2 (upd2 (upd2 (upd2 σ 9 (σ 8 0) g) 10 (σ 8 0) m) 11 (σ 8 0) 0) 8 0 (σ 8 0 + 1)) (s.wS (adS s.S g m)) := by
  have hf : Frm [8, 9, 10, 11] σ (upd2 (upd2 (upd2 (upd2 σ 9 (σ 8 0) g) 10 (σ 8 0) m) 11 (σ 8 0) 0) 8 0 (σ 8 0 + 1)) := (((Frm.rf.up (by decide)).up (by decide)).up (by decide)).up (by decide)
  have h7 := h.2.2.2.2.2.2.1
  have h8 := h.2.2.2.2.2.2.2.1
  have h9 := h.2.2.2.2.2.2.2.2.1
  refine h.wr (D := s.D) (S := adS s.S g m) hf (by decide) ((DN_of hf (by decide)).trans h7) (by rw [SN_addS, h8]) ?_
  rw [hf 20 (by decide)]; exact h9
set_option maxHeartbeats 4000000 in
set_option maxRecDepth 100000 in
theorem RP.addT {t : Int → Int} {n : Int} {σ : Sto} {s : PS} (h : RP t n σ s) (a b : Int) : RP t n (upd2 (upd2 (upd2 σ 12 ((σ 8 0 - 1) * 8 + σ 11 (σ 8 0 - 1)) a) 13 ((σ 8 0 - 1) * 8 + σ 11 (σ 8 0 - 1)) b) 11 (σ 8 0 - 1) (σ 11 (σ 8 0 - 1) + 1)) (s.wS (stS s.S a b)) := by
  have hf : Frm [11, 12, 13] σ (upd2 (upd2 (upd2 σ 12 ((σ 8 0 - 1) * 8 + σ 11 (σ 8 0 - 1)) a) 13 ((σ 8 0 - 1) * 8 + σ 11 (σ 8 0 - 1)) b) 11 (σ 8 0 - 1) (σ 11 (σ 8 0 - 1) + 1)) := ((Frm.rf.up (by decide)).up (by decide)).up (by decide)
  have h7 := h.2.2.2.2.2.2.1
  have h8 := h.2.2.2.2.2.2.2.1
  have h9 := h.2.2.2.2.2.2.2.2.1
  refine h.wr (D := s.D) (S := stS s.S a b) hf (by decide) ((DN_of hf (by decide)).trans h7) (by rw [SN_addT, h8]) ?_
  rw [hf 20 (by decide)]; exact h9
set_option maxHeartbeats 4000000 in
set_option maxRecDepth 100000 in
theorem pStps_s {t : Int → Int} {n h : Int} {k : Nat} {i lo : Int} {s : PS} : pStps t n h (k + 1) i lo s = if tkK t n s.x = 4 ∧ 0 < i then s.nx t n else if ¬ tkK t n s.x = 2 ∨ i = 8 then s.bad t n 2 else if ¬ (pStp t n s lo (if i = 0 then 0 else h - 1)).f = 0 then pStp t n s lo (if i = 0 then 0 else h - 1) else pStps t n h k (i + 1) (tkN t n s.x + 1) (pStp t n s lo (if i = 0 then 0 else h - 1)) := rfl
set_option maxHeartbeats 4000000 in
set_option maxRecDepth 100000 in
theorem pStp_at {t : Int → Int} {n : Int} {s : PS} {lo hi : Int} : pStp t n s lo hi = if ¬ (lo ≤ tkN t n s.x ∧ tkN t n s.x ≤ hi) then s.bad t n 3 else if ¬ (pNum t n 0 60 (s.nx t n)).f = 0 then pNum t n 0 60 (s.nx t n) else ((s.nx t n).nx t n).wS (stS s.S (tkN t n s.x) (tkN t n (s.nx t n).x)) := rfl
set_option maxHeartbeats 4000000 in
set_option maxRecDepth 100000 in
theorem c_readShapeP {t : Int → Int} {n : Int} {σ : Sto} {s P : PS} (h : RP t n σ s) (hS : OKS s.S) (hc : s.S 0 0 < 6) (hP : P = pShp t n s) : CtI yX4_readShape cX4_readShape 7 (some .boolean) 3 [mR 38] σ (fun z σ' => RQ t n σ σ' P z) := by
  refine ct_of rfl [some (mR 38), none, none, none, none, none, none] (Nat.le_of_ble_eq_true rfl) rfl (fun hσ => ?_)
  show Wp cX4_readShape RX4 (some .boolean) 3 0 [some (mR 38), none, none, none, none, none, none] [] _ _
  have hS6 := hS.1
  have lp : ∀ i, i ≤ 8 → 0 ≤ i → ∀ (τ : Sto) (q : PS) (sg ht lo : Int), RP t n τ q → q.S 0 0 = s.S 0 0 + 1 → q.S 3 (q.S 0 0 - 1) = i → Frm [8, 9, 10, 11, 12, 13, 20, 21, 22, 23, 24, 25, 38] σ τ → 1 ≤ ht ∧ ht ≤ 60 → 0 ≤ lo → P = pStps t n ht ((8 - i).toNat + 1) i lo q → Wp cX4_readShape RX4 (some .boolean) 3 83 [some (mR 38), some (mI sg), some (mI ht), some (mI lo), some (mI i), none, none] [] τ (fun v σ' => ∃ z, v = some (mI z) ∧ (fun z σ' => RQ t n σ σ' P z) z σ') := by
    refine up_ind 8 (fun i hi ih i0 τ q sg ht lo hq hc0 hci hF hht hlo he => ?_)
    have hx := hq.1.2.1
    rw [pStps_s] at he
    have w148 : ∀ (mo : Int) (ω : Sto), mo = (if i = 0 then 0 else ht - 1) → advP τ ω q.x → tkK t n q.x = 2 → ¬ i = 8 → Wp cX4_readShape RX4 (some .boolean) 3 148 [some (mR 38), some (mI sg), some (mI ht), some (mI lo), some (mI i), some (mI (tkN t n q.x)), none] [mI mo] ω (fun v σ' => ∃ z, v = some (mI z) ∧ (fun z σ' => RQ t n σ σ' P z) z σ') := by
      intro mo ω hmo ha hk h8
      obtain ⟨hr, a5, a6, a7, a8, a9, a10⟩ := hq.adv ha
      rw [if_neg (by omega), if_neg (by omega), ← hmo] at he
      have hmb : mo ≤ 60 := by split at hmo <;> omega
      refine wp_istore (pc := 148) dX4_readShape_148 (Nat.le_of_ble_eq_true rfl) rfl ?_
      refine wp_iload (pc := 150) dX4_readShape_150 rfl ?_
      refine wp_iload_n (pc := 152) dX4_readShape_152 rfl rfl ?_
      refine wp_icmp_lt (pc := 153) 163 dX4_readShape_153 (by decide) (fun c_153 => ?_) (fun c_153 => ?_)
      · refine wp_aload_n (pc := 163) dX4_readShape_163 rfl rfl ?_
        refine wp_iconst (pc := 164) dX4_readShape_164 (by decide) ?_
        refine wp_cvI1 (pc := 165) dX4_readShape_165 mv_X4_65 (c_refuse (w := 3)) (Nat.le_of_ble_eq_true rfl) rfl (Nat.le_of_ble_eq_true rfl) (fun z_165 σ_165 h_165 => ?_)
        obtain ⟨rfl, rfl⟩ := h_165
        refine wp_zreturn (pc := 168) dX4_readShape_168 rfl (by omega) ?_
        have eS : pStp t n q lo mo = q.bad t n 3 := by rw [pStp_at, if_pos (by omega)]
        have ef : (q.bad t n 3).f = 3 := by show (if tkK t n q.x = 0 then 1 else 3) = 3; rw [if_neg (by omega)]
        have eP : P = q.bad t n 3 := by rw [he, eS, if_pos (by rw [ef]; decide)]
        rw [eP]
        exact ⟨_, rfl, RQ.tr hF (RQ.no2 hq ha (by decide))⟩
      · refine wp_iload (pc := 156) dX4_readShape_156 rfl ?_
        refine wp_iload (pc := 158) dX4_readShape_158 rfl ?_
        refine wp_icmp_le (pc := 160) 169 dX4_readShape_160 (by decide) (fun c_160 => ?_) (fun c_160 => ?_)
        · refine wp_aload_n (pc := 169) dX4_readShape_169 rfl rfl ?_
          refine wp_iconst (pc := 170) dX4_readShape_170 (by decide) ?_
          refine wp_bipush (pc := 171) dX4_readShape_171 (by decide) (by decide) ?_
          refine wp_cvI2 (pc := 173) dX4_readShape_173 mv_X4_100 (c_readNumberP hr) (Nat.le_of_ble_eq_true rfl) rfl (Nat.le_of_ble_eq_true rfl) (fun z_173 σ_173 h_173 => ?_)
          obtain ⟨q173, v173⟩ := h_173
          refine wp_if_ne (pc := 176) 181 dX4_readShape_176 (by decide) (fun c_176 => ?_) (fun c_176 => ?_)
          · obtain ⟨y1, y2, y3⟩ : (pNum t n 0 60 (q.nx t n)).f = 0 ∧ z_173 = 1 ∧ RP t n σ_173 (pNum t n 0 60 (q.nx t n)) := by
              rcases q173.2 with y | y
              · exact y
              · exact absurd y.2.1 c_176
            obtain ⟨v1, v2, v3, v4⟩ := v173 y2
            rw [v4] at y3
            have e80 : σ_173 8 0 = q.S 0 0 := congrFun (congrFun y3.2.2.2.2.2.2.2.1 0) 0
            have e811 : ∀ k, σ_173 11 k = q.S 3 k := fun k => congrFun (congrFun y3.2.2.2.2.2.2.2.1 3) k
            have eS : pStp t n q lo mo = ((q.nx t n).nx t n).wS (stS q.S (tkN t n q.x) (tkN t n (q.nx t n).x)) := by rw [pStp_at, if_neg (by omega), if_neg (fun z => z y1)]
            refine wp_aload_n (pc := 181) dX4_readShape_181 rfl rfl ?_
            refine wp_getR (pc := 182) (q := 8) dX4_readShape_182 fl_X4_15 rfl ?_
            refine wp_iload (pc := 185) dX4_readShape_185 rfl ?_
            refine wp_aload_n (pc := 187) dX4_readShape_187 rfl rfl ?_
            refine wp_getI (pc := 188) 8 dX4_readShape_188 fl_X4_107 rfl rfl ?_
            refine wp_cvV2 (pc := 191) dX4_readShape_191 mv_X4_124 (c_addStep (by omega) (by rw [e80, e811, hci]; omega)) (Nat.le_of_ble_eq_true rfl) rfl (Nat.le_of_ble_eq_true rfl) (fun σ_191 h_191 => ?_)
            subst h_191
            refine wp_iload (pc := 194) dX4_readShape_194 rfl ?_
            refine wp_iconst (pc := 196) dX4_readShape_196 (by decide) ?_
            refine wp_iadd (pc := 197) dX4_readShape_197 (by omega) ?_
            refine wp_istore_n (pc := 198) dX4_readShape_198 rfl (Nat.le_of_ble_eq_true rfl) rfl ?_
            refine wp_iinc (pc := 199) dX4_readShape_199 rfl rfl (by omega) ?_
            refine wp_goto (pc := 202) 83 dX4_readShape_202 (by decide) ?_
            have hr3 := y3.addT (tkN t n q.x) (tkN t n (q.nx t n).x)
            rw [v1]
            have hg0 : ∀ a b, stS q.S a b 0 0 = q.S 0 0 := fun a b => by simp [stS, updD]
            refine wp_fgt [5, 6] (ih (by omega) (by omega) _ _ sg ht (tkN t n q.x + 1) hr3 ?_ ?_ ((((hF.tr ha.frm).tr q173.1).up (by decide)).up (by decide) |>.up (by decide)) hht (by omega) ?_)
            · show stS q.S (tkN t n q.x) (tkN t n (q.nx t n).x) 0 0 = _
              rw [hg0]; exact hc0
            · show stS q.S (tkN t n q.x) (tkN t n (q.nx t n).x) 3 (stS q.S (tkN t n q.x) (tkN t n (q.nx t n).x) 0 0 - 1) = _
              rw [hg0, ← hci]; simp [stS, updD]
            · rw [he, eS, if_neg (fun z => z hq.2.2.2.2.1), show (8 - i).toNat = (8 - (i + 1)).toNat + 1 by omega]
              rfl
          · refine wp_iconst (pc := 179) dX4_readShape_179 (by decide) ?_
            refine wp_zreturn (pc := 180) dX4_readShape_180 rfl (by omega) ?_
            refine ⟨_, rfl, ?_⟩
            rcases q173.2 with ⟨y1, y2, y3⟩ | ⟨y1, y2, y3⟩
            · omega
            · have eS : pStp t n q lo mo = pNum t n 0 60 (q.nx t n) := by rw [pStp_at, if_neg (by omega), if_pos y1]
              have eP : P = pNum t n 0 60 (q.nx t n) := by rw [he, eS, if_pos y1]
              rw [eP]
              rw [y2] at q173
              exact q173.tr (hF.tr ha.frm)
        · refine wp_aload_n (pc := 163) dX4_readShape_163 rfl rfl ?_
          refine wp_iconst (pc := 164) dX4_readShape_164 (by decide) ?_
          refine wp_cvI1 (pc := 165) dX4_readShape_165 mv_X4_65 (c_refuse (w := 3)) (Nat.le_of_ble_eq_true rfl) rfl (Nat.le_of_ble_eq_true rfl) (fun z_165 σ_165 h_165 => ?_)
          obtain ⟨rfl, rfl⟩ := h_165
          refine wp_zreturn (pc := 168) dX4_readShape_168 rfl (by omega) ?_
          have eS : pStp t n q lo mo = q.bad t n 3 := by rw [pStp_at, if_pos (by omega)]
          have ef : (q.bad t n 3).f = 3 := by show (if tkK t n q.x = 0 then 1 else 3) = 3; rw [if_neg (by omega)]
          have eP : P = q.bad t n 3 := by rw [he, eS, if_pos (by rw [ef]; decide)]
          rw [eP]
          exact ⟨_, rfl, RQ.tr hF (RQ.no2 hq ha (by decide))⟩
    refine wp_iload (pc := 83) dX4_readShape_83 rfl ?_
    refine wp_bipush (pc := 85) dX4_readShape_85 (by decide) (by decide) ?_
    refine wp_icmp_gt (pc := 87) 205 dX4_readShape_87 (by decide) (fun c_87 => ?_) (fun c_87 => ?_)
    · omega
    · refine wp_aload_n (pc := 90) dX4_readShape_90 rfl rfl ?_
      refine wp_cvV0 (pc := 91) dX4_readShape_91 mv_X4_52 (c_adv hq.1 hq.2.2.2.1) (Nat.le_of_ble_eq_true rfl) rfl (Nat.le_of_ble_eq_true rfl) (fun σ_91 h_91 => ?_)
      obtain ⟨hr, a5, a6, a7, a8, a9, a10⟩ := hq.adv h_91
      refine wp_aload_n (pc := 94) dX4_readShape_94 rfl rfl ?_
      refine wp_getI (pc := 95) 5 dX4_readShape_95 fl_X4_55 rfl rfl ?_
      refine wp_iconst (pc := 98) dX4_readShape_98 (by decide) ?_
      refine wp_icmp_ne (pc := 99) 109 dX4_readShape_99 (by decide) (fun c_99 => ?_) (fun c_99 => ?_)
      · refine wp_aload_n (pc := 109) dX4_readShape_109 rfl rfl ?_
        refine wp_getI (pc := 110) 5 dX4_readShape_110 fl_X4_55 rfl rfl ?_
        refine wp_iconst (pc := 113) dX4_readShape_113 (by decide) ?_
        refine wp_icmp_ne (pc := 114) 124 dX4_readShape_114 (by decide) (fun c_114 => ?_) (fun c_114 => ?_)
        · refine wp_aload_n (pc := 124) dX4_readShape_124 rfl rfl ?_
          refine wp_iconst (pc := 125) dX4_readShape_125 (by decide) ?_
          refine wp_cvI1 (pc := 126) dX4_readShape_126 mv_X4_65 (c_refuse (w := 2)) (Nat.le_of_ble_eq_true rfl) rfl (Nat.le_of_ble_eq_true rfl) (fun z_126 σ_126 h_126 => ?_)
          obtain ⟨rfl, rfl⟩ := h_126
          refine wp_zreturn (pc := 129) dX4_readShape_129 rfl (by omega) ?_
          have eP : P = q.bad t n 2 := by rw [he, if_neg (by omega), if_pos (by omega)]
          rw [eP]
          exact ⟨_, rfl, RQ.tr hF (RQ.no2 hq h_91 (by decide))⟩
        · refine wp_iload (pc := 117) dX4_readShape_117 rfl ?_
          refine wp_bipush (pc := 119) dX4_readShape_119 (by decide) (by decide) ?_
          refine wp_icmp_ne (pc := 121) 130 dX4_readShape_121 (by decide) (fun c_121 => ?_) (fun c_121 => ?_)
          · refine wp_aload_n (pc := 130) dX4_readShape_130 rfl rfl ?_
            refine wp_getI (pc := 131) 8 dX4_readShape_131 fl_X4_107 rfl rfl ?_
            refine wp_istore (pc := 134) dX4_readShape_134 (Nat.le_of_ble_eq_true rfl) rfl ?_
            refine wp_iload (pc := 136) dX4_readShape_136 rfl ?_
            refine wp_if_ne (pc := 138) 145 dX4_readShape_138 (by decide) (fun c_138 => ?_) (fun c_138 => ?_)
            · refine wp_iload_n (pc := 145) dX4_readShape_145 rfl rfl ?_
              refine wp_iconst (pc := 146) dX4_readShape_146 (by decide) ?_
              refine wp_isub (pc := 147) dX4_readShape_147 (by omega) ?_
              rw [a8]
              first
                | (exfalso; omega)
                | exact w148 _ _ (by rw [if_neg (by omega)]) h_91 (by omega) (by omega)
                | exact w148 _ _ (by rw [if_pos (by omega)]) h_91 (by omega) (by omega)
            · refine wp_iconst (pc := 141) dX4_readShape_141 (by decide) ?_
              refine wp_goto (pc := 142) 148 dX4_readShape_142 (by decide) ?_
              rw [a8]
              first
                | (exfalso; omega)
                | exact w148 _ _ (by rw [if_neg (by omega)]) h_91 (by omega) (by omega)
                | exact w148 _ _ (by rw [if_pos (by omega)]) h_91 (by omega) (by omega)
          · refine wp_aload_n (pc := 124) dX4_readShape_124 rfl rfl ?_
            refine wp_iconst (pc := 125) dX4_readShape_125 (by decide) ?_
            refine wp_cvI1 (pc := 126) dX4_readShape_126 mv_X4_65 (c_refuse (w := 2)) (Nat.le_of_ble_eq_true rfl) rfl (Nat.le_of_ble_eq_true rfl) (fun z_126 σ_126 h_126 => ?_)
            obtain ⟨rfl, rfl⟩ := h_126
            refine wp_zreturn (pc := 129) dX4_readShape_129 rfl (by omega) ?_
            have eP : P = q.bad t n 2 := by rw [he, if_neg (by omega), if_pos (by omega)]
            rw [eP]
            exact ⟨_, rfl, RQ.tr hF (RQ.no2 hq h_91 (by decide))⟩
      · refine wp_iload (pc := 102) dX4_readShape_102 rfl ?_
        refine wp_if_le (pc := 104) 109 dX4_readShape_104 (by decide) (fun c_104 => ?_) (fun c_104 => ?_)
        · refine wp_aload_n (pc := 109) dX4_readShape_109 rfl rfl ?_
          refine wp_getI (pc := 110) 5 dX4_readShape_110 fl_X4_55 rfl rfl ?_
          refine wp_iconst (pc := 113) dX4_readShape_113 (by decide) ?_
          refine wp_icmp_ne (pc := 114) 124 dX4_readShape_114 (by decide) (fun c_114 => ?_) (fun c_114 => ?_)
          · refine wp_aload_n (pc := 124) dX4_readShape_124 rfl rfl ?_
            refine wp_iconst (pc := 125) dX4_readShape_125 (by decide) ?_
            refine wp_cvI1 (pc := 126) dX4_readShape_126 mv_X4_65 (c_refuse (w := 2)) (Nat.le_of_ble_eq_true rfl) rfl (Nat.le_of_ble_eq_true rfl) (fun z_126 σ_126 h_126 => ?_)
            obtain ⟨rfl, rfl⟩ := h_126
            refine wp_zreturn (pc := 129) dX4_readShape_129 rfl (by omega) ?_
            have eP : P = q.bad t n 2 := by rw [he, if_neg (by omega), if_pos (by omega)]
            rw [eP]
            exact ⟨_, rfl, RQ.tr hF (RQ.no2 hq h_91 (by decide))⟩
          · refine wp_iload (pc := 117) dX4_readShape_117 rfl ?_
            refine wp_bipush (pc := 119) dX4_readShape_119 (by decide) (by decide) ?_
            refine wp_icmp_ne (pc := 121) 130 dX4_readShape_121 (by decide) (fun c_121 => ?_) (fun c_121 => ?_)
            · refine wp_aload_n (pc := 130) dX4_readShape_130 rfl rfl ?_
              refine wp_getI (pc := 131) 8 dX4_readShape_131 fl_X4_107 rfl rfl ?_
              refine wp_istore (pc := 134) dX4_readShape_134 (Nat.le_of_ble_eq_true rfl) rfl ?_
              refine wp_iload (pc := 136) dX4_readShape_136 rfl ?_
              refine wp_if_ne (pc := 138) 145 dX4_readShape_138 (by decide) (fun c_138 => ?_) (fun c_138 => ?_)
              · refine wp_iload_n (pc := 145) dX4_readShape_145 rfl rfl ?_
                refine wp_iconst (pc := 146) dX4_readShape_146 (by decide) ?_
                refine wp_isub (pc := 147) dX4_readShape_147 (by omega) ?_
                rw [a8]
                first
                  | (exfalso; omega)
                  | exact w148 _ _ (by rw [if_neg (by omega)]) h_91 (by omega) (by omega)
                  | exact w148 _ _ (by rw [if_pos (by omega)]) h_91 (by omega) (by omega)
              · refine wp_iconst (pc := 141) dX4_readShape_141 (by decide) ?_
                refine wp_goto (pc := 142) 148 dX4_readShape_142 (by decide) ?_
                rw [a8]
                first
                  | (exfalso; omega)
                  | exact w148 _ _ (by rw [if_neg (by omega)]) h_91 (by omega) (by omega)
                  | exact w148 _ _ (by rw [if_pos (by omega)]) h_91 (by omega) (by omega)
            · refine wp_aload_n (pc := 124) dX4_readShape_124 rfl rfl ?_
              refine wp_iconst (pc := 125) dX4_readShape_125 (by decide) ?_
              refine wp_cvI1 (pc := 126) dX4_readShape_126 mv_X4_65 (c_refuse (w := 2)) (Nat.le_of_ble_eq_true rfl) rfl (Nat.le_of_ble_eq_true rfl) (fun z_126 σ_126 h_126 => ?_)
              obtain ⟨rfl, rfl⟩ := h_126
              refine wp_zreturn (pc := 129) dX4_readShape_129 rfl (by omega) ?_
              have eP : P = q.bad t n 2 := by rw [he, if_neg (by omega), if_pos (by omega)]
              rw [eP]
              exact ⟨_, rfl, RQ.tr hF (RQ.no2 hq h_91 (by decide))⟩
        · refine wp_iconst (pc := 107) dX4_readShape_107 (by decide) ?_
          refine wp_zreturn (pc := 108) dX4_readShape_108 rfl (by omega) ?_
          have eP : P = q.nx t n := by rw [he, if_pos ⟨by omega, by omega⟩]
          rw [eP]
          exact ⟨_, rfl, hF.tr h_91.frm, Or.inl ⟨hq.2.2.2.2.1, rfl, hr⟩⟩
  refine wp_aload_n (pc := 0) dX4_readShape_0 rfl rfl ?_
  refine wp_cvV0 (pc := 1) dX4_readShape_1 mv_X4_52 (c_adv h.1 h.2.2.2.1) (Nat.le_of_ble_eq_true rfl) rfl (Nat.le_of_ble_eq_true rfl) (fun σ_1 h_1 => ?_)
  obtain ⟨hr, a5, a6, a7, a8, a9, a10⟩ := h.adv h_1
  have e8 : σ_1 8 0 = s.S 0 0 := congrFun (congrFun hr.2.2.2.2.2.2.2.1 0) 0
  have e9 : σ_1 9 = s.S 1 := congrFun hr.2.2.2.2.2.2.2.1 1
  have hr1 := hr.1
  have hr12 := hr.1.2.1
  unfold pShp at hP
  refine wp_aload_n (pc := 4) dX4_readShape_4 rfl rfl ?_
  refine wp_getI (pc := 5) 5 dX4_readShape_5 fl_X4_55 rfl rfl ?_
  refine wp_iconst (pc := 8) dX4_readShape_8 (by decide) ?_
  refine wp_icmp_ne (pc := 9) 20 dX4_readShape_9 (by decide) (fun c_9 => ?_) (fun c_9 => ?_)
  · refine wp_aload_n (pc := 20) dX4_readShape_20 rfl rfl ?_
    refine wp_iconst (pc := 21) dX4_readShape_21 (by decide) ?_
    refine wp_cvI1 (pc := 22) dX4_readShape_22 mv_X4_65 (c_refuse (w := 2)) (Nat.le_of_ble_eq_true rfl) rfl (Nat.le_of_ble_eq_true rfl) (fun z_22 σ_22 h_22 => ?_)
    obtain ⟨rfl, rfl⟩ := h_22
    refine wp_zreturn (pc := 25) dX4_readShape_25 rfl (by omega) ?_
    have eP : P = s.bad t n 2 := by rw [hP, if_pos (by omega)]
    rw [eP]
    exact ⟨_, rfl, RQ.no2 h h_1 (by decide)⟩
  · refine wp_aload_n (pc := 12) dX4_readShape_12 rfl rfl ?_
    refine wp_getI (pc := 13) 7 dX4_readShape_13 fl_X4_110 rfl rfl ?_
    refine wp_iconst (pc := 16) dX4_readShape_16 (by decide) ?_
    refine wp_icmp_eq (pc := 17) 26 dX4_readShape_17 (by decide) (fun c_17 => ?_) (fun c_17 => ?_)
    · rw [if_neg (by omega)] at hP
      refine wp_aload_n (pc := 26) dX4_readShape_26 rfl rfl ?_
      refine wp_aload_n (pc := 27) dX4_readShape_27 rfl rfl ?_
      refine wp_getI (pc := 28) 6 dX4_readShape_28 fl_X4_62 rfl rfl ?_
      refine wp_cvI1 (pc := 31) dX4_readShape_31 mv_X4_113 (c_letterAt hr1.1 (by omega) (hr1.2.2 _ (by omega) (by omega))) (Nat.le_of_ble_eq_true rfl) rfl (Nat.le_of_ble_eq_true rfl) (fun z_31 σ_31 h_31 => ?_)
      obtain ⟨zz_31, e_31⟩ := h_31; have e2_31 := e_31.symm; subst e2_31
      rw [hr.2.1, a6] at zz_31
      refine wp_istore_n (pc := 34) dX4_readShape_34 rfl (Nat.le_of_ble_eq_true rfl) rfl ?_
      refine wp_aload_n (pc := 35) dX4_readShape_35 rfl rfl ?_
      refine wp_getR (pc := 36) (q := 8) dX4_readShape_36 fl_X4_15 rfl ?_
      refine wp_iload_n (pc := 39) dX4_readShape_39 rfl rfl ?_
      refine wp_cvI1 (pc := 40) dX4_readShape_40 mv_X4_117 (c_withSign (by omega)) (Nat.le_of_ble_eq_true rfl) rfl (Nat.le_of_ble_eq_true rfl) (fun z_40 σ_40 h_40 => ?_)
      obtain ⟨zz_40, e_40⟩ := h_40; have e2_40 := e_40.symm; subst e2_40
      rw [e8, e9, zz_31] at zz_40
      refine wp_if_lt (pc := 43) 52 dX4_readShape_43 (by decide) (fun c_43 => ?_) (fun c_43 => ?_)
      · rw [if_neg (by omega)] at hP
        refine wp_aload_n (pc := 52) dX4_readShape_52 rfl rfl ?_
        refine wp_iconst (pc := 53) dX4_readShape_53 (by decide) ?_
        refine wp_bipush (pc := 54) dX4_readShape_54 (by decide) (by decide) ?_
        refine wp_cvI2 (pc := 56) dX4_readShape_56 mv_X4_100 (c_readNumberP hr) (Nat.le_of_ble_eq_true rfl) rfl (Nat.le_of_ble_eq_true rfl) (fun z_56 σ_56 h_56 => ?_)
        obtain ⟨q56, v56⟩ := h_56
        refine wp_if_ne (pc := 59) 64 dX4_readShape_59 (by decide) (fun c_59 => ?_) (fun c_59 => ?_)
        · obtain ⟨y1, y2, y3⟩ : (pNum t n 1 60 (s.nx t n)).f = 0 ∧ z_56 = 1 ∧ RP t n σ_56 (pNum t n 1 60 (s.nx t n)) := by
            rcases q56.2 with y | y
            · exact y
            · exact absurd y.2.1 c_59
          obtain ⟨v1, v2, v3, v4⟩ := v56 y2
          rw [v4] at y3
          rw [if_neg (fun z => z y1)] at hP
          have e80 : σ_56 8 0 = s.S 0 0 := congrFun (congrFun y3.2.2.2.2.2.2.2.1 0) 0
          refine wp_aload_n (pc := 64) dX4_readShape_64 rfl rfl ?_
          refine wp_getI (pc := 65) 8 dX4_readShape_65 fl_X4_107 rfl rfl ?_
          refine wp_istore_n (pc := 68) dX4_readShape_68 rfl (Nat.le_of_ble_eq_true rfl) rfl ?_
          refine wp_aload_n (pc := 69) dX4_readShape_69 rfl rfl ?_
          refine wp_getR (pc := 70) (q := 8) dX4_readShape_70 fl_X4_15 rfl ?_
          refine wp_iload_n (pc := 73) dX4_readShape_73 rfl rfl ?_
          refine wp_iload_n (pc := 74) dX4_readShape_74 rfl rfl ?_
          refine wp_cvV2 (pc := 75) dX4_readShape_75 mv_X4_120 (c_addShape (by omega)) (Nat.le_of_ble_eq_true rfl) rfl (Nat.le_of_ble_eq_true rfl) (fun σ_75 h_75 => ?_)
          subst h_75
          refine wp_iconst (pc := 78) dX4_readShape_78 (by decide) ?_
          refine wp_istore_n (pc := 79) dX4_readShape_79 rfl (Nat.le_of_ble_eq_true rfl) rfl ?_
          refine wp_iconst (pc := 80) dX4_readShape_80 (by decide) ?_
          refine wp_istore (pc := 81) dX4_readShape_81 (Nat.le_of_ble_eq_true rfl) rfl ?_
          rw [zz_31, v1]
          have hr3 := y3.addS (t (tkS t n s.x) - 96) (tkN t n (s.nx t n).x)
          refine lp 0 (by decide) (by decide) _ _ _ _ 0 hr3 ?_ ?_ ((((h_1.frm.tr q56.1).up (by decide)).up (by decide)).up (by decide) |>.up (by decide)) ⟨v2, v3⟩ (by decide) hP
          · show adS s.S (t (tkS t n s.x) - 96) (tkN t n (s.nx t n).x) 0 0 = _
            simp [adS]
          · show adS s.S (t (tkS t n s.x) - 96) (tkN t n (s.nx t n).x) 3 (adS s.S (t (tkS t n s.x) - 96) (tkN t n (s.nx t n).x) 0 0 - 1) = 0
            simp [adS]
        · refine wp_iconst (pc := 62) dX4_readShape_62 (by decide) ?_
          refine wp_zreturn (pc := 63) dX4_readShape_63 rfl (by omega) ?_
          refine ⟨_, rfl, ?_⟩
          rcases q56.2 with ⟨y1, y2, y3⟩ | ⟨y1, y2, y3⟩
          · omega
          · rw [if_pos y1] at hP
            rw [hP]
            rw [y2] at q56
            exact q56.tr h_1.frm
      · refine wp_aload_n (pc := 46) dX4_readShape_46 rfl rfl ?_
        refine wp_iconst (pc := 47) dX4_readShape_47 (by decide) ?_
        refine wp_cvI1 (pc := 48) dX4_readShape_48 mv_X4_65 (c_refuse (w := 4)) (Nat.le_of_ble_eq_true rfl) rfl (Nat.le_of_ble_eq_true rfl) (fun z_48 σ_48 h_48 => ?_)
        obtain ⟨rfl, rfl⟩ := h_48
        refine wp_zreturn (pc := 51) dX4_readShape_51 rfl (by omega) ?_
        have eP : P = s.bad t n 4 := by rw [hP, if_pos (by omega)]
        rw [eP]
        exact ⟨_, rfl, RQ.no2 h h_1 (by decide)⟩
    · refine wp_aload_n (pc := 20) dX4_readShape_20 rfl rfl ?_
      refine wp_iconst (pc := 21) dX4_readShape_21 (by decide) ?_
      refine wp_cvI1 (pc := 22) dX4_readShape_22 mv_X4_65 (c_refuse (w := 2)) (Nat.le_of_ble_eq_true rfl) rfl (Nat.le_of_ble_eq_true rfl) (fun z_22 σ_22 h_22 => ?_)
      obtain ⟨rfl, rfl⟩ := h_22
      refine wp_zreturn (pc := 25) dX4_readShape_25 rfl (by omega) ?_
      have eP : P = s.bad t n 2 := by rw [hP, if_pos (by omega)]
      rw [eP]
      exact ⟨_, rfl, RQ.no2 h h_1 (by decide)⟩
