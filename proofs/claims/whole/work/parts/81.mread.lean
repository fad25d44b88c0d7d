set_option maxHeartbeats 4000000 in
set_option maxRecDepth 100000 in
theorem m_byteAt {σ : Sto} {k n : Int} {t : Int → Int} (h9 : σ 71 9 = n) (hn : n ≤ 400) (ht : ∀ k, 0 ≤ k → k < n → σ 78 k = t k) (hk : 0 ≤ k) : CtI yX7_byteAt cX7_byteAt 2 (some .int) 0 [mR 71, mI k] σ (fun z σ' => z = (if k < n then t k else -4) ∧ σ' = σ) := by
  refine ct_of rfl [some (mR 71), some (mI k)] (Nat.le_of_ble_eq_true rfl) rfl (fun hσ => ?_)
  show Wp cX7_byteAt RX7 (some .int) 0 0 [some (mR 71), some (mI k)] [] _ _
  refine wp_iload_n (pc := 0) dX7_byteAt_0 rfl rfl ?_
  refine wp_aload_n (pc := 1) dX7_byteAt_1 rfl rfl ?_
  refine wp_getI (pc := 2) 9 dX7_byteAt_2 fl_X7_77 rfl rfl ?_
  refine wp_icmp_ge (pc := 5) 17 dX7_byteAt_5 (by decide) (fun c_5 => ?_) (fun c_5 => ?_)
  · refine wp_bipush (pc := 17) dX7_byteAt_17 (by decide) (by decide) ?_
    refine wp_ireturn (pc := 19) dX7_byteAt_19 rfl ?_
    first
      | exact ⟨_, rfl, by rw [if_pos (by omega)]; exact ht k hk (by omega), rfl⟩
      | exact ⟨_, rfl, by rw [if_neg (by omega)], rfl⟩
  · refine wp_aload_n (pc := 8) dX7_byteAt_8 rfl rfl ?_
    refine wp_getR (pc := 9) (q := 78) dX7_byteAt_9 fl_X7_29 rfl ?_
    refine wp_iload_n (pc := 12) dX7_byteAt_12 rfl rfl ?_
    refine wp_iald (pc := 13) 400 dX7_byteAt_13 rfl (by omega) ?_
    refine wp_goto (pc := 14) 19 dX7_byteAt_14 (by decide) ?_
    refine wp_ireturn (pc := 19) dX7_byteAt_19 rfl ?_
    first
      | exact ⟨_, rfl, by rw [if_pos (by omega)]; exact ht k hk (by omega), rfl⟩
      | exact ⟨_, rfl, by rw [if_neg (by omega)], rfl⟩
def mst (σ : Sto) (b c : Int) : Sto := if b = 0 ∧ σ 71 10 = 0 then upd2 (upd2 σ 71 10 c) 71 11 (σ 71 13) else σ
set_option maxHeartbeats 4000000 in
set_option maxRecDepth 100000 in
theorem mst_no {σ : Sto} {b c : Int} (h : ¬ b = 0 ∨ ¬ σ 71 10 = 0) : mst σ b c = σ := by unfold mst; rw [if_neg (by omega)]
set_option maxHeartbeats 4000000 in
set_option maxRecDepth 100000 in
theorem mst_yes {σ : Sto} {b c : Int} (h : b = 0) (h2 : σ 71 10 = 0) : mst σ b c = upd2 (upd2 σ 71 10 c) 71 11 (σ 71 13) := by unfold mst; rw [if_pos ⟨h, h2⟩]
set_option maxHeartbeats 4000000 in
set_option maxRecDepth 100000 in
theorem m_must {σ : Sto} {b c : Int} : CtV yX7_must cX7_must 3 none 0 [mR 71, mI b, mI c] σ (fun σ' => σ' = mst σ b c) := by
  refine ct_of rfl [some (mR 71), some (mI b), some (mI c)] (Nat.le_of_ble_eq_true rfl) rfl (fun hσ => ?_)
  show Wp cX7_must RX7 none 0 0 [some (mR 71), some (mI b), some (mI c)] [] _ _
  refine wp_iload_n (pc := 0) dX7_must_0 rfl rfl ?_
  refine wp_if_ne (pc := 1) 24 dX7_must_1 (by decide) (fun c_1 => ?_) (fun c_1 => ?_)
  · refine wp_return (pc := 24) dX7_must_24 rfl ?_
    first
      | exact ⟨rfl, (mst_no (by omega)).symm⟩
      | exact ⟨rfl, (mst_yes (by omega) (by omega)).symm⟩
  · refine wp_aload_n (pc := 4) dX7_must_4 rfl rfl ?_
    refine wp_getI (pc := 5) 10 dX7_must_5 fl_X7_81 rfl rfl ?_
    refine wp_if_ne (pc := 8) 24 dX7_must_8 (by decide) (fun c_8 => ?_) (fun c_8 => ?_)
    · refine wp_return (pc := 24) dX7_must_24 rfl ?_
      first
        | exact ⟨rfl, (mst_no (by omega)).symm⟩
        | exact ⟨rfl, (mst_yes (by omega) (by omega)).symm⟩
    · refine wp_aload_n (pc := 11) dX7_must_11 rfl rfl ?_
      refine wp_iload_n (pc := 12) dX7_must_12 rfl rfl ?_
      refine wp_putI (pc := 13) 10 dX7_must_13 fl_X7_81 ⟨rfl, rfl⟩ rfl rfl ?_
      refine wp_aload_n (pc := 16) dX7_must_16 rfl rfl ?_
      refine wp_aload_n (pc := 17) dX7_must_17 rfl rfl ?_
      refine wp_getI (pc := 18) 13 dX7_must_18 fl_X7_84 rfl rfl ?_
      rw [upd2_k (r := 71) (k := 10) (k' := 13) (by decide)]
      refine wp_putI (pc := 21) 11 dX7_must_21 fl_X7_87 ⟨rfl, rfl⟩ rfl rfl ?_
      refine wp_return (pc := 24) dX7_must_24 rfl ?_
      first
        | exact ⟨rfl, (mst_no (by omega)).symm⟩
        | exact ⟨rfl, (mst_yes (by omega) (by omega)).symm⟩
def tkOK (t : Int → Int) (n x tok val : Int) : Prop := (tkK t n x = 5 ∧ tok = 0) ∨ (tkK t n x = 1 ∧ tok = 1 ∧ val = t (tkS t n x)) ∨ (tkK t n x = 2 ∧ tok = 2 ∧ val = tkN t n x) ∨ (tkK t n x = 3 ∧ tok = 3 ∧ val = 58) ∨ (tkK t n x = 4 ∧ tok = 3 ∧ val = 59)
-- the model has read a token
def rdP (t : Int → Int) (n x : Int) (σ σ' : Sto) : Prop := Frm [71] σ σ' ∧ (∀ k, (k < 10 ∨ 15 < k) → σ' 71 k = σ 71 k) ∧ ((¬ tkK t n x = 0 ∧ σ' 71 10 = 0 ∧ σ' 71 12 = tkE t n x ∧ σ' 71 13 = tkS t n x ∧ tkOK t n x (σ' 71 14) (σ' 71 15)) ∨ (tkK t n x = 0 ∧ σ' 71 10 = 1 ∧ σ' 71 11 = tkS t n x))
set_option maxHeartbeats 4000000 in
set_option maxRecDepth 100000 in
theorem m_reads0 {σ : Sto} (h : 0 < σ 71 10) : CtV yX7_reads cX7_reads 2 none 1 [mR 71] σ (fun σ' => σ' = σ) := by
  refine ct_of rfl [some (mR 71), none] (Nat.le_of_ble_eq_true rfl) rfl (fun hσ => ?_)
  show Wp cX7_reads RX7 none 1 0 [some (mR 71), none] [] _ _
  refine wp_aload_n (pc := 0) dX7_reads_0 rfl rfl ?_
  refine wp_getI (pc := 1) 10 dX7_reads_1 fl_X7_81 rfl rfl ?_
  refine wp_if_le (pc := 4) 8 dX7_reads_4 (by decide) (fun c_4 => ?_) (fun c_4 => ?_)
  · omega
  · refine wp_return (pc := 7) dX7_reads_7 rfl ?_
    exact ⟨rfl, rfl⟩
set_option maxHeartbeats 4000000 in
set_option maxRecDepth 100000 in
theorem m_reads {σ : Sto} {n x : Int} {t : Int → Int} (h10 : σ 71 10 = 0) (h9 : σ 71 9 = n) (hn : 0 ≤ n ∧ n ≤ 400) (ht : ∀ k, 0 ≤ k → k < n → σ 78 k = t k) (hb : ∀ k, 0 ≤ k → k < n → 0 ≤ t k ∧ t k ≤ 127) (hx : σ 71 12 = x) (hx0 : 0 ≤ x ∧ x ≤ n) : CtV yX7_reads cX7_reads 2 none 1 [mR 71] σ (fun σ' => rdP t n x σ σ') := by
  refine ct_of rfl [some (mR 71), none] (Nat.le_of_ble_eq_true rfl) rfl (fun hσ => ?_)
  show Wp cX7_reads RX7 none 1 0 [some (mR 71), none] [] _ _
  -- the letters of a name
  have lpN : ∀ (s : Int), tkS t n x = s → 0 ≤ s → s < n → 97 ≤ t s ∧ t s ≤ 122 → ∀ y, y ≤ n → s ≤ y → ∀ (τ : Sto) (c : Int), rn t 97 122 n s = rn t 97 122 n y → Frm [71] σ τ → (∀ k, (k < 10 ∨ 15 < k) → τ 71 k = σ 71 k) → τ 71 10 = 0 → τ 71 12 = y → τ 71 13 = s → τ 71 14 = 1 → τ 71 15 = t s → Wp cX7_reads RX7 none 1 89 [some (mR 71), some (mI c)] [] τ (fun v σ' => v = none ∧ (fun σ' => rdP t n x σ σ') σ') := by
    intro s hs s0 s1 hl
    refine up_ind n (fun y hy ih ys τ c hrn hF hk t10 t12 t13 t14 t15 => ?_)
    have e78 : ∀ k, 0 ≤ k → k < n → τ 78 k = t k := fun k k0 k1 => by rw [hF 78 (by decide)]; exact ht k k0 k1
    have e9 : τ 71 9 = n := (hk 9 (by decide)).trans h9
    refine wp_aload_n (pc := 89) dX7_reads_89 rfl rfl ?_
    refine wp_aload_n (pc := 90) dX7_reads_90 rfl rfl ?_
    refine wp_getI (pc := 91) 12 dX7_reads_91 fl_X7_90 rfl rfl ?_
    rw [t12]
    refine wp_cvI1 (pc := 94) dX7_reads_94 mv_X7_93 (m_byteAt e9 hn.2 e78 (by omega)) (Nat.le_of_ble_eq_true rfl) rfl (Nat.le_of_ble_eq_true rfl) (fun z_94 σ_94 h_94 => ?_)
    obtain ⟨zz_94, e_94⟩ := h_94; have e2_94 := e_94.symm; subst e2_94
    refine wp_i2l (pc := 97) dX7_reads_97 ?_
    refine wp_ldc2 (pc := 98) (z := 97) dX7_reads_98 kc_X7_103 (by decide) (by decide) ?_
    refine wp_ldc2 (pc := 101) (z := 122) dX7_reads_101 kc_X7_105 (by decide) (by decide) ?_
    refine wp_csI3 (pc := 104) dX7_reads_104 ms_X7_73 m_in (Nat.le_of_ble_eq_true rfl) (Nat.le_of_ble_eq_true rfl) (fun z_104 σ_104 h_104 => ?_)
    obtain ⟨y_104, e_104⟩ := h_104; have e2_104 := e_104.symm; subst e2_104
    refine wp_if_eq (pc := 107) 287 dX7_reads_107 (by decide) (fun c_107 => ?_) (fun c_107 => ?_)
    · refine wp_return (pc := 287) dX7_reads_287 rfl ?_
      have hst : rn t 97 122 n y = y := by
        refine rn_stop ?_
        by_cases hyn : y < n
        · rw [if_pos hyn] at zz_94; right; omega
        · left; omega
      have eK : tkK t n x = 1 := by unfold tkK; rw [hs, if_neg (by omega), if_pos hl]
      have eE : tkE t n x = y := by unfold tkE; rw [hs, if_neg (by omega), if_pos hl, hrn, hst]
      refine ⟨rfl, hF, hk, Or.inl ⟨by omega, t10, by rw [eE]; exact t12, by rw [hs]; exact t13, Or.inr (Or.inl ⟨eK, t14, by rw [hs]; exact t15⟩)⟩⟩
    · refine wp_aload_n (pc := 110) dX7_reads_110 rfl rfl ?_
      refine wp_dup (pc := 111) dX7_reads_111 (fun _ h => by cases h) ?_
      refine wp_getI (pc := 112) 12 dX7_reads_112 fl_X7_90 rfl rfl ?_
      refine wp_iconst (pc := 115) dX7_reads_115 (by decide) ?_
      refine wp_iadd (pc := 116) dX7_reads_116 (by omega) ?_
      refine wp_putI (pc := 117) 12 dX7_reads_117 fl_X7_90 ⟨rfl, rfl⟩ rfl rfl ?_
      refine wp_goto (pc := 120) 89 dX7_reads_120 (by decide) ?_
      by_cases hyn : y < n
      · rw [if_pos hyn] at zz_94
        refine ih hyn (by omega) _ c (hrn.trans (rn_go hyn (by omega) (by omega))) (hF.up (by decide)) (fun k hk2 => by rw [upd2_k (by omega)]; exact hk k hk2) ?_ ?_ ?_ ?_ ?_
        · rw [upd2_k (by decide)]; exact t10
        · rw [upd2_eq, t12]
        · rw [upd2_k (by decide)]; exact t13
        · rw [upd2_k (by decide)]; exact t14
        · rw [upd2_k (by decide)]; exact t15
      · rw [if_neg hyn] at zz_94
        exfalso; omega
  have lpD : ∀ (s : Int), tkS t n x = s → 0 ≤ s → s < n → 48 ≤ t s ∧ t s ≤ 57 → ∀ y, y ≤ n → s ≤ y → ∀ (τ : Sto) (c : Int), rn t 48 57 n s = rn t 48 57 n y → (s < y → 48 ≤ t s ∧ t s ≤ 57) → Frm [71] σ τ → (∀ k, (k < 10 ∨ 15 < k) → τ 71 k = σ 71 k) → τ 71 10 = 0 → τ 71 12 = y → τ 71 13 = s → τ 71 14 = 2 → τ 71 15 = fig t s (y - s) → Wp cX7_reads RX7 none 1 147 [some (mR 71), some (mI c)] [] τ (fun v σ' => v = none ∧ (fun σ' => rdP t n x σ σ') σ') := by
    intro s hs s0 s1 hl
    refine up_ind n (fun y hy ih ys τ c hrn hfs hF hk t10 t12 t13 t14 t15 => ?_)
    have e78 : ∀ k, 0 ≤ k → k < n → τ 78 k = t k := fun k k0 k1 => by rw [hF 78 (by decide)]; exact ht k k0 k1
    have e9 : τ 71 9 = n := (hk 9 (by decide)).trans h9
    have hyb := fun q => hb y (by omega) (show y < n from q)
    have hfg : y - s < 2 → 0 ≤ τ 71 15 ∧ τ 71 15 ≤ 9 ∧ ((y = s ∧ τ 71 15 = 0) ∨ (y = s + 1 ∧ τ 71 15 = t s - 48)) := fun q => by
      rw [t15]
      unfold fig
      by_cases h0 : y = s
      · rw [if_pos (by omega)]; omega
      · rw [if_neg (by omega), if_pos (by omega)]; omega
    have nxt : ∀ υ : Sto, y < n → 48 ≤ t y → t y ≤ 57 → Frm [71] σ υ → (∀ k, (k < 10 ∨ 15 < k) → υ 71 k = σ 71 k) → υ 71 10 = 0 → υ 71 12 = y + 1 → υ 71 13 = s → υ 71 14 = 2 → υ 71 15 = fig t s (y + 1 - s) → Wp cX7_reads RX7 none 1 147 [some (mR 71), some (mI c)] [] υ (fun v σ' => v = none ∧ (fun σ' => rdP t n x σ σ') σ') := fun υ q1 q2 q3 q4 q5 q6 q7 q8 q9 q10 => ih q1 (by omega) υ c (hrn.trans (rn_go q1 q2 q3)) (fun _ => hl) q4 q5 q6 q7 q8 q9 q10
    have w208 : ∀ v : Int, y < n → 48 ≤ t y → t y ≤ 57 → v = fig t s (y + 1 - s) → Wp cX7_reads RX7 none 1 208 [some (mR 71), some (mI c)] [mI v, mR 71] τ (fun v σ' => v = none ∧ (fun σ' => rdP t n x σ σ') σ') := by
      intro v q1 q2 q3 hv
      refine wp_putI (pc := 208) 15 dX7_reads_208 fl_X7_97 ⟨rfl, rfl⟩ rfl rfl ?_
      refine wp_aload_n (pc := 211) dX7_reads_211 rfl rfl ?_
      refine wp_dup (pc := 212) dX7_reads_212 (fun _ h => by cases h) ?_
      refine wp_getI (pc := 213) 12 dX7_reads_213 fl_X7_90 rfl rfl ?_
      rw [upd2_k (r := 71) (k := 15) (k' := 12) (by decide)]
      refine wp_iconst (pc := 216) dX7_reads_216 (by decide) ?_
      refine wp_iadd (pc := 217) dX7_reads_217 (by omega) ?_
      refine wp_putI (pc := 218) 12 dX7_reads_218 fl_X7_90 ⟨rfl, rfl⟩ rfl rfl ?_
      refine wp_goto (pc := 221) 147 dX7_reads_221 (by decide) ?_
      refine nxt _ q1 q2 q3 ((hF.up (by decide)).up (by decide)) (fun k hk2 => by rw [upd2_k (by omega), upd2_k (by omega)]; exact hk k hk2) ?_ ?_ ?_ ?_ ?_
      · rw [upd2_k (by decide), upd2_k (by decide)]; exact t10
      · rw [upd2_eq, t12]
      · rw [upd2_k (by decide), upd2_k (by decide)]; exact t13
      · rw [upd2_k (by decide), upd2_k (by decide)]; exact t14
      · rw [upd2_k (by decide), upd2_eq]; exact hv
    have w243 : ∀ b : Int, rn t 48 57 n y = y → ((b = 1 ∧ y - s ≤ 2) ∨ (b = 0 ∧ 2 < y - s)) → Wp cX7_reads RX7 none 1 243 [some (mR 71), some (mI c)] [mI b, mR 71] τ (fun v σ' => v = none ∧ (fun σ' => rdP t n x σ σ') σ') := by
      intro b hst hbb
      have hnl : ¬ (97 ≤ t s ∧ t s ≤ 122) := by omega
      have eE : tkE t n x = y := by unfold tkE; rw [hs, if_neg (by omega), if_neg hnl, if_pos hl, hrn, hst]
      have eK : tkK t n x = if 2 < y - s then 0 else 2 := by unfold tkK; rw [eE, hs, if_neg (by omega), if_neg hnl, if_pos hl]
      have eN : tkN t n x = fig t s (y - s) := by unfold tkN; rw [eE, hs, if_neg (by omega), if_neg hnl, if_pos hl]
      refine wp_iconst (pc := 243) dX7_reads_243 (by decide) ?_
      refine wp_cvV2 (pc := 244) dX7_reads_244 mv_X7_111 m_must (Nat.le_of_ble_eq_true rfl) rfl (Nat.le_of_ble_eq_true rfl) (fun σ_244 h_244 => ?_)
      subst h_244
      refine wp_goto (pc := 247) 287 dX7_reads_247 (by decide) ?_
      refine wp_return (pc := 287) dX7_reads_287 rfl ?_
      rcases hbb with c9 | c9
      · rw [mst_no (by omega)]
        rw [if_neg (by omega)] at eK
        exact ⟨rfl, hF, hk, Or.inl ⟨by omega, t10, by rw [eE]; exact t12, by rw [hs]; exact t13, Or.inr (Or.inr (Or.inl ⟨eK, t14, by rw [eN]; exact t15⟩))⟩⟩
      · rw [mst_yes (by omega) (by omega)]
        rw [if_pos (by omega)] at eK
        refine ⟨rfl, (hF.up (by decide)).up (by decide), fun k hk2 => by rw [upd2_k (by omega), upd2_k (by omega)]; exact hk k hk2, Or.inr ⟨eK, by rw [upd2_k (by decide), upd2_eq], by rw [upd2_eq, hs]; exact t13⟩⟩
    refine wp_aload_n (pc := 147) dX7_reads_147 rfl rfl ?_
    refine wp_aload_n (pc := 148) dX7_reads_148 rfl rfl ?_
    refine wp_getI (pc := 149) 12 dX7_reads_149 fl_X7_90 rfl rfl ?_
    rw [t12]
    refine wp_cvI1 (pc := 152) dX7_reads_152 mv_X7_93 (m_byteAt e9 hn.2 e78 (by omega)) (Nat.le_of_ble_eq_true rfl) rfl (Nat.le_of_ble_eq_true rfl) (fun z_152 σ_152 h_152 => ?_)
    obtain ⟨zz_152, e_152⟩ := h_152; have e2_152 := e_152.symm; subst e2_152
    refine wp_i2l (pc := 155) dX7_reads_155 ?_
    refine wp_ldc2 (pc := 156) (z := 48) dX7_reads_156 kc_X7_107 (by decide) (by decide) ?_
    refine wp_ldc2 (pc := 159) (z := 57) dX7_reads_159 kc_X7_109 (by decide) (by decide) ?_
    refine wp_csI3 (pc := 162) dX7_reads_162 ms_X7_73 m_in (Nat.le_of_ble_eq_true rfl) (Nat.le_of_ble_eq_true rfl) (fun z_162 σ_162 h_162 => ?_)
    obtain ⟨y_162, e_162⟩ := h_162; have e2_162 := e_162.symm; subst e2_162
    refine wp_if_eq (pc := 165) 224 dX7_reads_165 (by decide) (fun c_165 => ?_) (fun c_165 => ?_)
    · refine wp_aload_n (pc := 224) dX7_reads_224 rfl rfl ?_
      refine wp_aload_n (pc := 225) dX7_reads_225 rfl rfl ?_
      refine wp_getI (pc := 226) 12 dX7_reads_226 fl_X7_90 rfl rfl ?_
      refine wp_aload_n (pc := 229) dX7_reads_229 rfl rfl ?_
      refine wp_getI (pc := 230) 13 dX7_reads_230 fl_X7_84 rfl rfl ?_
      refine wp_isub (pc := 233) dX7_reads_233 (by omega) ?_
      refine wp_iconst (pc := 234) dX7_reads_234 (by decide) ?_
      refine wp_icmp_gt (pc := 235) 242 dX7_reads_235 (by decide) (fun c_235 => ?_) (fun c_235 => ?_)
      · refine wp_iconst (pc := 242) dX7_reads_242 (by decide) ?_
        have hst : rn t 48 57 n y = y := by
          refine rn_stop ?_
          by_cases hyn : y < n
          · rw [if_pos hyn] at zz_152; right; omega
          · left; omega
        exact w243 _ hst (by omega)
      · refine wp_iconst (pc := 238) dX7_reads_238 (by decide) ?_
        refine wp_goto (pc := 239) 243 dX7_reads_239 (by decide) ?_
        have hst : rn t 48 57 n y = y := by
          refine rn_stop ?_
          by_cases hyn : y < n
          · rw [if_pos hyn] at zz_152; right; omega
          · left; omega
        exact w243 _ hst (by omega)
    · have hyn : y < n := Classical.byContradiction fun q => by rw [if_neg q] at zz_152; omega
      rw [if_pos hyn] at zz_152
      refine wp_aload_n (pc := 168) dX7_reads_168 rfl rfl ?_
      refine wp_aload_n (pc := 169) dX7_reads_169 rfl rfl ?_
      refine wp_getI (pc := 170) 12 dX7_reads_170 fl_X7_90 rfl rfl ?_
      refine wp_aload_n (pc := 173) dX7_reads_173 rfl rfl ?_
      refine wp_getI (pc := 174) 13 dX7_reads_174 fl_X7_84 rfl rfl ?_
      refine wp_isub (pc := 177) dX7_reads_177 (by omega) ?_
      refine wp_iconst (pc := 178) dX7_reads_178 (by decide) ?_
      refine wp_icmp_ge (pc := 179) 204 dX7_reads_179 (by decide) (fun c_179 => ?_) (fun c_179 => ?_)
      · refine wp_aload_n (pc := 204) dX7_reads_204 rfl rfl ?_
        refine wp_getI (pc := 205) 15 dX7_reads_205 fl_X7_97 rfl rfl ?_
        refine w208 _ hyn (by omega) (by omega) ?_
        first
          | (rcases hfg2.2.2 with c9 | c9
             · rw [show y + 1 - s = 1 by omega]
               rw [c9.1] at zz_194
               show _ = t s - 48
               omega
             · rw [show y + 1 - s = 2 by omega]
               rw [c9.1] at zz_194
               show _ = (t s - 48) * 10 + t (s + 1) - 48
               omega)
          | (rw [t15]; unfold fig; rw [if_neg (by omega), if_neg (by omega), if_neg (by omega), if_neg (by omega)])
      · refine wp_bipush (pc := 182) dX7_reads_182 (by decide) (by decide) ?_
        refine wp_aload_n (pc := 184) dX7_reads_184 rfl rfl ?_
        refine wp_getI (pc := 185) 15 dX7_reads_185 fl_X7_97 rfl rfl ?_
        refine wp_imul (pc := 188) dX7_reads_188 (by omega) ?_
        refine wp_aload_n (pc := 189) dX7_reads_189 rfl rfl ?_
        refine wp_aload_n (pc := 190) dX7_reads_190 rfl rfl ?_
        refine wp_getI (pc := 191) 12 dX7_reads_191 fl_X7_90 rfl rfl ?_
        rw [t12]
        refine wp_cvI1 (pc := 194) dX7_reads_194 mv_X7_93 (m_byteAt e9 hn.2 e78 (by omega)) (Nat.le_of_ble_eq_true rfl) rfl (Nat.le_of_ble_eq_true rfl) (fun z_194 σ_194 h_194 => ?_)
        obtain ⟨zz_194, e_194⟩ := h_194; have e2_194 := e_194.symm; subst e2_194
        rw [if_pos hyn] at zz_194
        have hfg2 := hfg (by omega)
        refine wp_iadd (pc := 197) dX7_reads_197 (by omega) ?_
        refine wp_bipush (pc := 198) dX7_reads_198 (by decide) (by decide) ?_
        refine wp_isub (pc := 200) dX7_reads_200 (by omega) ?_
        refine wp_goto (pc := 201) 208 dX7_reads_201 (by decide) ?_
        refine w208 _ hyn (by omega) (by omega) ?_
        first
          | (rcases hfg2.2.2 with c9 | c9
             · rw [show y + 1 - s = 1 by omega]
               rw [c9.1] at zz_194
               show _ = t s - 48
               omega
             · rw [show y + 1 - s = 2 by omega]
               rw [c9.1] at zz_194
               show _ = (t s - 48) * 10 + t (s + 1) - 48
               omega)
          | (rw [t15]; unfold fig; rw [if_neg (by omega), if_neg (by omega), if_neg (by omega), if_neg (by omega)])
  have w273 : ∀ (s b : Int) (τ : Sto), tkS t n x = s → 0 ≤ s → s < n → ¬ (97 ≤ t s ∧ t s ≤ 122) → ¬ (48 ≤ t s ∧ t s ≤ 57) → Frm [71] σ τ → (∀ k, (k < 10 ∨ 15 < k) → τ 71 k = σ 71 k) → τ 71 10 = 0 → τ 71 12 = s → τ 71 13 = s → τ 71 14 = 3 → τ 71 15 = t s → ((b = 1 ∧ (t s = 58 ∨ t s = 59)) ∨ (b = 0 ∧ ¬ (t s = 58 ∨ t s = 59))) → Wp cX7_reads RX7 none 1 273 [some (mR 71), some (mI (t s))] [mI b, mR 71] τ (fun v σ' => v = none ∧ (fun σ' => rdP t n x σ σ') σ') := by
    intro s b τ hs s0 s1 hnl hnd hF hk t10 t12 t13 t14 t15 hbb
    have eE : tkE t n x = s + 1 := by unfold tkE; rw [hs, if_neg (by omega), if_neg hnl, if_neg hnd]
    have eK : tkK t n x = if t s = 58 then 3 else if t s = 59 then 4 else 0 := by unfold tkK; rw [hs, if_neg (by omega), if_neg hnl, if_neg hnd]
    have yes : (t s = 58 ∨ t s = 59) → Wp cX7_reads RX7 none 1 277 [some (mR 71), some (mI (t s))] [] τ (fun v σ' => v = none ∧ (fun σ' => rdP t n x σ σ') σ') := fun hc => by
      refine wp_aload_n (pc := 277) dX7_reads_277 rfl rfl ?_
      refine wp_dup (pc := 278) dX7_reads_278 (fun _ h => by cases h) ?_
      refine wp_getI (pc := 279) 12 dX7_reads_279 fl_X7_90 rfl rfl ?_
      refine wp_iconst (pc := 282) dX7_reads_282 (by decide) ?_
      refine wp_iadd (pc := 283) dX7_reads_283 (by omega) ?_
      refine wp_putI (pc := 284) 12 dX7_reads_284 fl_X7_90 ⟨rfl, rfl⟩ rfl rfl ?_
      refine wp_return (pc := 287) dX7_reads_287 rfl ?_
      refine ⟨rfl, hF.up (by decide), fun k hk2 => by rw [upd2_k (by omega)]; exact hk k hk2, Or.inl ⟨?_, by rw [upd2_k (by decide)]; exact t10, by rw [upd2_eq, eE, t12], by rw [upd2_k (by decide), hs]; exact t13, ?_⟩⟩
      · rw [eK]; split
        · decide
        · split
          · decide
          · omega
      · rw [upd2_k (by decide), upd2_k (by decide)]
        rcases hc with c9 | c9
        · rw [if_pos c9] at eK
          exact Or.inr (Or.inr (Or.inr (Or.inl ⟨eK, t14, by omega⟩)))
        · rw [if_neg (by omega), if_pos c9] at eK
          exact Or.inr (Or.inr (Or.inr (Or.inr ⟨eK, t14, by omega⟩)))
    have nay : ¬ (t s = 58 ∨ t s = 59) → Wp cX7_reads RX7 none 1 277 [some (mR 71), some (mI (t s))] [] (upd2 (upd2 τ 71 10 1) 71 11 (τ 71 13)) (fun v σ' => v = none ∧ (fun σ' => rdP t n x σ σ') σ') := fun hc => by
      refine wp_aload_n (pc := 277) dX7_reads_277 rfl rfl ?_
      refine wp_dup (pc := 278) dX7_reads_278 (fun _ h => by cases h) ?_
      refine wp_getI (pc := 279) 12 dX7_reads_279 fl_X7_90 rfl rfl ?_
      refine wp_iconst (pc := 282) dX7_reads_282 (by decide) ?_
      refine wp_iadd (pc := 283) dX7_reads_283 (by rw [upd2_k (by decide), upd2_k (by decide), t12]; exact ⟨by omega, by omega⟩) ?_
      refine wp_putI (pc := 284) 12 dX7_reads_284 fl_X7_90 ⟨rfl, rfl⟩ rfl rfl ?_
      refine wp_return (pc := 287) dX7_reads_287 rfl ?_
      refine ⟨rfl, ((hF.up (by decide)).up (by decide)).up (by decide), fun k hk2 => by rw [upd2_k (by omega), upd2_k (by omega), upd2_k (by omega)]; exact hk k hk2, Or.inr ⟨?_, by rw [upd2_k (by decide), upd2_k (by decide), upd2_eq], by rw [upd2_k (by decide), upd2_eq, hs]; exact t13⟩⟩
      rw [eK, if_neg (by omega), if_neg (by omega)]
    refine wp_iconst (pc := 273) dX7_reads_273 (by decide) ?_
    refine wp_cvV2 (pc := 274) dX7_reads_274 mv_X7_111 m_must (Nat.le_of_ble_eq_true rfl) rfl (Nat.le_of_ble_eq_true rfl) (fun σ_274 h_274 => ?_)
    subst h_274
    rcases hbb with c9 | c9
    · rw [mst_no (by omega)]; exact yes c9.2
    · rw [mst_yes (by omega) (by omega)]; exact nay c9.2
  have w34 : ∀ (s : Int) (τ : Sto), tkS t n x = s → 0 ≤ s → s ≤ n → Frm [71] σ τ → (∀ k, (k < 10 ∨ 15 < k) → τ 71 k = σ 71 k) → τ 71 10 = 0 → τ 71 12 = s → Wp cX7_reads RX7 none 1 34 [some (mR 71), none] [] τ (fun v σ' => v = none ∧ (fun σ' => rdP t n x σ σ') σ') := by
    intro s τ hs s0 s1 hF hk t10 t12
    have e78 : ∀ k, 0 ≤ k → k < n → upd2 τ 71 13 s 78 k = t k := fun k k0 k1 => by rw [upd2_r (by decide), hF 78 (by decide)]; exact ht k k0 k1
    have e9 : upd2 τ 71 13 s 71 9 = n := by rw [upd2_k (by decide)]; exact (hk 9 (by decide)).trans h9
    have hsb := fun q => hb s s0 (show s < n from q)
    refine wp_aload_n (pc := 34) dX7_reads_34 rfl rfl ?_
    refine wp_aload_n (pc := 35) dX7_reads_35 rfl rfl ?_
    refine wp_getI (pc := 36) 12 dX7_reads_36 fl_X7_90 rfl rfl ?_
    rw [t12]
    refine wp_putI (pc := 39) 13 dX7_reads_39 fl_X7_84 ⟨rfl, rfl⟩ rfl rfl ?_
    refine wp_aload_n (pc := 42) dX7_reads_42 rfl rfl ?_
    refine wp_aload_n (pc := 43) dX7_reads_43 rfl rfl ?_
    refine wp_getI (pc := 44) 12 dX7_reads_44 fl_X7_90 rfl rfl ?_
    rw [upd2_k (r := 71) (k := 13) (k' := 12) (by decide)]
    rw [t12]
    refine wp_cvI1 (pc := 47) dX7_reads_47 mv_X7_93 (m_byteAt e9 hn.2 e78 s0) (Nat.le_of_ble_eq_true rfl) rfl (Nat.le_of_ble_eq_true rfl) (fun z_47 σ_47 h_47 => ?_)
    obtain ⟨zz_47, e_47⟩ := h_47; have e2_47 := e_47.symm; subst e2_47
    refine wp_istore_n (pc := 50) dX7_reads_50 rfl (Nat.le_of_ble_eq_true rfl) rfl ?_
    refine wp_aload_n (pc := 51) dX7_reads_51 rfl rfl ?_
    refine wp_iload_n (pc := 52) dX7_reads_52 rfl rfl ?_
    refine wp_putI (pc := 53) 15 dX7_reads_53 fl_X7_97 ⟨rfl, rfl⟩ rfl rfl ?_
    refine wp_iload_n (pc := 56) dX7_reads_56 rfl rfl ?_
    refine wp_bipush (pc := 57) dX7_reads_57 (by decide) (by decide) ?_
    refine wp_icmp_ne (pc := 59) 70 dX7_reads_59 (by decide) (fun c_59 => ?_) (fun c_59 => ?_)
    · have hsn : s < n := Classical.byContradiction fun q => by rw [if_neg q] at zz_47; omega
      rw [if_pos hsn] at zz_47
      have hsb2 := hsb hsn
      refine wp_iload_n (pc := 70) dX7_reads_70 rfl rfl ?_
      refine wp_i2l (pc := 71) dX7_reads_71 ?_
      refine wp_ldc2 (pc := 72) (z := 97) dX7_reads_72 kc_X7_103 (by decide) (by decide) ?_
      refine wp_ldc2 (pc := 75) (z := 122) dX7_reads_75 kc_X7_105 (by decide) (by decide) ?_
      refine wp_csI3 (pc := 78) dX7_reads_78 ms_X7_73 m_in (Nat.le_of_ble_eq_true rfl) (Nat.le_of_ble_eq_true rfl) (fun z_78 σ_78 h_78 => ?_)
      obtain ⟨y_78, e_78⟩ := h_78; have e2_78 := e_78.symm; subst e2_78
      refine wp_if_eq (pc := 81) 123 dX7_reads_81 (by decide) (fun c_81 => ?_) (fun c_81 => ?_)
      · refine wp_iload_n (pc := 123) dX7_reads_123 rfl rfl ?_
        refine wp_i2l (pc := 124) dX7_reads_124 ?_
        refine wp_ldc2 (pc := 125) (z := 48) dX7_reads_125 kc_X7_107 (by decide) (by decide) ?_
        refine wp_ldc2 (pc := 128) (z := 57) dX7_reads_128 kc_X7_109 (by decide) (by decide) ?_
        refine wp_csI3 (pc := 131) dX7_reads_131 ms_X7_73 m_in (Nat.le_of_ble_eq_true rfl) (Nat.le_of_ble_eq_true rfl) (fun z_131 σ_131 h_131 => ?_)
        obtain ⟨y_131, e_131⟩ := h_131; have e2_131 := e_131.symm; subst e2_131
        refine wp_if_eq (pc := 134) 250 dX7_reads_134 (by decide) (fun c_134 => ?_) (fun c_134 => ?_)
        · refine wp_aload_n (pc := 250) dX7_reads_250 rfl rfl ?_
          refine wp_iconst (pc := 251) dX7_reads_251 (by decide) ?_
          refine wp_putI (pc := 252) 14 dX7_reads_252 fl_X7_100 ⟨rfl, rfl⟩ rfl rfl ?_
          refine wp_aload_n (pc := 255) dX7_reads_255 rfl rfl ?_
          refine wp_iload_n (pc := 256) dX7_reads_256 rfl rfl ?_
          refine wp_bipush (pc := 257) dX7_reads_257 (by decide) (by decide) ?_
          refine wp_icmp_eq (pc := 259) 268 dX7_reads_259 (by decide) (fun c_259 => ?_) (fun c_259 => ?_)
          · refine wp_iconst (pc := 268) dX7_reads_268 (by decide) ?_
            refine wp_goto (pc := 269) 273 dX7_reads_269 (by decide) ?_
            subst zz_47
            refine w273 s _ _ hs s0 hsn (by omega) (by omega) (((hF.up (by decide)).up (by decide)).up (by decide)) (fun k hk2 => by rw [upd2_k (by omega), upd2_k (by omega), upd2_k (by omega)]; exact hk k hk2) ?_ ?_ ?_ upd2_eq ?_ (by omega)
            · rw [upd2_k (by decide), upd2_k (by decide), upd2_k (by decide)]; exact t10
            · rw [upd2_k (by decide), upd2_k (by decide), upd2_k (by decide)]; exact t12
            · rw [upd2_k (by decide), upd2_k (by decide), upd2_eq]
            · rw [upd2_k (by decide), upd2_eq]
          · refine wp_iload_n (pc := 262) dX7_reads_262 rfl rfl ?_
            refine wp_bipush (pc := 263) dX7_reads_263 (by decide) (by decide) ?_
            refine wp_icmp_ne (pc := 265) 272 dX7_reads_265 (by decide) (fun c_265 => ?_) (fun c_265 => ?_)
            · refine wp_iconst (pc := 272) dX7_reads_272 (by decide) ?_
              subst zz_47
              refine w273 s _ _ hs s0 hsn (by omega) (by omega) (((hF.up (by decide)).up (by decide)).up (by decide)) (fun k hk2 => by rw [upd2_k (by omega), upd2_k (by omega), upd2_k (by omega)]; exact hk k hk2) ?_ ?_ ?_ upd2_eq ?_ (by omega)
              · rw [upd2_k (by decide), upd2_k (by decide), upd2_k (by decide)]; exact t10
              · rw [upd2_k (by decide), upd2_k (by decide), upd2_k (by decide)]; exact t12
              · rw [upd2_k (by decide), upd2_k (by decide), upd2_eq]
              · rw [upd2_k (by decide), upd2_eq]
            · refine wp_iconst (pc := 268) dX7_reads_268 (by decide) ?_
              refine wp_goto (pc := 269) 273 dX7_reads_269 (by decide) ?_
              subst zz_47
              refine w273 s _ _ hs s0 hsn (by omega) (by omega) (((hF.up (by decide)).up (by decide)).up (by decide)) (fun k hk2 => by rw [upd2_k (by omega), upd2_k (by omega), upd2_k (by omega)]; exact hk k hk2) ?_ ?_ ?_ upd2_eq ?_ (by omega)
              · rw [upd2_k (by decide), upd2_k (by decide), upd2_k (by decide)]; exact t10
              · rw [upd2_k (by decide), upd2_k (by decide), upd2_k (by decide)]; exact t12
              · rw [upd2_k (by decide), upd2_k (by decide), upd2_eq]
              · rw [upd2_k (by decide), upd2_eq]
        · refine wp_aload_n (pc := 137) dX7_reads_137 rfl rfl ?_
          refine wp_iconst (pc := 138) dX7_reads_138 (by decide) ?_
          refine wp_putI (pc := 139) 14 dX7_reads_139 fl_X7_100 ⟨rfl, rfl⟩ rfl rfl ?_
          refine wp_aload_n (pc := 142) dX7_reads_142 rfl rfl ?_
          refine wp_iconst (pc := 143) dX7_reads_143 (by decide) ?_
          refine wp_putI (pc := 144) 15 dX7_reads_144 fl_X7_97 ⟨rfl, rfl⟩ rfl rfl ?_
          refine lpD s hs s0 hsn (by omega) s s1 (Int.le_refl _) _ _ rfl (fun q => absurd q (by omega)) ((((hF.up (by decide)).up (by decide)).up (by decide)).up (by decide)) (fun k hk2 => by rw [upd2_k (by omega), upd2_k (by omega), upd2_k (by omega), upd2_k (by omega)]; exact hk k hk2) ?_ ?_ ?_ ?_ ?_
          · rw [upd2_k (by decide), upd2_k (by decide), upd2_k (by decide), upd2_k (by decide)]; exact t10
          · rw [upd2_k (by decide), upd2_k (by decide), upd2_k (by decide), upd2_k (by decide)]; exact t12
          · rw [upd2_k (by decide), upd2_k (by decide), upd2_k (by decide), upd2_eq]
          · rw [upd2_k (by decide), upd2_eq]
          · rw [upd2_eq, show s - s = 0 by omega]; rfl
      · refine wp_aload_n (pc := 84) dX7_reads_84 rfl rfl ?_
        refine wp_iconst (pc := 85) dX7_reads_85 (by decide) ?_
        refine wp_putI (pc := 86) 14 dX7_reads_86 fl_X7_100 ⟨rfl, rfl⟩ rfl rfl ?_
        refine lpN s hs s0 hsn (by omega) s s1 (Int.le_refl _) _ _ rfl (((hF.up (by decide)).up (by decide)).up (by decide)) (fun k hk2 => by rw [upd2_k (by omega), upd2_k (by omega), upd2_k (by omega)]; exact hk k hk2) ?_ ?_ ?_ upd2_eq ?_
        · rw [upd2_k (by decide), upd2_k (by decide), upd2_k (by decide)]; exact t10
        · rw [upd2_k (by decide), upd2_k (by decide), upd2_k (by decide)]; exact t12
        · rw [upd2_k (by decide), upd2_k (by decide), upd2_eq]
        · rw [upd2_k (by decide), upd2_eq]; exact zz_47
    · refine wp_aload_n (pc := 62) dX7_reads_62 rfl rfl ?_
      refine wp_iconst (pc := 63) dX7_reads_63 (by decide) ?_
      refine wp_putI (pc := 64) 14 dX7_reads_64 fl_X7_100 ⟨rfl, rfl⟩ rfl rfl ?_
      refine wp_goto (pc := 67) 287 dX7_reads_67 (by decide) ?_
      refine wp_return (pc := 287) dX7_reads_287 rfl ?_
      have hsn : n ≤ s := Classical.byContradiction fun q => by
        rw [if_pos (by omega)] at zz_47
        have := hsb (by omega)
        omega
      have eK : tkK t n x = 5 := by unfold tkK; rw [hs, if_pos hsn]
      have eE : tkE t n x = s := by unfold tkE; rw [hs, if_pos hsn]
      refine ⟨rfl, ((hF.up (by decide)).up (by decide)).up (by decide), fun k hk2 => by rw [upd2_k (by omega), upd2_k (by omega), upd2_k (by omega)]; exact hk k hk2, Or.inl ⟨by omega, ?_, ?_, ?_, Or.inl ⟨eK, upd2_eq⟩⟩⟩
      · rw [upd2_k (by decide), upd2_k (by decide), upd2_k (by decide)]; exact t10
      · rw [upd2_k (by decide), upd2_k (by decide), upd2_k (by decide), eE]; exact t12
      · rw [upd2_k (by decide), upd2_k (by decide), upd2_eq, hs]
  have lp : ∀ y, y ≤ n → x ≤ y → ∀ τ : Sto, rn t 32 32 n x = rn t 32 32 n y → Frm [71] σ τ → (∀ k, (k < 10 ∨ 15 < k) → τ 71 k = σ 71 k) → τ 71 10 = 0 → τ 71 12 = y → Wp cX7_reads RX7 none 1 8 [some (mR 71), none] [] τ (fun v σ' => v = none ∧ (fun σ' => rdP t n x σ σ') σ') := by
    refine up_ind n (fun y hy ih ys τ hrn hF hk t10 t12 => ?_)
    have e78 : ∀ k, 0 ≤ k → k < n → τ 78 k = t k := fun k k0 k1 => by rw [hF 78 (by decide)]; exact ht k k0 k1
    have e9 : τ 71 9 = n := (hk 9 (by decide)).trans h9
    refine wp_aload_n (pc := 8) dX7_reads_8 rfl rfl ?_
    refine wp_aload_n (pc := 9) dX7_reads_9 rfl rfl ?_
    refine wp_getI (pc := 10) 12 dX7_reads_10 fl_X7_90 rfl rfl ?_
    rw [t12]
    refine wp_cvI1 (pc := 13) dX7_reads_13 mv_X7_93 (m_byteAt e9 hn.2 e78 (by omega)) (Nat.le_of_ble_eq_true rfl) rfl (Nat.le_of_ble_eq_true rfl) (fun z_13 σ_13 h_13 => ?_)
    obtain ⟨zz_13, e_13⟩ := h_13; have e2_13 := e_13.symm; subst e2_13
    refine wp_bipush (pc := 16) dX7_reads_16 (by decide) (by decide) ?_
    refine wp_icmp_ne (pc := 18) 34 dX7_reads_18 (by decide) (fun c_18 => ?_) (fun c_18 => ?_)
    · have hst : rn t 32 32 n y = y := by
        refine rn_stop ?_
        by_cases hyn : y < n
        · rw [if_pos hyn] at zz_13; right; omega
        · left; omega
      exact w34 y τ (hrn.trans hst) (by omega) hy hF hk t10 t12
    · refine wp_aload_n (pc := 21) dX7_reads_21 rfl rfl ?_
      refine wp_dup (pc := 22) dX7_reads_22 (fun _ h => by cases h) ?_
      refine wp_getI (pc := 23) 12 dX7_reads_23 fl_X7_90 rfl rfl ?_
      refine wp_iconst (pc := 26) dX7_reads_26 (by decide) ?_
      refine wp_iadd (pc := 27) dX7_reads_27 (by omega) ?_
      refine wp_putI (pc := 28) 12 dX7_reads_28 fl_X7_90 ⟨rfl, rfl⟩ rfl rfl ?_
      refine wp_goto (pc := 31) 8 dX7_reads_31 (by decide) ?_
      by_cases hyn : y < n
      · rw [if_pos hyn] at zz_13
        refine ih hyn (by omega) _ (hrn.trans (rn_go hyn (by omega) (by omega))) (hF.up (by decide)) (fun k hk2 => by rw [upd2_k (by omega)]; exact hk k hk2) ?_ ?_
        · rw [upd2_k (by decide)]; exact t10
        · rw [upd2_eq, t12]
      · rw [if_neg hyn] at zz_13
        exfalso; omega
  refine wp_aload_n (pc := 0) dX7_reads_0 rfl rfl ?_
  refine wp_getI (pc := 1) 10 dX7_reads_1 fl_X7_81 rfl rfl ?_
  refine wp_if_le (pc := 4) 8 dX7_reads_4 (by decide) (fun c_4 => ?_) (fun c_4 => ?_)
  · exact lp x (by omega) (by omega) σ rfl Frm.rf (fun _ _ => rfl) h10 hx
  · omega
