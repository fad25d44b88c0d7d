-- Drawing.draw(p)
def drwn (σ σ' : Sto) (p : Int) : Prop := if σ 17 p < 0 then σ' 39 2 = 0 ∧ σ' 39 3 = 0 else σ' 39 2 = hgt (DC σ) p ∧ σ' 39 3 = σ 5 (σ 17 p) ∧ ∀ i, 0 ≤ i → i < σ 5 (σ 17 p) → σ' 40 i = dbg (DC σ) (SC σ) p i ∧ σ' 41 i = den (DC σ) (SC σ) p i ∧ σ' 42 i = dex (DC σ) (SC σ) p i
set_option maxHeartbeats 4000000 in
set_option maxRecDepth 100000 in
theorem c_draw {σ : Sto} {p : Int} (hD : OKD (DC σ) (SC σ)) (hS : OKS (SC σ)) (hp : 0 ≤ p ∧ p < σ 14 0) : CtV yX1_draw cX1_draw 6 none 0 [mR 39, mI p] σ (fun σ' => Frm [39, 40, 41, 42] σ σ' ∧ drwn σ σ' p) := by
  refine ct_of rfl [some (mR 39), some (mI p), none, none, none, none] (Nat.le_of_ble_eq_true rfl) rfl (fun hσ => ?_)
  show Wp cX1_draw RX1 none 0 0 [some (mR 39), some (mI p), none, none, none, none] [] _ _
  have h8 : σ 14 0 ≤ 8 := hD.1.2
  have h7 : 4 ≤ σ 19 1 ∧ σ 19 1 ≤ 20 := hD.2.2.2.2.2.2.1
  have h2 : 2 ≤ σ 19 2 ∧ σ 19 2 ≤ 20 := hD.2.2.2.2.2.2.2.1
  have h6 : σ 2 0 ≤ 6 := hS.1.2
  have hsh : (σ 17 p = -4 ∧ σ 18 p = 0) ∨ (0 ≤ σ 17 p ∧ σ 17 p < σ 2 0 ∧ 2 ≤ σ 18 p ∧ σ 18 p ≤ 5) := hD.2.2.2.1 p hp.1 hp.2
  have hst : 0 ≤ σ 17 p → (1 ≤ σ 4 (σ 17 p) ∧ σ 4 (σ 17 p) ≤ 60) ∧ (1 ≤ σ 5 (σ 17 p) ∧ σ 5 (σ 17 p) ≤ 8) := fun h => ⟨(hS.2 (σ 17 p) h (show σ 17 p < σ 2 0 by omega)).2.1, (hS.2 (σ 17 p) h (show σ 17 p < σ 2 0 by omega)).2.2.1⟩
  have hH : 0 ≤ σ 17 p → 6 ≤ hgt (DC σ) p ∧ hgt (DC σ) p ≤ 100 ∧ hgt (DC σ) p ≤ 9 * σ 19 1 ∧ 0 ≤ (σ 18 p - 1) * σ 19 1 ∧ (σ 18 p - 1) * σ 19 1 ≤ 80 := fun h => hgt_bd hD hp.1 hp.2 h
  have eH : (σ 18 p - 1) * σ 19 1 + σ 19 2 = hgt (DC σ) p := rfl
  have lp : 0 ≤ σ 17 p → ∀ i, -1 ≤ i → i < σ 5 (σ 17 p) → ∀ τ : Sto, Frm [39, 40, 41, 42] σ τ → τ 39 2 = hgt (DC σ) p → τ 39 3 = σ 5 (σ 17 p) → (∀ x, i < x → x < σ 5 (σ 17 p) → τ 40 x = dbg (DC σ) (SC σ) p x ∧ τ 41 x = den (DC σ) (SC σ) p x ∧ τ 42 x = dex (DC σ) (SC σ) p x) → Wp cX1_draw RX1 none 0 121 [some (mR 39), some (mI p), some (mI (σ 17 p)), some (mI (σ 4 (σ 17 p))), some (mI (den (DC σ) (SC σ) p i)), some (mI i)] [] τ (fun v σ' => v = none ∧ (fun σ' => Frm [39, 40, 41, 42] σ σ' ∧ drwn σ σ' p) σ') := by
    intro hs
    have hs2 := hst hs
    have hH2 := hH hs
    refine down_ind (-1) (fun i hi ih hin τ hF e2 e3 hx => ?_)
    have t6 : τ 6 = σ 6 := hF 6 (by decide)
    have t7 : τ 7 = σ 7 := hF 7 (by decide)
    refine wp_iload (pc := 121) dX1_draw_121 rfl ?_
    refine wp_if_lt (pc := 123) 212 dX1_draw_123 (by decide) (fun c_123 => ?_) (fun c_123 => ?_)
    · refine wp_return (pc := 212) dX1_draw_212 rfl ?_
      refine ⟨rfl, hF, ?_⟩
      unfold drwn
      rw [if_neg (by omega)]
      exact ⟨e2, e3, fun x h0 h1 => hx x (by omega) h1⟩
    · have b1 : 0 ≤ dbg (DC σ) (SC σ) p i ∧ dbg (DC σ) (SC σ) p i ≤ hgt (DC σ) p ∧ 0 ≤ σ 6 (σ 17 p * 8 + i) * hgt (DC σ) p ∧ σ 6 (σ 17 p * 8 + i) * hgt (DC σ) p ≤ 6000 := dbg_bd hD hS hp.1 hp.2 hs (by omega) (show i < σ 5 (σ 17 p) by omega)
      have b2 : 0 ≤ dex (DC σ) (SC σ) p i ∧ dex (DC σ) (SC σ) p i ≤ 6060 ∧ 0 ≤ σ 7 (σ 17 p * 8 + i) * hgt (DC σ) p ∧ σ 7 (σ 17 p * 8 + i) * hgt (DC σ) p ≤ 6000 := dex_bd hD hS hp.1 hp.2 hs (by omega) (show i < σ 5 (σ 17 p) by omega)
      refine wp_aload_n (pc := 126) dX1_draw_126 rfl rfl ?_
      refine wp_getR (pc := 127) (q := 40) dX1_draw_127 fl_X1_9 rfl ?_
      refine wp_iload (pc := 130) dX1_draw_130 rfl ?_
      refine wp_aload_n (pc := 132) dX1_draw_132 rfl rfl ?_
      refine wp_getR (pc := 133) (q := 2) dX1_draw_133 fl_X1_21 rfl ?_
      refine wp_getR (pc := 136) (q := 6) dX1_draw_136 fl_X1_57 rfl ?_
      refine wp_iload_n (pc := 139) dX1_draw_139 rfl rfl ?_
      refine wp_bipush (pc := 140) dX1_draw_140 (by decide) (by decide) ?_
      refine wp_imul (pc := 142) dX1_draw_142 (by omega) ?_
      refine wp_iload (pc := 143) dX1_draw_143 rfl ?_
      refine wp_iadd (pc := 145) dX1_draw_145 (by omega) ?_
      refine wp_iald (pc := 146) 48 dX1_draw_146 rfl (by omega) ?_
      rw [t6]
      refine wp_aload_n (pc := 147) dX1_draw_147 rfl rfl ?_
      refine wp_getI (pc := 148) 2 dX1_draw_148 fl_X1_34 rfl rfl ?_
      rw [e2]
      refine wp_imul (pc := 151) dX1_draw_151 (by omega) ?_
      refine wp_iload_n (pc := 152) dX1_draw_152 rfl rfl ?_
      refine wp_idiv (pc := 153) dX1_draw_153 (by omega) (by omega) ?_
      rw [show σ 6 (σ 17 p * 8 + i) * hgt (DC σ) p / σ 4 (σ 17 p) = dbg (DC σ) (SC σ) p i from rfl]
      refine wp_iast (pc := 154) 8 dX1_draw_154 rfl (by omega) ?_
      refine wp_aload_n (pc := 155) dX1_draw_155 rfl rfl ?_
      refine wp_getR (pc := 156) (q := 41) dX1_draw_156 fl_X1_15 rfl ?_
      refine wp_iload (pc := 159) dX1_draw_159 rfl ?_
      refine wp_iload (pc := 161) dX1_draw_161 rfl ?_
      refine wp_iast (pc := 163) 8 dX1_draw_163 rfl (by omega) ?_
      refine wp_aload_n (pc := 164) dX1_draw_164 rfl rfl ?_
      refine wp_getR (pc := 165) (q := 42) dX1_draw_165 fl_X1_18 rfl ?_
      refine wp_iload (pc := 168) dX1_draw_168 rfl ?_
      refine wp_aload_n (pc := 170) dX1_draw_170 rfl rfl ?_
      refine wp_getR (pc := 171) (q := 2) dX1_draw_171 fl_X1_21 rfl ?_
      refine wp_getR (pc := 174) (q := 7) dX1_draw_174 fl_X1_60 rfl ?_
      refine wp_iload_n (pc := 177) dX1_draw_177 rfl rfl ?_
      refine wp_bipush (pc := 178) dX1_draw_178 (by decide) (by decide) ?_
      refine wp_imul (pc := 180) dX1_draw_180 (by omega) ?_
      refine wp_iload (pc := 181) dX1_draw_181 rfl ?_
      refine wp_iadd (pc := 183) dX1_draw_183 (by omega) ?_
      refine wp_iald (pc := 184) 48 dX1_draw_184 rfl (by omega) ?_
      rw [upd2_r (r := 41) (r' := 7) (by decide), upd2_r (r := 40) (r' := 7) (by decide)]
      rw [t7]
      refine wp_aload_n (pc := 185) dX1_draw_185 rfl rfl ?_
      refine wp_getI (pc := 186) 2 dX1_draw_186 fl_X1_34 rfl rfl ?_
      rw [upd2_r (r := 41) (r' := 39) (by decide), upd2_r (r := 40) (r' := 39) (by decide)]
      rw [e2]
      refine wp_imul (pc := 189) dX1_draw_189 (by omega) ?_
      refine wp_iload_n (pc := 190) dX1_draw_190 rfl rfl ?_
      refine wp_iadd (pc := 191) dX1_draw_191 (by omega) ?_
      refine wp_iconst (pc := 192) dX1_draw_192 (by decide) ?_
      refine wp_isub (pc := 193) dX1_draw_193 (by omega) ?_
      refine wp_iload_n (pc := 194) dX1_draw_194 rfl rfl ?_
      refine wp_idiv (pc := 195) dX1_draw_195 (by omega) (by omega) ?_
      rw [show (σ 7 (σ 17 p * 8 + i) * hgt (DC σ) p + σ 4 (σ 17 p) - 1) / σ 4 (σ 17 p) = dex (DC σ) (SC σ) p i from rfl]
      refine wp_iast (pc := 196) 8 dX1_draw_196 rfl (by omega) ?_
      refine wp_aload_n (pc := 197) dX1_draw_197 rfl rfl ?_
      refine wp_getR (pc := 198) (q := 40) dX1_draw_198 fl_X1_9 rfl ?_
      refine wp_iload (pc := 201) dX1_draw_201 rfl ?_
      refine wp_iald (pc := 203) 8 dX1_draw_203 rfl (by omega) ?_
      rw [upd2_r (r := 42) (r' := 40) (by decide), upd2_r (r := 41) (r' := 40) (by decide)]
      rw [upd2_eq]
      refine wp_istore (pc := 204) dX1_draw_204 (Nat.le_of_ble_eq_true rfl) rfl ?_
      refine wp_iinc (pc := 206) dX1_draw_206 rfl rfl (by omega) ?_
      refine wp_goto (pc := 209) 121 dX1_draw_209 (by decide) ?_
      have ed : den (DC σ) (SC σ) p (i - 1) = dbg (DC σ) (SC σ) p i := by
        unfold den
        exact (if_neg (show ¬ i - 1 = σ 5 (σ 17 p) - 1 by omega)).trans (by rw [show i - 1 + 1 = i by omega])
      have ih2 := ih (by omega) (by omega) _ (((hF.up (r := 40) (k := i) (v := dbg (DC σ) (SC σ) p i) (by decide)).up (r := 41) (k := i) (v := den (DC σ) (SC σ) p i) (by decide)).up (r := 42) (k := i) (v := dex (DC σ) (SC σ) p i) (by decide)) (by simp [upd2, e2]) (by simp [upd2, e3]) (fun x h0 h1 => ?_)
      · rw [ed] at ih2
        exact ih2
      · by_cases e : x = i
        · subst e
          simp [upd2]
        · have := hx x (by omega) h1
          simp [upd2, e, this]
  refine wp_aload_n (pc := 0) dX1_draw_0 rfl rfl ?_
  refine wp_getR (pc := 1) (q := 14) dX1_draw_1 fl_X1_25 rfl ?_
  refine wp_getR (pc := 4) (q := 17) dX1_draw_4 fl_X1_29 rfl ?_
  refine wp_iload_n (pc := 7) dX1_draw_7 rfl rfl ?_
  refine wp_iald (pc := 8) 8 dX1_draw_8 rfl (by omega) ?_
  refine wp_istore_n (pc := 9) dX1_draw_9 rfl (Nat.le_of_ble_eq_true rfl) rfl ?_
  refine wp_aload_n (pc := 10) dX1_draw_10 rfl rfl ?_
  refine wp_iconst (pc := 11) dX1_draw_11 (by decide) ?_
  refine wp_putI (pc := 12) 2 dX1_draw_12 fl_X1_34 ⟨rfl, rfl⟩ rfl rfl ?_
  refine wp_aload_n (pc := 15) dX1_draw_15 rfl rfl ?_
  refine wp_iconst (pc := 16) dX1_draw_16 (by decide) ?_
  refine wp_putI (pc := 17) 3 dX1_draw_17 fl_X1_38 ⟨rfl, rfl⟩ rfl rfl ?_
  refine wp_iload_n (pc := 20) dX1_draw_20 rfl rfl ?_
  refine wp_if_lt (pc := 21) 48 dX1_draw_21 (by decide) (fun c_21 => ?_) (fun c_21 => ?_)
  · refine wp_return (pc := 48) dX1_draw_48 rfl ?_
    refine ⟨rfl, (Frm.rf.up (by decide)).up (by decide), ?_⟩
    unfold drwn
    rw [if_pos (by omega)]
    simp [upd2]
  · refine wp_iload_n (pc := 24) dX1_draw_24 rfl rfl ?_
    refine wp_aload_n (pc := 25) dX1_draw_25 rfl rfl ?_
    refine wp_getR (pc := 26) (q := 2) dX1_draw_26 fl_X1_21 rfl ?_
    refine wp_getI (pc := 29) 0 dX1_draw_29 fl_X1_41 rfl rfl ?_
    rw [upd2_r (r := 39) (r' := 2) (by decide), upd2_r (r := 39) (r' := 2) (by decide)]
    refine wp_icmp_ge (pc := 32) 48 dX1_draw_32 (by decide) (fun c_32 => ?_) (fun c_32 => ?_)
    · omega
    · have hs : 0 ≤ σ 17 p := by omega
      have hs2 := hst hs
      have hH2 := hH hs
      refine wp_aload_n (pc := 35) dX1_draw_35 rfl rfl ?_
      refine wp_getR (pc := 36) (q := 2) dX1_draw_36 fl_X1_21 rfl ?_
      refine wp_getR (pc := 39) (q := 4) dX1_draw_39 fl_X1_46 rfl ?_
      refine wp_iload_n (pc := 42) dX1_draw_42 rfl rfl ?_
      refine wp_iald (pc := 43) 6 dX1_draw_43 rfl (by omega) ?_
      rw [upd2_r (r := 39) (r' := 4) (by decide), upd2_r (r := 39) (r' := 4) (by decide)]
      refine wp_iconst (pc := 44) dX1_draw_44 (by decide) ?_
      refine wp_icmp_ge (pc := 45) 49 dX1_draw_45 (by decide) (fun c_45 => ?_) (fun c_45 => ?_)
      · refine wp_aload_n (pc := 49) dX1_draw_49 rfl rfl ?_
        refine wp_getR (pc := 50) (q := 2) dX1_draw_50 fl_X1_21 rfl ?_
        refine wp_getR (pc := 53) (q := 4) dX1_draw_53 fl_X1_46 rfl ?_
        refine wp_iload_n (pc := 56) dX1_draw_56 rfl rfl ?_
        refine wp_iald (pc := 57) 6 dX1_draw_57 rfl (by omega) ?_
        rw [upd2_r (r := 39) (r' := 4) (by decide), upd2_r (r := 39) (r' := 4) (by decide)]
        refine wp_istore_n (pc := 58) dX1_draw_58 rfl (Nat.le_of_ble_eq_true rfl) rfl ?_
        refine wp_aload_n (pc := 59) dX1_draw_59 rfl rfl ?_
        refine wp_aload_n (pc := 60) dX1_draw_60 rfl rfl ?_
        refine wp_getR (pc := 61) (q := 14) dX1_draw_61 fl_X1_25 rfl ?_
        refine wp_getR (pc := 64) (q := 18) dX1_draw_64 fl_X1_49 rfl ?_
        refine wp_iload_n (pc := 67) dX1_draw_67 rfl rfl ?_
        refine wp_iald (pc := 68) 8 dX1_draw_68 rfl (by omega) ?_
        rw [upd2_r (r := 39) (r' := 18) (by decide), upd2_r (r := 39) (r' := 18) (by decide)]
        refine wp_iconst (pc := 69) dX1_draw_69 (by decide) ?_
        refine wp_isub (pc := 70) dX1_draw_70 (by omega) ?_
        refine wp_aload_n (pc := 71) dX1_draw_71 rfl rfl ?_
        refine wp_getR (pc := 72) (q := 14) dX1_draw_72 fl_X1_25 rfl ?_
        refine wp_getR (pc := 75) (q := 19) dX1_draw_75 fl_X1_52 rfl ?_
        refine wp_iconst (pc := 78) dX1_draw_78 (by decide) ?_
        refine wp_iald (pc := 79) 6 dX1_draw_79 rfl (by omega) ?_
        rw [upd2_r (r := 39) (r' := 19) (by decide), upd2_r (r := 39) (r' := 19) (by decide)]
        refine wp_imul (pc := 80) dX1_draw_80 (by omega) ?_
        refine wp_aload_n (pc := 81) dX1_draw_81 rfl rfl ?_
        refine wp_getR (pc := 82) (q := 14) dX1_draw_82 fl_X1_25 rfl ?_
        refine wp_getR (pc := 85) (q := 19) dX1_draw_85 fl_X1_52 rfl ?_
        refine wp_iconst (pc := 88) dX1_draw_88 (by decide) ?_
        refine wp_iald (pc := 89) 6 dX1_draw_89 rfl (by omega) ?_
        rw [upd2_r (r := 39) (r' := 19) (by decide), upd2_r (r := 39) (r' := 19) (by decide)]
        refine wp_iadd (pc := 90) dX1_draw_90 (by omega) ?_
        refine wp_putI (pc := 91) 2 dX1_draw_91 fl_X1_34 ⟨rfl, rfl⟩ rfl rfl ?_
        refine wp_aload_n (pc := 94) dX1_draw_94 rfl rfl ?_
        refine wp_aload_n (pc := 95) dX1_draw_95 rfl rfl ?_
        refine wp_getR (pc := 96) (q := 2) dX1_draw_96 fl_X1_21 rfl ?_
        refine wp_getR (pc := 99) (q := 5) dX1_draw_99 fl_X1_55 rfl ?_
        refine wp_iload_n (pc := 102) dX1_draw_102 rfl rfl ?_
        refine wp_iald (pc := 103) 6 dX1_draw_103 rfl (by omega) ?_
        rw [upd2_r (r := 39) (r' := 5) (by decide), upd2_r (r := 39) (r' := 5) (by decide), upd2_r (r := 39) (r' := 5) (by decide)]
        refine wp_putI (pc := 104) 3 dX1_draw_104 fl_X1_38 ⟨rfl, rfl⟩ rfl rfl ?_
        refine wp_aload_n (pc := 107) dX1_draw_107 rfl rfl ?_
        refine wp_getI (pc := 108) 2 dX1_draw_108 fl_X1_34 rfl rfl ?_
        rw [upd2_k (r := 39) (k := 3) (k' := 2) (by decide), upd2_eq (r := 39) (k := 2)]
        refine wp_istore (pc := 111) dX1_draw_111 (Nat.le_of_ble_eq_true rfl) rfl ?_
        refine wp_aload_n (pc := 113) dX1_draw_113 rfl rfl ?_
        refine wp_getI (pc := 114) 3 dX1_draw_114 fl_X1_38 rfl rfl ?_
        rw [upd2_eq (r := 39) (k := 3)]
        refine wp_iconst (pc := 117) dX1_draw_117 (by decide) ?_
        refine wp_isub (pc := 118) dX1_draw_118 (by omega) ?_
        refine wp_istore (pc := 119) dX1_draw_119 (Nat.le_of_ble_eq_true rfl) rfl ?_
        have ed : den (DC σ) (SC σ) p (σ 5 (σ 17 p) - 1) = (σ 18 p - 1) * σ 19 1 + σ 19 2 := by
          unfold den
          exact if_pos (show σ 5 (σ 17 p) - 1 = σ 5 (σ 17 p) - 1 from rfl)
        have l2 := lp hs (σ 5 (σ 17 p) - 1) (by omega) (by omega) _ ((((Frm.rf.up (r := 39) (k := 2) (v := 0) (by decide)).up (r := 39) (k := 3) (v := 0) (by decide)).up (r := 39) (k := 2) (v := (σ 18 p - 1) * σ 19 1 + σ 19 2) (by decide)).up (r := 39) (k := 3) (v := σ 5 (σ 17 p)) (by decide)) (by simp [upd2, eH]) (by simp [upd2]) (fun x h0 h1 => absurd h0 (by omega))
        rw [ed] at l2
        exact l2
      · omega
-- Drawing.reachAt(j), behind draw(p)
set_option maxHeartbeats 4000000 in
set_option maxRecDepth 100000 in
theorem c_reachAt {σ τ : Sto} {p j : Int} (hD : OKD (DC σ) (SC σ)) (hS : OKS (SC σ)) (hp : 0 ≤ p ∧ p < σ 14 0) (hd : drwn σ τ p) (ht : τ 19 = σ 19) : CtI yX1_reachAt cX1_reachAt 7 (some .int) 0 [mR 39, mI j] τ (fun z σ' => z = rch (DC σ) (SC σ) p j ∧ σ' = τ) := by
  refine ct_of rfl [some (mR 39), some (mI j), none, none, none, none, none] (Nat.le_of_ble_eq_true rfl) rfl (fun hσ => ?_)
  show Wp cX1_reachAt RX1 (some .int) 0 0 [some (mR 39), some (mI j), none, none, none, none, none] [] _ _
  have h7 : 4 ≤ σ 19 1 ∧ σ 19 1 ≤ 20 := hD.2.2.2.2.2.2.1
  have h9 : 0 ≤ σ 19 3 ∧ σ 19 3 ≤ 9 := hD.2.2.2.2.2.2.2.2.1
  have hsh : (σ 17 p = -4 ∧ σ 18 p = 0) ∨ (0 ≤ σ 17 p ∧ σ 17 p < σ 2 0 ∧ 2 ≤ σ 18 p ∧ σ 18 p ≤ 5) := hD.2.2.2.1 p hp.1 hp.2
  have hst : 0 ≤ σ 17 p → (1 ≤ σ 5 (σ 17 p) ∧ σ 5 (σ 17 p) ≤ 8) := fun h => (hS.2 (σ 17 p) h (show σ 17 p < σ 2 0 by omega)).2.2.1
  have n0 : 0 ≤ τ 39 3 ∧ τ 39 3 ≤ 8 := by
    unfold drwn at hd
    split at hd
    · omega
    · have := hst (by omega)
      omega
  have hx : ∀ k, 0 ≤ k → k < τ 39 3 → 0 ≤ τ 42 k ∧ τ 42 k ≤ 6060 := by
    intro k h0 h1
    unfold drwn at hd
    split at hd
    · omega
    · have h2 := hd.2.2 k h0 (by omega)
      have h3 := dex_bd hD hS hp.1 hp.2 (show 0 ≤ σ 17 p by omega) h0 (show k < σ 5 (σ 17 p) by omega)
      rw [h2.2.2]
      omega
  have hjl : 0 ≤ j → j < 9 → 0 ≤ j * σ 19 1 ∧ j * σ 19 1 ≤ 180 := fun h0 h1 => mulb (A := 9) (B := 20) h0 (by omega) (by omega) (by omega)
  have lp : 0 ≤ j → j < 9 → ∀ i, i ≤ τ 39 3 → 0 ≤ i → ∀ l6 : Option MV, Wp cX1_reachAt RX1 (some .int) 0 43 [some (mR 39), some (mI j), some (mI (j * σ 19 1)), some (mI (j * σ 19 1 + σ 19 1)), some (mI (rbI (τ 40) (τ 41) (τ 42) (j * σ 19 1) (σ 19 1) i)), some (mI i), l6] [] τ (fun v σ' => ∃ z, v = some (mI z) ∧ (fun z σ' => z = rch (DC σ) (SC σ) p j ∧ σ' = τ) z σ') := by
    intro hj0 hj9
    have hm := hjl hj0 hj9
    refine up_ind (τ 39 3) (fun i hi ih h0 l6 => ?_)
    have hb := rbI_bd (B := τ 40) (E := τ 41) (X := τ 42) (a := j * σ 19 1) (b := σ 19 1) (n := i) (c := 6060) (by omega) (fun k a b => hx k a (by omega))
    refine wp_iload (pc := 43) dX1_reachAt_43 rfl ?_
    refine wp_aload_n (pc := 45) dX1_reachAt_45 rfl rfl ?_
    refine wp_getI (pc := 46) 3 dX1_reachAt_46 fl_X1_38 rfl rfl ?_
    refine wp_icmp_ge (pc := 49) 130 dX1_reachAt_49 (by decide) (fun c_49 => ?_) (fun c_49 => ?_)
    · have e : i = τ 39 3 := by omega
      subst e
      refine wp_iload (pc := 130) dX1_reachAt_130 rfl ?_
      refine wp_if_ge (pc := 132) 139 dX1_reachAt_132 (by decide) (fun c_132 => ?_) (fun c_132 => ?_)
      · refine wp_iload (pc := 139) dX1_reachAt_139 rfl ?_
        refine wp_aload_n (pc := 141) dX1_reachAt_141 rfl rfl ?_
        refine wp_getR (pc := 142) (q := 14) dX1_reachAt_142 fl_X1_25 rfl ?_
        refine wp_getR (pc := 145) (q := 19) dX1_reachAt_145 fl_X1_52 rfl ?_
        refine wp_iconst (pc := 148) dX1_reachAt_148 (by decide) ?_
        refine wp_iald (pc := 149) 6 dX1_reachAt_149 rfl (by omega) ?_
        rw [ht]
        refine wp_iadd (pc := 150) dX1_reachAt_150 (by omega) ?_
        refine wp_ireturn (pc := 151) dX1_reachAt_151 rfl ?_
        refine ⟨_, rfl, ?_, rfl⟩
        show _ = if σ 17 p < 0 ∨ j < 0 then (0 : Int) else if rbs (DC σ) (SC σ) p j < 0 then 0 else rbs (DC σ) (SC σ) p j + σ 19 3
        unfold drwn at hd
        split at hd
        · have e0 : rbI (τ 40) (τ 41) (τ 42) (j * σ 19 1) (σ 19 1) (τ 39 3) = -4 := by rw [hd.2]; rfl
          rw [if_pos (show σ 17 p < 0 ∨ j < 0 by omega)]
          try omega
        · have e1 : rbI (τ 40) (τ 41) (τ 42) (j * σ 19 1) (σ 19 1) (τ 39 3) = rbs (DC σ) (SC σ) p j := by rw [hd.2.1]; exact rbI_cong (fun k a b => hd.2.2 k a b)
          rw [if_neg (by omega), ← e1]
          first | rw [if_pos (by omega)] | rw [if_neg (by omega)]
      · refine wp_iconst (pc := 135) dX1_reachAt_135 (by decide) ?_
        refine wp_goto (pc := 136) 151 dX1_reachAt_136 (by decide) ?_
        refine wp_ireturn (pc := 151) dX1_reachAt_151 rfl ?_
        refine ⟨_, rfl, ?_, rfl⟩
        show _ = if σ 17 p < 0 ∨ j < 0 then (0 : Int) else if rbs (DC σ) (SC σ) p j < 0 then 0 else rbs (DC σ) (SC σ) p j + σ 19 3
        unfold drwn at hd
        split at hd
        · have e0 : rbI (τ 40) (τ 41) (τ 42) (j * σ 19 1) (σ 19 1) (τ 39 3) = -4 := by rw [hd.2]; rfl
          rw [if_pos (show σ 17 p < 0 ∨ j < 0 by omega)]
          try omega
        · have e1 : rbI (τ 40) (τ 41) (τ 42) (j * σ 19 1) (σ 19 1) (τ 39 3) = rbs (DC σ) (SC σ) p j := by rw [hd.2.1]; exact rbI_cong (fun k a b => hd.2.2 k a b)
          rw [if_neg (by omega), ← e1]
          first | rw [if_pos (by omega)] | rw [if_neg (by omega)]
    · refine wp_aload_n (pc := 52) dX1_reachAt_52 rfl rfl ?_
      refine wp_getR (pc := 53) (q := 40) dX1_reachAt_53 fl_X1_9 rfl ?_
      refine wp_iload (pc := 56) dX1_reachAt_56 rfl ?_
      refine wp_iald (pc := 58) 8 dX1_reachAt_58 rfl (by omega) ?_
      refine wp_aload_n (pc := 59) dX1_reachAt_59 rfl rfl ?_
      refine wp_getR (pc := 60) (q := 41) dX1_reachAt_60 fl_X1_15 rfl ?_
      refine wp_iload (pc := 63) dX1_reachAt_63 rfl ?_
      refine wp_iald (pc := 65) 8 dX1_reachAt_65 rfl (by omega) ?_
      refine wp_icmp_ge (pc := 66) 95 dX1_reachAt_66 (by decide) (fun c_66 => ?_) (fun c_66 => ?_)
      · refine wp_iconst (pc := 95) dX1_reachAt_95 (by decide) ?_
        refine wp_istore (pc := 96) dX1_reachAt_96 (Nat.le_of_ble_eq_true rfl) rfl ?_
        refine wp_iload (pc := 98) dX1_reachAt_98 rfl ?_
        refine wp_if_eq (pc := 100) 124 dX1_reachAt_100 (by decide) (fun c_100 => ?_) (fun c_100 => ?_)
        · refine wp_iinc (pc := 124) dX1_reachAt_124 rfl rfl (by omega) ?_
          refine wp_goto (pc := 127) 43 dX1_reachAt_127 (by decide) ?_
          have h2 := ih (by omega) (by omega)
          rw [rbI_s h0] at h2
          first | (rw [if_pos (by omega)] at h2; exact h2 _) | (rw [if_neg (by omega)] at h2; exact h2 _)
        · refine wp_aload_n (pc := 103) dX1_reachAt_103 rfl rfl ?_
          refine wp_getR (pc := 104) (q := 42) dX1_reachAt_104 fl_X1_18 rfl ?_
          refine wp_iload (pc := 107) dX1_reachAt_107 rfl ?_
          refine wp_iald (pc := 109) 8 dX1_reachAt_109 rfl (by omega) ?_
          refine wp_iload (pc := 110) dX1_reachAt_110 rfl ?_
          refine wp_icmp_le (pc := 112) 124 dX1_reachAt_112 (by decide) (fun c_112 => ?_) (fun c_112 => ?_)
          · refine wp_iinc (pc := 124) dX1_reachAt_124 rfl rfl (by omega) ?_
            refine wp_goto (pc := 127) 43 dX1_reachAt_127 (by decide) ?_
            have h2 := ih (by omega) (by omega)
            rw [rbI_s h0] at h2
            first | (rw [if_pos (by omega)] at h2; exact h2 _) | (rw [if_neg (by omega)] at h2; exact h2 _)
          · refine wp_aload_n (pc := 115) dX1_reachAt_115 rfl rfl ?_
            refine wp_getR (pc := 116) (q := 42) dX1_reachAt_116 fl_X1_18 rfl ?_
            refine wp_iload (pc := 119) dX1_reachAt_119 rfl ?_
            refine wp_iald (pc := 121) 8 dX1_reachAt_121 rfl (by omega) ?_
            refine wp_istore (pc := 122) dX1_reachAt_122 (Nat.le_of_ble_eq_true rfl) rfl ?_
            refine wp_iinc (pc := 124) dX1_reachAt_124 rfl rfl (by omega) ?_
            refine wp_goto (pc := 127) 43 dX1_reachAt_127 (by decide) ?_
            have h2 := ih (by omega) (by omega)
            rw [rbI_s h0] at h2
            first | (rw [if_pos (by omega)] at h2; exact h2 _) | (rw [if_neg (by omega)] at h2; exact h2 _)
      · refine wp_aload_n (pc := 69) dX1_reachAt_69 rfl rfl ?_
        refine wp_getR (pc := 70) (q := 40) dX1_reachAt_70 fl_X1_9 rfl ?_
        refine wp_iload (pc := 73) dX1_reachAt_73 rfl ?_
        refine wp_iald (pc := 75) 8 dX1_reachAt_75 rfl (by omega) ?_
        refine wp_iload_n (pc := 76) dX1_reachAt_76 rfl rfl ?_
        refine wp_icmp_ge (pc := 77) 95 dX1_reachAt_77 (by decide) (fun c_77 => ?_) (fun c_77 => ?_)
        · refine wp_iconst (pc := 95) dX1_reachAt_95 (by decide) ?_
          refine wp_istore (pc := 96) dX1_reachAt_96 (Nat.le_of_ble_eq_true rfl) rfl ?_
          refine wp_iload (pc := 98) dX1_reachAt_98 rfl ?_
          refine wp_if_eq (pc := 100) 124 dX1_reachAt_100 (by decide) (fun c_100 => ?_) (fun c_100 => ?_)
          · refine wp_iinc (pc := 124) dX1_reachAt_124 rfl rfl (by omega) ?_
            refine wp_goto (pc := 127) 43 dX1_reachAt_127 (by decide) ?_
            have h2 := ih (by omega) (by omega)
            rw [rbI_s h0] at h2
            first | (rw [if_pos (by omega)] at h2; exact h2 _) | (rw [if_neg (by omega)] at h2; exact h2 _)
          · refine wp_aload_n (pc := 103) dX1_reachAt_103 rfl rfl ?_
            refine wp_getR (pc := 104) (q := 42) dX1_reachAt_104 fl_X1_18 rfl ?_
            refine wp_iload (pc := 107) dX1_reachAt_107 rfl ?_
            refine wp_iald (pc := 109) 8 dX1_reachAt_109 rfl (by omega) ?_
            refine wp_iload (pc := 110) dX1_reachAt_110 rfl ?_
            refine wp_icmp_le (pc := 112) 124 dX1_reachAt_112 (by decide) (fun c_112 => ?_) (fun c_112 => ?_)
            · refine wp_iinc (pc := 124) dX1_reachAt_124 rfl rfl (by omega) ?_
              refine wp_goto (pc := 127) 43 dX1_reachAt_127 (by decide) ?_
              have h2 := ih (by omega) (by omega)
              rw [rbI_s h0] at h2
              first | (rw [if_pos (by omega)] at h2; exact h2 _) | (rw [if_neg (by omega)] at h2; exact h2 _)
            · refine wp_aload_n (pc := 115) dX1_reachAt_115 rfl rfl ?_
              refine wp_getR (pc := 116) (q := 42) dX1_reachAt_116 fl_X1_18 rfl ?_
              refine wp_iload (pc := 119) dX1_reachAt_119 rfl ?_
              refine wp_iald (pc := 121) 8 dX1_reachAt_121 rfl (by omega) ?_
              refine wp_istore (pc := 122) dX1_reachAt_122 (Nat.le_of_ble_eq_true rfl) rfl ?_
              refine wp_iinc (pc := 124) dX1_reachAt_124 rfl rfl (by omega) ?_
              refine wp_goto (pc := 127) 43 dX1_reachAt_127 (by decide) ?_
              have h2 := ih (by omega) (by omega)
              rw [rbI_s h0] at h2
              first | (rw [if_pos (by omega)] at h2; exact h2 _) | (rw [if_neg (by omega)] at h2; exact h2 _)
        · refine wp_aload_n (pc := 80) dX1_reachAt_80 rfl rfl ?_
          refine wp_getR (pc := 81) (q := 41) dX1_reachAt_81 fl_X1_15 rfl ?_
          refine wp_iload (pc := 84) dX1_reachAt_84 rfl ?_
          refine wp_iald (pc := 86) 8 dX1_reachAt_86 rfl (by omega) ?_
          refine wp_iload_n (pc := 87) dX1_reachAt_87 rfl rfl ?_
          refine wp_icmp_le (pc := 88) 95 dX1_reachAt_88 (by decide) (fun c_88 => ?_) (fun c_88 => ?_)
          · refine wp_iconst (pc := 95) dX1_reachAt_95 (by decide) ?_
            refine wp_istore (pc := 96) dX1_reachAt_96 (Nat.le_of_ble_eq_true rfl) rfl ?_
            refine wp_iload (pc := 98) dX1_reachAt_98 rfl ?_
            refine wp_if_eq (pc := 100) 124 dX1_reachAt_100 (by decide) (fun c_100 => ?_) (fun c_100 => ?_)
            · refine wp_iinc (pc := 124) dX1_reachAt_124 rfl rfl (by omega) ?_
              refine wp_goto (pc := 127) 43 dX1_reachAt_127 (by decide) ?_
              have h2 := ih (by omega) (by omega)
              rw [rbI_s h0] at h2
              first | (rw [if_pos (by omega)] at h2; exact h2 _) | (rw [if_neg (by omega)] at h2; exact h2 _)
            · refine wp_aload_n (pc := 103) dX1_reachAt_103 rfl rfl ?_
              refine wp_getR (pc := 104) (q := 42) dX1_reachAt_104 fl_X1_18 rfl ?_
              refine wp_iload (pc := 107) dX1_reachAt_107 rfl ?_
              refine wp_iald (pc := 109) 8 dX1_reachAt_109 rfl (by omega) ?_
              refine wp_iload (pc := 110) dX1_reachAt_110 rfl ?_
              refine wp_icmp_le (pc := 112) 124 dX1_reachAt_112 (by decide) (fun c_112 => ?_) (fun c_112 => ?_)
              · refine wp_iinc (pc := 124) dX1_reachAt_124 rfl rfl (by omega) ?_
                refine wp_goto (pc := 127) 43 dX1_reachAt_127 (by decide) ?_
                have h2 := ih (by omega) (by omega)
                rw [rbI_s h0] at h2
                first | (rw [if_pos (by omega)] at h2; exact h2 _) | (rw [if_neg (by omega)] at h2; exact h2 _)
              · refine wp_aload_n (pc := 115) dX1_reachAt_115 rfl rfl ?_
                refine wp_getR (pc := 116) (q := 42) dX1_reachAt_116 fl_X1_18 rfl ?_
                refine wp_iload (pc := 119) dX1_reachAt_119 rfl ?_
                refine wp_iald (pc := 121) 8 dX1_reachAt_121 rfl (by omega) ?_
                refine wp_istore (pc := 122) dX1_reachAt_122 (Nat.le_of_ble_eq_true rfl) rfl ?_
                refine wp_iinc (pc := 124) dX1_reachAt_124 rfl rfl (by omega) ?_
                refine wp_goto (pc := 127) 43 dX1_reachAt_127 (by decide) ?_
                have h2 := ih (by omega) (by omega)
                rw [rbI_s h0] at h2
                first | (rw [if_pos (by omega)] at h2; exact h2 _) | (rw [if_neg (by omega)] at h2; exact h2 _)
          · refine wp_iconst (pc := 91) dX1_reachAt_91 (by decide) ?_
            refine wp_goto (pc := 92) 96 dX1_reachAt_92 (by decide) ?_
            refine wp_istore (pc := 96) dX1_reachAt_96 (Nat.le_of_ble_eq_true rfl) rfl ?_
            refine wp_iload (pc := 98) dX1_reachAt_98 rfl ?_
            refine wp_if_eq (pc := 100) 124 dX1_reachAt_100 (by decide) (fun c_100 => ?_) (fun c_100 => ?_)
            · refine wp_iinc (pc := 124) dX1_reachAt_124 rfl rfl (by omega) ?_
              refine wp_goto (pc := 127) 43 dX1_reachAt_127 (by decide) ?_
              have h2 := ih (by omega) (by omega)
              rw [rbI_s h0] at h2
              first | (rw [if_pos (by omega)] at h2; exact h2 _) | (rw [if_neg (by omega)] at h2; exact h2 _)
            · refine wp_aload_n (pc := 103) dX1_reachAt_103 rfl rfl ?_
              refine wp_getR (pc := 104) (q := 42) dX1_reachAt_104 fl_X1_18 rfl ?_
              refine wp_iload (pc := 107) dX1_reachAt_107 rfl ?_
              refine wp_iald (pc := 109) 8 dX1_reachAt_109 rfl (by omega) ?_
              refine wp_iload (pc := 110) dX1_reachAt_110 rfl ?_
              refine wp_icmp_le (pc := 112) 124 dX1_reachAt_112 (by decide) (fun c_112 => ?_) (fun c_112 => ?_)
              · refine wp_iinc (pc := 124) dX1_reachAt_124 rfl rfl (by omega) ?_
                refine wp_goto (pc := 127) 43 dX1_reachAt_127 (by decide) ?_
                have h2 := ih (by omega) (by omega)
                rw [rbI_s h0] at h2
                first | (rw [if_pos (by omega)] at h2; exact h2 _) | (rw [if_neg (by omega)] at h2; exact h2 _)
              · refine wp_aload_n (pc := 115) dX1_reachAt_115 rfl rfl ?_
                refine wp_getR (pc := 116) (q := 42) dX1_reachAt_116 fl_X1_18 rfl ?_
                refine wp_iload (pc := 119) dX1_reachAt_119 rfl ?_
                refine wp_iald (pc := 121) 8 dX1_reachAt_121 rfl (by omega) ?_
                refine wp_istore (pc := 122) dX1_reachAt_122 (Nat.le_of_ble_eq_true rfl) rfl ?_
                refine wp_iinc (pc := 124) dX1_reachAt_124 rfl rfl (by omega) ?_
                refine wp_goto (pc := 127) 43 dX1_reachAt_127 (by decide) ?_
                have h2 := ih (by omega) (by omega)
                rw [rbI_s h0] at h2
                first | (rw [if_pos (by omega)] at h2; exact h2 _) | (rw [if_neg (by omega)] at h2; exact h2 _)
  refine wp_iload_n (pc := 0) dX1_reachAt_0 rfl rfl ?_
  refine wp_if_lt (pc := 1) 10 dX1_reachAt_1 (by decide) (fun c_1 => ?_) (fun c_1 => ?_)
  · refine wp_iconst (pc := 10) dX1_reachAt_10 (by decide) ?_
    refine wp_ireturn (pc := 11) dX1_reachAt_11 rfl ?_
    refine ⟨_, rfl, ?_, rfl⟩
    first | exact (rch_far hD hS hp.1 hp.2 (by omega)).symm | (unfold rch; rw [if_pos (by omega)])
  · refine wp_iload_n (pc := 4) dX1_reachAt_4 rfl rfl ?_
    refine wp_bipush (pc := 5) dX1_reachAt_5 (by decide) (by decide) ?_
    refine wp_icmp_lt (pc := 7) 12 dX1_reachAt_7 (by decide) (fun c_7 => ?_) (fun c_7 => ?_)
    · refine wp_iload_n (pc := 12) dX1_reachAt_12 rfl rfl ?_
      refine wp_aload_n (pc := 13) dX1_reachAt_13 rfl rfl ?_
      refine wp_getR (pc := 14) (q := 14) dX1_reachAt_14 fl_X1_25 rfl ?_
      refine wp_getR (pc := 17) (q := 19) dX1_reachAt_17 fl_X1_52 rfl ?_
      refine wp_iconst (pc := 20) dX1_reachAt_20 (by decide) ?_
      refine wp_iald (pc := 21) 6 dX1_reachAt_21 rfl (by omega) ?_
      rw [ht]
      have hm := hjl (by omega) (by omega)
      refine wp_imul (pc := 22) dX1_reachAt_22 (by omega) ?_
      refine wp_istore_n (pc := 23) dX1_reachAt_23 rfl (Nat.le_of_ble_eq_true rfl) rfl ?_
      refine wp_iload_n (pc := 24) dX1_reachAt_24 rfl rfl ?_
      refine wp_aload_n (pc := 25) dX1_reachAt_25 rfl rfl ?_
      refine wp_getR (pc := 26) (q := 14) dX1_reachAt_26 fl_X1_25 rfl ?_
      refine wp_getR (pc := 29) (q := 19) dX1_reachAt_29 fl_X1_52 rfl ?_
      refine wp_iconst (pc := 32) dX1_reachAt_32 (by decide) ?_
      refine wp_iald (pc := 33) 6 dX1_reachAt_33 rfl (by omega) ?_
      rw [ht]
      refine wp_iadd (pc := 34) dX1_reachAt_34 (by omega) ?_
      refine wp_istore_n (pc := 35) dX1_reachAt_35 rfl (Nat.le_of_ble_eq_true rfl) rfl ?_
      refine wp_bipush (pc := 36) dX1_reachAt_36 (by decide) (by decide) ?_
      refine wp_istore (pc := 38) dX1_reachAt_38 (Nat.le_of_ble_eq_true rfl) rfl ?_
      refine wp_iconst (pc := 40) dX1_reachAt_40 (by decide) ?_
      refine wp_istore (pc := 41) dX1_reachAt_41 (Nat.le_of_ble_eq_true rfl) rfl ?_
      exact lp (by omega) (by omega) 0 (by omega) (by omega) none
    · refine wp_iconst (pc := 10) dX1_reachAt_10 (by decide) ?_
      refine wp_ireturn (pc := 11) dX1_reachAt_11 rfl ?_
      refine ⟨_, rfl, ?_, rfl⟩
      first | exact (rch_far hD hS hp.1 hp.2 (by omega)).symm | (unfold rch; rw [if_pos (by omega)])
set_option maxHeartbeats 4000000 in
set_option maxRecDepth 100000 in
theorem c_reachAt' {σ τ : Sto} {p j : Int} (hD : OKD (DC σ) (SC σ)) (hS : OKS (SC σ)) (hp : 0 ≤ p ∧ p < σ 14 0) (hd : drwn σ τ p) (ht : Frm [39, 40, 41, 42] σ τ) : CtI yX1_reachAt cX1_reachAt 7 (some .int) 0 [mR 39, mI j] τ (fun z σ' => z = rch (DC σ) (SC σ) p j ∧ σ' = τ) := c_reachAt hD hS hp hd (ht 19 (by decide))
