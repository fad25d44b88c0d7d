-- where a word comes from
def mvd (f t v : Int) : Int := if f < t then (if f ≤ v ∧ v < t then v + 1 else if v = t then f else v) else (if t < v ∧ v ≤ f then v - 1 else if v = t then f else v)
def gmv (f s w v : Int) : Int := if s = 1 then (if f ≤ v ∧ v < w then v + 1 else v) else (if w < v ∧ v ≤ f then v - 1 else v)
set_option maxHeartbeats 4000000 in
set_option maxRecDepth 100000 in
theorem m_moves {σ : Sto} {f t : Int} (hf : 0 ≤ f ∧ f < 80) (ht : 0 ≤ t ∧ t < 80) : CtV yX7_moves cX7_moves 6 none 0 [mR 71, mI f, mI t] σ (fun σ' => Frm [72, 91] σ σ' ∧ (∀ x, (x < 25 ∨ 585 ≤ x) → σ' 72 x = σ 72 x) ∧ ∀ v c, 0 ≤ v → v < 80 → 0 ≤ c → c < 7 → σ' 72 (25 + 7 * v + c) = σ 72 (25 + 7 * mvd f t v + c)) := by
  refine ct_of rfl [some (mR 71), some (mI f), some (mI t), none, none, none] (Nat.le_of_ble_eq_true rfl) rfl (fun hσ => ?_)
  show Wp cX7_moves RX7 none 0 0 [some (mR 71), some (mI f), some (mI t), none, none, none] [] _ _
  -- the word is laid down
  have lp3 : ∀ (τ₀ : Sto) (s : Int), (s = 1 ∧ f < t) ∨ (s = -1 ∧ t ≤ f) → Frm [72, 91] σ τ₀ → (∀ c, 0 ≤ c → c < 7 → τ₀ 91 c = σ 72 (25 + 7 * f + c)) → (∀ x, (x < 25 ∨ 585 ≤ x) → τ₀ 72 x = σ 72 x) → (∀ v c, 0 ≤ v → v < 80 → 0 ≤ c → c < 7 → τ₀ 72 (25 + 7 * v + c) = σ 72 (25 + 7 * gmv f s t v + c)) → ∀ k, k ≤ 7 → 0 ≤ k → ∀ τ : Sto, Frm [72] τ₀ τ → (∀ x, (x < 25 ∨ 585 ≤ x) → τ 72 x = σ 72 x) → (∀ v c, 0 ≤ v → v < 80 → 0 ≤ c → c < 7 → τ 72 (25 + 7 * v + c) = if v = t ∧ c < k then σ 72 (25 + 7 * f + c) else τ₀ 72 (25 + 7 * v + c)) → Wp cX7_moves RX7 none 0 116 [some (mR 71), some (mI f), some (mI t), some (mI s), some (mI k), none] [] τ (fun v σ' => v = none ∧ (fun σ' => Frm [72, 91] σ σ' ∧ (∀ x, (x < 25 ∨ 585 ≤ x) → σ' 72 x = σ 72 x) ∧ ∀ v c, 0 ≤ v → v < 80 → 0 ≤ c → c < 7 → σ' 72 (25 + 7 * v + c) = σ 72 (25 + 7 * mvd f t v + c)) σ') := by
    intro τ₀ s hs hF0 h91 hout0 hin0
    refine up_ind 7 (fun k hk ih k0 τ hF hout hin => ?_)
    have e91 : ∀ c, τ 91 c = τ₀ 91 c := fun c => by rw [hF 91 (by decide)]
    refine wp_iload (pc := 116) dX7_moves_116 rfl ?_
    refine wp_bipush (pc := 118) dX7_moves_118 (by decide) (by decide) ?_
    refine wp_icmp_ge (pc := 120) 151 dX7_moves_120 (by decide) (fun c_120 => ?_) (fun c_120 => ?_)
    · refine wp_return (pc := 151) dX7_moves_151 rfl ?_
      refine ⟨rfl, hF0.tr (hF.mono (by decide)), hout, fun v c v0 v1 c0 c1 => ?_⟩
      rw [hin v c v0 v1 c0 c1]
      by_cases e2 : v = t
      · rw [if_pos (by omega)]
        have e3 : mvd f t v = f := by
          unfold mvd
          by_cases c9 : f < t
          · rw [if_pos c9, if_neg (by omega), if_pos e2]
          · rw [if_neg c9, if_neg (by omega), if_pos e2]
        rw [e3]
      · rw [if_neg (by omega), hin0 v c v0 v1 c0 c1]
        have e3 : mvd f t v = gmv f s t v := by
          unfold mvd gmv
          rcases hs with c9 | c9
          · rw [if_pos c9.2, if_pos c9.1]
            by_cases c8 : f ≤ v ∧ v < t
            · rw [if_pos c8, if_pos c8]
            · rw [if_neg c8, if_neg c8, if_neg e2]
          · rw [if_neg (show ¬ f < t by omega), if_neg (show ¬ s = 1 by omega)]
            by_cases c8 : t < v ∧ v ≤ f
            · rw [if_pos c8, if_pos c8]
            · rw [if_neg c8, if_neg c8, if_neg e2]
        rw [e3]
    · refine wp_aload_n (pc := 123) dX7_moves_123 rfl rfl ?_
      refine wp_getR (pc := 124) (q := 72) dX7_moves_124 fl_X7_7 rfl ?_
      refine wp_bipush (pc := 127) dX7_moves_127 (by decide) (by decide) ?_
      refine wp_bipush (pc := 129) dX7_moves_129 (by decide) (by decide) ?_
      refine wp_iload_n (pc := 131) dX7_moves_131 rfl rfl ?_
      refine wp_imul (pc := 132) dX7_moves_132 (by omega) ?_
      refine wp_iadd (pc := 133) dX7_moves_133 (by omega) ?_
      refine wp_iload (pc := 134) dX7_moves_134 rfl ?_
      refine wp_iadd (pc := 136) dX7_moves_136 (by omega) ?_
      refine wp_aload_n (pc := 137) dX7_moves_137 rfl rfl ?_
      refine wp_getR (pc := 138) (q := 91) dX7_moves_138 fl_X7_68 rfl ?_
      refine wp_iload (pc := 141) dX7_moves_141 rfl ?_
      refine wp_iald (pc := 143) 7 dX7_moves_143 rfl (by omega) ?_
      rw [e91, h91 k k0 (by omega)]
      refine wp_iast (pc := 144) 591 dX7_moves_144 rfl (by omega) ?_
      refine wp_iinc (pc := 145) dX7_moves_145 rfl rfl (by omega) ?_
      refine wp_goto (pc := 148) 116 dX7_moves_148 (by decide) ?_
      refine ih (by omega) (by omega) _ (hF.up (by decide)) (fun x hx => by rw [upd2_k (by omega)]; exact hout x hx) (fun v c v0 v1 c0 c1 => ?_)
      by_cases e : 25 + 7 * v + c = 25 + 7 * t + k
      · rw [e, upd2_eq, if_pos (by omega), show c = k by omega]
      · rw [upd2_k e, hin v c v0 v1 c0 c1]
        by_cases e2 : v = t ∧ c < k
        · rw [if_pos e2, if_pos (by omega)]
        · rw [if_neg e2, if_neg (by omega)]
  -- the words between move by one
  have lp2 : ∀ n : Nat, ∀ (s w : Int), ((s = 1 ∧ f < t ∧ f ≤ w ∧ t - w = n) ∨ (s = -1 ∧ t ≤ f ∧ w ≤ f ∧ w - t = n)) → ∀ τ : Sto, Frm [72, 91] σ τ → (∀ c, 0 ≤ c → c < 7 → τ 91 c = σ 72 (25 + 7 * f + c)) → (∀ x, (x < 25 ∨ 585 ≤ x) → τ 72 x = σ 72 x) → (∀ v c, 0 ≤ v → v < 80 → 0 ≤ c → c < 7 → τ 72 (25 + 7 * v + c) = σ 72 (25 + 7 * gmv f s w v + c)) → Wp cX7_moves RX7 none 0 48 [some (mR 71), some (mI f), some (mI t), some (mI s), some (mI w), none] [] τ (fun v σ' => v = none ∧ (fun σ' => Frm [72, 91] σ σ' ∧ (∀ x, (x < 25 ∨ 585 ≤ x) → σ' 72 x = σ 72 x) ∧ ∀ v c, 0 ≤ v → v < 80 → 0 ≤ c → c < 7 → σ' 72 (25 + 7 * v + c) = σ 72 (25 + 7 * mvd f t v + c)) σ') := by
    intro n
    induction n with
    | zero =>
      intro s w hs τ hF h91 hout hin
      have ew : w = t := by omega
      refine wp_iload (pc := 48) dX7_moves_48 rfl ?_
      refine wp_iload_n (pc := 50) dX7_moves_50 rfl rfl ?_
      refine wp_icmp_eq (pc := 51) 113 dX7_moves_51 (by decide) (fun c_51 => ?_) (fun c_51 => ?_)
      · refine wp_iconst (pc := 113) dX7_moves_113 (by decide) ?_
        refine wp_istore (pc := 114) dX7_moves_114 (Nat.le_of_ble_eq_true rfl) rfl ?_
        rw [ew] at hin
        exact lp3 τ s (by omega) hF h91 hout hin 0 (by decide) (by decide) τ Frm.rf hout (fun v c v0 v1 c0 c1 => by rw [if_neg (by omega)])
      · omega
    | succ n ih =>
      intro s w hs τ hF h91 hout hin
      have inn : ∀ k, k ≤ 7 → 0 ≤ k → ∀ υ : Sto, Frm [72] τ υ → (∀ x, (x < 25 ∨ 585 ≤ x) → υ 72 x = σ 72 x) → (∀ v c, 0 ≤ v → v < 80 → 0 ≤ c → c < 7 → υ 72 (25 + 7 * v + c) = if v = w ∧ c < k then σ 72 (25 + 7 * (w + s) + c) else τ 72 (25 + 7 * v + c)) → Wp cX7_moves RX7 none 0 57 [some (mR 71), some (mI f), some (mI t), some (mI s), some (mI w), some (mI k)] [] υ (fun v σ' => v = none ∧ (fun σ' => Frm [72, 91] σ σ' ∧ (∀ x, (x < 25 ∨ 585 ≤ x) → σ' 72 x = σ 72 x) ∧ ∀ v c, 0 ≤ v → v < 80 → 0 ≤ c → c < 7 → σ' 72 (25 + 7 * v + c) = σ 72 (25 + 7 * mvd f t v + c)) σ') := by
        refine up_ind 7 (fun k hk ihk k0 υ hFu houtu hinu => ?_)
        have er : ∀ c, 0 ≤ c → c < 7 → υ 72 (25 + 7 * (w + s) + c) = σ 72 (25 + 7 * (w + s) + c) := fun c c0 c1 => by
          rw [hinu (w + s) c (by omega) (by omega) c0 c1, if_neg (by omega), hin (w + s) c (by omega) (by omega) c0 c1]
          have : gmv f s w (w + s) = w + s := by
            unfold gmv
            rcases hs with c9 | c9
            · rw [if_pos c9.1, if_neg (by omega)]
            · rw [if_neg (by omega), if_neg (by omega)]
          rw [this]
        refine wp_iload (pc := 57) dX7_moves_57 rfl ?_
        refine wp_bipush (pc := 59) dX7_moves_59 (by decide) (by decide) ?_
        refine wp_icmp_ge (pc := 61) 104 dX7_moves_61 (by decide) (fun c_61 => ?_) (fun c_61 => ?_)
        · refine wp_iload (pc := 104) dX7_moves_104 rfl ?_
          refine wp_iload_n (pc := 106) dX7_moves_106 rfl rfl ?_
          refine wp_iadd (pc := 107) dX7_moves_107 (by omega) ?_
          refine wp_istore (pc := 108) dX7_moves_108 (Nat.le_of_ble_eq_true rfl) rfl ?_
          refine wp_goto (pc := 110) 48 dX7_moves_110 (by decide) ?_
          refine wp_fgt [5] (ih s (w + s) (by omega) υ (hF.tr (hFu.mono (by decide))) (fun c c0 c1 => by rw [hFu 91 (by decide)]; exact h91 c c0 c1) houtu (fun v c v0 v1 c0 c1 => ?_))
          rw [hinu v c v0 v1 c0 c1]
          by_cases e2 : v = w
          · rw [if_pos (by omega)]
            have : gmv f s (w + s) v = w + s := by
              unfold gmv
              rcases hs with c9 | c9
              · rw [if_pos c9.1, if_pos (by omega)]; omega
              · rw [if_neg (by omega), if_pos (by omega)]; omega
            rw [this]
          · rw [if_neg (by omega), hin v c v0 v1 c0 c1]
            have : gmv f s (w + s) v = gmv f s w v := by
              unfold gmv
              rcases hs with c9 | c9
              · rw [if_pos c9.1, if_pos c9.1]
                by_cases c8 : f ≤ v ∧ v < w
                · rw [if_pos c8, if_pos (by omega)]
                · rw [if_neg c8, if_neg (by omega)]
              · rw [if_neg (show ¬ s = 1 by omega), if_neg (show ¬ s = 1 by omega)]
                by_cases c8 : w < v ∧ v ≤ f
                · rw [if_pos c8, if_pos (by omega)]
                · rw [if_neg c8, if_neg (by omega)]
            rw [this]
        · refine wp_aload_n (pc := 64) dX7_moves_64 rfl rfl ?_
          refine wp_getR (pc := 65) (q := 72) dX7_moves_65 fl_X7_7 rfl ?_
          refine wp_bipush (pc := 68) dX7_moves_68 (by decide) (by decide) ?_
          refine wp_bipush (pc := 70) dX7_moves_70 (by decide) (by decide) ?_
          refine wp_iload (pc := 72) dX7_moves_72 rfl ?_
          refine wp_imul (pc := 74) dX7_moves_74 (by omega) ?_
          refine wp_iadd (pc := 75) dX7_moves_75 (by omega) ?_
          refine wp_iload (pc := 76) dX7_moves_76 rfl ?_
          refine wp_iadd (pc := 78) dX7_moves_78 (by omega) ?_
          refine wp_aload_n (pc := 79) dX7_moves_79 rfl rfl ?_
          refine wp_getR (pc := 80) (q := 72) dX7_moves_80 fl_X7_7 rfl ?_
          refine wp_bipush (pc := 83) dX7_moves_83 (by decide) (by decide) ?_
          refine wp_bipush (pc := 85) dX7_moves_85 (by decide) (by decide) ?_
          refine wp_iload (pc := 87) dX7_moves_87 rfl ?_
          refine wp_iload_n (pc := 89) dX7_moves_89 rfl rfl ?_
          refine wp_iadd (pc := 90) dX7_moves_90 (by omega) ?_
          refine wp_imul (pc := 91) dX7_moves_91 (by omega) ?_
          refine wp_iadd (pc := 92) dX7_moves_92 (by omega) ?_
          refine wp_iload (pc := 93) dX7_moves_93 rfl ?_
          refine wp_iadd (pc := 95) dX7_moves_95 (by omega) ?_
          refine wp_iald (pc := 96) 591 dX7_moves_96 rfl (by omega) ?_
          rw [er k k0 (by omega)]
          refine wp_iast (pc := 97) 591 dX7_moves_97 rfl (by omega) ?_
          refine wp_iinc (pc := 98) dX7_moves_98 rfl rfl (by omega) ?_
          refine wp_goto (pc := 101) 57 dX7_moves_101 (by decide) ?_
          refine ihk (by omega) (by omega) _ (hFu.up (by decide)) (fun x hx => by rw [upd2_k (by omega)]; exact houtu x hx) (fun v c v0 v1 c0 c1 => ?_)
          by_cases e : 25 + 7 * v + c = 25 + 7 * w + k
          · rw [e, upd2_eq, if_pos (by omega), show c = k by omega]
          · rw [upd2_k e, hinu v c v0 v1 c0 c1]
            by_cases e2 : v = w ∧ c < k
            · rw [if_pos e2, if_pos (by omega)]
            · rw [if_neg e2, if_neg (by omega)]
      refine wp_iload (pc := 48) dX7_moves_48 rfl ?_
      refine wp_iload_n (pc := 50) dX7_moves_50 rfl rfl ?_
      refine wp_icmp_eq (pc := 51) 113 dX7_moves_51 (by decide) (fun c_51 => ?_) (fun c_51 => ?_)
      · omega
      · refine wp_iconst (pc := 54) dX7_moves_54 (by decide) ?_
        refine wp_istore (pc := 55) dX7_moves_55 (Nat.le_of_ble_eq_true rfl) rfl ?_
        exact inn 0 (by decide) (by decide) τ Frm.rf hout (fun v c v0 v1 c0 c1 => by rw [if_neg (by omega)])
  have g0 : ∀ s, (s = 1 ∧ f < t) ∨ (s = -1 ∧ t ≤ f) → ∀ v, gmv f s f v = v := fun s hs v => by
    unfold gmv
    rcases hs with c9 | c9
    · rw [if_pos c9.1, if_neg (by omega)]
    · rw [if_neg (by omega), if_neg (by omega)]
  have lp1 : ∀ k, k ≤ 7 → 0 ≤ k → ∀ τ : Sto, Frm [91] σ τ → (∀ c, 0 ≤ c → c < k → τ 91 c = σ 72 (25 + 7 * f + c)) → Wp cX7_moves RX7 none 0 2 [some (mR 71), some (mI f), some (mI t), some (mI k), none, none] [] τ (fun v σ' => v = none ∧ (fun σ' => Frm [72, 91] σ σ' ∧ (∀ x, (x < 25 ∨ 585 ≤ x) → σ' 72 x = σ 72 x) ∧ ∀ v c, 0 ≤ v → v < 80 → 0 ≤ c → c < 7 → σ' 72 (25 + 7 * v + c) = σ 72 (25 + 7 * mvd f t v + c)) σ') := by
    refine up_ind 7 (fun k hk ih k0 τ hF hc => ?_)
    have e72 : τ 72 = σ 72 := hF 72 (by decide)
    refine wp_iload_n (pc := 2) dX7_moves_2 rfl rfl ?_
    refine wp_bipush (pc := 3) dX7_moves_3 (by decide) (by decide) ?_
    refine wp_icmp_ge (pc := 5) 34 dX7_moves_5 (by decide) (fun c_5 => ?_) (fun c_5 => ?_)
    · refine wp_iload_n (pc := 34) dX7_moves_34 rfl rfl ?_
      refine wp_iload_n (pc := 35) dX7_moves_35 rfl rfl ?_
      refine wp_icmp_le (pc := 36) 43 dX7_moves_36 (by decide) (fun c_36 => ?_) (fun c_36 => ?_)
      · refine wp_iconst (pc := 43) dX7_moves_43 (by decide) ?_
        refine wp_istore_n (pc := 44) dX7_moves_44 rfl (Nat.le_of_ble_eq_true rfl) rfl ?_
        refine wp_iload_n (pc := 45) dX7_moves_45 rfl rfl ?_
        refine wp_istore (pc := 46) dX7_moves_46 (Nat.le_of_ble_eq_true rfl) rfl ?_
        first
          | exact lp2 (t - f).toNat 1 f (Or.inl ⟨rfl, by omega, by omega, by omega⟩) τ (hF.mono (by decide)) (fun c c0 c1 => hc c c0 (by omega)) (fun x _ => by rw [e72]) (fun v c v0 v1 c0 c1 => by rw [e72, g0 1 (by omega)])
          | exact lp2 (f - t).toNat (-1) f (Or.inr ⟨rfl, by omega, by omega, by omega⟩) τ (hF.mono (by decide)) (fun c c0 c1 => hc c c0 (by omega)) (fun x _ => by rw [e72]) (fun v c v0 v1 c0 c1 => by rw [e72, g0 (-1) (by omega)])
      · refine wp_iconst (pc := 39) dX7_moves_39 (by decide) ?_
        refine wp_goto (pc := 40) 44 dX7_moves_40 (by decide) ?_
        refine wp_istore_n (pc := 44) dX7_moves_44 rfl (Nat.le_of_ble_eq_true rfl) rfl ?_
        refine wp_iload_n (pc := 45) dX7_moves_45 rfl rfl ?_
        refine wp_istore (pc := 46) dX7_moves_46 (Nat.le_of_ble_eq_true rfl) rfl ?_
        first
          | exact lp2 (t - f).toNat 1 f (Or.inl ⟨rfl, by omega, by omega, by omega⟩) τ (hF.mono (by decide)) (fun c c0 c1 => hc c c0 (by omega)) (fun x _ => by rw [e72]) (fun v c v0 v1 c0 c1 => by rw [e72, g0 1 (by omega)])
          | exact lp2 (f - t).toNat (-1) f (Or.inr ⟨rfl, by omega, by omega, by omega⟩) τ (hF.mono (by decide)) (fun c c0 c1 => hc c c0 (by omega)) (fun x _ => by rw [e72]) (fun v c v0 v1 c0 c1 => by rw [e72, g0 (-1) (by omega)])
    · refine wp_aload_n (pc := 8) dX7_moves_8 rfl rfl ?_
      refine wp_getR (pc := 9) (q := 91) dX7_moves_9 fl_X7_68 rfl ?_
      refine wp_iload_n (pc := 12) dX7_moves_12 rfl rfl ?_
      refine wp_aload_n (pc := 13) dX7_moves_13 rfl rfl ?_
      refine wp_getR (pc := 14) (q := 72) dX7_moves_14 fl_X7_7 rfl ?_
      refine wp_bipush (pc := 17) dX7_moves_17 (by decide) (by decide) ?_
      refine wp_bipush (pc := 19) dX7_moves_19 (by decide) (by decide) ?_
      refine wp_iload_n (pc := 21) dX7_moves_21 rfl rfl ?_
      refine wp_imul (pc := 22) dX7_moves_22 (by omega) ?_
      refine wp_iadd (pc := 23) dX7_moves_23 (by omega) ?_
      refine wp_iload_n (pc := 24) dX7_moves_24 rfl rfl ?_
      refine wp_iadd (pc := 25) dX7_moves_25 (by omega) ?_
      refine wp_iald (pc := 26) 591 dX7_moves_26 rfl (by omega) ?_
      rw [e72]
      refine wp_iast (pc := 27) 7 dX7_moves_27 rfl (by omega) ?_
      refine wp_iinc (pc := 28) dX7_moves_28 rfl rfl (by omega) ?_
      refine wp_goto (pc := 31) 2 dX7_moves_31 (by decide) ?_
      refine ih (by omega) (by omega) _ (hF.up (by decide)) (fun c c0 c1 => ?_)
      by_cases e : c = k
      · rw [e, upd2_eq]
      · rw [upd2_k e]; exact hc c c0 (by omega)
  refine wp_iconst (pc := 0) dX7_moves_0 (by decide) ?_
  refine wp_istore_n (pc := 1) dX7_moves_1 rfl (Nat.le_of_ble_eq_true rfl) rfl ?_
  exact lp1 0 (by decide) (by decide) σ Frm.rf (fun c c0 c1 => by omega)
set_option maxHeartbeats 4000000 in
set_option maxRecDepth 100000 in
theorem shf_mvd {g : Int → Int} {a b x : Int} : shf g a b x = g (mvd a (if a < b then b - 1 else b) x) := by
  unfold shf mvd
  by_cases c : a < b
  · rw [if_pos c, if_pos c]
    by_cases c2 : a < b - 1
    · rw [if_pos c2]
      by_cases c3 : a ≤ x ∧ x < b - 1
      · rw [if_pos c3, if_pos c3]
      · rw [if_neg c3, if_neg c3]
        by_cases c4 : x = b - 1
        · rw [if_pos c4, if_pos c4]
        · rw [if_neg c4, if_neg c4]
    · rw [if_neg c2, if_neg (show ¬ (a ≤ x ∧ x < b - 1) by omega), if_neg (show ¬ (b - 1 < x ∧ x ≤ a) by omega)]
      by_cases c4 : x = b - 1
      · rw [if_pos c4, if_pos c4]
      · rw [if_neg c4, if_neg c4]
  · rw [if_neg c, if_neg c, if_neg c]
    by_cases c3 : b < x ∧ x ≤ a
    · rw [if_pos c3, if_pos c3]
    · rw [if_neg c3, if_neg c3]
      by_cases c4 : x = b
      · rw [if_pos c4, if_pos c4]
      · rw [if_neg c4, if_neg c4]
set_option maxHeartbeats 4000000 in
set_option maxRecDepth 100000 in
theorem mvd_bd {f t v n : Int} (hf : 0 ≤ f ∧ f < n) (ht : 0 ≤ t ∧ t < n) (hv : 0 ≤ v ∧ v < n) : 0 ≤ mvd f t v ∧ mvd f t v < n := by
  unfold mvd
  split
  · split
    · omega
    · split <;> omega
  · split
    · omega
    · split <;> omega
set_option maxHeartbeats 4000000 in
set_option maxRecDepth 100000 in
theorem m_move {σ D S : Sto} {p i q k : Int} (h : RM σ D S) : CtI yX7_move cX7_move 7 (some .int) 2 [mR 71, mI p, mI i, mI q, mI k] σ (fun z σ' => (¬ isMov D p i q k ∧ z = -1 ∧ σ' = σ) ∨ (isMov D p i q k ∧ isSta D p i q k ∧ z = -2 ∧ σ' = σ) ∨ (isMov D p i q k ∧ ¬ isSta D p i q k ∧ ∀ D', movP D D' p i q (if k = -4 then 0 else k + 1) → z = D' 1 q ∧ RM σ' D' S ∧ Frm [72, 91] σ σ')) := by
  refine ct_of rfl [some (mR 71), some (mI p), some (mI i), some (mI q), some (mI k), none, none] (Nat.le_of_ble_eq_true rfl) rfl (fun hσ => ?_)
  show Wp cX7_move RX7 (some .int) 2 0 [some (mR 71), some (mI p), some (mI i), some (mI q), some (mI k), none, none] [] _ _
  have nn := h.n
  have hpp := fun a b => h.p (p := p) a b
  have hqq := fun a b => h.p (p := q) a b
  have w134 : isMov D p i q k → ¬ isSta D p i q k → ∀ a b t : Int, a = fstS D p + i → b = fstS D q + (if k = -4 then 0 else k + 1) → t = (if a < b then b - 1 else b) → Wp cX7_move RX7 (some .int) 2 134 [some (mR 71), some (mI p), some (mI i), some (mI q), some (mI k), some (mI a), some (mI b)] [mI t, mI a, mR 71] σ (fun v σ' => ∃ z, v = some (mI z) ∧ (fun z σ' => (¬ isMov D p i q k ∧ z = -1 ∧ σ' = σ) ∨ (isMov D p i q k ∧ isSta D p i q k ∧ z = -2 ∧ σ' = σ) ∨ (isMov D p i q k ∧ ¬ isSta D p i q k ∧ ∀ D', movP D D' p i q (if k = -4 then 0 else k + 1) → z = D' 1 q ∧ RM σ' D' S ∧ Frm [72, 91] σ σ')) z σ') := by
    intro hm hs a b t ha hb ht
    have hm2 := hm
    have hs2 := hs
    unfold isMov at hm2
    unfold isSta at hs2
    have qp := hpp hm2.1.1 hm2.1.2
    have qq := hqq hm2.2.2.1.1 hm2.2.2.1.2
    have hk : 0 ≤ (if k = -4 then 0 else k + 1) ∧ (if k = -4 then 0 else k + 1) ≤ D 1 q := by split <;> omega
    have hab : b ≤ tot D := by omega
    have htb : 0 ≤ t ∧ t < tot D := by
      by_cases c : a < b
      · rw [if_pos c] at ht; omega
      · rw [if_neg c] at ht; omega
    refine wp_cvV2 (pc := 134) dX7_move_134 mv_X7_295 (m_moves (by omega) (by omega)) (Nat.le_of_ble_eq_true rfl) rfl (Nat.le_of_ble_eq_true rfl) (fun σ_134 h_134 => ?_)
    obtain ⟨f134, o134, i134⟩ := h_134
    have ep := o134 (1 + 3 * p + 2) (by omega)
    have eq := o134 (1 + 3 * q + 2) (by omega)
    refine wp_aload_n (pc := 137) dX7_move_137 rfl rfl ?_
    refine wp_getR (pc := 138) (q := 72) dX7_move_138 fl_X7_7 rfl ?_
    refine wp_iconst (pc := 141) dX7_move_141 (by decide) ?_
    refine wp_iconst (pc := 142) dX7_move_142 (by decide) ?_
    refine wp_iload_n (pc := 143) dX7_move_143 rfl rfl ?_
    refine wp_imul (pc := 144) dX7_move_144 (by omega) ?_
    refine wp_iadd (pc := 145) dX7_move_145 (by omega) ?_
    refine wp_iconst (pc := 146) dX7_move_146 (by decide) ?_
    refine wp_iadd (pc := 147) dX7_move_147 (by omega) ?_
    refine wp_dup2 (pc := 148) dX7_move_148 (fun _ h => by cases h) (fun _ h => by cases h) ?_
    refine wp_iald (pc := 149) 591 dX7_move_149 rfl (by omega) ?_
    rw [ep, qp.2.2.1]
    refine wp_iconst (pc := 150) dX7_move_150 (by decide) ?_
    refine wp_isub (pc := 151) dX7_move_151 (by omega) ?_
    refine wp_iast (pc := 152) 591 dX7_move_152 rfl (by omega) ?_
    refine wp_aload_n (pc := 153) dX7_move_153 rfl rfl ?_
    refine wp_getR (pc := 154) (q := 72) dX7_move_154 fl_X7_7 rfl ?_
    refine wp_iconst (pc := 157) dX7_move_157 (by decide) ?_
    refine wp_iconst (pc := 158) dX7_move_158 (by decide) ?_
    refine wp_iload_n (pc := 159) dX7_move_159 rfl rfl ?_
    refine wp_imul (pc := 160) dX7_move_160 (by omega) ?_
    refine wp_iadd (pc := 161) dX7_move_161 (by omega) ?_
    refine wp_iconst (pc := 162) dX7_move_162 (by decide) ?_
    refine wp_iadd (pc := 163) dX7_move_163 (by omega) ?_
    refine wp_dup2 (pc := 164) dX7_move_164 (fun _ h => by cases h) (fun _ h => by cases h) ?_
    refine wp_iald (pc := 165) 591 dX7_move_165 rfl (by omega) ?_
    rw [show upd2 σ_134 72 (1 + 3 * p + 2) (D 1 p - 1) 72 (1 + 3 * q + 2) = D 1 q - (if q = p then 1 else 0) by
      by_cases c : q = p
      · rw [c, upd2_eq, if_pos rfl]
      · rw [upd2_k (by omega), if_neg c, eq, qq.2.2.1]; omega]
    have hsz : 0 ≤ D 1 q - (if q = p then 1 else 0) ∧ D 1 q - (if q = p then 1 else 0) ≤ 80 := by split <;> omega
    refine wp_iconst (pc := 166) dX7_move_166 (by decide) ?_
    refine wp_iadd (pc := 167) dX7_move_167 (by omega) ?_
    refine wp_iast (pc := 168) 591 dX7_move_168 rfl (by omega) ?_
    refine wp_aload_n (pc := 169) dX7_move_169 rfl rfl ?_
    refine wp_iload_n (pc := 170) dX7_move_170 rfl rfl ?_
    refine wp_cvI1 (pc := 171) dX7_move_171 mv_X7_171 (m_parWords0 (by omega)) (Nat.le_of_ble_eq_true rfl) rfl (Nat.le_of_ble_eq_true rfl) (fun z_171 σ_171 h_171 => ?_)
    obtain ⟨rfl, e_171⟩ := h_171; have e2_171 := e_171.symm; subst e2_171
    rw [upd2_eq]
    refine wp_ireturn (pc := 174) dX7_move_174 rfl ?_
    refine ⟨_, rfl, Or.inr (Or.inr ⟨hm, hs, fun D' hD' => ?_⟩)⟩
    obtain ⟨o1, o2⟩ := hD'.ok h.2.2.2.1 hm2.1 hm2.2.2.1 hm2.2.1 hk (by omega) qp.2.2.2.2.2 qq.2.2.2.2.2
    obtain ⟨c0, c2, c3, c5, c1, c4⟩ := hD'
    have hb2 := h.2.2.2.1.tt
    have F2 : Frm [72, 91] σ (upd2 (upd2 σ_134 72 (1 + 3 * p + 2) (D 1 p - 1)) 72 (1 + 3 * q + 2) (D 1 q - (if q = p then 1 else 0) + 1)) := (f134.up (by decide)).up (by decide)
    refine ⟨?_, ⟨⟨?_, fun x x0 x1 => ⟨?_, ?_, ?_⟩, fun w w0 w1 => ⟨?_, fun j j0 j1 => ?_⟩, fun j j0 j1 => ?_⟩, by rw [F2 74 (by decide)]; exact h.2.1, by rw [F2 71 (by decide)]; exact h.2.2.1, o1, h.2.2.2.2⟩, F2⟩
    · rw [c1 q, if_pos (show q = q from rfl)]
    · rw [upd2_k (by omega), upd2_k (by omega), o134 0 (by omega), c0]; exact nn.2.2.1
    · rw [c2, upd2_k (by omega), upd2_k (by omega), o134 _ (by omega)]; exact (h.p x0 (by omega)).1
    · rw [c3, upd2_k (by omega), upd2_k (by omega), o134 _ (by omega)]; exact (h.p x0 (by omega)).2.1
    · have hx := (h.p x0 (show x < D 0 0 by omega)).2.2.1
      rw [c1 x]
      by_cases cq : x = q
      · rw [cq, upd2_eq, if_pos (show q = q from rfl)]
      · rw [upd2_k (by omega), if_neg cq]
        by_cases cp : x = p
        · rw [cp, upd2_eq, if_pos rfl]; omega
        · rw [upd2_k (by omega), if_neg cp, o134 _ (by omega), hx]; omega
    · rw [o2] at w1
      have hmb := mvd_bd (f := a) (t := t) (v := w) (n := tot D) (by omega) htb ⟨w0, w1⟩
      have := i134 w 0 w0 (by omega) (by decide) (by decide)
      rw [Int.add_zero, Int.add_zero] at this
      rw [upd2_k (by omega), upd2_k (by omega), this, c4 w, shf_mvd]
      rw [show sumI (D 1) p + i = a from ha.symm, show sumI (D 1) q + (if k = -4 then 0 else k + 1) = b from hb.symm, ← ht]
      exact (h.w hmb.1 hmb.2).1
    · rw [o2] at w1
      have hmb := mvd_bd (f := a) (t := t) (v := w) (n := tot D) (by omega) htb ⟨w0, w1⟩
      have := i134 w (1 + j) w0 (by omega) (by omega) (by omega)
      rw [show 25 + 7 * w + (1 + j) = 25 + 7 * w + 1 + j by omega, show 25 + 7 * mvd a t w + (1 + j) = 25 + 7 * mvd a t w + 1 + j by omega] at this
      rw [upd2_k (by omega), upd2_k (by omega), this, c4 w, shf_mvd]
      rw [show sumI (D 1) p + i = a from ha.symm, show sumI (D 1) q + (if k = -4 then 0 else k + 1) = b from hb.symm, ← ht]
      exact (h.w hmb.1 hmb.2).2.1 j j0 j1
    · rw [c5, upd2_k (by omega), upd2_k (by omega), o134 _ (by omega)]
      exact h.1.2.2.2 j j0 j1
  have w112 : isMov D p i q k → ¬ isSta D p i q k → ∀ kk : Int, kk = (if k = -4 then 0 else k + 1) → Wp cX7_move RX7 (some .int) 2 112 [some (mR 71), some (mI p), some (mI i), some (mI q), some (mI k), some (mI (fstS D p + i)), none] [mI kk, mI (fstS D q)] σ (fun v σ' => ∃ z, v = some (mI z) ∧ (fun z σ' => (¬ isMov D p i q k ∧ z = -1 ∧ σ' = σ) ∨ (isMov D p i q k ∧ isSta D p i q k ∧ z = -2 ∧ σ' = σ) ∨ (isMov D p i q k ∧ ¬ isSta D p i q k ∧ ∀ D', movP D D' p i q (if k = -4 then 0 else k + 1) → z = D' 1 q ∧ RM σ' D' S ∧ Frm [72, 91] σ σ')) z σ') := by
    intro hm hs kk hkk
    have hm2 := hm
    unfold isMov at hm2
    have qp := hpp hm2.1.1 hm2.1.2
    have qq := hqq hm2.2.2.1.1 hm2.2.2.1.2
    have hk : 0 ≤ kk ∧ kk ≤ D 1 q := by rw [hkk]; split <;> omega
    refine wp_iadd (pc := 112) dX7_move_112 (by omega) ?_
    refine wp_istore (pc := 113) dX7_move_113 (Nat.le_of_ble_eq_true rfl) rfl ?_
    refine wp_aload_n (pc := 115) dX7_move_115 rfl rfl ?_
    refine wp_iload (pc := 116) dX7_move_116 rfl ?_
    refine wp_iload (pc := 118) dX7_move_118 rfl ?_
    refine wp_iload (pc := 120) dX7_move_120 rfl ?_
    refine wp_icmp_le (pc := 122) 132 dX7_move_122 (by decide) (fun c_122 => ?_) (fun c_122 => ?_)
    · refine wp_iload (pc := 132) dX7_move_132 rfl ?_
      first
        | exact w134 hm hs _ _ _ rfl (by rw [hkk]) (by rw [if_pos (by omega)])
        | exact w134 hm hs _ _ _ rfl (by rw [hkk]) (by rw [if_neg (by omega)])
    · refine wp_iload (pc := 125) dX7_move_125 rfl ?_
      refine wp_iconst (pc := 127) dX7_move_127 (by decide) ?_
      refine wp_isub (pc := 128) dX7_move_128 (by omega) ?_
      refine wp_goto (pc := 129) 134 dX7_move_129 (by decide) ?_
      first
        | exact w134 hm hs _ _ _ rfl (by rw [hkk]) (by rw [if_pos (by omega)])
        | exact w134 hm hs _ _ _ rfl (by rw [hkk]) (by rw [if_neg (by omega)])
  refine wp_aload_n (pc := 0) dX7_move_0 rfl rfl ?_
  refine wp_iload_n (pc := 1) dX7_move_1 rfl rfl ?_
  refine wp_cvI1 (pc := 2) dX7_move_2 mv_X7_263 (m_isPar h) (Nat.le_of_ble_eq_true rfl) rfl (Nat.le_of_ble_eq_true rfl) (fun z_2 σ_2 h_2 => ?_)
  obtain ⟨y_2, e_2⟩ := h_2; have e2_2 := e_2.symm; subst e2_2
  refine wp_if_eq (pc := 5) 58 dX7_move_5 (by decide) (fun c_5 => ?_) (fun c_5 => ?_)
  · refine wp_iconst (pc := 58) dX7_move_58 (by decide) ?_
    refine wp_ireturn (pc := 59) dX7_move_59 rfl ?_
    exact ⟨_, rfl, Or.inl ⟨by unfold isMov; omega, rfl, rfl⟩⟩
  · refine wp_aload_n (pc := 8) dX7_move_8 rfl rfl ?_
    refine wp_iload_n (pc := 9) dX7_move_9 rfl rfl ?_
    refine wp_cvI1 (pc := 10) dX7_move_10 mv_X7_263 (m_isPar h) (Nat.le_of_ble_eq_true rfl) rfl (Nat.le_of_ble_eq_true rfl) (fun z_10 σ_10 h_10 => ?_)
    obtain ⟨y_10, e_10⟩ := h_10; have e2_10 := e_10.symm; subst e2_10
    refine wp_if_eq (pc := 13) 58 dX7_move_13 (by decide) (fun c_13 => ?_) (fun c_13 => ?_)
    · refine wp_iconst (pc := 58) dX7_move_58 (by decide) ?_
      refine wp_ireturn (pc := 59) dX7_move_59 rfl ?_
      exact ⟨_, rfl, Or.inl ⟨by unfold isMov; omega, rfl, rfl⟩⟩
    · refine wp_iload_n (pc := 16) dX7_move_16 rfl rfl ?_
      refine wp_i2l (pc := 17) dX7_move_17 ?_
      refine wp_lconst (pc := 18) (z := 0) dX7_move_18 (by decide) (by decide) ?_
      refine wp_aload_n (pc := 19) dX7_move_19 rfl rfl ?_
      refine wp_iload_n (pc := 20) dX7_move_20 rfl rfl ?_
      have qp := hpp (by omega) (by omega)
      have qq := hqq (by omega) (by omega)
      refine wp_cvI1 (pc := 21) dX7_move_21 mv_X7_171 (m_parWords h (by omega)) (Nat.le_of_ble_eq_true rfl) rfl (Nat.le_of_ble_eq_true rfl) (fun z_21 σ_21 h_21 => ?_)
      obtain ⟨rfl, e_21⟩ := h_21; have e2_21 := e_21.symm; subst e2_21
      refine wp_iconst (pc := 24) dX7_move_24 (by decide) ?_
      refine wp_isub (pc := 25) dX7_move_25 (by omega) ?_
      refine wp_i2l (pc := 26) dX7_move_26 ?_
      refine wp_csI3 (pc := 27) dX7_move_27 ms_X7_73 m_in (Nat.le_of_ble_eq_true rfl) (Nat.le_of_ble_eq_true rfl) (fun z_27 σ_27 h_27 => ?_)
      obtain ⟨y_27, e_27⟩ := h_27; have e2_27 := e_27.symm; subst e2_27
      refine wp_if_eq (pc := 30) 58 dX7_move_30 (by decide) (fun c_30 => ?_) (fun c_30 => ?_)
      · refine wp_iconst (pc := 58) dX7_move_58 (by decide) ?_
        refine wp_ireturn (pc := 59) dX7_move_59 rfl ?_
        exact ⟨_, rfl, Or.inl ⟨by unfold isMov; omega, rfl, rfl⟩⟩
      · refine wp_iload (pc := 33) dX7_move_33 rfl ?_
        refine wp_bipush (pc := 35) dX7_move_35 (by decide) (by decide) ?_
        refine wp_icmp_eq (pc := 37) 60 dX7_move_37 (by decide) (fun c_37 => ?_) (fun c_37 => ?_)
        · refine wp_aload_n (pc := 60) dX7_move_60 rfl rfl ?_
          refine wp_iload_n (pc := 61) dX7_move_61 rfl rfl ?_
          refine wp_cvI1 (pc := 62) dX7_move_62 mv_X7_171 (m_parWords h (by omega)) (Nat.le_of_ble_eq_true rfl) rfl (Nat.le_of_ble_eq_true rfl) (fun z_62 σ_62 h_62 => ?_)
          obtain ⟨rfl, e_62⟩ := h_62; have e2_62 := e_62.symm; subst e2_62
          refine wp_iconst (pc := 65) dX7_move_65 (by decide) ?_
          refine wp_icmp_eq (pc := 66) 80 dX7_move_66 (by decide) (fun c_66 => ?_) (fun c_66 => ?_)
          · refine wp_bipush (pc := 80) dX7_move_80 (by decide) (by decide) ?_
            refine wp_ireturn (pc := 82) dX7_move_82 rfl ?_
            exact ⟨_, rfl, Or.inr (Or.inl ⟨by unfold isMov; omega, by unfold isSta; omega, rfl, rfl⟩)⟩
          · refine wp_iload_n (pc := 69) dX7_move_69 rfl rfl ?_
            refine wp_iload_n (pc := 70) dX7_move_70 rfl rfl ?_
            refine wp_icmp_ne (pc := 71) 83 dX7_move_71 (by decide) (fun c_71 => ?_) (fun c_71 => ?_)
            · refine wp_aload_n (pc := 83) dX7_move_83 rfl rfl ?_
              refine wp_iload_n (pc := 84) dX7_move_84 rfl rfl ?_
              refine wp_cvI1 (pc := 85) dX7_move_85 mv_X7_201 (m_firstWord h (by omega)) (Nat.le_of_ble_eq_true rfl) rfl (Nat.le_of_ble_eq_true rfl) (fun z_85 σ_85 h_85 => ?_)
              obtain ⟨rfl, e_85⟩ := h_85; have e2_85 := e_85.symm; subst e2_85
              refine wp_iload_n (pc := 88) dX7_move_88 rfl rfl ?_
              refine wp_iadd (pc := 89) dX7_move_89 (by omega) ?_
              refine wp_istore (pc := 90) dX7_move_90 (Nat.le_of_ble_eq_true rfl) rfl ?_
              refine wp_aload_n (pc := 92) dX7_move_92 rfl rfl ?_
              refine wp_iload_n (pc := 93) dX7_move_93 rfl rfl ?_
              refine wp_cvI1 (pc := 94) dX7_move_94 mv_X7_201 (m_firstWord h (by omega)) (Nat.le_of_ble_eq_true rfl) rfl (Nat.le_of_ble_eq_true rfl) (fun z_94 σ_94 h_94 => ?_)
              obtain ⟨rfl, e_94⟩ := h_94; have e2_94 := e_94.symm; subst e2_94
              refine wp_iload (pc := 97) dX7_move_97 rfl ?_
              refine wp_bipush (pc := 99) dX7_move_99 (by decide) (by decide) ?_
              refine wp_icmp_ne (pc := 101) 108 dX7_move_101 (by decide) (fun c_101 => ?_) (fun c_101 => ?_)
              · refine wp_iload (pc := 108) dX7_move_108 rfl ?_
                refine wp_iconst (pc := 110) dX7_move_110 (by decide) ?_
                refine wp_iadd (pc := 111) dX7_move_111 (by omega) ?_
                first
                  | (exfalso; omega)
                  | exact w112 (by unfold isMov; omega) (by unfold isSta; omega) _ (by rw [if_pos (by omega)])
                  | exact w112 (by unfold isMov; omega) (by unfold isSta; omega) _ (by rw [if_neg (by omega)])
              · refine wp_iconst (pc := 104) dX7_move_104 (by decide) ?_
                refine wp_goto (pc := 105) 112 dX7_move_105 (by decide) ?_
                first
                  | (exfalso; omega)
                  | exact w112 (by unfold isMov; omega) (by unfold isSta; omega) _ (by rw [if_pos (by omega)])
                  | exact w112 (by unfold isMov; omega) (by unfold isSta; omega) _ (by rw [if_neg (by omega)])
            · refine wp_iload (pc := 74) dX7_move_74 rfl ?_
              refine wp_iload_n (pc := 76) dX7_move_76 rfl rfl ?_
              refine wp_icmp_ne (pc := 77) 83 dX7_move_77 (by decide) (fun c_77 => ?_) (fun c_77 => ?_)
              · refine wp_aload_n (pc := 83) dX7_move_83 rfl rfl ?_
                refine wp_iload_n (pc := 84) dX7_move_84 rfl rfl ?_
                refine wp_cvI1 (pc := 85) dX7_move_85 mv_X7_201 (m_firstWord h (by omega)) (Nat.le_of_ble_eq_true rfl) rfl (Nat.le_of_ble_eq_true rfl) (fun z_85 σ_85 h_85 => ?_)
                obtain ⟨rfl, e_85⟩ := h_85; have e2_85 := e_85.symm; subst e2_85
                refine wp_iload_n (pc := 88) dX7_move_88 rfl rfl ?_
                refine wp_iadd (pc := 89) dX7_move_89 (by omega) ?_
                refine wp_istore (pc := 90) dX7_move_90 (Nat.le_of_ble_eq_true rfl) rfl ?_
                refine wp_aload_n (pc := 92) dX7_move_92 rfl rfl ?_
                refine wp_iload_n (pc := 93) dX7_move_93 rfl rfl ?_
                refine wp_cvI1 (pc := 94) dX7_move_94 mv_X7_201 (m_firstWord h (by omega)) (Nat.le_of_ble_eq_true rfl) rfl (Nat.le_of_ble_eq_true rfl) (fun z_94 σ_94 h_94 => ?_)
                obtain ⟨rfl, e_94⟩ := h_94; have e2_94 := e_94.symm; subst e2_94
                refine wp_iload (pc := 97) dX7_move_97 rfl ?_
                refine wp_bipush (pc := 99) dX7_move_99 (by decide) (by decide) ?_
                refine wp_icmp_ne (pc := 101) 108 dX7_move_101 (by decide) (fun c_101 => ?_) (fun c_101 => ?_)
                · refine wp_iload (pc := 108) dX7_move_108 rfl ?_
                  refine wp_iconst (pc := 110) dX7_move_110 (by decide) ?_
                  refine wp_iadd (pc := 111) dX7_move_111 (by omega) ?_
                  first
                    | (exfalso; omega)
                    | exact w112 (by unfold isMov; omega) (by unfold isSta; omega) _ (by rw [if_pos (by omega)])
                    | exact w112 (by unfold isMov; omega) (by unfold isSta; omega) _ (by rw [if_neg (by omega)])
                · refine wp_iconst (pc := 104) dX7_move_104 (by decide) ?_
                  refine wp_goto (pc := 105) 112 dX7_move_105 (by decide) ?_
                  first
                    | (exfalso; omega)
                    | exact w112 (by unfold isMov; omega) (by unfold isSta; omega) _ (by rw [if_pos (by omega)])
                    | exact w112 (by unfold isMov; omega) (by unfold isSta; omega) _ (by rw [if_neg (by omega)])
              · refine wp_bipush (pc := 80) dX7_move_80 (by decide) (by decide) ?_
                refine wp_ireturn (pc := 82) dX7_move_82 rfl ?_
                exact ⟨_, rfl, Or.inr (Or.inl ⟨by unfold isMov; omega, by unfold isSta; omega, rfl, rfl⟩)⟩
        · refine wp_iload (pc := 40) dX7_move_40 rfl ?_
          refine wp_i2l (pc := 42) dX7_move_42 ?_
          refine wp_lconst (pc := 43) (z := 0) dX7_move_43 (by decide) (by decide) ?_
          refine wp_aload_n (pc := 44) dX7_move_44 rfl rfl ?_
          refine wp_iload_n (pc := 45) dX7_move_45 rfl rfl ?_
          refine wp_cvI1 (pc := 46) dX7_move_46 mv_X7_171 (m_parWords h (by omega)) (Nat.le_of_ble_eq_true rfl) rfl (Nat.le_of_ble_eq_true rfl) (fun z_46 σ_46 h_46 => ?_)
          obtain ⟨rfl, e_46⟩ := h_46; have e2_46 := e_46.symm; subst e2_46
          refine wp_iconst (pc := 49) dX7_move_49 (by decide) ?_
          refine wp_isub (pc := 50) dX7_move_50 (by omega) ?_
          refine wp_i2l (pc := 51) dX7_move_51 ?_
          refine wp_csI3 (pc := 52) dX7_move_52 ms_X7_73 m_in (Nat.le_of_ble_eq_true rfl) (Nat.le_of_ble_eq_true rfl) (fun z_52 σ_52 h_52 => ?_)
          obtain ⟨y_52, e_52⟩ := h_52; have e2_52 := e_52.symm; subst e2_52
          refine wp_if_ne (pc := 55) 60 dX7_move_55 (by decide) (fun c_55 => ?_) (fun c_55 => ?_)
          · refine wp_aload_n (pc := 60) dX7_move_60 rfl rfl ?_
            refine wp_iload_n (pc := 61) dX7_move_61 rfl rfl ?_
            refine wp_cvI1 (pc := 62) dX7_move_62 mv_X7_171 (m_parWords h (by omega)) (Nat.le_of_ble_eq_true rfl) rfl (Nat.le_of_ble_eq_true rfl) (fun z_62 σ_62 h_62 => ?_)
            obtain ⟨rfl, e_62⟩ := h_62; have e2_62 := e_62.symm; subst e2_62
            refine wp_iconst (pc := 65) dX7_move_65 (by decide) ?_
            refine wp_icmp_eq (pc := 66) 80 dX7_move_66 (by decide) (fun c_66 => ?_) (fun c_66 => ?_)
            · refine wp_bipush (pc := 80) dX7_move_80 (by decide) (by decide) ?_
              refine wp_ireturn (pc := 82) dX7_move_82 rfl ?_
              exact ⟨_, rfl, Or.inr (Or.inl ⟨by unfold isMov; omega, by unfold isSta; omega, rfl, rfl⟩)⟩
            · refine wp_iload_n (pc := 69) dX7_move_69 rfl rfl ?_
              refine wp_iload_n (pc := 70) dX7_move_70 rfl rfl ?_
              refine wp_icmp_ne (pc := 71) 83 dX7_move_71 (by decide) (fun c_71 => ?_) (fun c_71 => ?_)
              · refine wp_aload_n (pc := 83) dX7_move_83 rfl rfl ?_
                refine wp_iload_n (pc := 84) dX7_move_84 rfl rfl ?_
                refine wp_cvI1 (pc := 85) dX7_move_85 mv_X7_201 (m_firstWord h (by omega)) (Nat.le_of_ble_eq_true rfl) rfl (Nat.le_of_ble_eq_true rfl) (fun z_85 σ_85 h_85 => ?_)
                obtain ⟨rfl, e_85⟩ := h_85; have e2_85 := e_85.symm; subst e2_85
                refine wp_iload_n (pc := 88) dX7_move_88 rfl rfl ?_
                refine wp_iadd (pc := 89) dX7_move_89 (by omega) ?_
                refine wp_istore (pc := 90) dX7_move_90 (Nat.le_of_ble_eq_true rfl) rfl ?_
                refine wp_aload_n (pc := 92) dX7_move_92 rfl rfl ?_
                refine wp_iload_n (pc := 93) dX7_move_93 rfl rfl ?_
                refine wp_cvI1 (pc := 94) dX7_move_94 mv_X7_201 (m_firstWord h (by omega)) (Nat.le_of_ble_eq_true rfl) rfl (Nat.le_of_ble_eq_true rfl) (fun z_94 σ_94 h_94 => ?_)
                obtain ⟨rfl, e_94⟩ := h_94; have e2_94 := e_94.symm; subst e2_94
                refine wp_iload (pc := 97) dX7_move_97 rfl ?_
                refine wp_bipush (pc := 99) dX7_move_99 (by decide) (by decide) ?_
                refine wp_icmp_ne (pc := 101) 108 dX7_move_101 (by decide) (fun c_101 => ?_) (fun c_101 => ?_)
                · refine wp_iload (pc := 108) dX7_move_108 rfl ?_
                  refine wp_iconst (pc := 110) dX7_move_110 (by decide) ?_
                  refine wp_iadd (pc := 111) dX7_move_111 (by omega) ?_
                  first
                    | (exfalso; omega)
                    | exact w112 (by unfold isMov; omega) (by unfold isSta; omega) _ (by rw [if_pos (by omega)])
                    | exact w112 (by unfold isMov; omega) (by unfold isSta; omega) _ (by rw [if_neg (by omega)])
                · refine wp_iconst (pc := 104) dX7_move_104 (by decide) ?_
                  refine wp_goto (pc := 105) 112 dX7_move_105 (by decide) ?_
                  first
                    | (exfalso; omega)
                    | exact w112 (by unfold isMov; omega) (by unfold isSta; omega) _ (by rw [if_pos (by omega)])
                    | exact w112 (by unfold isMov; omega) (by unfold isSta; omega) _ (by rw [if_neg (by omega)])
              · refine wp_iload (pc := 74) dX7_move_74 rfl ?_
                refine wp_iload_n (pc := 76) dX7_move_76 rfl rfl ?_
                refine wp_icmp_ne (pc := 77) 83 dX7_move_77 (by decide) (fun c_77 => ?_) (fun c_77 => ?_)
                · refine wp_aload_n (pc := 83) dX7_move_83 rfl rfl ?_
                  refine wp_iload_n (pc := 84) dX7_move_84 rfl rfl ?_
                  refine wp_cvI1 (pc := 85) dX7_move_85 mv_X7_201 (m_firstWord h (by omega)) (Nat.le_of_ble_eq_true rfl) rfl (Nat.le_of_ble_eq_true rfl) (fun z_85 σ_85 h_85 => ?_)
                  obtain ⟨rfl, e_85⟩ := h_85; have e2_85 := e_85.symm; subst e2_85
                  refine wp_iload_n (pc := 88) dX7_move_88 rfl rfl ?_
                  refine wp_iadd (pc := 89) dX7_move_89 (by omega) ?_
                  refine wp_istore (pc := 90) dX7_move_90 (Nat.le_of_ble_eq_true rfl) rfl ?_
                  refine wp_aload_n (pc := 92) dX7_move_92 rfl rfl ?_
                  refine wp_iload_n (pc := 93) dX7_move_93 rfl rfl ?_
                  refine wp_cvI1 (pc := 94) dX7_move_94 mv_X7_201 (m_firstWord h (by omega)) (Nat.le_of_ble_eq_true rfl) rfl (Nat.le_of_ble_eq_true rfl) (fun z_94 σ_94 h_94 => ?_)
                  obtain ⟨rfl, e_94⟩ := h_94; have e2_94 := e_94.symm; subst e2_94
                  refine wp_iload (pc := 97) dX7_move_97 rfl ?_
                  refine wp_bipush (pc := 99) dX7_move_99 (by decide) (by decide) ?_
                  refine wp_icmp_ne (pc := 101) 108 dX7_move_101 (by decide) (fun c_101 => ?_) (fun c_101 => ?_)
                  · refine wp_iload (pc := 108) dX7_move_108 rfl ?_
                    refine wp_iconst (pc := 110) dX7_move_110 (by decide) ?_
                    refine wp_iadd (pc := 111) dX7_move_111 (by omega) ?_
                    first
                      | (exfalso; omega)
                      | exact w112 (by unfold isMov; omega) (by unfold isSta; omega) _ (by rw [if_pos (by omega)])
                      | exact w112 (by unfold isMov; omega) (by unfold isSta; omega) _ (by rw [if_neg (by omega)])
                  · refine wp_iconst (pc := 104) dX7_move_104 (by decide) ?_
                    refine wp_goto (pc := 105) 112 dX7_move_105 (by decide) ?_
                    first
                      | (exfalso; omega)
                      | exact w112 (by unfold isMov; omega) (by unfold isSta; omega) _ (by rw [if_pos (by omega)])
                      | exact w112 (by unfold isMov; omega) (by unfold isSta; omega) _ (by rw [if_neg (by omega)])
                · refine wp_bipush (pc := 80) dX7_move_80 (by decide) (by decide) ?_
                  refine wp_ireturn (pc := 82) dX7_move_82 rfl ?_
                  exact ⟨_, rfl, Or.inr (Or.inl ⟨by unfold isMov; omega, by unfold isSta; omega, rfl, rfl⟩)⟩
          · refine wp_iconst (pc := 58) dX7_move_58 (by decide) ?_
            refine wp_ireturn (pc := 59) dX7_move_59 rfl ?_
            exact ⟨_, rfl, Or.inl ⟨by unfold isMov; omega, rfl, rfl⟩⟩
