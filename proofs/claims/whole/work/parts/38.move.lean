def shf (f : Int → Int) (a b x : Int) : Int := if a < b then (if a ≤ x ∧ x < b - 1 then f (x + 1) else if x = b - 1 then f a else f x) else (if b < x ∧ x ≤ a then f (x - 1) else if x = b then f a else f x)
def movP (D D' : Sto) (p i q k : Int) : Prop := D' 0 0 = D 0 0 ∧ D' 2 = D 2 ∧ D' 3 = D 3 ∧ D' 5 = D 5 ∧ (∀ x, D' 1 x = D 1 x - (if x = p then 1 else 0) + (if x = q then 1 else 0)) ∧ ∀ x, D' 4 x = shf (D 4) (sumI (D 1) p + i) (sumI (D 1) q + k) x
set_option maxHeartbeats 4000000 in
set_option maxRecDepth 100000 in
theorem movP.ok {D D' S : Sto} {p i q k : Int} (h : movP D D' p i q k) (ho : OKD D S) (hp : 0 ≤ p ∧ p < D 0 0) (hq : 0 ≤ q ∧ q < D 0 0) (hi : 0 ≤ i ∧ i < D 1 p) (hk : 0 ≤ k ∧ k ≤ D 1 q) (h2 : 2 ≤ D 1 p) (ha : 0 ≤ sumI (D 1) p ∧ sumI (D 1) p + D 1 p ≤ tot D) (hb : 0 ≤ sumI (D 1) q ∧ sumI (D 1) q + D 1 q ≤ tot D) : OKD D' S ∧ tot D' = tot D := by
  obtain ⟨s0, s2, s3, s5, s1, s4⟩ := h
  obtain ⟨h1, h2, h3, h4, h5, h6⟩ := ho
  have et : tot D' = tot D := by
    unfold tot
    rw [s0]
    have := sum_move hp.1 hq.1 s1 (D 0 0).toNat
    rw [show (((D 0 0).toNat : Nat) : Int) = D 0 0 by omega, if_pos hp.2, if_pos hq.2] at this
    omega
  refine ⟨⟨by omega, fun x x0 x1 => ?_, by omega, by rw [s0, s2, s3]; exact h4, fun x x0 x1 => ?_, by rw [s5]; exact h6⟩, et⟩
  · have a := s1 x
    have b1 := h2 x x0 (by omega)
    by_cases hx : x = p
    · subst hx
      rw [a, if_pos rfl]
      split <;> omega
    · rw [a, if_neg hx]
      split <;> omega
  · rw [s4 x]
    unfold shf
    rw [et] at x1
    split
    · split
      · exact h5 _ (by omega) (by omega)
      · split
        · exact h5 _ (by omega) (by omega)
        · exact h5 _ (by omega) (by omega)
    · split
      · exact h5 _ (by omega) (by omega)
      · split
        · exact h5 _ (by omega) (by omega)
        · exact h5 _ (by omega) (by omega)
def isMov (D : Sto) (p i q k : Int) : Prop := (0 ≤ p ∧ p < D 0 0) ∧ (0 ≤ i ∧ i < D 1 p) ∧ (0 ≤ q ∧ q < D 0 0) ∧ (k = -4 ∨ (0 ≤ k ∧ k < D 1 q))
def isSta (D : Sto) (p i q k : Int) : Prop := D 1 p = 1 ∨ (p = q ∧ i = k)
set_option maxHeartbeats 4000000 in
set_option maxRecDepth 100000 in
theorem c_move {σ D S : Sto} {p i q k : Int} (hC : CI σ D S) : CtI yX6_move cX6_move 5 (some .int) 2 [mR 0, mI p, mI i, mI q, mI k] σ (fun z σ' => (¬ isMov D p i q k ∧ z = -1 ∧ σ' = σ) ∨ (isMov D p i q k ∧ isSta D p i q k ∧ z = -2 ∧ σ' = σ) ∨ (isMov D p i q k ∧ ¬ isSta D p i q k ∧ ∃ D', movP D D' p i q (if k = -4 then 0 else k + 1) ∧ z = D' 1 q ∧ CI σ' D' S ∧ Kp [14, 15, 16, 17, 18, 19] σ σ')) := by
  refine ct_of rfl [some (mR 0), some (mI p), some (mI i), some (mI q), some (mI k)] (Nat.le_of_ble_eq_true rfl) rfl (fun hσ => ?_)
  show Wp cX6_move RX6 (some .int) 2 0 [some (mR 0), some (mI p), some (mI i), some (mI q), some (mI k)] [] _ _
  obtain ⟨n1, n2, n3, n4, n5, n6, n7⟩ := hC.n
  have n5p := (n5 p).1
  have n5q := (n5 q).1
  have hz1 := fun a b => hC.B.sz (p := p) a b
  have hz2 := fun a b => hC.B.sz (p := q) a b
  have e1 : σ 16 = D 1 := funext fun x => ((n5 x).1).symm
  have e4 : σ 15 = D 4 := funext fun x => ((n5 x).2.2.2.1).symm
  have fin : ∀ kk : Int, kk = (if k = -4 then 0 else k + 1) → isMov D p i q k → ¬ isSta D p i q k → Wp cX6_move RX6 (some .int) 2 112 [some (mR 0), some (mI p), some (mI i), some (mI q), some (mI k)] [mI kk, mI q, mI i, mI p, mR 14] σ (fun v σ' => ∃ z, v = some (mI z) ∧ (fun z σ' => (¬ isMov D p i q k ∧ z = -1 ∧ σ' = σ) ∨ (isMov D p i q k ∧ isSta D p i q k ∧ z = -2 ∧ σ' = σ) ∨ (isMov D p i q k ∧ ¬ isSta D p i q k ∧ ∃ D', movP D D' p i q (if k = -4 then 0 else k + 1) ∧ z = D' 1 q ∧ CI σ' D' S ∧ Kp [14, 15, 16, 17, 18, 19] σ σ')) z σ') := by
    intro kk hkk hm hs
    have hm2 := hm
    have hs2 := hs
    unfold isMov at hm2
    unfold isSta at hs2
    have hz3 := hz1 (by omega) (by omega)
    have hz4 := hz2 (by omega) (by omega)
    have hk3 : 0 ≤ kk ∧ kk ≤ σ 16 q := by split at hkk <;> omega
    have ha := hC.B.first (p := p) (by omega) (by omega)
    have ha2 := hC.B.first1 (p := p) (by omega) (by omega)
    have hb := hC.B.first (p := q) (by omega) (by omega)
    have hb2 := hC.B.first1 (p := q) (by omega) (by omega)
    refine wp_cvV4 (pc := 112) dX6_move_112 mv_X6_268 (c_carry2 hC.B (by omega) (by omega) (by omega) hk3 rfl rfl) (Nat.le_of_ble_eq_true rfl) rfl (Nat.le_of_ble_eq_true rfl) (fun σ_112 h_112 => ?_)
    obtain ⟨f48, t4, t1⟩ := h_112
    refine wp_aload_n (pc := 115) dX6_move_115 rfl rfl ?_
    refine wp_iconst (pc := 116) dX6_move_116 (by decide) ?_
    refine wp_putZ (pc := 117) 11 dX6_move_117 fl_X6_70 ⟨rfl, rfl⟩ rfl rfl (by omega) ?_
    refine wp_aload_n (pc := 120) dX6_move_120 rfl rfl ?_
    refine wp_getR (pc := 121) (q := 14) dX6_move_121 fl_X6_23 rfl ?_
    refine wp_getR (pc := 124) (q := 16) dX6_move_124 fl_X6_164 rfl ?_
    refine wp_iload_n (pc := 127) dX6_move_127 rfl rfl ?_
    refine wp_iald (pc := 128) 8 dX6_move_128 rfl (by omega) ?_
    rw [upd2_r (r := 0) (r' := 16) (by decide)]
    refine wp_ireturn (pc := 129) dX6_move_129 rfl ?_
    have hk9 : Kp [14, 15, 16, 17, 18, 19] σ (upd2 σ_112 0 11 1) := (Kp.of f48 (fun r q => Or.inl ((by decide : ∀ r ∈ [15, 16], r ∈ [14, 15, 16, 17, 18, 19]) r q))).st
    have e0 : DC (upd2 σ_112 0 11 1) = DC σ_112 := DC_st
    have ei : movP D (DC (upd2 σ_112 0 11 1)) p i q kk := by
      rw [e0]
      refine ⟨?_, ?_, ?_, ?_, fun x => ?_, fun x => ?_⟩
      · rw [n1]; show σ_112 14 0 = _; rw [f48 14 (by decide)]
      · funext x; rw [(n5 x).2.1]; show σ_112 17 x = _; rw [f48 17 (by decide)]
      · funext x; rw [(n5 x).2.2.1]; show σ_112 18 x = _; rw [f48 18 (by decide)]
      · funext x; rw [(n5 x).2.2.2.2]; show σ_112 19 x = _; rw [f48 19 (by decide)]
      · rw [(n5 x).1]; exact t1 x
      · rw [← e1, ← e4]; exact t4 x
    rw [hC.2.2.2.2.1] at ha ha2 hb hb2
    rw [e1] at ha ha2 hb hb2
    have so := ei.ok hC.2.2.1 (by omega) (by omega) (by omega) (by omega) (by omega) (by omega) (by omega)
    rw [hkk] at ei
    refine ⟨_, rfl, Or.inr (Or.inr ⟨hm, hs, _, ei, ?_, hC.upd hk9 (by rw [upd2_eq]; decide) rfl so.1 ?_, hk9⟩)⟩
    · rw [e0]; rfl
    · rw [so.2, ← hC.2.2.2.2.1, upd2_r (by decide), f48 14 (by decide)]
  refine wp_aload_n (pc := 0) dX6_move_0 rfl rfl ?_
  refine wp_iload_n (pc := 1) dX6_move_1 rfl rfl ?_
  refine wp_cvI1 (pc := 2) dX6_move_2 mv_X6_161 c_isPar (Nat.le_of_ble_eq_true rfl) rfl (Nat.le_of_ble_eq_true rfl) (fun z_2 σ_2 h_2 => ?_)
  obtain ⟨zz_2, e_2⟩ := h_2; have e2_2 := e_2.symm; subst e2_2; have y_2 : (z_2 = 1 ∧ 0 ≤ p ∧ p < σ 14 0) ∨ (z_2 = 0 ∧ ¬ (0 ≤ p ∧ p < σ 14 0)) := by split at zz_2 <;> omega
  refine wp_if_eq (pc := 5) 25 dX6_move_5 (by decide) (fun c_5 => ?_) (fun c_5 => ?_)
  · refine wp_iconst (pc := 25) dX6_move_25 (by decide) ?_
    refine wp_ireturn (pc := 26) dX6_move_26 rfl ?_
    exact ⟨_, rfl, Or.inl ⟨by unfold isMov; omega, rfl, rfl⟩⟩
  · refine wp_iload_n (pc := 8) dX6_move_8 rfl rfl ?_
    refine wp_if_lt (pc := 9) 25 dX6_move_9 (by decide) (fun c_9 => ?_) (fun c_9 => ?_)
    · refine wp_iconst (pc := 25) dX6_move_25 (by decide) ?_
      refine wp_ireturn (pc := 26) dX6_move_26 rfl ?_
      exact ⟨_, rfl, Or.inl ⟨by unfold isMov; omega, rfl, rfl⟩⟩
    · refine wp_iload_n (pc := 12) dX6_move_12 rfl rfl ?_
      refine wp_aload_n (pc := 13) dX6_move_13 rfl rfl ?_
      refine wp_getR (pc := 14) (q := 14) dX6_move_14 fl_X6_23 rfl ?_
      refine wp_getR (pc := 17) (q := 16) dX6_move_17 fl_X6_164 rfl ?_
      refine wp_iload_n (pc := 20) dX6_move_20 rfl rfl ?_
      refine wp_iald (pc := 21) 8 dX6_move_21 rfl (by omega) ?_
      refine wp_icmp_lt (pc := 22) 27 dX6_move_22 (by decide) (fun c_22 => ?_) (fun c_22 => ?_)
      · refine wp_aload_n (pc := 27) dX6_move_27 rfl rfl ?_
        refine wp_iload_n (pc := 28) dX6_move_28 rfl rfl ?_
        refine wp_cvI1 (pc := 29) dX6_move_29 mv_X6_161 c_isPar (Nat.le_of_ble_eq_true rfl) rfl (Nat.le_of_ble_eq_true rfl) (fun z_29 σ_29 h_29 => ?_)
        obtain ⟨zz_29, e_29⟩ := h_29; have e2_29 := e_29.symm; subst e2_29; have y_29 : (z_29 = 1 ∧ 0 ≤ q ∧ q < σ 14 0) ∨ (z_29 = 0 ∧ ¬ (0 ≤ q ∧ q < σ 14 0)) := by split at zz_29 <;> omega
        refine wp_if_eq (pc := 32) 61 dX6_move_32 (by decide) (fun c_32 => ?_) (fun c_32 => ?_)
        · refine wp_iconst (pc := 61) dX6_move_61 (by decide) ?_
          refine wp_ireturn (pc := 62) dX6_move_62 rfl ?_
          exact ⟨_, rfl, Or.inl ⟨by unfold isMov; omega, rfl, rfl⟩⟩
        · refine wp_iload (pc := 35) dX6_move_35 rfl ?_
          refine wp_bipush (pc := 37) dX6_move_37 (by decide) (by decide) ?_
          refine wp_icmp_eq (pc := 39) 63 dX6_move_39 (by decide) (fun c_39 => ?_) (fun c_39 => ?_)
          · refine wp_aload_n (pc := 63) dX6_move_63 rfl rfl ?_
            refine wp_getR (pc := 64) (q := 14) dX6_move_64 fl_X6_23 rfl ?_
            refine wp_getR (pc := 67) (q := 16) dX6_move_67 fl_X6_164 rfl ?_
            refine wp_iload_n (pc := 70) dX6_move_70 rfl rfl ?_
            refine wp_iald (pc := 71) 8 dX6_move_71 rfl (by omega) ?_
            refine wp_iconst (pc := 72) dX6_move_72 (by decide) ?_
            refine wp_icmp_eq (pc := 73) 87 dX6_move_73 (by decide) (fun c_73 => ?_) (fun c_73 => ?_)
            · refine wp_bipush (pc := 87) dX6_move_87 (by decide) (by decide) ?_
              refine wp_ireturn (pc := 89) dX6_move_89 rfl ?_
              exact ⟨_, rfl, Or.inr (Or.inl ⟨by unfold isMov; omega, by unfold isSta; omega, rfl, rfl⟩)⟩
            · refine wp_iload_n (pc := 76) dX6_move_76 rfl rfl ?_
              refine wp_iload_n (pc := 77) dX6_move_77 rfl rfl ?_
              refine wp_icmp_ne (pc := 78) 90 dX6_move_78 (by decide) (fun c_78 => ?_) (fun c_78 => ?_)
              · refine wp_aload_n (pc := 90) dX6_move_90 rfl rfl ?_
                refine wp_getR (pc := 91) (q := 14) dX6_move_91 fl_X6_23 rfl ?_
                refine wp_iload_n (pc := 94) dX6_move_94 rfl rfl ?_
                refine wp_iload_n (pc := 95) dX6_move_95 rfl rfl ?_
                refine wp_iload_n (pc := 96) dX6_move_96 rfl rfl ?_
                refine wp_iload (pc := 97) dX6_move_97 rfl ?_
                refine wp_bipush (pc := 99) dX6_move_99 (by decide) (by decide) ?_
                refine wp_icmp_ne (pc := 101) 108 dX6_move_101 (by decide) (fun c_101 => ?_) (fun c_101 => ?_)
                · refine wp_iload (pc := 108) dX6_move_108 rfl ?_
                  refine wp_iconst (pc := 110) dX6_move_110 (by decide) ?_
                  refine wp_iadd (pc := 111) dX6_move_111 (by omega) ?_
                  exact fin _ (by split <;> omega) (by unfold isMov; omega) (by unfold isSta; omega)
                · refine wp_iconst (pc := 104) dX6_move_104 (by decide) ?_
                  refine wp_goto (pc := 105) 112 dX6_move_105 (by decide) ?_
                  exact fin _ (by split <;> omega) (by unfold isMov; omega) (by unfold isSta; omega)
              · refine wp_iload_n (pc := 81) dX6_move_81 rfl rfl ?_
                refine wp_iload (pc := 82) dX6_move_82 rfl ?_
                refine wp_icmp_ne (pc := 84) 90 dX6_move_84 (by decide) (fun c_84 => ?_) (fun c_84 => ?_)
                · refine wp_aload_n (pc := 90) dX6_move_90 rfl rfl ?_
                  refine wp_getR (pc := 91) (q := 14) dX6_move_91 fl_X6_23 rfl ?_
                  refine wp_iload_n (pc := 94) dX6_move_94 rfl rfl ?_
                  refine wp_iload_n (pc := 95) dX6_move_95 rfl rfl ?_
                  refine wp_iload_n (pc := 96) dX6_move_96 rfl rfl ?_
                  refine wp_iload (pc := 97) dX6_move_97 rfl ?_
                  refine wp_bipush (pc := 99) dX6_move_99 (by decide) (by decide) ?_
                  refine wp_icmp_ne (pc := 101) 108 dX6_move_101 (by decide) (fun c_101 => ?_) (fun c_101 => ?_)
                  · refine wp_iload (pc := 108) dX6_move_108 rfl ?_
                    refine wp_iconst (pc := 110) dX6_move_110 (by decide) ?_
                    refine wp_iadd (pc := 111) dX6_move_111 (by omega) ?_
                    exact fin _ (by split <;> omega) (by unfold isMov; omega) (by unfold isSta; omega)
                  · refine wp_iconst (pc := 104) dX6_move_104 (by decide) ?_
                    refine wp_goto (pc := 105) 112 dX6_move_105 (by decide) ?_
                    exact fin _ (by split <;> omega) (by unfold isMov; omega) (by unfold isSta; omega)
                · refine wp_bipush (pc := 87) dX6_move_87 (by decide) (by decide) ?_
                  refine wp_ireturn (pc := 89) dX6_move_89 rfl ?_
                  exact ⟨_, rfl, Or.inr (Or.inl ⟨by unfold isMov; omega, by unfold isSta; omega, rfl, rfl⟩)⟩
          · refine wp_iload (pc := 42) dX6_move_42 rfl ?_
            refine wp_if_lt (pc := 44) 61 dX6_move_44 (by decide) (fun c_44 => ?_) (fun c_44 => ?_)
            · refine wp_iconst (pc := 61) dX6_move_61 (by decide) ?_
              refine wp_ireturn (pc := 62) dX6_move_62 rfl ?_
              exact ⟨_, rfl, Or.inl ⟨by unfold isMov; omega, rfl, rfl⟩⟩
            · refine wp_iload (pc := 47) dX6_move_47 rfl ?_
              refine wp_aload_n (pc := 49) dX6_move_49 rfl rfl ?_
              refine wp_getR (pc := 50) (q := 14) dX6_move_50 fl_X6_23 rfl ?_
              refine wp_getR (pc := 53) (q := 16) dX6_move_53 fl_X6_164 rfl ?_
              refine wp_iload_n (pc := 56) dX6_move_56 rfl rfl ?_
              refine wp_iald (pc := 57) 8 dX6_move_57 rfl (by omega) ?_
              refine wp_icmp_lt (pc := 58) 63 dX6_move_58 (by decide) (fun c_58 => ?_) (fun c_58 => ?_)
              · refine wp_aload_n (pc := 63) dX6_move_63 rfl rfl ?_
                refine wp_getR (pc := 64) (q := 14) dX6_move_64 fl_X6_23 rfl ?_
                refine wp_getR (pc := 67) (q := 16) dX6_move_67 fl_X6_164 rfl ?_
                refine wp_iload_n (pc := 70) dX6_move_70 rfl rfl ?_
                refine wp_iald (pc := 71) 8 dX6_move_71 rfl (by omega) ?_
                refine wp_iconst (pc := 72) dX6_move_72 (by decide) ?_
                refine wp_icmp_eq (pc := 73) 87 dX6_move_73 (by decide) (fun c_73 => ?_) (fun c_73 => ?_)
                · refine wp_bipush (pc := 87) dX6_move_87 (by decide) (by decide) ?_
                  refine wp_ireturn (pc := 89) dX6_move_89 rfl ?_
                  exact ⟨_, rfl, Or.inr (Or.inl ⟨by unfold isMov; omega, by unfold isSta; omega, rfl, rfl⟩)⟩
                · refine wp_iload_n (pc := 76) dX6_move_76 rfl rfl ?_
                  refine wp_iload_n (pc := 77) dX6_move_77 rfl rfl ?_
                  refine wp_icmp_ne (pc := 78) 90 dX6_move_78 (by decide) (fun c_78 => ?_) (fun c_78 => ?_)
                  · refine wp_aload_n (pc := 90) dX6_move_90 rfl rfl ?_
                    refine wp_getR (pc := 91) (q := 14) dX6_move_91 fl_X6_23 rfl ?_
                    refine wp_iload_n (pc := 94) dX6_move_94 rfl rfl ?_
                    refine wp_iload_n (pc := 95) dX6_move_95 rfl rfl ?_
                    refine wp_iload_n (pc := 96) dX6_move_96 rfl rfl ?_
                    refine wp_iload (pc := 97) dX6_move_97 rfl ?_
                    refine wp_bipush (pc := 99) dX6_move_99 (by decide) (by decide) ?_
                    refine wp_icmp_ne (pc := 101) 108 dX6_move_101 (by decide) (fun c_101 => ?_) (fun c_101 => ?_)
                    · refine wp_iload (pc := 108) dX6_move_108 rfl ?_
                      refine wp_iconst (pc := 110) dX6_move_110 (by decide) ?_
                      refine wp_iadd (pc := 111) dX6_move_111 (by omega) ?_
                      exact fin _ (by split <;> omega) (by unfold isMov; omega) (by unfold isSta; omega)
                    · refine wp_iconst (pc := 104) dX6_move_104 (by decide) ?_
                      refine wp_goto (pc := 105) 112 dX6_move_105 (by decide) ?_
                      exact fin _ (by split <;> omega) (by unfold isMov; omega) (by unfold isSta; omega)
                  · refine wp_iload_n (pc := 81) dX6_move_81 rfl rfl ?_
                    refine wp_iload (pc := 82) dX6_move_82 rfl ?_
                    refine wp_icmp_ne (pc := 84) 90 dX6_move_84 (by decide) (fun c_84 => ?_) (fun c_84 => ?_)
                    · refine wp_aload_n (pc := 90) dX6_move_90 rfl rfl ?_
                      refine wp_getR (pc := 91) (q := 14) dX6_move_91 fl_X6_23 rfl ?_
                      refine wp_iload_n (pc := 94) dX6_move_94 rfl rfl ?_
                      refine wp_iload_n (pc := 95) dX6_move_95 rfl rfl ?_
                      refine wp_iload_n (pc := 96) dX6_move_96 rfl rfl ?_
                      refine wp_iload (pc := 97) dX6_move_97 rfl ?_
                      refine wp_bipush (pc := 99) dX6_move_99 (by decide) (by decide) ?_
                      refine wp_icmp_ne (pc := 101) 108 dX6_move_101 (by decide) (fun c_101 => ?_) (fun c_101 => ?_)
                      · refine wp_iload (pc := 108) dX6_move_108 rfl ?_
                        refine wp_iconst (pc := 110) dX6_move_110 (by decide) ?_
                        refine wp_iadd (pc := 111) dX6_move_111 (by omega) ?_
                        exact fin _ (by split <;> omega) (by unfold isMov; omega) (by unfold isSta; omega)
                      · refine wp_iconst (pc := 104) dX6_move_104 (by decide) ?_
                        refine wp_goto (pc := 105) 112 dX6_move_105 (by decide) ?_
                        exact fin _ (by split <;> omega) (by unfold isMov; omega) (by unfold isSta; omega)
                    · refine wp_bipush (pc := 87) dX6_move_87 (by decide) (by decide) ?_
                      refine wp_ireturn (pc := 89) dX6_move_89 rfl ?_
                      exact ⟨_, rfl, Or.inr (Or.inl ⟨by unfold isMov; omega, by unfold isSta; omega, rfl, rfl⟩)⟩
              · refine wp_iconst (pc := 61) dX6_move_61 (by decide) ?_
                refine wp_ireturn (pc := 62) dX6_move_62 rfl ?_
                exact ⟨_, rfl, Or.inl ⟨by unfold isMov; omega, rfl, rfl⟩⟩
      · refine wp_iconst (pc := 25) dX6_move_25 (by decide) ?_
        refine wp_ireturn (pc := 26) dX6_move_26 rfl ?_
        exact ⟨_, rfl, Or.inl ⟨by unfold isMov; omega, rfl, rfl⟩⟩
