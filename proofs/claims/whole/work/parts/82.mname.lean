def endN : List Nat := [0, 3, 8, 11, 18, 25, 28, 31, 35, 41]
def namL : List Int := [115, 101, 116, 115, 104, 97, 112, 101, 112, 97, 114, 109, 101, 97, 115, 117, 114, 101, 108, 101, 97, 100, 105, 110, 103, 99, 97, 112, 103, 97, 112, 109, 111, 100, 101, 112, 111, 108, 105, 99, 121]
def NT (σ : Sto) : Prop := (∀ j : Nat, j < 10 → σ 79 (j : Int) = ((endN.getD j 0 : Nat) : Int)) ∧ ∀ j : Nat, j < 41 → σ 80 (j : Int) = namL.getD j 0
set_option maxHeartbeats 4000000 in
set_option maxRecDepth 100000 in
theorem nt_dec : ∀ (w : Fin 9) (x : Fin 8), (x : Nat) < strLn.getD w 0 → endN.getD w 0 + (x : Nat) < 41 ∧ namL.getD (endN.getD w 0 + (x : Nat)) 0 = strC w ((x : Nat) : Int) := by decide +kernel
set_option maxHeartbeats 4000000 in
set_option maxRecDepth 100000 in
theorem nt_len : ∀ w : Fin 9, endN.getD ((w : Nat) + 1) 0 = endN.getD w 0 + strLn.getD w 0 ∧ strLn.getD w 0 < 8 ∧ endN.getD ((w : Nat) + 1) 0 ≤ 41 := by decide
set_option maxHeartbeats 4000000 in
set_option maxRecDepth 100000 in
theorem NT.at {σ : Sto} (h : NT σ) {w : Int} (w0 : 0 ≤ w) (w9 : w < 9) : ∃ e L : Int, 0 ≤ e ∧ 0 ≤ L ∧ L < 8 ∧ e + L ≤ 41 ∧ σ 79 w = e ∧ σ 79 (w + 1) = e + L ∧ L = ((strLn.getD w.toNat 0 : Nat) : Int) ∧ ∀ x, 0 ≤ x → x < L → σ 80 (e + x) = strC w.toNat x := by
  obtain ⟨a, b⟩ := h
  have hw : w.toNat < 9 := by omega
  obtain ⟨l1, l2, l3⟩ := nt_len ⟨w.toNat, hw⟩
  simp only at l1 l2 l3
  refine ⟨((endN.getD w.toNat 0 : Nat) : Int), ((strLn.getD w.toNat 0 : Nat) : Int), by omega, by omega, by omega, by omega, ?_, ?_, rfl, fun x x0 x1 => ?_⟩
  · have := a w.toNat (by omega)
    rw [show ((w.toNat : Nat) : Int) = w by omega] at this
    exact this
  · have := a (w.toNat + 1) (by omega)
    rw [show (((w.toNat + 1 : Nat)) : Int) = w + 1 by omega, l1] at this
    rw [this]; omega
  · obtain ⟨d1, d2⟩ := nt_dec ⟨w.toNat, hw⟩ ⟨x.toNat, by omega⟩ (by simp only; omega)
    simp only at d1 d2
    have := b (endN.getD w.toNat 0 + x.toNat) d1
    rw [d2, show ((x.toNat : Nat) : Int) = x by omega] at this
    rw [← this]
    congr 1
    omega
set_option maxHeartbeats 4000000 in
set_option maxRecDepth 100000 in
theorem m_nameNow {σ : Sto} {n hs m a b : Int} {t : Int → Int} (hN : NT σ) (h9 : σ 71 9 = n) (hn : n ≤ 400) (ht : ∀ k, 0 ≤ k → k < n → σ 78 k = t k) (h13 : σ 71 13 = hs) (h12 : σ 71 12 = hs + m) (hm : 0 ≤ hs ∧ 0 ≤ m ∧ hs + m ≤ n) (hab : 0 ≤ a ∧ a ≤ b ∧ b ≤ 9) : CtI yX7_nameNow cX7_nameNow 6 (some .int) 1 [mR 71, mI a, mI b] σ (fun z σ' => ((∃ w : Int, a ≤ w ∧ w < b ∧ σ 71 14 = 1 ∧ nmT t hs m w.toNat ∧ (∀ q, a ≤ q → q < w → ¬ nmT t hs m q.toNat) ∧ z = w) ∨ (z = -4 ∧ (σ 71 14 = 1 → ∀ q, a ≤ q → q < b → ¬ nmT t hs m q.toNat))) ∧ σ' = σ) := by
  refine ct_of rfl [some (mR 71), some (mI a), some (mI b), none, none, none] (Nat.le_of_ble_eq_true rfl) rfl (fun hσ => ?_)
  show Wp cX7_nameNow RX7 (some .int) 1 0 [some (mR 71), some (mI a), some (mI b), none, none, none] [] _ _
  have lp : ∀ w, w ≤ b → a ≤ w → (σ 71 14 = 1 → ∀ q, a ≤ q → q < w → ¬ nmT t hs m q.toNat) → Wp cX7_nameNow RX7 (some .int) 1 2 [some (mR 71), some (mI a), some (mI b), some (mI w), none, none] [] σ (fun v σ' => ∃ z, v = some (mI z) ∧ (fun z σ' => ((∃ w : Int, a ≤ w ∧ w < b ∧ σ 71 14 = 1 ∧ nmT t hs m w.toNat ∧ (∀ q, a ≤ q → q < w → ¬ nmT t hs m q.toNat) ∧ z = w) ∨ (z = -4 ∧ (σ 71 14 = 1 → ∀ q, a ≤ q → q < b → ¬ nmT t hs m q.toNat))) ∧ σ' = σ) z σ') := by
    refine up_ind _ (fun w hw ih wa hno => ?_)
    by_cases hwb : w < b
    · obtain ⟨e, L, e0, L0, L8, e41, e1, e2, e3, e4⟩ := hN.at (w := w) (by omega) (by omega)
      have inn : ∀ k, k ≤ e + L → e ≤ k → ∀ v : Int, ((v = 1 ∧ σ 71 14 = 1 ∧ m = L ∧ ∀ x, 0 ≤ x → x < k - e → t (hs + x) = strC w.toNat x) ∨ (v = 0 ∧ (σ 71 14 = 1 → ¬ nmT t hs m w.toNat))) → Wp cX7_nameNow RX7 (some .int) 1 57 [some (mR 71), some (mI a), some (mI b), some (mI w), some (mI v), some (mI k)] [] σ (fun v σ' => ∃ z, v = some (mI z) ∧ (fun z σ' => ((∃ w : Int, a ≤ w ∧ w < b ∧ σ 71 14 = 1 ∧ nmT t hs m w.toNat ∧ (∀ q, a ≤ q → q < w → ¬ nmT t hs m q.toNat) ∧ z = w) ∨ (z = -4 ∧ (σ 71 14 = 1 → ∀ q, a ≤ q → q < b → ¬ nmT t hs m q.toNat))) ∧ σ' = σ) z σ') := by
        refine up_ind _ (fun k hk ihk ke v hv => ?_)
        refine wp_iload (pc := 57) dX7_nameNow_57 rfl ?_
        refine wp_aload_n (pc := 59) dX7_nameNow_59 rfl rfl ?_
        refine wp_getR (pc := 60) (q := 79) dX7_nameNow_60 fl_X7_32 rfl ?_
        refine wp_iload_n (pc := 63) dX7_nameNow_63 rfl rfl ?_
        refine wp_iconst (pc := 64) dX7_nameNow_64 (by decide) ?_
        refine wp_iadd (pc := 65) dX7_nameNow_65 (by omega) ?_
        refine wp_iald (pc := 66) 10 dX7_nameNow_66 rfl (by omega) ?_
        rw [e2]
        refine wp_icmp_ge (pc := 67) 116 dX7_nameNow_67 (by decide) (fun c_67 => ?_) (fun c_67 => ?_)
        · refine wp_iload (pc := 116) dX7_nameNow_116 rfl ?_
          refine wp_if_eq (pc := 118) 123 dX7_nameNow_118 (by decide) (fun c_118 => ?_) (fun c_118 => ?_)
          · refine wp_iinc (pc := 123) dX7_nameNow_123 rfl rfl (by omega) ?_
            refine wp_goto (pc := 126) 2 dX7_nameNow_126 (by decide) ?_
            refine wp_fgt [4, 5] (ih hwb (by omega) (fun h1 q qa qw => ?_))
            by_cases eq : q = w
            · rw [eq]
              rcases hv with c | c
              · omega
              · exact c.2 h1
            · exact hno h1 q qa (by omega)
          · refine wp_iload_n (pc := 121) dX7_nameNow_121 rfl rfl ?_
            refine wp_ireturn (pc := 122) dX7_nameNow_122 rfl ?_
            obtain ⟨v1, v2, v3, v4⟩ : v = 1 ∧ σ 71 14 = 1 ∧ m = L ∧ ∀ x, 0 ≤ x → x < k - e → t (hs + x) = strC w.toNat x := by
              rcases hv with c | c
              · exact c
              · exact absurd c.1 c_118
            refine ⟨_, rfl, Or.inl ⟨w, wa, hwb, v2, ⟨by omega, fun x x0 x1 => v4 x x0 (by omega)⟩, hno v2, rfl⟩, rfl⟩
        · refine wp_iload (pc := 70) dX7_nameNow_70 rfl ?_
          refine wp_if_eq (pc := 72) 116 dX7_nameNow_72 (by decide) (fun c_72 => ?_) (fun c_72 => ?_)
          · refine wp_iload (pc := 116) dX7_nameNow_116 rfl ?_
            refine wp_if_eq (pc := 118) 123 dX7_nameNow_118 (by decide) (fun c_118 => ?_) (fun c_118 => ?_)
            · refine wp_iinc (pc := 123) dX7_nameNow_123 rfl rfl (by omega) ?_
              refine wp_goto (pc := 126) 2 dX7_nameNow_126 (by decide) ?_
              refine wp_fgt [4, 5] (ih hwb (by omega) (fun h1 q qa qw => ?_))
              by_cases eq : q = w
              · rw [eq]
                rcases hv with c | c
                · omega
                · exact c.2 h1
              · exact hno h1 q qa (by omega)
            · refine wp_iload_n (pc := 121) dX7_nameNow_121 rfl rfl ?_
              refine wp_ireturn (pc := 122) dX7_nameNow_122 rfl ?_
              obtain ⟨v1, v2, v3, v4⟩ : v = 1 ∧ σ 71 14 = 1 ∧ m = L ∧ ∀ x, 0 ≤ x → x < k - e → t (hs + x) = strC w.toNat x := by
                rcases hv with c | c
                · exact c
                · exact absurd c.1 c_118
              refine ⟨_, rfl, Or.inl ⟨w, wa, hwb, v2, ⟨by omega, fun x x0 x1 => v4 x x0 (by omega)⟩, hno v2, rfl⟩, rfl⟩
          · obtain ⟨v1, v2, v3, v4⟩ : v = 1 ∧ σ 71 14 = 1 ∧ m = L ∧ ∀ x, 0 ≤ x → x < k - e → t (hs + x) = strC w.toNat x := by
              rcases hv with c | c
              · exact c
              · exact absurd c.1 c_72
            refine wp_aload_n (pc := 75) dX7_nameNow_75 rfl rfl ?_
            refine wp_aload_n (pc := 76) dX7_nameNow_76 rfl rfl ?_
            refine wp_getI (pc := 77) 13 dX7_nameNow_77 fl_X7_84 rfl rfl ?_
            rw [h13]
            refine wp_iload (pc := 80) dX7_nameNow_80 rfl ?_
            refine wp_iadd (pc := 82) dX7_nameNow_82 (by omega) ?_
            refine wp_aload_n (pc := 83) dX7_nameNow_83 rfl rfl ?_
            refine wp_getR (pc := 84) (q := 79) dX7_nameNow_84 fl_X7_32 rfl ?_
            refine wp_iload_n (pc := 87) dX7_nameNow_87 rfl rfl ?_
            refine wp_iald (pc := 88) 10 dX7_nameNow_88 rfl (by omega) ?_
            rw [e1]
            refine wp_isub (pc := 89) dX7_nameNow_89 (by omega) ?_
            refine wp_cvI1 (pc := 90) dX7_nameNow_90 mv_X7_93 (m_byteAt h9 hn ht (by omega)) (Nat.le_of_ble_eq_true rfl) rfl (Nat.le_of_ble_eq_true rfl) (fun z_90 σ_90 h_90 => ?_)
            obtain ⟨zz_90, e_90⟩ := h_90; have e2_90 := e_90.symm; subst e2_90
            rw [if_pos (by omega), show hs + k - e = hs + (k - e) by omega] at zz_90
            have e5 := e4 (k - e) (by omega) (by omega)
            rw [show e + (k - e) = k by omega] at e5
            refine wp_aload_n (pc := 93) dX7_nameNow_93 rfl rfl ?_
            refine wp_getR (pc := 94) (q := 80) dX7_nameNow_94 fl_X7_35 rfl ?_
            refine wp_iload (pc := 97) dX7_nameNow_97 rfl ?_
            refine wp_iald (pc := 99) 41 dX7_nameNow_99 rfl (by omega) ?_
            refine wp_icmp_ne (pc := 100) 107 dX7_nameNow_100 (by decide) (fun c_100 => ?_) (fun c_100 => ?_)
            · refine wp_iconst (pc := 107) dX7_nameNow_107 (by decide) ?_
              refine wp_istore (pc := 108) dX7_nameNow_108 (Nat.le_of_ble_eq_true rfl) rfl ?_
              refine wp_iinc (pc := 110) dX7_nameNow_110 rfl rfl (by omega) ?_
              refine wp_goto (pc := 113) 57 dX7_nameNow_113 (by decide) ?_
              refine ihk (by omega) (by omega) _ ?_
              first
                | (left
                   refine ⟨rfl, v2, v3, fun x x0 x1 => ?_⟩
                   by_cases ex : x = k - e
                   · rw [ex]; omega
                   · exact v4 x x0 (by omega))
                | (right
                   refine ⟨rfl, fun _ hnm => c_100 ?_⟩
                   have := hnm.2 (k - e) (by omega) (by omega)
                   omega)
            · refine wp_iconst (pc := 103) dX7_nameNow_103 (by decide) ?_
              refine wp_goto (pc := 104) 108 dX7_nameNow_104 (by decide) ?_
              refine wp_istore (pc := 108) dX7_nameNow_108 (Nat.le_of_ble_eq_true rfl) rfl ?_
              refine wp_iinc (pc := 110) dX7_nameNow_110 rfl rfl (by omega) ?_
              refine wp_goto (pc := 113) 57 dX7_nameNow_113 (by decide) ?_
              refine ihk (by omega) (by omega) _ ?_
              first
                | (left
                   refine ⟨rfl, v2, v3, fun x x0 x1 => ?_⟩
                   by_cases ex : x = k - e
                   · rw [ex]; omega
                   · exact v4 x x0 (by omega))
                | (right
                   refine ⟨rfl, fun _ hnm => c_100 ?_⟩
                   have := hnm.2 (k - e) (by omega) (by omega)
                   omega)
      have w47 : ∀ v : Int, ((v = 1 ∧ σ 71 14 = 1 ∧ m = L) ∨ (v = 0 ∧ ¬ (σ 71 14 = 1 ∧ m = L))) → Wp cX7_nameNow RX7 (some .int) 1 47 [some (mR 71), some (mI a), some (mI b), some (mI w), none, none] [mI v] σ (fun v σ' => ∃ z, v = some (mI z) ∧ (fun z σ' => ((∃ w : Int, a ≤ w ∧ w < b ∧ σ 71 14 = 1 ∧ nmT t hs m w.toNat ∧ (∀ q, a ≤ q → q < w → ¬ nmT t hs m q.toNat) ∧ z = w) ∨ (z = -4 ∧ (σ 71 14 = 1 → ∀ q, a ≤ q → q < b → ¬ nmT t hs m q.toNat))) ∧ σ' = σ) z σ') := by
        intro v hv
        refine wp_istore (pc := 47) dX7_nameNow_47 (Nat.le_of_ble_eq_true rfl) rfl ?_
        refine wp_aload_n (pc := 49) dX7_nameNow_49 rfl rfl ?_
        refine wp_getR (pc := 50) (q := 79) dX7_nameNow_50 fl_X7_32 rfl ?_
        refine wp_iload_n (pc := 53) dX7_nameNow_53 rfl rfl ?_
        refine wp_iald (pc := 54) 10 dX7_nameNow_54 rfl (by omega) ?_
        rw [e1]
        refine wp_istore (pc := 55) dX7_nameNow_55 (Nat.le_of_ble_eq_true rfl) rfl ?_
        refine inn e (by omega) (Int.le_refl _) v ?_
        rcases hv with c | c
        · exact Or.inl ⟨c.1, c.2.1, c.2.2, fun x x0 x1 => by omega⟩
        · refine Or.inr ⟨c.1, fun h1 hnm => c.2 ⟨h1, ?_⟩⟩
          have := hnm.1
          omega
      refine wp_iload_n (pc := 2) dX7_nameNow_2 rfl rfl ?_
      refine wp_iload_n (pc := 3) dX7_nameNow_3 rfl rfl ?_
      refine wp_icmp_ge (pc := 4) 129 dX7_nameNow_4 (by decide) (fun c_4 => ?_) (fun c_4 => ?_)
      · omega
      · refine wp_aload_n (pc := 7) dX7_nameNow_7 rfl rfl ?_
        refine wp_getI (pc := 8) 14 dX7_nameNow_8 fl_X7_100 rfl rfl ?_
        refine wp_iconst (pc := 11) dX7_nameNow_11 (by decide) ?_
        refine wp_icmp_ne (pc := 12) 46 dX7_nameNow_12 (by decide) (fun c_12 => ?_) (fun c_12 => ?_)
        · refine wp_iconst (pc := 46) dX7_nameNow_46 (by decide) ?_
          exact w47 _ (by omega)
        · refine wp_aload_n (pc := 15) dX7_nameNow_15 rfl rfl ?_
          refine wp_getI (pc := 16) 12 dX7_nameNow_16 fl_X7_90 rfl rfl ?_
          refine wp_aload_n (pc := 19) dX7_nameNow_19 rfl rfl ?_
          refine wp_getI (pc := 20) 13 dX7_nameNow_20 fl_X7_84 rfl rfl ?_
          refine wp_isub (pc := 23) dX7_nameNow_23 (by omega) ?_
          refine wp_aload_n (pc := 24) dX7_nameNow_24 rfl rfl ?_
          refine wp_getR (pc := 25) (q := 79) dX7_nameNow_25 fl_X7_32 rfl ?_
          refine wp_iload_n (pc := 28) dX7_nameNow_28 rfl rfl ?_
          refine wp_iconst (pc := 29) dX7_nameNow_29 (by decide) ?_
          refine wp_iadd (pc := 30) dX7_nameNow_30 (by omega) ?_
          refine wp_iald (pc := 31) 10 dX7_nameNow_31 rfl (by omega) ?_
          rw [e2]
          refine wp_aload_n (pc := 32) dX7_nameNow_32 rfl rfl ?_
          refine wp_getR (pc := 33) (q := 79) dX7_nameNow_33 fl_X7_32 rfl ?_
          refine wp_iload_n (pc := 36) dX7_nameNow_36 rfl rfl ?_
          refine wp_iald (pc := 37) 10 dX7_nameNow_37 rfl (by omega) ?_
          rw [e1]
          refine wp_isub (pc := 38) dX7_nameNow_38 (by omega) ?_
          refine wp_icmp_ne (pc := 39) 46 dX7_nameNow_39 (by decide) (fun c_39 => ?_) (fun c_39 => ?_)
          · refine wp_iconst (pc := 46) dX7_nameNow_46 (by decide) ?_
            exact w47 _ (by omega)
          · refine wp_iconst (pc := 42) dX7_nameNow_42 (by decide) ?_
            refine wp_goto (pc := 43) 47 dX7_nameNow_43 (by decide) ?_
            exact w47 _ (by omega)
    · have hend : (σ 71 14 = 1 → ∀ q, a ≤ q → q < b → ¬ nmT t hs m q.toNat) := fun h1 q q0 q1 => hno h1 q q0 (by omega)
      refine wp_iload_n (pc := 2) dX7_nameNow_2 rfl rfl ?_
      refine wp_iload_n (pc := 3) dX7_nameNow_3 rfl rfl ?_
      refine wp_icmp_ge (pc := 4) 129 dX7_nameNow_4 (by decide) (fun c_4 => ?_) (fun c_4 => ?_)
      · refine wp_bipush (pc := 129) dX7_nameNow_129 (by decide) (by decide) ?_
        refine wp_ireturn (pc := 131) dX7_nameNow_131 rfl ?_
        exact ⟨_, rfl, Or.inr ⟨rfl, hend⟩, rfl⟩
      · omega
  refine wp_iload_n (pc := 0) dX7_nameNow_0 rfl rfl ?_
  refine wp_istore_n (pc := 1) dX7_nameNow_1 rfl (Nat.le_of_ble_eq_true rfl) rfl ?_
  exact lp a (by omega) (Int.le_refl _) (fun _ q q0 q1 => by omega)
set_option maxHeartbeats 4000000 in
set_option maxRecDepth 100000 in
theorem nm6_to {P : Nat → Prop} {z : Int} (h : (∃ w : Int, 3 ≤ w ∧ w < 9 ∧ P w.toNat ∧ (∀ q : Int, 3 ≤ q → q < w → ¬ P q.toNat) ∧ z = w) ∨ (z = -4 ∧ ∀ q : Int, 3 ≤ q → q < 9 → ¬ P q.toNat)) : (0 ≤ nm6 P ∧ z = nm6 P + 3) ∨ (nm6 P = -4 ∧ z = -4) := by
  rcases h with ⟨w, w3, w9, hP, hn, hz⟩ | ⟨hz, hn⟩
  · have := nm6_of (P := P) (z := w - 3) (Or.inl ⟨w.toNat, by omega, by omega, hP, fun q q3 qw => by have := hn (q : Int) (by omega) (by omega); rw [Int.toNat_natCast] at this; exact this, by omega⟩)
    left; omega
  · have := nm6_of (P := P) (z := -4) (Or.inr ⟨rfl, fun q q3 qw => by have := hn (q : Int) (by omega) (by omega); rw [Int.toNat_natCast] at this; exact this⟩)
    right; omega
set_option maxHeartbeats 4000000 in
set_option maxRecDepth 100000 in
theorem nm3_to {P : Nat → Prop} {z : Int} (h : (∃ w : Int, 0 ≤ w ∧ w < 3 ∧ P w.toNat ∧ (∀ q : Int, 0 ≤ q → q < w → ¬ P q.toNat) ∧ z = w) ∨ (z = -4 ∧ ∀ q : Int, 0 ≤ q → q < 3 → ¬ P q.toNat)) : z = nm3 P := by
  rcases h with ⟨w, w3, w9, hP, hn, hz⟩ | ⟨hz, hn⟩
  · rcases (show w = 0 ∨ w = 1 ∨ w = 2 by omega) with rfl | rfl | rfl
    · rw [nm3_of0 hP, hz]
    · rw [nm3_of1 (hn 0 (by decide) (by decide)) hP, hz]
    · rw [nm3_of2 (hn 0 (by decide) (by decide)) (hn 1 (by decide) (by decide)) hP, hz]
  · rw [nm3_no (hn 0 (by decide) (by decide)) (hn 1 (by decide) (by decide)) (hn 2 (by decide) (by decide)), hz]
set_option maxHeartbeats 4000000 in
set_option maxRecDepth 100000 in
theorem m_isSign {σ : Sto} {c : Int} : CtI yX7_isSign cX7_isSign 2 (some .boolean) 0 [mR 71, mI c] σ (fun z σ' => ((z = 1 ∧ σ 71 14 = 3 ∧ σ 71 15 = c) ∨ (z = 0 ∧ ¬ (σ 71 14 = 3 ∧ σ 71 15 = c))) ∧ σ' = σ) := by
  refine ct_of rfl [some (mR 71), some (mI c)] (Nat.le_of_ble_eq_true rfl) rfl (fun hσ => ?_)
  show Wp cX7_isSign RX7 (some .boolean) 0 0 [some (mR 71), some (mI c)] [] _ _
  refine wp_aload_n (pc := 0) dX7_isSign_0 rfl rfl ?_
  refine wp_getI (pc := 1) 14 dX7_isSign_1 fl_X7_100 rfl rfl ?_
  refine wp_iconst (pc := 4) dX7_isSign_4 (by decide) ?_
  refine wp_icmp_ne (pc := 5) 20 dX7_isSign_5 (by decide) (fun c_5 => ?_) (fun c_5 => ?_)
  · refine wp_iconst (pc := 20) dX7_isSign_20 (by decide) ?_
    refine wp_zreturn (pc := 21) dX7_isSign_21 rfl (by omega) ?_
    exact ⟨_, rfl, by omega, rfl⟩
  · refine wp_aload_n (pc := 8) dX7_isSign_8 rfl rfl ?_
    refine wp_getI (pc := 9) 15 dX7_isSign_9 fl_X7_97 rfl rfl ?_
    refine wp_iload_n (pc := 12) dX7_isSign_12 rfl rfl ?_
    refine wp_icmp_ne (pc := 13) 20 dX7_isSign_13 (by decide) (fun c_13 => ?_) (fun c_13 => ?_)
    · refine wp_iconst (pc := 20) dX7_isSign_20 (by decide) ?_
      refine wp_zreturn (pc := 21) dX7_isSign_21 rfl (by omega) ?_
      exact ⟨_, rfl, by omega, rfl⟩
    · refine wp_iconst (pc := 16) dX7_isSign_16 (by decide) ?_
      refine wp_goto (pc := 17) 21 dX7_isSign_17 (by decide) ?_
      refine wp_zreturn (pc := 21) dX7_isSign_21 rfl (by omega) ?_
      exact ⟨_, rfl, by omega, rfl⟩
set_option maxHeartbeats 4000000 in
set_option maxRecDepth 100000 in
theorem m_isLetterNow {σ : Sto} (h : -1000 ≤ σ 71 12 ∧ σ 71 12 ≤ 1000 ∧ -1000 ≤ σ 71 13 ∧ σ 71 13 ≤ 1000) : CtI yX7_isLetterNow cX7_isLetterNow 1 (some .boolean) 0 [mR 71] σ (fun z σ' => ((z = 1 ∧ σ 71 14 = 1 ∧ σ 71 12 - σ 71 13 = 1) ∨ (z = 0 ∧ ¬ (σ 71 14 = 1 ∧ σ 71 12 - σ 71 13 = 1))) ∧ σ' = σ) := by
  refine ct_of rfl [some (mR 71)] (Nat.le_of_ble_eq_true rfl) rfl (fun hσ => ?_)
  show Wp cX7_isLetterNow RX7 (some .boolean) 0 0 [some (mR 71)] [] _ _
  refine wp_aload_n (pc := 0) dX7_isLetterNow_0 rfl rfl ?_
  refine wp_getI (pc := 1) 14 dX7_isLetterNow_1 fl_X7_100 rfl rfl ?_
  refine wp_iconst (pc := 4) dX7_isLetterNow_4 (by decide) ?_
  refine wp_icmp_ne (pc := 5) 25 dX7_isLetterNow_5 (by decide) (fun c_5 => ?_) (fun c_5 => ?_)
  · refine wp_iconst (pc := 25) dX7_isLetterNow_25 (by decide) ?_
    refine wp_zreturn (pc := 26) dX7_isLetterNow_26 rfl (by omega) ?_
    exact ⟨_, rfl, by omega, rfl⟩
  · refine wp_aload_n (pc := 8) dX7_isLetterNow_8 rfl rfl ?_
    refine wp_getI (pc := 9) 12 dX7_isLetterNow_9 fl_X7_90 rfl rfl ?_
    refine wp_aload_n (pc := 12) dX7_isLetterNow_12 rfl rfl ?_
    refine wp_getI (pc := 13) 13 dX7_isLetterNow_13 fl_X7_84 rfl rfl ?_
    refine wp_isub (pc := 16) dX7_isLetterNow_16 (by omega) ?_
    refine wp_iconst (pc := 17) dX7_isLetterNow_17 (by decide) ?_
    refine wp_icmp_ne (pc := 18) 25 dX7_isLetterNow_18 (by decide) (fun c_18 => ?_) (fun c_18 => ?_)
    · refine wp_iconst (pc := 25) dX7_isLetterNow_25 (by decide) ?_
      refine wp_zreturn (pc := 26) dX7_isLetterNow_26 rfl (by omega) ?_
      exact ⟨_, rfl, by omega, rfl⟩
    · refine wp_iconst (pc := 21) dX7_isLetterNow_21 (by decide) ?_
      refine wp_goto (pc := 22) 26 dX7_isLetterNow_22 (by decide) ?_
      refine wp_zreturn (pc := 26) dX7_isLetterNow_26 rfl (by omega) ?_
      exact ⟨_, rfl, by omega, rfl⟩
set_option maxHeartbeats 4000000 in
set_option maxRecDepth 100000 in
theorem m_shapeOf {σ S : Sto} {w : Int} (hS : SR (σ 75) S) (hc : 0 ≤ σ 71 5 ∧ σ 71 5 ≤ 6 ∧ σ 71 5 ≤ S 0 0) : CtI yX7_shapeOf cX7_shapeOf 3 (some .int) 0 [mR 71, mI w] σ (fun z σ' => z = fnd (S 1) (σ 71 5) w ∧ σ' = σ) := by
  refine ct_of rfl [some (mR 71), some (mI w), none] (Nat.le_of_ble_eq_true rfl) rfl (fun hσ => ?_)
  show Wp cX7_shapeOf RX7 (some .int) 0 0 [some (mR 71), some (mI w), none] [] _ _
  have lp : ∀ g, g ≤ σ 71 5 → 0 ≤ g → (∀ k, 0 ≤ k → k < g → S 1 k ≠ w) → Wp cX7_shapeOf RX7 (some .int) 0 2 [some (mR 71), some (mI w), some (mI g)] [] σ (fun v σ' => ∃ z, v = some (mI z) ∧ (fun z σ' => z = fnd (S 1) (σ 71 5) w ∧ σ' = σ) z σ') := by
    refine up_ind _ (fun g hg ih g0 hno => ?_)
    have hs := fun q => (hS g g0 (show g < S 0 0 from q)).1
    refine wp_iload_n (pc := 2) dX7_shapeOf_2 rfl rfl ?_
    refine wp_aload_n (pc := 3) dX7_shapeOf_3 rfl rfl ?_
    refine wp_getI (pc := 4) 5 dX7_shapeOf_4 fl_X7_131 rfl rfl ?_
    refine wp_icmp_ge (pc := 7) 33 dX7_shapeOf_7 (by decide) (fun c_7 => ?_) (fun c_7 => ?_)
    · refine wp_bipush (pc := 33) dX7_shapeOf_33 (by decide) (by decide) ?_
      refine wp_ireturn (pc := 35) dX7_shapeOf_35 rfl ?_
      exact ⟨_, rfl, (fnd_none (fun k k0 k1 => hno k k0 (by omega))).symm, rfl⟩
    · refine wp_aload_n (pc := 10) dX7_shapeOf_10 rfl rfl ?_
      refine wp_getR (pc := 11) (q := 75) dX7_shapeOf_11 fl_X7_19 rfl ?_
      refine wp_bipush (pc := 14) dX7_shapeOf_14 (by decide) (by decide) ?_
      refine wp_iload_n (pc := 16) dX7_shapeOf_16 rfl rfl ?_
      refine wp_imul (pc := 17) dX7_shapeOf_17 (by omega) ?_
      refine wp_iconst (pc := 18) dX7_shapeOf_18 (by decide) ?_
      refine wp_iadd (pc := 19) dX7_shapeOf_19 (by omega) ?_
      refine wp_iald (pc := 20) 114 dX7_shapeOf_20 rfl (by omega) ?_
      rw [Int.add_zero, hs (by omega)]
      refine wp_iload_n (pc := 21) dX7_shapeOf_21 rfl rfl ?_
      refine wp_icmp_ne (pc := 22) 27 dX7_shapeOf_22 (by decide) (fun c_22 => ?_) (fun c_22 => ?_)
      · refine wp_iinc (pc := 27) dX7_shapeOf_27 rfl rfl (by omega) ?_
        refine wp_goto (pc := 30) 2 dX7_shapeOf_30 (by decide) ?_
        refine ih (by omega) (by omega) (fun k k0 k1 => ?_)
        by_cases e : k = g
        · rw [e]; exact c_22
        · exact hno k k0 (by omega)
      · refine wp_iload_n (pc := 25) dX7_shapeOf_25 rfl rfl ?_
        refine wp_ireturn (pc := 26) dX7_shapeOf_26 rfl ?_
        exact ⟨_, rfl, (fnd_hit g0 (by omega) hno c_22).symm, rfl⟩
  refine wp_iconst (pc := 0) dX7_shapeOf_0 (by decide) ?_
  refine wp_istore_n (pc := 1) dX7_shapeOf_1 rfl (Nat.le_of_ble_eq_true rfl) rfl ?_
  exact lp 0 (by omega) (by decide) (fun k k0 k1 => by omega)
set_option maxHeartbeats 4000000 in
set_option maxRecDepth 100000 in
theorem m_wordsOfDraft {σ D S : Sto} (hP : PR (σ 73) D) (hD : DW D S) : CtI yX7_wordsOfDraft cX7_wordsOfDraft 3 (some .int) 0 [mR 71] σ (fun z σ' => z = tot D ∧ σ' = σ) := by
  refine ct_of rfl [some (mR 71), none, none] (Nat.le_of_ble_eq_true rfl) rfl (fun hσ => ?_)
  show Wp cX7_wordsOfDraft RX7 (some .int) 0 0 [some (mR 71), none, none] [] _ _
  have hc := hD.1
  have e0 := hP.1
  have hb : ∀ p, 0 ≤ p → p ≤ D 0 0 → 0 ≤ fstS D p ∧ fstS D p ≤ tot D := fun p p0 p1 => by
    have h1 := sumI_mono (f := D 1) (m := 0) (n := p) (by decide) p0 (fun k k0 k1 => hD.2.1 k k0 (by omega))
    have h2 := sumI_mono (f := D 1) (m := p) (n := D 0 0) p0 p1 (fun k k0 k1 => hD.2.1 k k0 k1)
    rw [sumI_0] at h1
    exact ⟨h1, h2⟩
  have ht := hD.2.2.1
  have lp : ∀ p, p ≤ D 0 0 → 0 ≤ p → Wp cX7_wordsOfDraft RX7 (some .int) 0 4 [some (mR 71), some (mI (fstS D p)), some (mI p)] [] σ (fun v σ' => ∃ z, v = some (mI z) ∧ (fun z σ' => z = tot D ∧ σ' = σ) z σ') := by
    refine up_ind _ (fun p hp ih p0 => ?_)
    have b1 := hb p p0 hp
    have b2 := fun q => hb (p + 1) (by omega) (show p + 1 ≤ D 0 0 from q)
    have s := fst_s D p0
    have hq := fun q => (hP.2.1 p p0 (show p < D 0 0 from q)).2.2
    refine wp_iload_n (pc := 4) dX7_wordsOfDraft_4 rfl rfl ?_
    refine wp_aload_n (pc := 5) dX7_wordsOfDraft_5 rfl rfl ?_
    refine wp_getR (pc := 6) (q := 73) dX7_wordsOfDraft_6 fl_X7_13 rfl ?_
    refine wp_iconst (pc := 9) dX7_wordsOfDraft_9 (by decide) ?_
    refine wp_iald (pc := 10) 591 dX7_wordsOfDraft_10 rfl (by omega) ?_
    rw [e0]
    refine wp_icmp_ge (pc := 11) 35 dX7_wordsOfDraft_11 (by decide) (fun c_11 => ?_) (fun c_11 => ?_)
    · refine wp_iload_n (pc := 35) dX7_wordsOfDraft_35 rfl rfl ?_
      refine wp_ireturn (pc := 36) dX7_wordsOfDraft_36 rfl ?_
      rw [show p = D 0 0 by omega]
      exact ⟨_, rfl, rfl, rfl⟩
    · have hq2 := hq (by omega)
      have b3 := b2 (by omega)
      refine wp_iload_n (pc := 14) dX7_wordsOfDraft_14 rfl rfl ?_
      refine wp_aload_n (pc := 15) dX7_wordsOfDraft_15 rfl rfl ?_
      refine wp_getR (pc := 16) (q := 73) dX7_wordsOfDraft_16 fl_X7_13 rfl ?_
      refine wp_iconst (pc := 19) dX7_wordsOfDraft_19 (by decide) ?_
      refine wp_iconst (pc := 20) dX7_wordsOfDraft_20 (by decide) ?_
      refine wp_iload_n (pc := 21) dX7_wordsOfDraft_21 rfl rfl ?_
      refine wp_imul (pc := 22) dX7_wordsOfDraft_22 (by omega) ?_
      refine wp_iadd (pc := 23) dX7_wordsOfDraft_23 (by omega) ?_
      refine wp_iconst (pc := 24) dX7_wordsOfDraft_24 (by decide) ?_
      refine wp_iadd (pc := 25) dX7_wordsOfDraft_25 (by omega) ?_
      refine wp_iald (pc := 26) 591 dX7_wordsOfDraft_26 rfl (by omega) ?_
      rw [hq2]
      refine wp_iadd (pc := 27) dX7_wordsOfDraft_27 (by omega) ?_
      refine wp_istore_n (pc := 28) dX7_wordsOfDraft_28 rfl (Nat.le_of_ble_eq_true rfl) rfl ?_
      refine wp_iinc (pc := 29) dX7_wordsOfDraft_29 rfl rfl (by omega) ?_
      refine wp_goto (pc := 32) 4 dX7_wordsOfDraft_32 (by decide) ?_
      rw [← s]
      exact ih (by omega) (by omega)
  refine wp_iconst (pc := 0) dX7_wordsOfDraft_0 (by decide) ?_
  refine wp_istore_n (pc := 1) dX7_wordsOfDraft_1 rfl (Nat.le_of_ble_eq_true rfl) rfl ?_
  refine wp_iconst (pc := 2) dX7_wordsOfDraft_2 (by decide) ?_
  refine wp_istore_n (pc := 3) dX7_wordsOfDraft_3 rfl (Nat.le_of_ble_eq_true rfl) rfl ?_
  exact lp 0 (by omega) (by decide)
