def advP (σ τ : Sto) (x : Int) : Prop := Frm [38] σ τ ∧ τ 38 4 = tkE (σ 1) (σ 38 3) x ∧ τ 38 5 = tkK (σ 1) (σ 38 3) x ∧ τ 38 6 = tkS (σ 1) (σ 38 3) x ∧ τ 38 7 = tkE (σ 1) (σ 38 3) x - tkS (σ 1) (σ 38 3) x ∧ τ 38 8 = tkN (σ 1) (σ 38 3) x ∧ ∀ k, (k < 4 ∨ 8 < k) → τ 38 k = σ 38 k
set_option maxHeartbeats 4000000 in
set_option maxRecDepth 100000 in
theorem tk_bd {t : Int → Int} {n x : Int} (h0 : 0 ≤ x) (h : x ≤ n) : x ≤ tkS t n x ∧ tkS t n x ≤ tkE t n x ∧ tkE t n x ≤ n := by
  have h1 := rn_bd (t := t) (lo := 32) (hi := 32) (n := n) x h
  have h2 : x ≤ tkS t n x ∧ tkS t n x ≤ n := h1
  have h3 := rn_bd (t := t) (lo := 97) (hi := 122) (n := n) (tkS t n x) h2.2
  have h4 := rn_bd (t := t) (lo := 48) (hi := 57) (n := n) (tkS t n x) h2.2
  unfold tkE
  split
  · omega
  · split
    · omega
    · split <;> omega
set_option maxHeartbeats 4000000 in
set_option maxRecDepth 100000 in
theorem advP.rd {σ τ : Sto} {x : Int} (h : advP σ τ x) (hR : RdI σ) (hx : σ 38 4 = x) : RdI τ ∧ (0 ≤ τ 38 6 ∧ 0 ≤ τ 38 7 ∧ τ 38 6 + τ 38 7 ≤ 400) ∧ τ 38 6 + τ 38 7 = τ 38 4 := by
  obtain ⟨f, a4, a5, a6, a7, a8, ak⟩ := h
  obtain ⟨r1, r2, r3⟩ := hR
  have hb := tk_bd (t := σ 1) (n := σ 38 3) (x := x) (by omega) (by omega)
  have a3 := ak 3 (by decide)
  refine ⟨⟨by omega, by omega, ?_⟩, by omega, by omega⟩
  rw [a3, f 1 (by decide)]
  exact r3
set_option maxHeartbeats 4000000 in
set_option maxRecDepth 100000 in
theorem c_settingNamed {σ : Sto} (h6 : 0 ≤ σ 38 6) (h7 : 0 ≤ σ 38 7) (hl : σ 38 6 + σ 38 7 ≤ 400) : CtI yX4_settingNamed cX4_settingNamed 1 (some .int) 6 [mR 38] σ (fun z σ' => ((∃ w : Nat, 3 ≤ w ∧ w < 9 ∧ nmd σ w ∧ (∀ q : Nat, 3 ≤ q → q < w → ¬ nmd σ q) ∧ z = (w : Int) - 3) ∨ (z = -4 ∧ ∀ q : Nat, 3 ≤ q → q < 9 → ¬ nmd σ q)) ∧ σ' = σ) := by
  refine ct_of rfl [some (mR 38)] (Nat.le_of_ble_eq_true rfl) rfl (fun hσ => ?_)
  show Wp cX4_settingNamed RX4 (some .int) 6 0 [some (mR 38)] [] _ _
  have key : ∀ w : Nat, 3 ≤ w → w ≤ 9 → (3 < w → ¬ nmd σ 3) → (4 < w → ¬ nmd σ 4) → (5 < w → ¬ nmd σ 5) → (6 < w → ¬ nmd σ 6) → (7 < w → ¬ nmd σ 7) → (8 < w → ¬ nmd σ 8) → ∀ q : Nat, 3 ≤ q → q < w → ¬ nmd σ q := by
    intro w w3 w9 h3 h4 h5 h6 h7 h8 q q3 qw
    have : q = 3 ∨ q = 4 ∨ q = 5 ∨ q = 6 ∨ q = 7 ∨ q = 8 := by omega
    rcases this with rfl | rfl | rfl | rfl | rfl | rfl
    · exact h3 qw
    · exact h4 qw
    · exact h5 qw
    · exact h6 qw
    · exact h7 qw
    · exact h8 qw
  have yes : ∀ z : Int, ∀ w : Nat, z = 1 ∧ nmd σ w ∨ z = 0 ∧ ¬ nmd σ w → ¬ z = 0 → nmd σ w := fun z w h hz => by
    rcases h with h | h
    · exact h.2
    · exact absurd h.1 hz
  have nay : ∀ z : Int, ∀ w : Nat, z = 1 ∧ nmd σ w ∨ z = 0 ∧ ¬ nmd σ w → z = 0 → ¬ nmd σ w := fun z w h hz => by
    rcases h with h | h
    · exact absurd h.1 (by omega)
    · exact h.2
  refine wp_aload_n (pc := 0) dX4_settingNamed_0 rfl rfl ?_
  refine wp_ldcS (pc := 1) 3 dX4_settingNamed_1 rfl (by decide) rfl ?_
  refine wp_cvI1 (pc := 3) dX4_settingNamed_3 mv_X4_71 (c_isNamed_3 h6 h7 hl) (Nat.le_of_ble_eq_true rfl) rfl (Nat.le_of_ble_eq_true rfl) (fun z_3 σ_3 h_3 => ?_)
  obtain ⟨zz_3, e_3⟩ := h_3; have e2_3 := e_3.symm; subst e2_3
  refine wp_if_eq (pc := 6) 11 dX4_settingNamed_6 (by decide) (fun c_6 => ?_) (fun c_6 => ?_)
  · refine wp_aload_n (pc := 11) dX4_settingNamed_11 rfl rfl ?_
    refine wp_ldcS (pc := 12) 4 dX4_settingNamed_12 rfl (by decide) rfl ?_
    refine wp_cvI1 (pc := 14) dX4_settingNamed_14 mv_X4_71 (c_isNamed_4 h6 h7 hl) (Nat.le_of_ble_eq_true rfl) rfl (Nat.le_of_ble_eq_true rfl) (fun z_14 σ_14 h_14 => ?_)
    obtain ⟨zz_14, e_14⟩ := h_14; have e2_14 := e_14.symm; subst e2_14
    refine wp_if_eq (pc := 17) 22 dX4_settingNamed_17 (by decide) (fun c_17 => ?_) (fun c_17 => ?_)
    · refine wp_aload_n (pc := 22) dX4_settingNamed_22 rfl rfl ?_
      refine wp_ldcS (pc := 23) 5 dX4_settingNamed_23 rfl (by decide) rfl ?_
      refine wp_cvI1 (pc := 25) dX4_settingNamed_25 mv_X4_71 (c_isNamed_5 h6 h7 hl) (Nat.le_of_ble_eq_true rfl) rfl (Nat.le_of_ble_eq_true rfl) (fun z_25 σ_25 h_25 => ?_)
      obtain ⟨zz_25, e_25⟩ := h_25; have e2_25 := e_25.symm; subst e2_25
      refine wp_if_eq (pc := 28) 33 dX4_settingNamed_28 (by decide) (fun c_28 => ?_) (fun c_28 => ?_)
      · refine wp_aload_n (pc := 33) dX4_settingNamed_33 rfl rfl ?_
        refine wp_ldcS (pc := 34) 6 dX4_settingNamed_34 rfl (by decide) rfl ?_
        refine wp_cvI1 (pc := 36) dX4_settingNamed_36 mv_X4_71 (c_isNamed_6 h6 h7 hl) (Nat.le_of_ble_eq_true rfl) rfl (Nat.le_of_ble_eq_true rfl) (fun z_36 σ_36 h_36 => ?_)
        obtain ⟨zz_36, e_36⟩ := h_36; have e2_36 := e_36.symm; subst e2_36
        refine wp_if_eq (pc := 39) 44 dX4_settingNamed_39 (by decide) (fun c_39 => ?_) (fun c_39 => ?_)
        · refine wp_aload_n (pc := 44) dX4_settingNamed_44 rfl rfl ?_
          refine wp_ldcS (pc := 45) 7 dX4_settingNamed_45 rfl (by decide) rfl ?_
          refine wp_cvI1 (pc := 47) dX4_settingNamed_47 mv_X4_71 (c_isNamed_7 h6 h7 hl) (Nat.le_of_ble_eq_true rfl) rfl (Nat.le_of_ble_eq_true rfl) (fun z_47 σ_47 h_47 => ?_)
          obtain ⟨zz_47, e_47⟩ := h_47; have e2_47 := e_47.symm; subst e2_47
          refine wp_if_eq (pc := 50) 55 dX4_settingNamed_50 (by decide) (fun c_50 => ?_) (fun c_50 => ?_)
          · refine wp_aload_n (pc := 55) dX4_settingNamed_55 rfl rfl ?_
            refine wp_ldcS (pc := 56) 8 dX4_settingNamed_56 rfl (by decide) rfl ?_
            refine wp_cvI1 (pc := 58) dX4_settingNamed_58 mv_X4_71 (c_isNamed_8 h6 h7 hl) (Nat.le_of_ble_eq_true rfl) rfl (Nat.le_of_ble_eq_true rfl) (fun z_58 σ_58 h_58 => ?_)
            obtain ⟨zz_58, e_58⟩ := h_58; have e2_58 := e_58.symm; subst e2_58
            refine wp_if_eq (pc := 61) 68 dX4_settingNamed_61 (by decide) (fun c_61 => ?_) (fun c_61 => ?_)
            · refine wp_bipush (pc := 68) dX4_settingNamed_68 (by decide) (by decide) ?_
              refine wp_ireturn (pc := 70) dX4_settingNamed_70 rfl ?_
              first
                | exact ⟨_, rfl, Or.inl ⟨8, by decide, by decide, yes _ _ zz_58 c_61, key 8 (by decide) (by decide) (fun _ => nay _ _ zz_3 c_6) (fun _ => nay _ _ zz_14 c_17) (fun _ => nay _ _ zz_25 c_28) (fun _ => nay _ _ zz_36 c_39) (fun _ => nay _ _ zz_47 c_50) (fun h => absurd h (by decide)), rfl⟩, rfl⟩
                | exact ⟨_, rfl, Or.inr ⟨rfl, key 9 (by decide) (by decide) (fun _ => nay _ _ zz_3 c_6) (fun _ => nay _ _ zz_14 c_17) (fun _ => nay _ _ zz_25 c_28) (fun _ => nay _ _ zz_36 c_39) (fun _ => nay _ _ zz_47 c_50) (fun _ => nay _ _ zz_58 c_61)⟩, rfl⟩
            · refine wp_iconst (pc := 64) dX4_settingNamed_64 (by decide) ?_
              refine wp_goto (pc := 65) 70 dX4_settingNamed_65 (by decide) ?_
              refine wp_ireturn (pc := 70) dX4_settingNamed_70 rfl ?_
              first
                | exact ⟨_, rfl, Or.inl ⟨8, by decide, by decide, yes _ _ zz_58 c_61, key 8 (by decide) (by decide) (fun _ => nay _ _ zz_3 c_6) (fun _ => nay _ _ zz_14 c_17) (fun _ => nay _ _ zz_25 c_28) (fun _ => nay _ _ zz_36 c_39) (fun _ => nay _ _ zz_47 c_50) (fun h => absurd h (by decide)), rfl⟩, rfl⟩
                | exact ⟨_, rfl, Or.inr ⟨rfl, key 9 (by decide) (by decide) (fun _ => nay _ _ zz_3 c_6) (fun _ => nay _ _ zz_14 c_17) (fun _ => nay _ _ zz_25 c_28) (fun _ => nay _ _ zz_36 c_39) (fun _ => nay _ _ zz_47 c_50) (fun _ => nay _ _ zz_58 c_61)⟩, rfl⟩
          · refine wp_iconst (pc := 53) dX4_settingNamed_53 (by decide) ?_
            refine wp_ireturn (pc := 54) dX4_settingNamed_54 rfl ?_
            exact ⟨_, rfl, Or.inl ⟨7, by decide, by decide, yes _ _ zz_47 c_50, key 7 (by decide) (by decide) (fun _ => nay _ _ zz_3 c_6) (fun _ => nay _ _ zz_14 c_17) (fun _ => nay _ _ zz_25 c_28) (fun _ => nay _ _ zz_36 c_39) (fun h => absurd h (by decide)) (fun h => absurd h (by decide)), rfl⟩, rfl⟩
        · refine wp_iconst (pc := 42) dX4_settingNamed_42 (by decide) ?_
          refine wp_ireturn (pc := 43) dX4_settingNamed_43 rfl ?_
          exact ⟨_, rfl, Or.inl ⟨6, by decide, by decide, yes _ _ zz_36 c_39, key 6 (by decide) (by decide) (fun _ => nay _ _ zz_3 c_6) (fun _ => nay _ _ zz_14 c_17) (fun _ => nay _ _ zz_25 c_28) (fun h => absurd h (by decide)) (fun h => absurd h (by decide)) (fun h => absurd h (by decide)), rfl⟩, rfl⟩
      · refine wp_iconst (pc := 31) dX4_settingNamed_31 (by decide) ?_
        refine wp_ireturn (pc := 32) dX4_settingNamed_32 rfl ?_
        exact ⟨_, rfl, Or.inl ⟨5, by decide, by decide, yes _ _ zz_25 c_28, key 5 (by decide) (by decide) (fun _ => nay _ _ zz_3 c_6) (fun _ => nay _ _ zz_14 c_17) (fun h => absurd h (by decide)) (fun h => absurd h (by decide)) (fun h => absurd h (by decide)) (fun h => absurd h (by decide)), rfl⟩, rfl⟩
    · refine wp_iconst (pc := 20) dX4_settingNamed_20 (by decide) ?_
      refine wp_ireturn (pc := 21) dX4_settingNamed_21 rfl ?_
      exact ⟨_, rfl, Or.inl ⟨4, by decide, by decide, yes _ _ zz_14 c_17, key 4 (by decide) (by decide) (fun _ => nay _ _ zz_3 c_6) (fun h => absurd h (by decide)) (fun h => absurd h (by decide)) (fun h => absurd h (by decide)) (fun h => absurd h (by decide)) (fun h => absurd h (by decide)), rfl⟩, rfl⟩
  · refine wp_iconst (pc := 9) dX4_settingNamed_9 (by decide) ?_
    refine wp_ireturn (pc := 10) dX4_settingNamed_10 rfl ?_
    exact ⟨_, rfl, Or.inl ⟨3, by decide, by decide, yes _ _ zz_3 c_6, fun q a b => absurd b (by omega), rfl⟩, rfl⟩
set_option maxHeartbeats 4000000 in
set_option maxRecDepth 100000 in
theorem c_readNumber {σ : Sto} {x a b : Int} (hR : RdI σ) (hx : σ 38 4 = x) : CtI yX4_readNumber cX4_readNumber 3 (some .boolean) 2 [mR 38, mI a, mI b] σ (fun z σ' => ∃ τ, advP σ τ x ∧ ((τ 38 5 = 2 ∧ a ≤ τ 38 8 ∧ τ 38 8 ≤ b ∧ z = 1 ∧ σ' = τ) ∨ (¬ (τ 38 5 = 2 ∧ a ≤ τ 38 8 ∧ τ 38 8 ≤ b) ∧ z = 0 ∧ σ' = upd2 τ 38 10 (if τ 38 5 = 0 then 1 else if τ 38 5 = 2 then 3 else 2)))) := by
  refine ct_of rfl [some (mR 38), some (mI a), some (mI b)] (Nat.le_of_ble_eq_true rfl) rfl (fun hσ => ?_)
  show Wp cX4_readNumber RX4 (some .boolean) 2 0 [some (mR 38), some (mI a), some (mI b)] [] _ _
  refine wp_aload_n (pc := 0) dX4_readNumber_0 rfl rfl ?_
  refine wp_cvV0 (pc := 1) dX4_readNumber_1 mv_X4_52 (c_advance hR hx) (Nat.le_of_ble_eq_true rfl) rfl (Nat.le_of_ble_eq_true rfl) (fun σ_1 h_1 => ?_)
  refine wp_aload_n (pc := 4) dX4_readNumber_4 rfl rfl ?_
  refine wp_getI (pc := 5) 5 dX4_readNumber_5 fl_X4_55 rfl rfl ?_
  refine wp_iconst (pc := 8) dX4_readNumber_8 (by decide) ?_
  refine wp_icmp_eq (pc := 9) 18 dX4_readNumber_9 (by decide) (fun c_9 => ?_) (fun c_9 => ?_)
  · refine wp_aload_n (pc := 18) dX4_readNumber_18 rfl rfl ?_
    refine wp_getI (pc := 19) 8 dX4_readNumber_19 fl_X4_107 rfl rfl ?_
    refine wp_iload_n (pc := 22) dX4_readNumber_22 rfl rfl ?_
    refine wp_icmp_lt (pc := 23) 34 dX4_readNumber_23 (by decide) (fun c_23 => ?_) (fun c_23 => ?_)
    · refine wp_aload_n (pc := 34) dX4_readNumber_34 rfl rfl ?_
      refine wp_iconst (pc := 35) dX4_readNumber_35 (by decide) ?_
      refine wp_cvI1 (pc := 36) dX4_readNumber_36 mv_X4_65 (c_refuse (w := 3)) (Nat.le_of_ble_eq_true rfl) rfl (Nat.le_of_ble_eq_true rfl) (fun z_36 σ_36 h_36 => ?_)
      obtain ⟨rfl, rfl⟩ := h_36
      refine wp_if_eq (pc := 39) 46 dX4_readNumber_39 (by decide) (fun c_39 => ?_) (fun c_39 => ?_)
      · refine wp_iconst (pc := 46) dX4_readNumber_46 (by decide) ?_
        refine wp_zreturn (pc := 47) dX4_readNumber_47 rfl (by omega) ?_
        first
          | exact absurd rfl c_39
          | exact ⟨_, rfl, σ_1, h_1, Or.inl ⟨c_9, by omega, by omega, rfl, rfl⟩⟩
          | (refine ⟨_, rfl, σ_1, h_1, Or.inr ⟨by omega, rfl, ?_⟩⟩
             rw [if_neg (show ¬ σ_1 38 5 = 0 by omega), if_neg (show ¬ σ_1 38 5 = 0 by omega), if_pos c_9])
      · refine wp_iconst (pc := 42) dX4_readNumber_42 (by decide) ?_
        refine wp_goto (pc := 43) 47 dX4_readNumber_43 (by decide) ?_
        refine wp_zreturn (pc := 47) dX4_readNumber_47 rfl (by omega) ?_
        first
          | exact absurd rfl c_39
          | exact ⟨_, rfl, σ_1, h_1, Or.inl ⟨c_9, by omega, by omega, rfl, rfl⟩⟩
          | (refine ⟨_, rfl, σ_1, h_1, Or.inr ⟨by omega, rfl, ?_⟩⟩
             rw [if_neg (show ¬ σ_1 38 5 = 0 by omega), if_neg (show ¬ σ_1 38 5 = 0 by omega), if_pos c_9])
    · refine wp_aload_n (pc := 26) dX4_readNumber_26 rfl rfl ?_
      refine wp_getI (pc := 27) 8 dX4_readNumber_27 fl_X4_107 rfl rfl ?_
      refine wp_iload_n (pc := 30) dX4_readNumber_30 rfl rfl ?_
      refine wp_icmp_le (pc := 31) 42 dX4_readNumber_31 (by decide) (fun c_31 => ?_) (fun c_31 => ?_)
      · refine wp_iconst (pc := 42) dX4_readNumber_42 (by decide) ?_
        refine wp_goto (pc := 43) 47 dX4_readNumber_43 (by decide) ?_
        refine wp_zreturn (pc := 47) dX4_readNumber_47 rfl (by omega) ?_
        first
          | exact absurd rfl c_39
          | exact ⟨_, rfl, σ_1, h_1, Or.inl ⟨c_9, by omega, by omega, rfl, rfl⟩⟩
          | (refine ⟨_, rfl, σ_1, h_1, Or.inr ⟨by omega, rfl, ?_⟩⟩
             rw [if_neg (show ¬ σ_1 38 5 = 0 by omega), if_neg (show ¬ σ_1 38 5 = 0 by omega), if_pos c_9])
      · refine wp_aload_n (pc := 34) dX4_readNumber_34 rfl rfl ?_
        refine wp_iconst (pc := 35) dX4_readNumber_35 (by decide) ?_
        refine wp_cvI1 (pc := 36) dX4_readNumber_36 mv_X4_65 (c_refuse (w := 3)) (Nat.le_of_ble_eq_true rfl) rfl (Nat.le_of_ble_eq_true rfl) (fun z_36 σ_36 h_36 => ?_)
        obtain ⟨rfl, rfl⟩ := h_36
        refine wp_if_eq (pc := 39) 46 dX4_readNumber_39 (by decide) (fun c_39 => ?_) (fun c_39 => ?_)
        · refine wp_iconst (pc := 46) dX4_readNumber_46 (by decide) ?_
          refine wp_zreturn (pc := 47) dX4_readNumber_47 rfl (by omega) ?_
          first
            | exact absurd rfl c_39
            | exact ⟨_, rfl, σ_1, h_1, Or.inl ⟨c_9, by omega, by omega, rfl, rfl⟩⟩
            | (refine ⟨_, rfl, σ_1, h_1, Or.inr ⟨by omega, rfl, ?_⟩⟩
               rw [if_neg (show ¬ σ_1 38 5 = 0 by omega), if_neg (show ¬ σ_1 38 5 = 0 by omega), if_pos c_9])
        · refine wp_iconst (pc := 42) dX4_readNumber_42 (by decide) ?_
          refine wp_goto (pc := 43) 47 dX4_readNumber_43 (by decide) ?_
          refine wp_zreturn (pc := 47) dX4_readNumber_47 rfl (by omega) ?_
          first
            | exact absurd rfl c_39
            | exact ⟨_, rfl, σ_1, h_1, Or.inl ⟨c_9, by omega, by omega, rfl, rfl⟩⟩
            | (refine ⟨_, rfl, σ_1, h_1, Or.inr ⟨by omega, rfl, ?_⟩⟩
               rw [if_neg (show ¬ σ_1 38 5 = 0 by omega), if_neg (show ¬ σ_1 38 5 = 0 by omega), if_pos c_9])
  · refine wp_aload_n (pc := 12) dX4_readNumber_12 rfl rfl ?_
    refine wp_iconst (pc := 13) dX4_readNumber_13 (by decide) ?_
    refine wp_cvI1 (pc := 14) dX4_readNumber_14 mv_X4_65 (c_refuse (w := 2)) (Nat.le_of_ble_eq_true rfl) rfl (Nat.le_of_ble_eq_true rfl) (fun z_14 σ_14 h_14 => ?_)
    obtain ⟨rfl, rfl⟩ := h_14
    refine wp_zreturn (pc := 17) dX4_readNumber_17 rfl (by omega) ?_
    refine ⟨_, rfl, σ_1, h_1, Or.inr ⟨by omega, rfl, ?_⟩⟩
    rw [if_neg (show ¬ σ_1 38 5 = 2 from c_9)]
