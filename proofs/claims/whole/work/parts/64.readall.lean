set_option maxHeartbeats 4000000 in
set_option maxRecDepth 100000 in
theorem pAll_s {t : Int → Int} {n : Int} {k : Nat} {l : Int} {s : PS} : pAll t n (k + 1) l s = if tkK t n s.x = 5 then (s, l) else if ¬ (pLin t n s).f = 0 then (pLin t n s, l) else pAll t n k (l + 1) (pLin t n s) := rfl
set_option maxHeartbeats 4000000 in
set_option maxRecDepth 100000 in
theorem c_readAllP {σ : Sto} {tl : Int} {R : PS × Int} {s0 : PS} (htl : 0 ≤ tl ∧ tl ≤ 400) (hb : ∀ k, 0 ≤ k → k < tl → 0 ≤ σ 1 k ∧ σ 1 k ≤ 127) (h0 : s0 = (0, 0, 0, fun _ => 0, (fun k i => if k = 0 then 0 else DN σ k i), (fun k i => if k = 0 then 0 else SN σ k i))) (hg : PG tl s0) (hR : R = pAll (σ 1) tl 401 0 s0) : CtI yX4_readAll cX4_readAll 3 (some .int) 9 [mR 38, mI tl] σ (fun z σ' => Frm [8, 9, 10, 11, 12, 13, 20, 21, 22, 23, 24, 25, 38] σ σ' ∧ ((R.1.f = 0 ∧ z = R.2 ∧ σ' 38 10 = 0 ∧ DN σ' = R.1.D ∧ SN σ' = R.1.S ∧ σ' 20 1 = tot R.1.D ∧ OKD R.1.D R.1.S ∧ OKS R.1.S) ∨ (¬ R.1.f = 0 ∧ z = -10 - R.1.b ∧ σ' 38 10 = R.1.f))) := by
  refine ct_of rfl [some (mR 38), some (mI tl), none] (Nat.le_of_ble_eq_true rfl) rfl (fun hσ => ?_)
  show Wp cX4_readAll RX4 (some .int) 9 0 [some (mR 38), some (mI tl), none] [] _ _
  have lp : ∀ l, l ≤ 400 → 0 ≤ l → ∀ (τ : Sto) (q : PS), RP (σ 1) tl τ q → PG tl q → l ≤ q.x → Frm [8, 9, 10, 11, 12, 13, 20, 21, 22, 23, 24, 25, 38] σ τ → R = pAll (σ 1) tl ((400 - l).toNat + 1) l q → Wp cX4_readAll RX4 (some .int) 9 45 [some (mR 38), some (mI tl), some (mI l)] [] τ (fun v σ' => ∃ z, v = some (mI z) ∧ (fun z σ' => Frm [8, 9, 10, 11, 12, 13, 20, 21, 22, 23, 24, 25, 38] σ σ' ∧ ((R.1.f = 0 ∧ z = R.2 ∧ σ' 38 10 = 0 ∧ DN σ' = R.1.D ∧ SN σ' = R.1.S ∧ σ' 20 1 = tot R.1.D ∧ OKD R.1.D R.1.S ∧ OKS R.1.S) ∨ (¬ R.1.f = 0 ∧ z = -10 - R.1.b ∧ σ' 38 10 = R.1.f))) z σ') := by
    refine up_ind 400 (fun l hl ih l0 τ q hq hgq hlx hF he => ?_)
    rw [pAll_s] at he
    have hx := hgq.1
    have hend := fun z => tkK_end (t := σ 1) (n := tl) (x := q.x) z
    refine wp_iload_n (pc := 45) dX4_readAll_45 rfl rfl ?_
    refine wp_sipush (pc := 46) dX4_readAll_46 (by decide) (by decide) ?_
    refine wp_icmp_gt (pc := 49) 82 dX4_readAll_49 (by decide) (fun c_49 => ?_) (fun c_49 => ?_)
    · omega
    · refine wp_aload_n (pc := 52) dX4_readAll_52 rfl rfl ?_
      refine wp_cvV0 (pc := 53) dX4_readAll_53 mv_X4_52 (c_adv hq.1 hq.2.2.2.1) (Nat.le_of_ble_eq_true rfl) rfl (Nat.le_of_ble_eq_true rfl) (fun σ_53 h_53 => ?_)
      obtain ⟨hr, a5, a6, a7, a8, a9, a10⟩ := hq.adv h_53
      refine wp_aload_n (pc := 56) dX4_readAll_56 rfl rfl ?_
      refine wp_getI (pc := 57) 5 dX4_readAll_57 fl_X4_55 rfl rfl ?_
      refine wp_iconst (pc := 60) dX4_readAll_60 (by decide) ?_
      refine wp_icmp_ne (pc := 61) 66 dX4_readAll_61 (by decide) (fun c_61 => ?_) (fun c_61 => ?_)
      · refine wp_aload_n (pc := 66) dX4_readAll_66 rfl rfl ?_
        refine wp_cvI0 (pc := 67) dX4_readAll_67 mv_X4_58 (c_readLineP hq h_53 hgq.2.2.1 hgq.2.2.2 rfl) (Nat.le_of_ble_eq_true rfl) rfl (Nat.le_of_ble_eq_true rfl) (fun z_67 σ_67 h_67 => ?_)
        obtain ⟨f67, q67⟩ := h_67
        rw [if_neg (by omega)] at he
        refine wp_if_ne (pc := 70) 76 dX4_readAll_70 (by decide) (fun c_70 => ?_) (fun c_70 => ?_)
        · refine wp_iinc (pc := 76) dX4_readAll_76 rfl rfl (by omega) ?_
          refine wp_goto (pc := 79) 45 dX4_readAll_79 (by decide) ?_
          obtain ⟨y1, y2, y3⟩ : (pLin (σ 1) tl q).f = 0 ∧ z_67 = 1 ∧ RP (σ 1) tl σ_67 (pLin (σ 1) tl q) := by
            rcases q67 with y | y
            · exact y
            · exact absurd y.2.1 c_70
          obtain ⟨g1, g2⟩ := pLin_ok hgq y1
          have g3 := g1.1
          refine ih (by omega) (by omega) _ _ y3 g1 (by omega) (hF.tr f67) ?_
          rw [he, if_neg (fun z => z y1), show (400 - l).toNat = (400 - (l + 1)).toNat + 1 by omega]
        · refine wp_goto (pc := 73) 82 dX4_readAll_73 (by decide) ?_
          refine wp_bipush (pc := 82) dX4_readAll_82 (by decide) (by decide) ?_
          refine wp_aload_n (pc := 84) dX4_readAll_84 rfl rfl ?_
          refine wp_getI (pc := 85) 6 dX4_readAll_85 fl_X4_62 rfl rfl ?_
          refine wp_isub (pc := 88) dX4_readAll_88 (by rcases q67 with y | y <;> (have y4 := y.2.2; omega)) ?_
          refine wp_ireturn (pc := 89) dX4_readAll_89 rfl ?_
          rcases q67 with ⟨y1, y2, y3⟩ | ⟨y1, y2, y3, y4, -⟩
          · omega
          · have eP : R = (pLin (σ 1) tl q, l) := by rw [he, if_pos y1]
            rw [eP]
            exact ⟨_, rfl, hF.tr f67, Or.inr ⟨y1, by rw [y4], y3⟩⟩
      · refine wp_iload_n (pc := 64) dX4_readAll_64 rfl rfl ?_
        refine wp_ireturn (pc := 65) dX4_readAll_65 rfl ?_
        have eP : R = (q, l) := by rw [he, if_pos (by omega)]
        rw [eP]
        exact ⟨_, rfl, hF.tr h_53.frm, Or.inl ⟨hgq.2.1, rfl, hr.2.2.2.2.2.1, hr.2.2.2.2.2.2.1, hr.2.2.2.2.2.2.2.1, hr.2.2.2.2.2.2.2.2.1, hgq.2.2.1, hgq.2.2.2⟩⟩
  refine wp_aload_n (pc := 0) dX4_readAll_0 rfl rfl ?_
  refine wp_iload_n (pc := 1) dX4_readAll_1 rfl rfl ?_
  refine wp_aload_n (pc := 2) dX4_readAll_2 rfl rfl ?_
  refine wp_getR (pc := 3) (q := 1) dX4_readAll_3 fl_X4_9 rfl ?_
  refine wp_alen (pc := 6) 101 400 dX4_readAll_6 rfl (by decide) (by decide) ?_
  refine wp_min (pc := 7) dX4_readAll_7 mx_X4_27 (by decide) (Nat.le_of_ble_eq_true rfl) ?_
  refine wp_putI (pc := 10) 3 dX4_readAll_10 fl_X4_33 ⟨rfl, rfl⟩ rfl rfl ?_
  refine wp_aload_n (pc := 13) dX4_readAll_13 rfl rfl ?_
  refine wp_iconst (pc := 14) dX4_readAll_14 (by decide) ?_
  refine wp_putI (pc := 15) 4 dX4_readAll_15 fl_X4_36 ⟨rfl, rfl⟩ rfl rfl ?_
  refine wp_aload_n (pc := 18) dX4_readAll_18 rfl rfl ?_
  refine wp_iconst (pc := 19) dX4_readAll_19 (by decide) ?_
  refine wp_putI (pc := 20) 9 dX4_readAll_20 fl_X4_39 ⟨rfl, rfl⟩ rfl rfl ?_
  refine wp_aload_n (pc := 23) dX4_readAll_23 rfl rfl ?_
  refine wp_iconst (pc := 24) dX4_readAll_24 (by decide) ?_
  refine wp_putI (pc := 25) 10 dX4_readAll_25 fl_X4_23 ⟨rfl, rfl⟩ rfl rfl ?_
  refine wp_aload_n (pc := 28) dX4_readAll_28 rfl rfl ?_
  refine wp_getR (pc := 29) (q := 8) dX4_readAll_29 fl_X4_15 rfl ?_
  refine wp_iconst (pc := 32) dX4_readAll_32 (by decide) ?_
  refine wp_putI (pc := 33) 0 dX4_readAll_33 fl_X4_42 ⟨rfl, rfl⟩ rfl rfl ?_
  refine wp_aload_n (pc := 36) dX4_readAll_36 rfl rfl ?_
  refine wp_getR (pc := 37) (q := 20) dX4_readAll_37 fl_X4_19 rfl ?_
  refine wp_cvV0 (pc := 40) dX4_readAll_40 mv_X4_47 (c_empty) (Nat.le_of_ble_eq_true rfl) rfl (Nat.le_of_ble_eq_true rfl) (fun σ_40 h_40 => ?_)
  subst h_40
  rw [show min tl ((400 : Nat) : Int) = tl by omega]
  refine wp_iconst (pc := 43) dX4_readAll_43 (by decide) ?_
  refine wp_istore_n (pc := 44) dX4_readAll_44 rfl (Nat.le_of_ble_eq_true rfl) rfl ?_
  refine lp 0 (by decide) (by decide) _ s0 ?_ hg (by rw [h0]; exact Int.le_refl _) ?_ hR
  · rw [h0]
    refine ⟨⟨?_, ?_, ?_⟩, ?_, ?_, ?_, rfl, ?_, ?_, ?_, ?_, ?_, ?_⟩
    · simp [upd2]; omega
    · simp [upd2]; omega
    · simp [upd2]; exact hb
    · funext k; simp [upd2]
    · simp [upd2]
    · simp [upd2]
    · simp [upd2]
    · funext k i
      show _ = if k = 0 then 0 else DN σ k i
      by_cases hk : k = 0
      · subst hk; simp [DN, DI, upd2]
      · rw [if_neg hk]; simp [DN, DI, upd2, hk]
    · funext k i
      show _ = if k = 0 then 0 else SN σ k i
      by_cases hk : k = 0
      · subst hk; simp [SN, upd2]
      · rw [if_neg hk]; simp [SN, upd2, hk]
    · rw [upd2_eq]; exact (sumI_0 _).symm
    · simp [upd2]
    · intro w w0 w1; simp [upd2]
  · exact ((((((Frm.rf.up (by decide)).up (by decide)).up (by decide)).up (by decide)).up (by decide)).up (by decide)).up (by decide)
