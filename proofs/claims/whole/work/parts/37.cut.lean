set_option maxHeartbeats 4000000 in
set_option maxRecDepth 100000 in
theorem sumI_z1 (f : Int → Int) {n : Int} (h : n ≤ 0) : sumI f n = 0 := by
  unfold sumI; rw [show n.toNat = 0 by omega]; rfl
set_option maxHeartbeats 4000000 in
set_option maxRecDepth 100000 in
theorem sum_split {f g : Int → Int} {p i n : Int} (p0 : 0 ≤ p) (h : ∀ q, 0 ≤ q → q ≤ n → g q = (if q < p then f q else if q = p then i else if q = p + 1 then f p - i else f (q - 1))) : ∀ m, p + 1 ≤ m → m ≤ n → sumI g (m + 1) = sumI f m := by
  intro m
  have key : ∀ k : Nat, p + 1 + (k : Int) ≤ n → sumI g (p + 1 + k + 1) = sumI f (p + 1 + k) := by
    intro k
    induction k with
    | zero =>
      intro hk
      have e1 : sumI g p = sumI f p := sumI_cong (fun q q0 q1 => by rw [h q q0 (by omega), if_pos q1])
      have e2 := h p p0 (by omega)
      rw [if_neg (by omega), if_pos rfl] at e2
      have e3 := h (p + 1) (by omega) (by omega)
      rw [if_neg (by omega), if_neg (by omega), if_pos rfl] at e3
      rw [show p + 1 + ((0 : Nat) : Int) = p + 1 by omega, sumI_s (by omega), sumI_s p0, sumI_s p0, e1, e2, e3]
      omega
    | succ k ih =>
      intro hk
      have e3 := h (p + 1 + k + 1) (by omega) (by omega)
      rw [if_neg (by omega), if_neg (by omega), if_neg (by omega)] at e3
      rw [show p + 1 + ((k + 1 : Nat) : Int) = p + 1 + k + 1 by omega, sumI_s (by omega), ih (by omega), sumI_s (by omega), e3, show p + 1 + (k : Int) + 1 - 1 = p + 1 + k by omega]
  intro h1 h2
  have := key (m - p - 1).toNat (by omega)
  rw [show p + 1 + (((m - p - 1).toNat : Nat) : Int) = m by omega] at this
  exact this
set_option maxHeartbeats 4000000 in
set_option maxRecDepth 100000 in
theorem sum_unite {f g : Int → Int} {p n : Int} (p0 : 0 ≤ p) (h : ∀ q, 0 ≤ q → q < n - 1 → g q = (if q < p then f q else if q = p then f p + f (p + 1) else f (q + 1))) : ∀ m, p + 1 ≤ m → m ≤ n - 1 → sumI g m = sumI f (m + 1) := by
  intro m
  have key : ∀ k : Nat, p + 1 + (k : Int) ≤ n - 1 → sumI g (p + 1 + k) = sumI f (p + 1 + k + 1) := by
    intro k
    induction k with
    | zero =>
      intro hk
      have e1 : sumI g p = sumI f p := sumI_cong (fun q q0 q1 => by rw [h q q0 (by omega), if_pos q1])
      have e2 := h p p0 (by omega)
      rw [if_neg (by omega), if_pos rfl] at e2
      rw [show p + 1 + ((0 : Nat) : Int) = p + 1 by omega, sumI_s p0, sumI_s (show 0 ≤ p + 1 by omega), sumI_s p0, e1, e2]
      omega
    | succ k ih =>
      intro hk
      have e3 := h (p + 1 + k) (by omega) (by omega)
      rw [if_neg (by omega), if_neg (by omega)] at e3
      rw [show p + 1 + ((k + 1 : Nat) : Int) = p + 1 + k + 1 by omega, sumI_s (show 0 ≤ p + 1 + (k : Int) by omega), ih (by omega), sumI_s (show 0 ≤ p + 1 + (k : Int) + 1 by omega), e3]
  intro h1 h2
  have := key (m - p - 1).toNat (by omega)
  rw [show p + 1 + (((m - p - 1).toNat : Nat) : Int) = m by omega] at this
  exact this
set_option maxHeartbeats 4000000 in
set_option maxRecDepth 100000 in
theorem sum_move {f g : Int → Int} {p q : Int} (p0 : 0 ≤ p) (q0 : 0 ≤ q) (h : ∀ x, g x = f x - (if x = p then 1 else 0) + (if x = q then 1 else 0)) : ∀ k : Nat, sumI g k = sumI f k - (if p < k then 1 else 0) + (if q < k then 1 else 0) := by
  intro k
  induction k with
  | zero => rw [show ((0 : Nat) : Int) = 0 by omega, sumI_0, sumI_0, if_neg (by omega), if_neg (by omega)]; rfl
  | succ k ih =>
    rw [show ((k + 1 : Nat) : Int) = (k : Int) + 1 by omega, sumI_s (by omega), sumI_s (by omega), ih, h k]
    by_cases h1 : p < k
    · by_cases h2 : q < k
      · rw [if_pos h1, if_pos h2, if_neg (by omega), if_neg (by omega), if_pos (by omega), if_pos (by omega)]; omega
      · by_cases h3 : (k : Int) = q
        · rw [if_pos h1, if_neg h2, if_neg (by omega), if_pos h3, if_pos (by omega), if_pos (by omega)]; omega
        · rw [if_pos h1, if_neg h2, if_neg (by omega), if_neg h3, if_pos (by omega), if_neg (by omega)]; omega
    · by_cases h4 : (k : Int) = p
      · by_cases h2 : q < k
        · rw [if_neg h1, if_pos h2, if_pos h4, if_neg (by omega), if_pos (by omega), if_pos (by omega)]; omega
        · by_cases h3 : (k : Int) = q
          · rw [if_neg h1, if_neg h2, if_pos h4, if_pos h3, if_pos (by omega), if_pos (by omega)]; omega
          · rw [if_neg h1, if_neg h2, if_pos h4, if_neg h3, if_pos (by omega), if_neg (by omega)]; omega
      · by_cases h2 : q < k
        · rw [if_neg h1, if_pos h2, if_neg h4, if_neg (by omega), if_neg (by omega), if_pos (by omega)]; omega
        · by_cases h3 : (k : Int) = q
          · rw [if_neg h1, if_neg h2, if_neg h4, if_pos h3, if_neg (by omega), if_pos (by omega)]; omega
          · rw [if_neg h1, if_neg h2, if_neg h4, if_neg h3, if_neg (by omega), if_neg (by omega)]; omega
def cutP (D D' : Sto) (p i : Int) : Prop := D' 0 0 = D 0 0 + 1 ∧ D' 4 = D 4 ∧ D' 5 = D 5 ∧ ∀ q, 0 ≤ q → q ≤ D 0 0 → D' 1 q = (if q < p then D 1 q else if q = p then i else if q = p + 1 then D 1 p - i else D 1 (q - 1)) ∧ D' 2 q = (if q ≤ p then D 2 q else if q = p + 1 then -4 else D 2 (q - 1)) ∧ D' 3 q = (if q ≤ p then D 3 q else if q = p + 1 then 0 else D 3 (q - 1))
set_option maxHeartbeats 4000000 in
set_option maxRecDepth 100000 in
theorem cutP.ok {D D' S : Sto} {p i : Int} (h : cutP D D' p i) (ho : OKD D S) (hp : 0 ≤ p ∧ p < D 0 0) (h8 : D 0 0 < 8) (hi : 0 < i ∧ i < D 1 p) : OKD D' S ∧ tot D' = tot D := by
  obtain ⟨s0, s4, s5, sq⟩ := h
  obtain ⟨h1, h2, h3, h4, h5, h6⟩ := ho
  have et : tot D' = tot D := by
    unfold tot
    rw [s0]
    exact sum_split hp.1 (fun q q0 q1 => (sq q q0 q1).1) (D 0 0) (by omega) (by omega)
  refine ⟨⟨by omega, fun q q0 q1 => ?_, by omega, fun q q0 q1 => ?_, by rw [et, s4]; exact h5, by rw [s5]; exact h6⟩, et⟩
  · have a := (sq q q0 (by omega)).1
    have b1 := h2 q
    have b2 := h2 (q - 1)
    clear sq h2 h4 h5 h6
    grind
  · have a := (sq q q0 (by omega)).2
    have b1 := h4 q
    have b2 := h4 (q - 1)
    clear sq h2 h4 h5 h6
    grind
def uniP (D D' : Sto) (p : Int) : Prop := D' 0 0 = D 0 0 - 1 ∧ D' 4 = D 4 ∧ D' 5 = D 5 ∧ ∀ q, 0 ≤ q → q < D 0 0 - 1 → D' 1 q = (if q < p then D 1 q else if q = p then D 1 p + D 1 (p + 1) else D 1 (q + 1)) ∧ D' 2 q = (if q ≤ p then D 2 q else D 2 (q + 1)) ∧ D' 3 q = (if q ≤ p then D 3 q else D 3 (q + 1))
set_option maxHeartbeats 4000000 in
set_option maxRecDepth 100000 in
theorem uniP.ok {D D' S : Sto} {p : Int} (h : uniP D D' p) (ho : OKD D S) (hp : 0 ≤ p ∧ p + 1 < D 0 0) : OKD D' S ∧ tot D' = tot D := by
  obtain ⟨s0, s4, s5, sq⟩ := h
  obtain ⟨h1, h2, h3, h4, h5, h6⟩ := ho
  have et : tot D' = tot D := by
    unfold tot
    rw [s0]
    have := sum_unite hp.1 (fun q q0 q1 => (sq q q0 q1).1) (D 0 0 - 1) (by omega) (by omega)
    rw [show D 0 0 - 1 + 1 = D 0 0 by omega] at this
    exact this
  refine ⟨⟨by omega, fun q q0 q1 => ?_, by omega, fun q q0 q1 => ?_, by rw [et, s4]; exact h5, by rw [s5]; exact h6⟩, et⟩
  · have a := (sq q q0 (by omega)).1
    have b1 := h2 q
    have b2 := h2 (q + 1)
    have b3 := h2 p
    have b4 := h2 (p + 1)
    clear sq h2 h4 h5 h6
    grind
  · have a := (sq q q0 (by omega)).2
    have b1 := h4 q
    have b2 := h4 (q + 1)
    clear sq h2 h4 h5 h6
    grind
set_option maxHeartbeats 4000000 in
set_option maxRecDepth 100000 in
theorem c_cut {σ D S : Sto} {p i : Int} (hC : CI σ D S) : CtI yX6_cut cX6_cut 3 (some .int) 2 [mR 0, mI p, mI i] σ (fun z σ' => (¬ ((0 ≤ p ∧ p < D 0 0) ∧ 0 < i ∧ i < D 1 p) ∧ z = -1 ∧ σ' = σ) ∨ (((0 ≤ p ∧ p < D 0 0) ∧ 0 < i ∧ i < D 1 p) ∧ D 0 0 = 8 ∧ z = -3 ∧ σ' = σ) ∨ (((0 ≤ p ∧ p < D 0 0) ∧ 0 < i ∧ i < D 1 p) ∧ D 0 0 < 8 ∧ z = D 0 0 + 1 ∧ ∃ D', cutP D D' p i ∧ CI σ' D' S ∧ Kp [14, 15, 16, 17, 18, 19] σ σ')) := by
  refine ct_of rfl [some (mR 0), some (mI p), some (mI i)] (Nat.le_of_ble_eq_true rfl) rfl (fun hσ => ?_)
  show Wp cX6_cut RX6 (some .int) 2 0 [some (mR 0), some (mI p), some (mI i)] [] _ _
  obtain ⟨n1, n2, n3, n4, n5, n6, n7⟩ := hC.n
  have n5p := n5 p
  refine wp_aload_n (pc := 0) dX6_cut_0 rfl rfl ?_
  refine wp_iload_n (pc := 1) dX6_cut_1 rfl rfl ?_
  refine wp_cvI1 (pc := 2) dX6_cut_2 mv_X6_161 c_isPar (Nat.le_of_ble_eq_true rfl) rfl (Nat.le_of_ble_eq_true rfl) (fun z_2 σ_2 h_2 => ?_)
  obtain ⟨zz_2, e_2⟩ := h_2; have e2_2 := e_2.symm; subst e2_2; have y_2 : (z_2 = 1 ∧ 0 ≤ p ∧ p < σ 14 0) ∨ (z_2 = 0 ∧ ¬ (0 ≤ p ∧ p < σ 14 0)) := by split at zz_2 <;> omega
  refine wp_if_eq (pc := 5) 25 dX6_cut_5 (by decide) (fun c_5 => ?_) (fun c_5 => ?_)
  · refine wp_iconst (pc := 25) dX6_cut_25 (by decide) ?_
    refine wp_ireturn (pc := 26) dX6_cut_26 rfl ?_
    exact ⟨_, rfl, Or.inl ⟨by omega, rfl, rfl⟩⟩
  · refine wp_iload_n (pc := 8) dX6_cut_8 rfl rfl ?_
    refine wp_if_le (pc := 9) 25 dX6_cut_9 (by decide) (fun c_9 => ?_) (fun c_9 => ?_)
    · refine wp_iconst (pc := 25) dX6_cut_25 (by decide) ?_
      refine wp_ireturn (pc := 26) dX6_cut_26 rfl ?_
      exact ⟨_, rfl, Or.inl ⟨by omega, rfl, rfl⟩⟩
    · refine wp_iload_n (pc := 12) dX6_cut_12 rfl rfl ?_
      refine wp_aload_n (pc := 13) dX6_cut_13 rfl rfl ?_
      refine wp_getR (pc := 14) (q := 14) dX6_cut_14 fl_X6_23 rfl ?_
      refine wp_getR (pc := 17) (q := 16) dX6_cut_17 fl_X6_164 rfl ?_
      refine wp_iload_n (pc := 20) dX6_cut_20 rfl rfl ?_
      refine wp_iald (pc := 21) 8 dX6_cut_21 rfl (by omega) ?_
      refine wp_icmp_lt (pc := 22) 27 dX6_cut_22 (by decide) (fun c_22 => ?_) (fun c_22 => ?_)
      · refine wp_aload_n (pc := 27) dX6_cut_27 rfl rfl ?_
        refine wp_getR (pc := 28) (q := 14) dX6_cut_28 fl_X6_23 rfl ?_
        refine wp_getI (pc := 31) 0 dX6_cut_31 fl_X6_115 rfl rfl ?_
        refine wp_bipush (pc := 34) dX6_cut_34 (by decide) (by decide) ?_
        refine wp_icmp_lt (pc := 36) 42 dX6_cut_36 (by decide) (fun c_36 => ?_) (fun c_36 => ?_)
        · refine wp_aload_n (pc := 42) dX6_cut_42 rfl rfl ?_
          refine wp_getR (pc := 43) (q := 14) dX6_cut_43 fl_X6_23 rfl ?_
          refine wp_iload_n (pc := 46) dX6_cut_46 rfl rfl ?_
          refine wp_iload_n (pc := 47) dX6_cut_47 rfl rfl ?_
          refine wp_cvV2 (pc := 48) dX6_cut_48 mv_X6_262 (c_split (by omega) ⟨by omega, by omega, (hC.B.sz (p := p) (by omega) (by omega)).2⟩) (Nat.le_of_ble_eq_true rfl) rfl (Nat.le_of_ble_eq_true rfl) (fun σ_48 h_48 => ?_)
          obtain ⟨f48, t0, t1, tq⟩ := h_48
          refine wp_aload_n (pc := 51) dX6_cut_51 rfl rfl ?_
          refine wp_iconst (pc := 52) dX6_cut_52 (by decide) ?_
          refine wp_putZ (pc := 53) 11 dX6_cut_53 fl_X6_70 ⟨rfl, rfl⟩ rfl rfl (by omega) ?_
          refine wp_aload_n (pc := 56) dX6_cut_56 rfl rfl ?_
          refine wp_getR (pc := 57) (q := 14) dX6_cut_57 fl_X6_23 rfl ?_
          refine wp_getI (pc := 60) 0 dX6_cut_60 fl_X6_115 rfl rfl ?_
          rw [upd2_r (r := 0) (r' := 14) (by decide)]
          refine wp_ireturn (pc := 63) dX6_cut_63 rfl ?_
          have hk9 : Kp [14, 15, 16, 17, 18, 19] σ (upd2 σ_48 0 11 1) := (Kp.of f48 (fun r q => Or.inl ((by decide : ∀ r ∈ [14, 16, 17, 18], r ∈ [14, 15, 16, 17, 18, 19]) r q))).st
          have ei : cutP D (DC (upd2 σ_48 0 11 1)) p i := by
            rw [DC_st, ← hC.1]
            exact ⟨t0, f48 15 (by decide), f48 19 (by decide), fun q q0 q1 => tq q q0 q1⟩
          have so := ei.ok hC.2.2.1 (by omega) (by omega) (by omega)
          refine ⟨_, rfl, Or.inr (Or.inr ⟨by omega, by omega, ?_, _, ei, hC.upd hk9 (by rw [upd2_eq]; decide) rfl so.1 ?_, hk9⟩)⟩
          · omega
          · rw [so.2, ← hC.2.2.2.2.1, upd2_r (by decide)]
            exact t1
        · refine wp_bipush (pc := 39) dX6_cut_39 (by decide) (by decide) ?_
          refine wp_ireturn (pc := 41) dX6_cut_41 rfl ?_
          exact ⟨_, rfl, Or.inr (Or.inl ⟨by omega, by omega, rfl, rfl⟩)⟩
      · refine wp_iconst (pc := 25) dX6_cut_25 (by decide) ?_
        refine wp_ireturn (pc := 26) dX6_cut_26 rfl ?_
        exact ⟨_, rfl, Or.inl ⟨by omega, rfl, rfl⟩⟩
set_option maxHeartbeats 4000000 in
set_option maxRecDepth 100000 in
theorem c_join {σ D S : Sto} {p : Int} (hC : CI σ D S) : CtI yX6_join cX6_join 2 (some .int) 2 [mR 0, mI p] σ (fun z σ' => (¬ (0 ≤ p ∧ p < D 0 0) ∧ z = -1 ∧ σ' = σ) ∨ ((0 ≤ p ∧ p < D 0 0) ∧ p + 1 = D 0 0 ∧ z = -4 ∧ σ' = σ) ∨ ((0 ≤ p ∧ p + 1 < D 0 0) ∧ z = D 1 p + D 1 (p + 1) ∧ ∃ D', uniP D D' p ∧ CI σ' D' S ∧ Kp [14, 15, 16, 17, 18, 19] σ σ')) := by
  refine ct_of rfl [some (mR 0), some (mI p)] (Nat.le_of_ble_eq_true rfl) rfl (fun hσ => ?_)
  show Wp cX6_join RX6 (some .int) 2 0 [some (mR 0), some (mI p)] [] _ _
  obtain ⟨n1, n2, n3, n4, n5, n6, n7⟩ := hC.n
  have n5p := n5 p
  have n5q := n5 (p + 1)
  have hz1 := fun a b => hC.B.sz (p := p) a b
  have hz2 := fun a b => hC.B.sz (p := p + 1) a b
  refine wp_aload_n (pc := 0) dX6_join_0 rfl rfl ?_
  refine wp_iload_n (pc := 1) dX6_join_1 rfl rfl ?_
  refine wp_cvI1 (pc := 2) dX6_join_2 mv_X6_161 c_isPar (Nat.le_of_ble_eq_true rfl) rfl (Nat.le_of_ble_eq_true rfl) (fun z_2 σ_2 h_2 => ?_)
  obtain ⟨zz_2, e_2⟩ := h_2; have e2_2 := e_2.symm; subst e2_2; have y_2 : (z_2 = 1 ∧ 0 ≤ p ∧ p < σ 14 0) ∨ (z_2 = 0 ∧ ¬ (0 ≤ p ∧ p < σ 14 0)) := by split at zz_2 <;> omega
  refine wp_if_ne (pc := 5) 10 dX6_join_5 (by decide) (fun c_5 => ?_) (fun c_5 => ?_)
  · refine wp_iload_n (pc := 10) dX6_join_10 rfl rfl ?_
    refine wp_iconst (pc := 11) dX6_join_11 (by decide) ?_
    refine wp_iadd (pc := 12) dX6_join_12 (by omega) ?_
    refine wp_aload_n (pc := 13) dX6_join_13 rfl rfl ?_
    refine wp_getR (pc := 14) (q := 14) dX6_join_14 fl_X6_23 rfl ?_
    refine wp_getI (pc := 17) 0 dX6_join_17 fl_X6_115 rfl rfl ?_
    refine wp_icmp_lt (pc := 20) 26 dX6_join_20 (by decide) (fun c_20 => ?_) (fun c_20 => ?_)
    · refine wp_aload_n (pc := 26) dX6_join_26 rfl rfl ?_
      refine wp_getR (pc := 27) (q := 14) dX6_join_27 fl_X6_23 rfl ?_
      refine wp_iload_n (pc := 30) dX6_join_30 rfl rfl ?_
      have hz3 := hz1 (by omega) (by omega)
      have hz4 := hz2 (by omega) (by omega)
      refine wp_cvV1 (pc := 31) dX6_join_31 mv_X6_265 (c_unite (by omega) (by omega)) (Nat.le_of_ble_eq_true rfl) rfl (Nat.le_of_ble_eq_true rfl) (fun σ_31 h_31 => ?_)
      obtain ⟨f48, t0, t1, tq⟩ := h_31
      refine wp_aload_n (pc := 34) dX6_join_34 rfl rfl ?_
      refine wp_iconst (pc := 35) dX6_join_35 (by decide) ?_
      refine wp_putZ (pc := 36) 11 dX6_join_36 fl_X6_70 ⟨rfl, rfl⟩ rfl rfl (by omega) ?_
      refine wp_aload_n (pc := 39) dX6_join_39 rfl rfl ?_
      refine wp_getR (pc := 40) (q := 14) dX6_join_40 fl_X6_23 rfl ?_
      refine wp_getR (pc := 43) (q := 16) dX6_join_43 fl_X6_164 rfl ?_
      refine wp_iload_n (pc := 46) dX6_join_46 rfl rfl ?_
      refine wp_iald (pc := 47) 8 dX6_join_47 rfl (by omega) ?_
      rw [upd2_r (r := 0) (r' := 16) (by decide)]
      refine wp_ireturn (pc := 48) dX6_join_48 rfl ?_
      have hk9 : Kp [14, 15, 16, 17, 18, 19] σ (upd2 σ_31 0 11 1) := (Kp.of f48 (fun r q => Or.inl ((by decide : ∀ r ∈ [14, 16, 17, 18], r ∈ [14, 15, 16, 17, 18, 19]) r q))).st
      have ei : uniP D (DC (upd2 σ_31 0 11 1)) p := by
        rw [DC_st, ← hC.1]
        exact ⟨t0, f48 15 (by decide), f48 19 (by decide), fun q q0 q1 => tq q q0 q1⟩
      have so := ei.ok hC.2.2.1 (by omega)
      refine ⟨_, rfl, Or.inr (Or.inr ⟨by omega, ?_, _, ei, hC.upd hk9 (by rw [upd2_eq]; decide) rfl so.1 ?_, hk9⟩)⟩
      · rw [(tq p (by omega) (by omega)).1, if_neg (by omega), if_pos rfl]; omega
      · rw [so.2, ← hC.2.2.2.2.1, upd2_r (by decide)]
        exact t1
    · refine wp_bipush (pc := 23) dX6_join_23 (by decide) (by decide) ?_
      refine wp_ireturn (pc := 25) dX6_join_25 rfl ?_
      exact ⟨_, rfl, Or.inr (Or.inl ⟨by omega, by omega, rfl, rfl⟩)⟩
  · refine wp_iconst (pc := 8) dX6_join_8 (by decide) ?_
    refine wp_ireturn (pc := 9) dX6_join_9 rfl ?_
    exact ⟨_, rfl, Or.inl ⟨by omega, rfl, rfl⟩⟩
set_option maxHeartbeats 4000000 in
set_option maxRecDepth 100000 in
theorem c_carry2 {σ : Sto} {p i q k a b : Int} (hB : PgB σ) (hp : 0 ≤ p ∧ p < σ 14 0) (hi : 0 ≤ i ∧ i < σ 16 p) (hq : 0 ≤ q ∧ q < σ 14 0) (hk : 0 ≤ k ∧ k ≤ σ 16 q) (ha : a = sumI (σ 16) p + i) (hb : b = sumI (σ 16) q + k) : CtV yX3_carry cX3_carry 9 none 1 [mR 14, mI p, mI i, mI q, mI k] σ (fun σ' => Frm [15, 16] σ σ' ∧ (∀ x, σ' 15 x = if a < b then (if a ≤ x ∧ x < b - 1 then σ 15 (x + 1) else if x = b - 1 then σ 15 a else σ 15 x) else (if b < x ∧ x ≤ a then σ 15 (x - 1) else if x = b then σ 15 a else σ 15 x)) ∧ ∀ x, σ' 16 x = σ 16 x - (if x = p then 1 else 0) + (if x = q then 1 else 0)) := by
  refine ct_of rfl [some (mR 14), some (mI p), some (mI i), some (mI q), some (mI k), none, none, none, none] (Nat.le_of_ble_eq_true rfl) rfl (fun hσ => ?_)
  show Wp cX3_carry RX3 none 1 0 [some (mR 14), some (mI p), some (mI i), some (mI q), some (mI k), none, none, none, none] [] _ _
  have h1 := hB.first (p := p) (by omega) (by omega)
  have h2 := hB.first1 (p := p) (by omega) (by omega)
  have h4 := hB.first (p := q) (by omega) (by omega)
  have h5 := hB.first1 (p := q) (by omega) (by omega)
  have h3 := hB.2.2.2.1
  have h8 := hB.2.1
  have hz := hB.sz (p := p) (by omega) (by omega)
  have hz2 := hB.sz (p := q) (by omega) (by omega)
  have fin : ∀ τ : Sto, Frm [15] σ τ → (∀ x, τ 15 x = if a < b then (if a ≤ x ∧ x < b - 1 then σ 15 (x + 1) else σ 15 x) else (if b < x ∧ x ≤ a then σ 15 (x - 1) else σ 15 x)) → ∀ w, Wp cX3_carry RX3 none 1 96 [some (mR 14), some (mI p), some (mI i), some (mI q), some (mI k), some (mI a), some (mI b), some (mI (σ 15 a)), some (mI w)] [] τ (fun v σ' => v = none ∧ (fun σ' => Frm [15, 16] σ σ' ∧ (∀ x, σ' 15 x = if a < b then (if a ≤ x ∧ x < b - 1 then σ 15 (x + 1) else if x = b - 1 then σ 15 a else σ 15 x) else (if b < x ∧ x ≤ a then σ 15 (x - 1) else if x = b then σ 15 a else σ 15 x)) ∧ ∀ x, σ' 16 x = σ 16 x - (if x = p then 1 else 0) + (if x = q then 1 else 0)) σ') := by
    intro τ hF hx w
    have e16 : τ 16 = σ 16 := hF 16 (by decide)
    refine wp_aload_n (pc := 96) dX3_carry_96 rfl rfl ?_
    refine wp_getR (pc := 97) (q := 15) dX3_carry_97 fl_X3_9 rfl ?_
    refine wp_iload (pc := 100) dX3_carry_100 rfl ?_
    refine wp_iload (pc := 102) dX3_carry_102 rfl ?_
    refine wp_icmp_ge (pc := 104) 114 dX3_carry_104 (by decide) (fun c_104 => ?_) (fun c_104 => ?_)
    · refine wp_iload (pc := 114) dX3_carry_114 rfl ?_
      refine wp_iload (pc := 116) dX3_carry_116 rfl ?_
      refine wp_iast (pc := 118) 80 dX3_carry_118 rfl (by omega) ?_
      refine wp_aload_n (pc := 119) dX3_carry_119 rfl rfl ?_
      refine wp_getR (pc := 120) (q := 16) dX3_carry_120 fl_X3_15 rfl ?_
      refine wp_iload_n (pc := 123) dX3_carry_123 rfl rfl ?_
      refine wp_dup2 (pc := 124) dX3_carry_124 (fun _ h => by cases h) (fun _ h => by cases h) ?_
      refine wp_iald (pc := 125) 8 dX3_carry_125 rfl (by omega) ?_
      rw [upd2_r (r := 15) (r' := 16) (by decide)]
      refine wp_iconst (pc := 126) dX3_carry_126 (by decide) ?_
      rw [e16]
      refine wp_isub (pc := 127) dX3_carry_127 (by omega) ?_
      refine wp_iast (pc := 128) 8 dX3_carry_128 rfl (by omega) ?_
      refine wp_aload_n (pc := 129) dX3_carry_129 rfl rfl ?_
      refine wp_getR (pc := 130) (q := 16) dX3_carry_130 fl_X3_15 rfl ?_
      refine wp_iload_n (pc := 133) dX3_carry_133 rfl rfl ?_
      refine wp_dup2 (pc := 134) dX3_carry_134 (fun _ h => by cases h) (fun _ h => by cases h) ?_
      refine wp_iald (pc := 135) 8 dX3_carry_135 rfl (by omega) ?_
      refine wp_iconst (pc := 136) dX3_carry_136 (by decide) ?_
      have e9 : upd2 (upd2 τ 15 (if a < b then b - 1 else b) (σ 15 a)) 16 p (σ 16 p - 1) 16 q = σ 16 q - (if q = p then 1 else 0) := by grind [upd2]
      first | rw [if_pos (by omega)] at e9 | rw [if_neg (by omega)] at e9
      rw [e9]
      have : -1 ≤ (-1 : Int) := by omega
      refine wp_iadd (pc := 137) dX3_carry_137 (by split <;> omega) ?_
      refine wp_iast (pc := 138) 8 dX3_carry_138 rfl (by omega) ?_
      refine wp_return (pc := 139) dX3_carry_139 rfl ?_
      refine ⟨rfl, ((Frm.mono hF (by decide)).up (by decide)).up (by decide) |>.up (by decide), fun x => ?_, fun x => ?_⟩
      · have h9 := hx x
        clear hx hB ha hb hF
        grind [upd2]
      · clear hx hB ha hb hF
        grind [upd2]
    · refine wp_iload (pc := 107) dX3_carry_107 rfl ?_
      refine wp_iconst (pc := 109) dX3_carry_109 (by decide) ?_
      refine wp_isub (pc := 110) dX3_carry_110 (by omega) ?_
      refine wp_goto (pc := 111) 116 dX3_carry_111 (by decide) ?_
      refine wp_iload (pc := 116) dX3_carry_116 rfl ?_
      refine wp_iast (pc := 118) 80 dX3_carry_118 rfl (by omega) ?_
      refine wp_aload_n (pc := 119) dX3_carry_119 rfl rfl ?_
      refine wp_getR (pc := 120) (q := 16) dX3_carry_120 fl_X3_15 rfl ?_
      refine wp_iload_n (pc := 123) dX3_carry_123 rfl rfl ?_
      refine wp_dup2 (pc := 124) dX3_carry_124 (fun _ h => by cases h) (fun _ h => by cases h) ?_
      refine wp_iald (pc := 125) 8 dX3_carry_125 rfl (by omega) ?_
      rw [upd2_r (r := 15) (r' := 16) (by decide)]
      refine wp_iconst (pc := 126) dX3_carry_126 (by decide) ?_
      rw [e16]
      refine wp_isub (pc := 127) dX3_carry_127 (by omega) ?_
      refine wp_iast (pc := 128) 8 dX3_carry_128 rfl (by omega) ?_
      refine wp_aload_n (pc := 129) dX3_carry_129 rfl rfl ?_
      refine wp_getR (pc := 130) (q := 16) dX3_carry_130 fl_X3_15 rfl ?_
      refine wp_iload_n (pc := 133) dX3_carry_133 rfl rfl ?_
      refine wp_dup2 (pc := 134) dX3_carry_134 (fun _ h => by cases h) (fun _ h => by cases h) ?_
      refine wp_iald (pc := 135) 8 dX3_carry_135 rfl (by omega) ?_
      refine wp_iconst (pc := 136) dX3_carry_136 (by decide) ?_
      have e9 : upd2 (upd2 τ 15 (if a < b then b - 1 else b) (σ 15 a)) 16 p (σ 16 p - 1) 16 q = σ 16 q - (if q = p then 1 else 0) := by grind [upd2]
      first | rw [if_pos (by omega)] at e9 | rw [if_neg (by omega)] at e9
      rw [e9]
      have : -1 ≤ (-1 : Int) := by omega
      refine wp_iadd (pc := 137) dX3_carry_137 (by split <;> omega) ?_
      refine wp_iast (pc := 138) 8 dX3_carry_138 rfl (by omega) ?_
      refine wp_return (pc := 139) dX3_carry_139 rfl ?_
      refine ⟨rfl, ((Frm.mono hF (by decide)).up (by decide)).up (by decide) |>.up (by decide), fun x => ?_, fun x => ?_⟩
      · have h9 := hx x
        clear hx hB ha hb hF
        grind [upd2]
      · clear hx hB ha hb hF
        grind [upd2]
  have lp2 : ∀ w, b ≤ w → w ≤ a → ∀ τ : Sto, Frm [15] σ τ → (∀ x, τ 15 x = if w < x ∧ x ≤ a then σ 15 (x - 1) else σ 15 x) → Wp cX3_carry RX3 none 1 67 [some (mR 14), some (mI p), some (mI i), some (mI q), some (mI k), some (mI a), some (mI b), some (mI (σ 15 a)), some (mI w)] [] τ (fun v σ' => v = none ∧ (fun σ' => Frm [15, 16] σ σ' ∧ (∀ x, σ' 15 x = if a < b then (if a ≤ x ∧ x < b - 1 then σ 15 (x + 1) else if x = b - 1 then σ 15 a else σ 15 x) else (if b < x ∧ x ≤ a then σ 15 (x - 1) else if x = b then σ 15 a else σ 15 x)) ∧ ∀ x, σ' 16 x = σ 16 x - (if x = p then 1 else 0) + (if x = q then 1 else 0)) σ') := by
    refine down_ind b (fun w hw ih hwa τ hF hx => ?_)
    refine wp_iload (pc := 67) dX3_carry_67 rfl ?_
    refine wp_iload (pc := 69) dX3_carry_69 rfl ?_
    refine wp_icmp_le (pc := 71) 96 dX3_carry_71 (by decide) (fun c_71 => ?_) (fun c_71 => ?_)
    · refine fin τ hF (fun x => ?_) w
      have h9 := hx x
      clear hx fin hB ha hb hF
      grind
    · refine wp_aload_n (pc := 74) dX3_carry_74 rfl rfl ?_
      refine wp_getR (pc := 75) (q := 15) dX3_carry_75 fl_X3_9 rfl ?_
      refine wp_iload (pc := 78) dX3_carry_78 rfl ?_
      refine wp_aload_n (pc := 80) dX3_carry_80 rfl rfl ?_
      refine wp_getR (pc := 81) (q := 15) dX3_carry_81 fl_X3_9 rfl ?_
      refine wp_iload (pc := 84) dX3_carry_84 rfl ?_
      refine wp_iconst (pc := 86) dX3_carry_86 (by decide) ?_
      refine wp_isub (pc := 87) dX3_carry_87 (by omega) ?_
      refine wp_iald (pc := 88) 80 dX3_carry_88 rfl (by omega) ?_
      refine wp_iast (pc := 89) 80 dX3_carry_89 rfl (by omega) ?_
      refine wp_iinc (pc := 90) dX3_carry_90 rfl rfl (by omega) ?_
      refine wp_goto (pc := 93) 67 dX3_carry_93 (by decide) ?_
      have ih2 := ih (by omega) (by omega) _ (hF.up (r := 15) (k := w) (v := τ 15 (w - 1)) (by decide)) (fun x => ?_)
      · exact ih2
      · have h9 := hx x
        have h8 := hx (w - 1)
        clear hx ih fin hB ha hb hF
        grind [upd2]
  have st2 : a < b → ∀ τ : Sto, Frm [15] σ τ → (∀ x, τ 15 x = if a ≤ x ∧ x < b - 1 then σ 15 (x + 1) else σ 15 x) → Wp cX3_carry RX3 none 1 67 [some (mR 14), some (mI p), some (mI i), some (mI q), some (mI k), some (mI a), some (mI b), some (mI (σ 15 a)), some (mI a)] [] τ (fun v σ' => v = none ∧ (fun σ' => Frm [15, 16] σ σ' ∧ (∀ x, σ' 15 x = if a < b then (if a ≤ x ∧ x < b - 1 then σ 15 (x + 1) else if x = b - 1 then σ 15 a else σ 15 x) else (if b < x ∧ x ≤ a then σ 15 (x - 1) else if x = b then σ 15 a else σ 15 x)) ∧ ∀ x, σ' 16 x = σ 16 x - (if x = p then 1 else 0) + (if x = q then 1 else 0)) σ') := by
    intro hl τ hF hx
    refine wp_iload (pc := 67) dX3_carry_67 rfl ?_
    refine wp_iload (pc := 69) dX3_carry_69 rfl ?_
    refine wp_icmp_le (pc := 71) 96 dX3_carry_71 (by decide) (fun c_71 => ?_) (fun c_71 => ?_)
    · refine fin τ hF (fun x => ?_) a
      have h9 := hx x
      clear hx fin hB ha hb hF
      grind
    · omega
  have lp1 : ∀ w, w ≤ max a (b - 1) → a ≤ w → ∀ τ : Sto, Frm [15] σ τ → (∀ x, τ 15 x = if a ≤ x ∧ x < w then σ 15 (x + 1) else σ 15 x) → Wp cX3_carry RX3 none 1 32 [some (mR 14), some (mI p), some (mI i), some (mI q), some (mI k), some (mI a), some (mI b), some (mI (σ 15 a)), some (mI w)] [] τ (fun v σ' => v = none ∧ (fun σ' => Frm [15, 16] σ σ' ∧ (∀ x, σ' 15 x = if a < b then (if a ≤ x ∧ x < b - 1 then σ 15 (x + 1) else if x = b - 1 then σ 15 a else σ 15 x) else (if b < x ∧ x ≤ a then σ 15 (x - 1) else if x = b then σ 15 a else σ 15 x)) ∧ ∀ x, σ' 16 x = σ 16 x - (if x = p then 1 else 0) + (if x = q then 1 else 0)) σ') := by
    refine up_ind (max a (b - 1)) (fun w hw ih hwa τ hF hx => ?_)
    refine wp_iload (pc := 32) dX3_carry_32 rfl ?_
    refine wp_iload (pc := 34) dX3_carry_34 rfl ?_
    refine wp_iconst (pc := 36) dX3_carry_36 (by decide) ?_
    refine wp_isub (pc := 37) dX3_carry_37 (by omega) ?_
    refine wp_icmp_ge (pc := 38) 63 dX3_carry_38 (by decide) (fun c_38 => ?_) (fun c_38 => ?_)
    · refine wp_iload (pc := 63) dX3_carry_63 rfl ?_
      refine wp_istore (pc := 65) dX3_carry_65 (Nat.le_of_ble_eq_true rfl) rfl ?_
      by_cases hl : a < b
      · refine st2 hl τ hF (fun x => ?_)
        have h9 := hx x
        clear hx ih fin lp2 st2 hB ha hb hF
        grind
      · refine lp2 a (by omega) (by omega) τ hF (fun x => ?_)
        have h9 := hx x
        clear hx ih fin lp2 st2 hB ha hb hF
        grind
    · refine wp_aload_n (pc := 41) dX3_carry_41 rfl rfl ?_
      refine wp_getR (pc := 42) (q := 15) dX3_carry_42 fl_X3_9 rfl ?_
      refine wp_iload (pc := 45) dX3_carry_45 rfl ?_
      refine wp_aload_n (pc := 47) dX3_carry_47 rfl rfl ?_
      refine wp_getR (pc := 48) (q := 15) dX3_carry_48 fl_X3_9 rfl ?_
      refine wp_iload (pc := 51) dX3_carry_51 rfl ?_
      refine wp_iconst (pc := 53) dX3_carry_53 (by decide) ?_
      refine wp_iadd (pc := 54) dX3_carry_54 (by omega) ?_
      refine wp_iald (pc := 55) 80 dX3_carry_55 rfl (by omega) ?_
      refine wp_iast (pc := 56) 80 dX3_carry_56 rfl (by omega) ?_
      refine wp_iinc (pc := 57) dX3_carry_57 rfl rfl (by omega) ?_
      refine wp_goto (pc := 60) 32 dX3_carry_60 (by decide) ?_
      have ih2 := ih (by omega) (by omega) _ (hF.up (r := 15) (k := w) (v := τ 15 (w + 1)) (by decide)) (fun x => ?_)
      · exact ih2
      · have h9 := hx x
        have h8 := hx (w + 1)
        clear hx ih fin lp2 st2 hB ha hb hF
        grind [upd2]
  refine wp_aload_n (pc := 0) dX3_carry_0 rfl rfl ?_
  refine wp_iload_n (pc := 1) dX3_carry_1 rfl rfl ?_
  refine wp_cvI1 (pc := 2) dX3_carry_2 mv_X3_52 (c_firstOf' hB (by omega)) (Nat.le_of_ble_eq_true rfl) rfl (Nat.le_of_ble_eq_true rfl) (fun z_2 σ_2 h_2 => ?_)
  obtain ⟨rfl, e_2⟩ := h_2; have e2_2 := e_2.symm; subst e2_2
  refine wp_iload_n (pc := 5) dX3_carry_5 rfl rfl ?_
  refine wp_iadd (pc := 6) dX3_carry_6 (by omega) ?_
  rw [← ha]
  refine wp_istore (pc := 7) dX3_carry_7 (Nat.le_of_ble_eq_true rfl) rfl ?_
  refine wp_aload_n (pc := 9) dX3_carry_9 rfl rfl ?_
  refine wp_iload_n (pc := 10) dX3_carry_10 rfl rfl ?_
  refine wp_cvI1 (pc := 11) dX3_carry_11 mv_X3_52 (c_firstOf' hB (by omega)) (Nat.le_of_ble_eq_true rfl) rfl (Nat.le_of_ble_eq_true rfl) (fun z_11 σ_11 h_11 => ?_)
  obtain ⟨rfl, e_11⟩ := h_11; have e2_11 := e_11.symm; subst e2_11
  refine wp_iload (pc := 14) dX3_carry_14 rfl ?_
  refine wp_iadd (pc := 16) dX3_carry_16 (by omega) ?_
  rw [← hb]
  refine wp_istore (pc := 17) dX3_carry_17 (Nat.le_of_ble_eq_true rfl) rfl ?_
  refine wp_aload_n (pc := 19) dX3_carry_19 rfl rfl ?_
  refine wp_getR (pc := 20) (q := 15) dX3_carry_20 fl_X3_9 rfl ?_
  refine wp_iload (pc := 23) dX3_carry_23 rfl ?_
  refine wp_iald (pc := 25) 80 dX3_carry_25 rfl (by omega) ?_
  refine wp_istore (pc := 26) dX3_carry_26 (Nat.le_of_ble_eq_true rfl) rfl ?_
  refine wp_iload (pc := 28) dX3_carry_28 rfl ?_
  refine wp_istore (pc := 30) dX3_carry_30 (Nat.le_of_ble_eq_true rfl) rfl ?_
  exact lp1 a (by omega) (by omega) σ Frm.rf (fun x => by rw [if_neg (by omega)])

