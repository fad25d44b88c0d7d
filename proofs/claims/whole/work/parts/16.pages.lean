-- Pages
set_option maxHeartbeats 4000000 in
set_option maxRecDepth 100000 in
theorem c_firstOf {σ : Sto} {p : Int} (hp : 0 ≤ p ∧ p ≤ 8) (hs : ∀ q, 0 ≤ q → q < p → 0 ≤ σ 16 q ∧ σ 16 q ≤ 80) : CtI yX3_firstOf cX3_firstOf 4 (some .int) 0 [mR 14, mI p] σ (fun z σ' => z = sumI (σ 16) p ∧ σ' = σ) := by
  refine ct_of rfl [some (mR 14), some (mI p), none, none] (Nat.le_of_ble_eq_true rfl) rfl (fun hσ => ?_)
  show Wp cX3_firstOf RX3 (some .int) 0 0 [some (mR 14), some (mI p), none, none] [] _ _
  have lp : ∀ q, q ≤ p → 0 ≤ q → Wp cX3_firstOf RX3 (some .int) 0 4 [some (mR 14), some (mI p), some (mI (sumI (σ 16) q)), some (mI q)] [] σ (fun v σ' => ∃ z, v = some (mI z) ∧ (fun z σ' => z = sumI (σ 16) p ∧ σ' = σ) z σ') := by
    refine up_ind p (fun q hq ih h0 => ?_)
    have hb := sumI_bd (f := σ 16) (c := 80) h0 (fun k a b => hs k a (by omega))
    refine wp_iload_n (pc := 4) dX3_firstOf_4 rfl rfl ?_
    refine wp_iload_n (pc := 5) dX3_firstOf_5 rfl rfl ?_
    refine wp_icmp_ge (pc := 6) 24 dX3_firstOf_6 (by decide) (fun c_6 => ?_) (fun c_6 => ?_)
    · have e : q = p := by omega
      subst e
      refine wp_iload_n (pc := 24) dX3_firstOf_24 rfl rfl ?_
      refine wp_ireturn (pc := 25) dX3_firstOf_25 rfl ?_
      exact ⟨_, rfl, rfl, rfl⟩
    · refine wp_iload_n (pc := 9) dX3_firstOf_9 rfl rfl ?_
      refine wp_aload_n (pc := 10) dX3_firstOf_10 rfl rfl ?_
      refine wp_getR (pc := 11) (q := 16) dX3_firstOf_11 fl_X3_15 rfl ?_
      refine wp_iload_n (pc := 14) dX3_firstOf_14 rfl rfl ?_
      refine wp_iald (pc := 15) 8 dX3_firstOf_15 rfl (by omega) ?_
      have h1 := hs q h0 (by omega)
      refine wp_iadd (pc := 16) dX3_firstOf_16 (by omega) ?_
      refine wp_istore_n (pc := 17) dX3_firstOf_17 rfl (Nat.le_of_ble_eq_true rfl) rfl ?_
      refine wp_iinc (pc := 18) dX3_firstOf_18 rfl rfl (by omega) ?_
      refine wp_goto (pc := 21) 4 dX3_firstOf_21 (by decide) ?_
      have h2 := ih (by omega) (by omega)
      rw [sumI_s h0] at h2
      exact h2
  refine wp_iconst (pc := 0) dX3_firstOf_0 (by decide) ?_
  refine wp_istore_n (pc := 1) dX3_firstOf_1 rfl (Nat.le_of_ble_eq_true rfl) rfl ?_
  refine wp_iconst (pc := 2) dX3_firstOf_2 (by decide) ?_
  refine wp_istore_n (pc := 3) dX3_firstOf_3 rfl (Nat.le_of_ble_eq_true rfl) rfl ?_
  exact lp 0 hp.1 (by omega)
-- what a page is: its counts and its bounds
def PgB (σ : Sto) : Prop := 0 ≤ σ 14 0 ∧ σ 14 0 ≤ 8 ∧ 0 ≤ σ 14 1 ∧ σ 14 1 ≤ 80 ∧ (∀ q, 0 ≤ q → q < σ 14 0 → 1 ≤ σ 16 q ∧ σ 16 q ≤ 80) ∧ sumI (σ 16) (σ 14 0) = σ 14 1 ∧ (∀ w, 0 ≤ w → w < σ 14 1 → 0 ≤ σ 15 w)
set_option maxHeartbeats 4000000 in
set_option maxRecDepth 100000 in
theorem PgB.first {σ : Sto} (h : PgB σ) {p : Int} (h0 : 0 ≤ p) (hp : p ≤ σ 14 0) : 0 ≤ sumI (σ 16) p ∧ sumI (σ 16) p ≤ σ 14 1 := by
  obtain ⟨h1, h2, h3, h4, h5, h6, h7⟩ := h
  have ha := sumI_bd (f := σ 16) (n := p) (c := 80) h0 (fun k a b => by have := h5 k a (by omega); omega)
  have hb := sumI_mono (f := σ 16) h0 hp (fun k a b => by have := h5 k a (by omega); omega)
  omega
set_option maxHeartbeats 4000000 in
set_option maxRecDepth 100000 in
theorem PgB.first1 {σ : Sto} (h : PgB σ) {p : Int} (h0 : 0 ≤ p) (hp : p < σ 14 0) : sumI (σ 16) p + σ 16 p ≤ σ 14 1 := by
  have h1 := h.first (p := p + 1) (by omega) (by omega)
  rw [sumI_s h0] at h1
  exact h1.2
set_option maxHeartbeats 4000000 in
set_option maxRecDepth 100000 in
theorem PgB.sz {σ : Sto} (h : PgB σ) {p : Int} (h0 : 0 ≤ p) (hp : p < σ 14 0) : 1 ≤ σ 16 p ∧ σ 16 p ≤ 80 := h.2.2.2.2.1 p h0 hp
set_option maxHeartbeats 4000000 in
set_option maxRecDepth 100000 in
theorem c_firstOf' {σ : Sto} {p : Int} (h : PgB σ) (hp : 0 ≤ p ∧ p ≤ σ 14 0) : CtI yX3_firstOf cX3_firstOf 4 (some .int) 0 [mR 14, mI p] σ (fun z σ' => z = sumI (σ 16) p ∧ σ' = σ) := by
  have h1 := h.2.1
  exact c_firstOf (by omega) (fun q h0 hq => by have := h.sz h0 (by omega); omega)
set_option maxHeartbeats 4000000 in
set_option maxRecDepth 100000 in
theorem c_hasShape {σ : Sto} {p : Int} (hp : 0 ≤ p ∧ p < 8) : CtI yX3_hasShape cX3_hasShape 2 (some .boolean) 0 [mR 14, mI p] σ (fun z σ' => z = (if σ 17 p < 0 then 0 else 1) ∧ σ' = σ) := by
  refine ct_of rfl [some (mR 14), some (mI p)] (Nat.le_of_ble_eq_true rfl) rfl (fun hσ => ?_)
  show Wp cX3_hasShape RX3 (some .boolean) 0 0 [some (mR 14), some (mI p)] [] _ _
  refine wp_aload_n (pc := 0) dX3_hasShape_0 rfl rfl ?_
  refine wp_getR (pc := 1) (q := 17) dX3_hasShape_1 fl_X3_18 rfl ?_
  refine wp_iload_n (pc := 4) dX3_hasShape_4 rfl rfl ?_
  refine wp_iald (pc := 5) 8 dX3_hasShape_5 rfl (by omega) ?_
  refine wp_if_lt (pc := 6) 13 dX3_hasShape_6 (by decide) (fun c_6 => ?_) (fun c_6 => ?_)
  · refine wp_iconst (pc := 13) dX3_hasShape_13 (by decide) ?_
    refine wp_zreturn (pc := 14) dX3_hasShape_14 rfl (by omega) ?_
    exact ⟨_, rfl, by split <;> omega, rfl⟩
  · refine wp_iconst (pc := 9) dX3_hasShape_9 (by decide) ?_
    refine wp_goto (pc := 10) 14 dX3_hasShape_10 (by decide) ?_
    refine wp_zreturn (pc := 14) dX3_hasShape_14 rfl (by omega) ?_
    exact ⟨_, rfl, by split <;> omega, rfl⟩
set_option maxHeartbeats 4000000 in
set_option maxRecDepth 100000 in
theorem c_wordOf {σ : Sto} {p i : Int} (hB : PgB σ) (hp : 0 ≤ p ∧ p < σ 14 0) (hi : 0 ≤ i ∧ i < σ 16 p) : CtI yX3_wordOf cX3_wordOf 3 (some .int) 1 [mR 14, mI p, mI i] σ (fun z σ' => z = σ 15 (sumI (σ 16) p + i) ∧ σ' = σ) := by
  refine ct_of rfl [some (mR 14), some (mI p), some (mI i)] (Nat.le_of_ble_eq_true rfl) rfl (fun hσ => ?_)
  show Wp cX3_wordOf RX3 (some .int) 1 0 [some (mR 14), some (mI p), some (mI i)] [] _ _
  have h1 := hB.first (p := p) (by omega) (by omega)
  have h2 := hB.first1 (p := p) (by omega) (by omega)
  have h3 := hB.2.2.2.1
  refine wp_aload_n (pc := 0) dX3_wordOf_0 rfl rfl ?_
  refine wp_getR (pc := 1) (q := 15) dX3_wordOf_1 fl_X3_9 rfl ?_
  refine wp_aload_n (pc := 4) dX3_wordOf_4 rfl rfl ?_
  refine wp_iload_n (pc := 5) dX3_wordOf_5 rfl rfl ?_
  refine wp_cvI1 (pc := 6) dX3_wordOf_6 mv_X3_52 (c_firstOf' hB (by omega)) (Nat.le_of_ble_eq_true rfl) rfl (Nat.le_of_ble_eq_true rfl) (fun z_6 σ_6 h_6 => ?_)
  obtain ⟨rfl, e_6⟩ := h_6; have e2_6 := e_6.symm; subst e2_6
  refine wp_iload_n (pc := 9) dX3_wordOf_9 rfl rfl ?_
  refine wp_iadd (pc := 10) dX3_wordOf_10 (by omega) ?_
  refine wp_iald (pc := 11) 80 dX3_wordOf_11 rfl (by omega) ?_
  refine wp_ireturn (pc := 12) dX3_wordOf_12 rfl ?_
  exact ⟨_, rfl, rfl, rfl⟩
-- how many are like it
def lkN (f : Int → Int) (c : Int) (n : Int) : Int := sumI (fun k => if f k = c then 1 else 0) n
set_option maxHeartbeats 4000000 in
set_option maxRecDepth 100000 in
theorem lkN_bd (f : Int → Int) (c : Int) {n : Int} (h : 0 ≤ n) : 0 ≤ lkN f c n ∧ lkN f c n ≤ n := by
  have := sumI_bd (f := fun k => if f k = c then 1 else 0) (c := 1) h (fun k a b => by split <;> omega)
  unfold lkN
  omega
set_option maxHeartbeats 4000000 in
set_option maxRecDepth 100000 in
theorem c_likeWords {σ : Sto} {c : Int} (hn : 0 ≤ σ 14 1 ∧ σ 14 1 ≤ 80) : CtI yX3_likeWords cX3_likeWords 4 (some .int) 0 [mR 14, mI c] σ (fun z σ' => z = lkN (σ 15) c (σ 14 1) ∧ σ' = σ) := by
  refine ct_of rfl [some (mR 14), some (mI c), none, none] (Nat.le_of_ble_eq_true rfl) rfl (fun hσ => ?_)
  show Wp cX3_likeWords RX3 (some .int) 0 0 [some (mR 14), some (mI c), none, none] [] _ _
  have lp : ∀ q, q ≤ σ 14 1 → 0 ≤ q → Wp cX3_likeWords RX3 (some .int) 0 4 [some (mR 14), some (mI c), some (mI (lkN (σ 15) c q)), some (mI q)] [] σ (fun v σ' => ∃ z, v = some (mI z) ∧ (fun z σ' => z = lkN (σ 15) c (σ 14 1) ∧ σ' = σ) z σ') := by
    refine up_ind (σ 14 1) (fun q hq ih h0 => ?_)
    have hb := lkN_bd (σ 15) c h0
    refine wp_iload_n (pc := 4) dX3_likeWords_4 rfl rfl ?_
    refine wp_aload_n (pc := 5) dX3_likeWords_5 rfl rfl ?_
    refine wp_getI (pc := 6) 1 dX3_likeWords_6 fl_X3_39 rfl rfl ?_
    refine wp_icmp_ge (pc := 9) 31 dX3_likeWords_9 (by decide) (fun c_9 => ?_) (fun c_9 => ?_)
    · have e : q = σ 14 1 := by omega
      rw [e]
      refine wp_iload_n (pc := 31) dX3_likeWords_31 rfl rfl ?_
      refine wp_ireturn (pc := 32) dX3_likeWords_32 rfl ?_
      exact ⟨_, rfl, rfl, rfl⟩
    · refine wp_aload_n (pc := 12) dX3_likeWords_12 rfl rfl ?_
      refine wp_getR (pc := 13) (q := 15) dX3_likeWords_13 fl_X3_9 rfl ?_
      refine wp_iload_n (pc := 16) dX3_likeWords_16 rfl rfl ?_
      refine wp_iald (pc := 17) 80 dX3_likeWords_17 rfl (by omega) ?_
      refine wp_iload_n (pc := 18) dX3_likeWords_18 rfl rfl ?_
      refine wp_icmp_ne (pc := 19) 25 dX3_likeWords_19 (by decide) (fun c_19 => ?_) (fun c_19 => ?_)
      · refine wp_iinc (pc := 25) dX3_likeWords_25 rfl rfl (by omega) ?_
        refine wp_goto (pc := 28) 4 dX3_likeWords_28 (by decide) ?_
        have h2 := ih (by omega) (by omega)
        unfold lkN at h2 ⊢
        rw [sumI_s h0] at h2
        first | rw [if_pos c_19] at h2 | rw [if_neg c_19, Int.add_zero] at h2
        exact h2
      · refine wp_iinc (pc := 22) dX3_likeWords_22 rfl rfl (by omega) ?_
        refine wp_iinc (pc := 25) dX3_likeWords_25 rfl rfl (by omega) ?_
        refine wp_goto (pc := 28) 4 dX3_likeWords_28 (by decide) ?_
        have h2 := ih (by omega) (by omega)
        unfold lkN at h2 ⊢
        rw [sumI_s h0] at h2
        first | rw [if_pos c_19] at h2 | rw [if_neg c_19, Int.add_zero] at h2
        exact h2
  refine wp_iconst (pc := 0) dX3_likeWords_0 (by decide) ?_
  refine wp_istore_n (pc := 1) dX3_likeWords_1 rfl (Nat.le_of_ble_eq_true rfl) rfl ?_
  refine wp_iconst (pc := 2) dX3_likeWords_2 (by decide) ?_
  refine wp_istore_n (pc := 3) dX3_likeWords_3 rfl (Nat.le_of_ble_eq_true rfl) rfl ?_
  exact lp 0 (by omega) (by omega)
set_option maxHeartbeats 4000000 in
set_option maxRecDepth 100000 in
theorem lkN_pos {f : Int → Int} {c n q : Int} (h0 : 0 ≤ q) (hq : q < n) (h : f q = c) : ¬ lkN f c n = 0 := by
  have h1 := sumI_mono (f := fun k => if f k = c then 1 else 0) (m := q + 1) (n := n) (by omega) (by omega) (fun k a b => by split <;> omega)
  have h2 := lkN_bd f c h0
  rw [sumI_s h0, if_pos h] at h1
  unfold lkN at h2 ⊢
  omega
set_option maxHeartbeats 4000000 in
set_option maxRecDepth 100000 in
theorem lkN_zero {f : Int → Int} {c n : Int} (h : ∀ k, 0 ≤ k → k < n → f k ≠ c) : lkN f c n = 0 := by
  unfold lkN
  rw [sumI_cong (g := fun _ => 0) (fun k a b => if_neg (h k a b))]
  by_cases hn : 0 ≤ n
  · have := sumI_bd (f := fun _ => 0) (c := 0) hn (fun k a b => by omega)
    omega
  · have e : n.toNat = 0 := by omega
    simp only [sumI, e, sumN]
set_option maxHeartbeats 4000000 in
set_option maxRecDepth 100000 in
theorem c_comesAhead {σ : Sto} {w : Int} (hw : 0 ≤ w ∧ w < 80) : CtI yX3_comesAhead cX3_comesAhead 3 (some .boolean) 0 [mR 14, mI w] σ (fun z σ' => z = (if lkN (σ 15) (σ 15 w) w = 0 then 0 else 1) ∧ σ' = σ) := by
  refine ct_of rfl [some (mR 14), some (mI w), none] (Nat.le_of_ble_eq_true rfl) rfl (fun hσ => ?_)
  show Wp cX3_comesAhead RX3 (some .boolean) 0 0 [some (mR 14), some (mI w), none] [] _ _
  have lp : ∀ q, q ≤ w → 0 ≤ q → (∀ k, 0 ≤ k → k < q → σ 15 k ≠ σ 15 w) → Wp cX3_comesAhead RX3 (some .boolean) 0 2 [some (mR 14), some (mI w), some (mI q)] [] σ (fun v σ' => ∃ z, v = some (mI z) ∧ (fun z σ' => z = (if lkN (σ 15) (σ 15 w) w = 0 then 0 else 1) ∧ σ' = σ) z σ') := by
    refine up_ind w (fun q hq ih h0 hk => ?_)
    refine wp_iload_n (pc := 2) dX3_comesAhead_2 rfl rfl ?_
    refine wp_iload_n (pc := 3) dX3_comesAhead_3 rfl rfl ?_
    refine wp_icmp_ge (pc := 4) 30 dX3_comesAhead_4 (by decide) (fun c_4 => ?_) (fun c_4 => ?_)
    · refine wp_iconst (pc := 30) dX3_comesAhead_30 (by decide) ?_
      refine wp_zreturn (pc := 31) dX3_comesAhead_31 rfl (by omega) ?_
      exact ⟨_, rfl, by rw [if_pos (lkN_zero (fun k h1 h2 => hk k h1 (by omega)))], rfl⟩
    · refine wp_aload_n (pc := 7) dX3_comesAhead_7 rfl rfl ?_
      refine wp_getR (pc := 8) (q := 15) dX3_comesAhead_8 fl_X3_9 rfl ?_
      refine wp_iload_n (pc := 11) dX3_comesAhead_11 rfl rfl ?_
      refine wp_iald (pc := 12) 80 dX3_comesAhead_12 rfl (by omega) ?_
      refine wp_aload_n (pc := 13) dX3_comesAhead_13 rfl rfl ?_
      refine wp_getR (pc := 14) (q := 15) dX3_comesAhead_14 fl_X3_9 rfl ?_
      refine wp_iload_n (pc := 17) dX3_comesAhead_17 rfl rfl ?_
      refine wp_iald (pc := 18) 80 dX3_comesAhead_18 rfl (by omega) ?_
      refine wp_icmp_ne (pc := 19) 24 dX3_comesAhead_19 (by decide) (fun c_19 => ?_) (fun c_19 => ?_)
      · refine wp_iinc (pc := 24) dX3_comesAhead_24 rfl rfl (by omega) ?_
        refine wp_goto (pc := 27) 2 dX3_comesAhead_27 (by decide) ?_
        refine ih (by omega) (by omega) (fun k h1 h2 => ?_)
        by_cases e : k = q
        · rw [e]; exact c_19
        · exact hk k h1 (by omega)
      · refine wp_iconst (pc := 22) dX3_comesAhead_22 (by decide) ?_
        refine wp_zreturn (pc := 23) dX3_comesAhead_23 rfl (by omega) ?_
        exact ⟨_, rfl, by rw [if_neg (lkN_pos h0 (by omega) c_19)], rfl⟩
  refine wp_iconst (pc := 0) dX3_comesAhead_0 (by decide) ?_
  refine wp_istore_n (pc := 1) dX3_comesAhead_1 rfl (Nat.le_of_ble_eq_true rfl) rfl ?_
  exact lp 0 (by omega) (by omega) (fun k h1 h2 => absurd h2 (by omega))
def unN (f : Int → Int) (n : Int) : Int := sumI (fun w => if lkN f (f w) w = 0 then 1 else 0) n
set_option maxHeartbeats 4000000 in
set_option maxRecDepth 100000 in
theorem c_unlikeWords {σ : Sto} (hn : 0 ≤ σ 14 1 ∧ σ 14 1 ≤ 80) : CtI yX3_unlikeWords cX3_unlikeWords 3 (some .int) 1 [mR 14] σ (fun z σ' => z = unN (σ 15) (σ 14 1) ∧ σ' = σ) := by
  refine ct_of rfl [some (mR 14), none, none] (Nat.le_of_ble_eq_true rfl) rfl (fun hσ => ?_)
  show Wp cX3_unlikeWords RX3 (some .int) 1 0 [some (mR 14), none, none] [] _ _
  have lp : ∀ q, q ≤ σ 14 1 → 0 ≤ q → Wp cX3_unlikeWords RX3 (some .int) 1 4 [some (mR 14), some (mI (unN (σ 15) q)), some (mI q)] [] σ (fun v σ' => ∃ z, v = some (mI z) ∧ (fun z σ' => z = unN (σ 15) (σ 14 1) ∧ σ' = σ) z σ') := by
    refine up_ind (σ 14 1) (fun q hq ih h0 => ?_)
    have hb := sumI_bd (f := fun w => if lkN (σ 15) (σ 15 w) w = 0 then 1 else 0) (c := 1) h0 (fun k a b => by split <;> omega)
    have hu : unN (σ 15) q = sumI (fun w => if lkN (σ 15) (σ 15 w) w = 0 then 1 else 0) q := rfl
    refine wp_iload_n (pc := 4) dX3_unlikeWords_4 rfl rfl ?_
    refine wp_aload_n (pc := 5) dX3_unlikeWords_5 rfl rfl ?_
    refine wp_getI (pc := 6) 1 dX3_unlikeWords_6 fl_X3_39 rfl rfl ?_
    refine wp_icmp_ge (pc := 9) 29 dX3_unlikeWords_9 (by decide) (fun c_9 => ?_) (fun c_9 => ?_)
    · have e : q = σ 14 1 := by omega
      rw [e]
      refine wp_iload_n (pc := 29) dX3_unlikeWords_29 rfl rfl ?_
      refine wp_ireturn (pc := 30) dX3_unlikeWords_30 rfl ?_
      exact ⟨_, rfl, rfl, rfl⟩
    · refine wp_aload_n (pc := 12) dX3_unlikeWords_12 rfl rfl ?_
      refine wp_iload_n (pc := 13) dX3_unlikeWords_13 rfl rfl ?_
      refine wp_cvI1 (pc := 14) dX3_unlikeWords_14 mv_X3_56 (c_comesAhead (by omega)) (Nat.le_of_ble_eq_true rfl) rfl (Nat.le_of_ble_eq_true rfl) (fun z_14 σ_14 h_14 => ?_)
      obtain ⟨rfl, e_14⟩ := h_14; have e2_14 := e_14.symm; subst e2_14
      refine wp_if_ne (pc := 17) 23 dX3_unlikeWords_17 (by decide) (fun c_17 => ?_) (fun c_17 => ?_)
      · refine wp_iinc (pc := 23) dX3_unlikeWords_23 rfl rfl (by omega) ?_
        refine wp_goto (pc := 26) 4 dX3_unlikeWords_26 (by decide) ?_
        have h2 := ih (by omega) (by omega)
        unfold unN at h2 ⊢
        rw [sumI_s h0] at h2
        by_cases e : lkN (σ 15) (σ 15 q) q = 0
        · rw [if_pos e] at h2 c_17
          first | exact h2 | exact absurd c_17 (by omega)
        · rw [if_neg e] at c_17
          rw [if_neg e, Int.add_zero] at h2
          first | exact h2 | exact absurd c_17 (by omega)
      · refine wp_iinc (pc := 20) dX3_unlikeWords_20 rfl rfl (by omega) ?_
        refine wp_iinc (pc := 23) dX3_unlikeWords_23 rfl rfl (by omega) ?_
        refine wp_goto (pc := 26) 4 dX3_unlikeWords_26 (by decide) ?_
        have h2 := ih (by omega) (by omega)
        unfold unN at h2 ⊢
        rw [sumI_s h0] at h2
        by_cases e : lkN (σ 15) (σ 15 q) q = 0
        · rw [if_pos e] at h2 c_17
          first | exact h2 | exact absurd c_17 (by omega)
        · rw [if_neg e] at c_17
          rw [if_neg e, Int.add_zero] at h2
          first | exact h2 | exact absurd c_17 (by omega)
  refine wp_iconst (pc := 0) dX3_unlikeWords_0 (by decide) ?_
  refine wp_istore_n (pc := 1) dX3_unlikeWords_1 rfl (Nat.le_of_ble_eq_true rfl) rfl ?_
  refine wp_iconst (pc := 2) dX3_unlikeWords_2 (by decide) ?_
  refine wp_istore_n (pc := 3) dX3_unlikeWords_3 rfl (Nat.le_of_ble_eq_true rfl) rfl ?_
  exact lp 0 (by omega) (by omega)
