def Kp (L : List Nat) (σ σ' : Sto) : Prop := ∀ r k, r ∉ L → ¬ (38 < r ∧ r < 71) → ¬ (r = 0 ∧ k = 11) → σ' r k = σ r k
set_option maxHeartbeats 4000000 in
set_option maxRecDepth 100000 in
theorem Kp.rf {L : List Nat} {σ : Sto} : Kp L σ σ := fun _ _ _ _ _ => rfl
set_option maxHeartbeats 4000000 in
set_option maxRecDepth 100000 in
theorem Kp.of {L M : List Nat} {σ σ' : Sto} (h : Frm M σ σ') (hM : ∀ r ∈ M, r ∈ L ∨ (38 < r ∧ r < 71)) : Kp L σ σ' := fun r k h1 h2 _ => by rw [h r (fun q => (hM r q).elim h1 h2)]
set_option maxHeartbeats 4000000 in
set_option maxRecDepth 100000 in
theorem Kp.up {L : List Nat} {σ σ' : Sto} {r : Nat} {k v : Int} (h : Kp L σ σ') (hr : r ∈ L) : Kp L σ (upd2 σ' r k v) := fun q j h1 h2 h3 => by
  rw [upd2_r (fun e => h1 (by rw [e]; exact hr))]
  exact h q j h1 h2 h3
set_option maxHeartbeats 4000000 in
set_option maxRecDepth 100000 in
theorem Kp.st {L : List Nat} {σ σ' : Sto} {v : Int} (h : Kp L σ σ') : Kp L σ (upd2 σ' 0 11 v) := fun q j h1 h2 h3 => by
  rw [upd2_ne (fun w => h3 w)]
  exact h q j h1 h2 h3
set_option maxHeartbeats 4000000 in
set_option maxRecDepth 100000 in
theorem CI.upd {σ σ' D S D' : Sto} (h : CI σ D S) (hk : Kp [14, 15, 16, 17, 18, 19] σ σ') (hs : ¬ σ' 0 11 = 0) (hd : DC σ' = D') (ho : OKD D' S) (ht : σ' 14 1 = tot D') : CI σ' D' S := by
  obtain ⟨h1, h2, h3, h4, h5, h6, h7, h8, h9, h10⟩ := h
  have e : ∀ r, r < 38 → r ≠ 0 → r ∉ [14, 15, 16, 17, 18, 19] → σ' r = σ r := fun r hr h0 hn => funext fun k => hk r k hn (by omega) (fun q => h0 q.1)
  have e0 : ∀ k, k ≠ 11 → σ' 0 k = σ 0 k := fun k hk2 => hk 0 k (by decide) (by omega) (fun q => hk2 q.2)
  have d2 : SC σ' = SC σ := by
    funext k i
    simp only [SC, e 2 (by decide) (by decide) (by decide), e 3 (by decide) (by decide) (by decide), e 4 (by decide) (by decide) (by decide), e 5 (by decide) (by decide) (by decide), e 6 (by decide) (by decide) (by decide), e 7 (by decide) (by decide) (by decide)]
  have d3 : DI σ' 26 27 28 29 30 31 = DI σ 26 27 28 29 30 31 := by
    funext k i
    simp only [DI, e 26 (by decide) (by decide) (by decide), e 27 (by decide) (by decide) (by decide), e 28 (by decide) (by decide) (by decide), e 29 (by decide) (by decide) (by decide), e 30 (by decide) (by decide) (by decide), e 31 (by decide) (by decide) (by decide)]
  have d4 : DI σ' 32 33 34 35 36 37 = DI σ 32 33 34 35 36 37 := by
    funext k i
    simp only [DI, e 32 (by decide) (by decide) (by decide), e 33 (by decide) (by decide) (by decide), e 34 (by decide) (by decide) (by decide), e 35 (by decide) (by decide) (by decide), e 36 (by decide) (by decide) (by decide), e 37 (by decide) (by decide) (by decide)]
  refine ⟨hd, d2.trans h2, ho, h4, ht, by rw [e0 1 (by decide)]; exact h6, by rw [e0 1 (by decide), e 1 (by decide) (by decide) (by decide)]; exact h7, fun q => absurd q hs, ?_, ?_⟩
  · rw [e0 14 (by decide), d3, e 26 (by decide) (by decide) (by decide)]; exact h9
  · rw [e0 15 (by decide), d4, e 32 (by decide) (by decide) (by decide)]; exact h10
-- feed, end
set_option maxHeartbeats 4000000 in
set_option maxRecDepth 100000 in
theorem c_feed {σ D S : Sto} {c : Int} (hC : CI σ D S) : CtI yX6_feed cX6_feed 2 (some .int) 0 [mR 0, mI c] σ (fun z σ' => CI σ' D S ∧ if c < 0 ∨ 127 < c then z = -1 ∧ σ' = σ else if 400 ≤ σ 0 1 then z = -3 ∧ σ' = σ else z = σ 0 1 + 1 ∧ σ' = upd2 (upd2 σ 1 (σ 0 1) c) 0 1 (σ 0 1 + 1)) := by
  refine ct_of rfl [some (mR 0), some (mI c)] (Nat.le_of_ble_eq_true rfl) rfl (fun hσ => ?_)
  show Wp cX6_feed RX6 (some .int) 0 0 [some (mR 0), some (mI c)] [] _ _
  have hl := hC.2.2.2.2.2.1
  refine wp_iload_n (pc := 0) dX6_feed_0 rfl rfl ?_
  refine wp_if_lt (pc := 1) 10 dX6_feed_1 (by decide) (fun c_1 => ?_) (fun c_1 => ?_)
  · refine wp_iconst (pc := 10) dX6_feed_10 (by decide) ?_
    refine wp_ireturn (pc := 11) dX6_feed_11 rfl ?_
    refine ⟨_, rfl, hC, ?_⟩
    show ite _ _ _
    rw [if_pos (by omega)]
    exact ⟨rfl, rfl⟩
  · refine wp_iload_n (pc := 4) dX6_feed_4 rfl rfl ?_
    refine wp_bipush (pc := 5) dX6_feed_5 (by decide) (by decide) ?_
    refine wp_icmp_le (pc := 7) 12 dX6_feed_7 (by decide) (fun c_7 => ?_) (fun c_7 => ?_)
    · refine wp_aload_n (pc := 12) dX6_feed_12 rfl rfl ?_
      refine wp_getI (pc := 13) 1 dX6_feed_13 fl_X6_80 rfl rfl ?_
      refine wp_sipush (pc := 16) dX6_feed_16 (by decide) (by decide) ?_
      refine wp_icmp_lt (pc := 19) 25 dX6_feed_19 (by decide) (fun c_19 => ?_) (fun c_19 => ?_)
      · refine wp_aload_n (pc := 25) dX6_feed_25 rfl rfl ?_
        refine wp_getR (pc := 26) (q := 1) dX6_feed_26 fl_X6_9 rfl ?_
        refine wp_aload_n (pc := 29) dX6_feed_29 rfl rfl ?_
        refine wp_getI (pc := 30) 1 dX6_feed_30 fl_X6_80 rfl rfl ?_
        refine wp_iload_n (pc := 33) dX6_feed_33 rfl rfl ?_
        refine wp_i2b (pc := 34) dX6_feed_34 (by omega) (by omega) ?_
        refine wp_bast (pc := 35) 400 dX6_feed_35 rfl (by omega) (by omega) ?_
        refine wp_aload_n (pc := 36) dX6_feed_36 rfl rfl ?_
        refine wp_dup (pc := 37) dX6_feed_37 (fun _ h => by cases h) ?_
        refine wp_getI (pc := 38) 1 dX6_feed_38 fl_X6_80 rfl rfl ?_
        rw [upd2_r (r := 1) (r' := 0) (by decide)]
        refine wp_iconst (pc := 41) dX6_feed_41 (by decide) ?_
        refine wp_iadd (pc := 42) dX6_feed_42 (by omega) ?_
        refine wp_putI (pc := 43) 1 dX6_feed_43 fl_X6_80 ⟨rfl, rfl⟩ rfl rfl ?_
        refine wp_aload_n (pc := 46) dX6_feed_46 rfl rfl ?_
        refine wp_getI (pc := 47) 1 dX6_feed_47 fl_X6_80 rfl rfl ?_
        rw [upd2_eq (r := 0) (k := 1)]
        refine wp_ireturn (pc := 50) dX6_feed_50 rfl ?_
        refine ⟨_, rfl, ?_, ?_⟩
        · have f : Frm [0, 1] σ (upd2 (upd2 σ 1 (σ 0 1) c) 0 1 (σ 0 1 + 1)) := (Frm.rf.up (by decide)).up (by decide)
          obtain ⟨h1, h2, h3, h4, h5, h6, h7, h8, h9, h10⟩ := hC
          have e14 : upd2 (upd2 σ 1 (σ 0 1) c) 0 1 (σ 0 1 + 1) 0 14 = σ 0 14 := by simp [upd2]
          have e15 : upd2 (upd2 σ 1 (σ 0 1) c) 0 1 (σ 0 1 + 1) 0 15 = σ 0 15 := by simp [upd2]
          have e11 : upd2 (upd2 σ 1 (σ 0 1) c) 0 1 (σ 0 1 + 1) 0 11 = σ 0 11 := by simp [upd2]
          refine ⟨h1, h2, h3, h4, by rw [f 14 (by decide)]; exact h5, by rw [upd2_eq]; omega, fun k k0 k1 => ?_, fun q => lay_keep (h8 (by rw [← e11]; exact q)) f (by decide), fun q => ?_, fun q => ?_⟩
          · rw [upd2_eq] at k1
            rw [upd2_r (by decide)]
            by_cases e : k = σ 0 1
            · rw [e, upd2_eq]; omega
            · rw [upd2_k e]; exact h7 k k0 (by omega)
          · rw [e14] at q
            rw [f 26 (by decide)]
            exact h9 q
          · rw [e15] at q
            rw [f 32 (by decide)]
            exact h10 q
        · show ite _ _ _
          rw [if_neg (by omega), if_neg (by omega)]
          exact ⟨rfl, rfl⟩
      · refine wp_bipush (pc := 22) dX6_feed_22 (by decide) (by decide) ?_
        refine wp_ireturn (pc := 24) dX6_feed_24 rfl ?_
        refine ⟨_, rfl, hC, ?_⟩
        show ite _ _ _
        rw [if_neg (by omega), if_pos (by omega)]
        exact ⟨rfl, rfl⟩
    · refine wp_iconst (pc := 10) dX6_feed_10 (by decide) ?_
      refine wp_ireturn (pc := 11) dX6_feed_11 rfl ?_
      refine ⟨_, rfl, hC, ?_⟩
      show ite _ _ _
      rw [if_pos (by omega)]
      exact ⟨rfl, rfl⟩
set_option maxHeartbeats 4000000 in
set_option maxRecDepth 100000 in
theorem c_end {σ D S : Sto} {n : Int} (hC : CI σ D S) : CtI yX6_end cX6_end 3 (some .int) 0 [mR 0, mI n] σ (fun z σ' => CI σ' D S ∧ if n < 0 ∨ σ 0 1 < n then z = -1 ∧ σ' = σ else z = σ 0 1 ∧ σ' = upd2 σ 0 1 n) := by
  refine ct_of rfl [some (mR 0), some (mI n), none] (Nat.le_of_ble_eq_true rfl) rfl (fun hσ => ?_)
  show Wp cX6_end RX6 (some .int) 0 0 [some (mR 0), some (mI n), none] [] _ _
  have hl := hC.2.2.2.2.2.1
  refine wp_iload_n (pc := 0) dX6_end_0 rfl rfl ?_
  refine wp_if_lt (pc := 1) 12 dX6_end_1 (by decide) (fun c_1 => ?_) (fun c_1 => ?_)
  · refine wp_iconst (pc := 12) dX6_end_12 (by decide) ?_
    refine wp_ireturn (pc := 13) dX6_end_13 rfl ?_
    refine ⟨_, rfl, hC, ?_⟩
    show ite _ _ _
    rw [if_pos (by omega)]
    exact ⟨rfl, rfl⟩
  · refine wp_iload_n (pc := 4) dX6_end_4 rfl rfl ?_
    refine wp_aload_n (pc := 5) dX6_end_5 rfl rfl ?_
    refine wp_getI (pc := 6) 1 dX6_end_6 fl_X6_80 rfl rfl ?_
    refine wp_icmp_le (pc := 9) 14 dX6_end_9 (by decide) (fun c_9 => ?_) (fun c_9 => ?_)
    · refine wp_aload_n (pc := 14) dX6_end_14 rfl rfl ?_
      refine wp_getI (pc := 15) 1 dX6_end_15 fl_X6_80 rfl rfl ?_
      refine wp_istore_n (pc := 18) dX6_end_18 rfl (Nat.le_of_ble_eq_true rfl) rfl ?_
      refine wp_aload_n (pc := 19) dX6_end_19 rfl rfl ?_
      refine wp_iload_n (pc := 20) dX6_end_20 rfl rfl ?_
      refine wp_putI (pc := 21) 1 dX6_end_21 fl_X6_80 ⟨rfl, rfl⟩ rfl rfl ?_
      refine wp_iload_n (pc := 24) dX6_end_24 rfl rfl ?_
      refine wp_ireturn (pc := 25) dX6_end_25 rfl ?_
      refine ⟨_, rfl, ?_, ?_⟩
      · have f : Frm [0] σ (upd2 σ 0 1 n) := Frm.rf.up (by decide)
        obtain ⟨h1, h2, h3, h4, h5, h6, h7, h8, h9, h10⟩ := hC
        have e14 : upd2 σ 0 1 n 0 14 = σ 0 14 := by simp [upd2]
        have e15 : upd2 σ 0 1 n 0 15 = σ 0 15 := by simp [upd2]
        have e11 : upd2 σ 0 1 n 0 11 = σ 0 11 := by simp [upd2]
        refine ⟨h1, h2, h3, h4, by rw [f 14 (by decide)]; exact h5, by rw [upd2_eq]; omega, fun k k0 k1 => ?_, fun q => lay_keep (h8 (by rw [← e11]; exact q)) f (by decide), fun q => ?_, fun q => ?_⟩
        · rw [upd2_eq] at k1
          rw [upd2_r (by decide)]
          exact h7 k k0 (by omega)
        · rw [e14] at q
          rw [f 26 (by decide)]
          exact h9 q
        · rw [e15] at q
          rw [f 32 (by decide)]
          exact h10 q
      · show ite _ _ _
        rw [if_neg (by omega)]
        exact ⟨rfl, rfl⟩
    · refine wp_iconst (pc := 12) dX6_end_12 (by decide) ?_
      refine wp_ireturn (pc := 13) dX6_end_13 rfl ?_
      refine ⟨_, rfl, hC, ?_⟩
      show ite _ _ _
      rw [if_pos (by omega)]
      exact ⟨rfl, rfl⟩
-- set
def setSt (D : Sto) (k v : Int) : Sto := fun kk i => if 5 ≤ kk ∧ i = k then v else D kk i
def isSet (w v : Int) : Prop := (w = 8 ∧ 20 ≤ v ∧ v ≤ 99) ∨ (w = 9 ∧ 4 ≤ v ∧ v ≤ 20) ∨ (w = 10 ∧ 2 ≤ v ∧ v ≤ 20) ∨ (w = 11 ∧ 0 ≤ v ∧ v ≤ 9) ∨ (w = 12 ∧ 0 ≤ v ∧ v ≤ 1) ∨ (w = 13 ∧ 0 ≤ v ∧ v ≤ 2)
set_option maxHeartbeats 4000000 in
set_option maxRecDepth 100000 in
theorem setSt_ok {D S : Sto} (h : OKD D S) {w v : Int} (hs : isSet w v) : OKD (setSt D (w - 8) v) S ∧ tot (setSt D (w - 8) v) = tot D := by
  have e : ∀ k, k < 5 → setSt D (w - 8) v k = D k := fun k hk => by funext i; show ite _ _ _ = _; rw [if_neg (by omega)]
  have et : tot (setSt D (w - 8) v) = tot D := by unfold tot; rw [e 1 (by decide), e 0 (by decide)]
  obtain ⟨h1, h2, h3, h4, h5, h6, h7, h8, h9, h10, h11⟩ := h
  have e5 : ∀ i, setSt D (w - 8) v 5 i = if i = w - 8 then v else D 5 i := fun i => by simp [setSt]
  refine ⟨⟨by rw [e 0 (by decide)]; exact h1, by rw [e 0 (by decide), e 1 (by decide)]; exact h2, by rw [et]; exact h3, by rw [e 0 (by decide), e 2 (by decide), e 3 (by decide)]; exact h4, by rw [et, e 4 (by decide)]; exact h5, ?_, ?_, ?_, ?_, ?_, ?_⟩, et⟩ <;> (rw [e5]; unfold isSet at hs; split <;> omega)

set_option maxHeartbeats 4000000 in
set_option maxRecDepth 100000 in
theorem DC_sett {σ : Sto} {k v : Int} : DC (upd2 σ 19 k v) = setSt (DC σ) k v := by
  funext kk i
  by_cases h : 5 ≤ kk
  · have h0 : ∀ τ : Sto, DC τ kk i = τ 19 i := fun τ => by
      simp only [DC]
      rw [if_neg (by omega), if_neg (by omega), if_neg (by omega), if_neg (by omega), if_neg (by omega)]
    rw [h0]
    show _ = ite _ _ _
    rw [h0]
    by_cases hi : i = k
    · subst hi; rw [upd2_eq, if_pos ⟨h, rfl⟩]
    · rw [upd2_k hi, if_neg (fun q => hi q.2)]
  · show _ = ite _ _ _
    rw [if_neg (fun q => h q.1)]
    simp only [DC]
    rw [upd2_r (by decide), upd2_r (by decide), upd2_r (by decide), upd2_r (by decide), upd2_r (by decide)]
    have : kk = 0 ∨ kk = 1 ∨ kk = 2 ∨ kk = 3 ∨ kk = 4 := by omega
    rcases this with rfl | rfl | rfl | rfl | rfl <;> rfl
set_option maxHeartbeats 4000000 in
set_option maxRecDepth 100000 in
theorem DC_st {σ : Sto} {k v : Int} : DC (upd2 σ 0 k v) = DC σ := by
  funext kk i
  simp only [DC, upd2_r (show (14 : Nat) ≠ 0 by decide), upd2_r (show (15 : Nat) ≠ 0 by decide), upd2_r (show (16 : Nat) ≠ 0 by decide), upd2_r (show (17 : Nat) ≠ 0 by decide), upd2_r (show (18 : Nat) ≠ 0 by decide), upd2_r (show (19 : Nat) ≠ 0 by decide)]
