set_option maxHeartbeats 4000000 in
set_option maxRecDepth 100000 in
theorem RP.adv {t : Int → Int} {n : Int} {σ τ : Sto} {s : PS} (h : RP t n σ s) (ha : advP σ τ s.x) : RP t n τ (s.nx t n) ∧ τ 38 5 = tkK t n s.x ∧ τ 38 6 = tkS t n s.x ∧ τ 38 7 = tkE t n s.x - tkS t n s.x ∧ τ 38 8 = tkN t n s.x ∧ (0 ≤ τ 38 6 ∧ 0 ≤ τ 38 7 ∧ τ 38 6 + τ 38 7 ≤ 400) ∧ τ 38 6 + τ 38 7 = τ 38 4 := by
  obtain ⟨h1, h2, h3, h4, h5, h6, h7, h8, h9, h10, h11⟩ := h
  obtain ⟨r1, r2, r3⟩ := ha.rd h1 h4
  obtain ⟨f, a4, a5, a6, a7, a8, ak⟩ := ha
  rw [h2, h3] at a4 a5 a6 a7 a8
  have a9 := ak 9 (by decide)
  refine ⟨⟨r1, (f 1 (by decide)).trans h2, (ak 3 (by decide)).trans h3, a4, h5, (ak 10 (by decide)).trans h6, ?_, ?_, ?_, by omega, ?_⟩, a5, a6, a7, a8, r2, r3⟩
  · refine Eq.trans ?_ h7
    funext k i
    simp only [DI, f 20 (by decide), f 21 (by decide), f 22 (by decide), f 23 (by decide), f 24 (by decide), f 25 (by decide)]
  · refine Eq.trans ?_ h8
    funext k i
    simp only [SN, f 8 (by decide), f 9 (by decide), f 10 (by decide), f 11 (by decide), f 12 (by decide), f 13 (by decide)]
  · rw [f 20 (by decide)]; exact h9
  · rw [a9]; exact h11
def RQ (t : Int → Int) (n : Int) (σ σ' : Sto) (s : PS) (z : Int) : Prop := Frm [8, 9, 10, 11, 12, 13, 20, 21, 22, 23, 24, 25, 38] σ σ' ∧ ((s.f = 0 ∧ z = 1 ∧ RP t n σ' s) ∨ (¬ s.f = 0 ∧ z = 0 ∧ σ' 38 10 = s.f ∧ σ' 38 6 = s.b ∧ 0 ≤ s.b ∧ s.b ≤ 400))
set_option maxHeartbeats 4000000 in
set_option maxRecDepth 100000 in
theorem RQ.tr {t : Int → Int} {n : Int} {σ τ σ' : Sto} {s : PS} {z : Int} (f : Frm [8, 9, 10, 11, 12, 13, 20, 21, 22, 23, 24, 25, 38] σ τ) (h : RQ t n τ σ' s z) : RQ t n σ σ' s z := ⟨f.tr h.1, h.2⟩
set_option maxHeartbeats 4000000 in
set_option maxRecDepth 100000 in
theorem advP.frm {σ τ : Sto} {x : Int} (h : advP σ τ x) : Frm [8, 9, 10, 11, 12, 13, 20, 21, 22, 23, 24, 25, 38] σ τ := h.1.mono (by decide)
set_option maxHeartbeats 4000000 in
set_option maxRecDepth 100000 in
theorem RQ.no {t : Int → Int} {n w w' : Int} {σ τ : Sto} {s : PS} (h : RP t n σ s) (ha : advP σ τ s.x) (hw : ¬ w' = 0) (he : w' = if tkK t n s.x = 0 then 1 else w) (hw2 : ¬ w = 0) : RQ t n σ (upd2 τ 38 10 w') (s.bad t n w) 0 := by
  obtain ⟨-, a5, a6, a7, a8, a9, -⟩ := h.adv ha
  refine ⟨ha.frm.up (by decide), Or.inr ⟨?_, rfl, ?_, ?_, ?_⟩⟩
  · show ¬ (if tkK t n s.x = 0 then 1 else w) = 0
    rw [← he]; exact hw
  · rw [upd2_eq]; exact he
  · rw [upd2_k (by decide)]; exact a6
  · show 0 ≤ tkS t n s.x ∧ tkS t n s.x ≤ 400
    omega
set_option maxHeartbeats 4000000 in
set_option maxRecDepth 100000 in
theorem rn_post {t : Int → Int} {n : Int} {σ τ σ' : Sto} {s : PS} {a b z : Int} (h : RP t n σ s) (ha : advP σ τ s.x) (hq : (τ 38 5 = 2 ∧ a ≤ τ 38 8 ∧ τ 38 8 ≤ b ∧ z = 1 ∧ σ' = τ) ∨ (¬ (τ 38 5 = 2 ∧ a ≤ τ 38 8 ∧ τ 38 8 ≤ b) ∧ z = 0 ∧ σ' = upd2 τ 38 10 (if τ 38 5 = 0 then 1 else if τ 38 5 = 2 then 3 else 2))) : RQ t n σ σ' (pNum t n a b s) z ∧ (z = 1 → σ' 38 8 = tkN t n s.x ∧ a ≤ tkN t n s.x ∧ tkN t n s.x ≤ b ∧ pNum t n a b s = s.nx t n) := by
  obtain ⟨hr, a5, a6, a7, a8, -⟩ := h.adv ha
  rcases hq with ⟨q1, q2, q3, rfl, rfl⟩ | ⟨q1, rfl, rfl⟩
  · rw [a5] at q1
    rw [a8] at q2 q3
    have e : pNum t n a b s = s.nx t n := by unfold pNum; rw [if_pos ⟨q1, q2, q3⟩]
    exact ⟨by rw [e]; exact ⟨ha.frm, Or.inl ⟨h.2.2.2.2.1, rfl, hr⟩⟩, fun _ => ⟨a8, q2, q3, e⟩⟩
  · rw [a5, a8] at q1
    have e : pNum t n a b s = s.bad t n (if tkK t n s.x = 2 then 3 else 2) := by unfold pNum; rw [if_neg q1]
    refine ⟨?_, fun q => absurd q (by decide)⟩
    rw [e, a5]
    refine RQ.no h ha ?_ rfl ?_
    · by_cases h0 : tkK t n s.x = 0
      · rw [if_pos h0]; decide
      · rw [if_neg h0]; split <;> decide
    · split <;> decide
set_option maxHeartbeats 4000000 in
set_option maxRecDepth 100000 in
theorem c_readNumberP {t : Int → Int} {n : Int} {σ : Sto} {s : PS} {a b : Int} (h : RP t n σ s) : CtI yX4_readNumber cX4_readNumber 3 (some .boolean) 2 [mR 38, mI a, mI b] σ (fun z σ' => RQ t n σ σ' (pNum t n a b s) z ∧ (z = 1 → σ' 38 8 = tkN t n s.x ∧ a ≤ tkN t n s.x ∧ tkN t n s.x ≤ b ∧ pNum t n a b s = s.nx t n)) := by
  refine ct_of rfl [some (mR 38), some (mI a), some (mI b)] (Nat.le_of_ble_eq_true rfl) rfl (fun hσ => ?_)
  show Wp cX4_readNumber RX4 (some .boolean) 2 0 [some (mR 38), some (mI a), some (mI b)] [] _ _
  refine wp_aload_n (pc := 0) dX4_readNumber_0 rfl rfl ?_
  refine wp_cvV0 (pc := 1) dX4_readNumber_1 mv_X4_52 (c_advance h.1 h.2.2.2.1) (Nat.le_of_ble_eq_true rfl) rfl (Nat.le_of_ble_eq_true rfl) (fun σ_1 h_1 => ?_)
  refine wp_aload_n (pc := 4) dX4_readNumber_4 rfl rfl ?_
  refine wp_getI (pc := 5) 5 dX4_readNumber_5 fl_X4_55 rfl rfl ?_
  refine wp_iconst (pc := 8) dX4_readNumber_8 (by decide) ?_
  refine wp_icmp_eq (pc := 9) 18 dX4_readNumber_9 (by decide) (fun c_9 => ?_) (fun c_9 => ?_)
  · refine wp_aload_n (pc := 18) dX4_readNumber_18 rfl rfl ?_
    refine wp_getI (pc := 19) 8 dX4_readNumber_19 fl_X4_107 rfl rfl ?_
    refine wp_iload_n (pc := 22) dX4_readNumber_22 rfl rfl ?_
    refine wp_icmp_lt (pc := 23) 34 dX4_readNumber_23 (by decide) (fun c_23 => ?_) (fun c_23 => ?_)
    · refine wp_aload_n (pc := 34) dX4_readNumber_34 rfl rfl ?_
      refine wp_iconst (pc := 35) dX4_readNumber_35 (by decide) ?_
      refine wp_cvI1 (pc := 36) dX4_readNumber_36 mv_X4_65 (c_refuse (w := 3)) (Nat.le_of_ble_eq_true rfl) rfl (Nat.le_of_ble_eq_true rfl) (fun z_36 σ_36 h_36 => ?_)
      obtain ⟨rfl, rfl⟩ := h_36
      refine wp_if_eq (pc := 39) 46 dX4_readNumber_39 (by decide) (fun c_39 => ?_) (fun c_39 => ?_)
      · refine wp_iconst (pc := 46) dX4_readNumber_46 (by decide) ?_
        refine wp_zreturn (pc := 47) dX4_readNumber_47 rfl (by omega) ?_
        first
          | exact absurd rfl c_39
          | exact ⟨_, rfl, rn_post h h_1 (Or.inl ⟨c_9, by omega, by omega, rfl, rfl⟩)⟩
          | (refine ⟨_, rfl, rn_post h h_1 (Or.inr ⟨by omega, rfl, ?_⟩)⟩
             rw [if_neg (show ¬ σ_1 38 5 = 0 by omega), if_neg (show ¬ σ_1 38 5 = 0 by omega), if_pos c_9])
      · refine wp_iconst (pc := 42) dX4_readNumber_42 (by decide) ?_
        refine wp_goto (pc := 43) 47 dX4_readNumber_43 (by decide) ?_
        refine wp_zreturn (pc := 47) dX4_readNumber_47 rfl (by omega) ?_
        first
          | exact absurd rfl c_39
          | exact ⟨_, rfl, rn_post h h_1 (Or.inl ⟨c_9, by omega, by omega, rfl, rfl⟩)⟩
          | (refine ⟨_, rfl, rn_post h h_1 (Or.inr ⟨by omega, rfl, ?_⟩)⟩
             rw [if_neg (show ¬ σ_1 38 5 = 0 by omega), if_neg (show ¬ σ_1 38 5 = 0 by omega), if_pos c_9])
    · refine wp_aload_n (pc := 26) dX4_readNumber_26 rfl rfl ?_
      refine wp_getI (pc := 27) 8 dX4_readNumber_27 fl_X4_107 rfl rfl ?_
      refine wp_iload_n (pc := 30) dX4_readNumber_30 rfl rfl ?_
      refine wp_icmp_le (pc := 31) 42 dX4_readNumber_31 (by decide) (fun c_31 => ?_) (fun c_31 => ?_)
      · refine wp_iconst (pc := 42) dX4_readNumber_42 (by decide) ?_
        refine wp_goto (pc := 43) 47 dX4_readNumber_43 (by decide) ?_
        refine wp_zreturn (pc := 47) dX4_readNumber_47 rfl (by omega) ?_
        first
          | exact absurd rfl c_39
          | exact ⟨_, rfl, rn_post h h_1 (Or.inl ⟨c_9, by omega, by omega, rfl, rfl⟩)⟩
          | (refine ⟨_, rfl, rn_post h h_1 (Or.inr ⟨by omega, rfl, ?_⟩)⟩
             rw [if_neg (show ¬ σ_1 38 5 = 0 by omega), if_neg (show ¬ σ_1 38 5 = 0 by omega), if_pos c_9])
      · refine wp_aload_n (pc := 34) dX4_readNumber_34 rfl rfl ?_
        refine wp_iconst (pc := 35) dX4_readNumber_35 (by decide) ?_
        refine wp_cvI1 (pc := 36) dX4_readNumber_36 mv_X4_65 (c_refuse (w := 3)) (Nat.le_of_ble_eq_true rfl) rfl (Nat.le_of_ble_eq_true rfl) (fun z_36 σ_36 h_36 => ?_)
        obtain ⟨rfl, rfl⟩ := h_36
        refine wp_if_eq (pc := 39) 46 dX4_readNumber_39 (by decide) (fun c_39 => ?_) (fun c_39 => ?_)
        · refine wp_iconst (pc := 46) dX4_readNumber_46 (by decide) ?_
          refine wp_zreturn (pc := 47) dX4_readNumber_47 rfl (by omega) ?_
          first
            | exact absurd rfl c_39
            | exact ⟨_, rfl, rn_post h h_1 (Or.inl ⟨c_9, by omega, by omega, rfl, rfl⟩)⟩
            | (refine ⟨_, rfl, rn_post h h_1 (Or.inr ⟨by omega, rfl, ?_⟩)⟩
               rw [if_neg (show ¬ σ_1 38 5 = 0 by omega), if_neg (show ¬ σ_1 38 5 = 0 by omega), if_pos c_9])
        · refine wp_iconst (pc := 42) dX4_readNumber_42 (by decide) ?_
          refine wp_goto (pc := 43) 47 dX4_readNumber_43 (by decide) ?_
          refine wp_zreturn (pc := 47) dX4_readNumber_47 rfl (by omega) ?_
          first
            | exact absurd rfl c_39
            | exact ⟨_, rfl, rn_post h h_1 (Or.inl ⟨c_9, by omega, by omega, rfl, rfl⟩)⟩
            | (refine ⟨_, rfl, rn_post h h_1 (Or.inr ⟨by omega, rfl, ?_⟩)⟩
               rw [if_neg (show ¬ σ_1 38 5 = 0 by omega), if_neg (show ¬ σ_1 38 5 = 0 by omega), if_pos c_9])
  · refine wp_aload_n (pc := 12) dX4_readNumber_12 rfl rfl ?_
    refine wp_iconst (pc := 13) dX4_readNumber_13 (by decide) ?_
    refine wp_cvI1 (pc := 14) dX4_readNumber_14 mv_X4_65 (c_refuse (w := 2)) (Nat.le_of_ble_eq_true rfl) rfl (Nat.le_of_ble_eq_true rfl) (fun z_14 σ_14 h_14 => ?_)
    obtain ⟨rfl, rfl⟩ := h_14
    refine wp_zreturn (pc := 17) dX4_readNumber_17 rfl (by omega) ?_
    refine ⟨_, rfl, rn_post h h_1 (Or.inr ⟨by omega, rfl, ?_⟩)⟩
    rw [if_neg (show ¬ σ_1 38 5 = 2 from c_9)]
