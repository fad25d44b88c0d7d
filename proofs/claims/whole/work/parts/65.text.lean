def SameS (S E : Sto) : Prop := S 0 0 = E 0 0 ∧ (∀ g, 0 ≤ g → g < 6 → S 1 g = E 1 g ∧ S 2 g = E 2 g ∧ S 3 g = E 3 g) ∧ ∀ x, 0 ≤ x → x < 48 → S 4 x = E 4 x ∧ S 5 x = E 5 x
set_option maxHeartbeats 4000000 in
set_option maxRecDepth 100000 in
theorem SameS.ok {S E : Sto} (h : SameS S E) (ho : OKS E) : OKS S := by
  obtain ⟨s0, s1, s4⟩ := h
  have h0 := ho.1
  refine ⟨by omega, fun g g0 g1 => ?_⟩
  obtain ⟨a1, a2, a3⟩ := s1 g g0 (by omega)
  obtain ⟨b1, b2, b3, b4⟩ := ho.2 g g0 (by omega)
  rw [a1, a2, a3]
  refine ⟨b1, b2, b3, fun i i0 i1 => ?_⟩
  obtain ⟨c1, c2⟩ := s4 (g * 8 + i) (by omega) (by omega)
  rw [c1, c2]
  exact b4 i i0 i1
-- where a text begins: nothing told, the settings as they are
def ST0 (D : Sto) (s : PS) : Prop := s.x = 0 ∧ s.f = 0 ∧ (∀ w, 0 ≤ w → w < 6 → s.T w = 0) ∧ s.D 0 0 = 0 ∧ (∀ k, 0 ≤ k → k < 6 → s.D 5 k = D 5 k) ∧ s.S 0 0 = 0
set_option maxHeartbeats 4000000 in
set_option maxRecDepth 100000 in
theorem ST0.ok {D S : Sto} {s : PS} {n : Int} (h : ST0 D s) (hD : OKD D S) (hn : 0 ≤ n) : PG n s := by
  obtain ⟨a, b, c, d, e, f⟩ := h
  have ht : tot s.D = 0 := by unfold tot; rw [d, sumI_0]
  obtain ⟨h1, h2, h3, h4, h5, h6⟩ := hD
  refine ⟨by omega, b, ⟨by omega, fun p p0 p1 => by omega, by omega, fun p p0 p1 => by omega, fun w w0 w1 => by omega, ?_⟩, by omega, fun g g0 g1 => by omega⟩
  rw [e 0 (by decide) (by decide), e 1 (by decide) (by decide), e 2 (by decide) (by decide), e 3 (by decide) (by decide), e 4 (by decide) (by decide), e 5 (by decide) (by decide)]
  exact h6
set_option maxHeartbeats 4000000 in
set_option maxRecDepth 100000 in
theorem CI.txt {σ σ' D S : Sto} (h : CI σ D S) (f : Frm [0, 8, 9, 10, 11, 12, 13, 20, 21, 22, 23, 24, 25, 38] σ σ') (e0 : ∀ k, k ≠ 1 → σ' 0 k = σ 0 k) (e1 : σ' 0 1 = 0) : CI σ' D S := by
  obtain ⟨h1, h2, h3, h4, h5, h6, h7, h8, h9, h10⟩ := h
  have d1 : DC σ' = DC σ := by
    funext k i
    simp only [DC, f 14 (by decide), f 15 (by decide), f 16 (by decide), f 17 (by decide), f 18 (by decide), f 19 (by decide)]
  have d2 : SC σ' = SC σ := by
    funext k i
    simp only [SC, f 2 (by decide), f 3 (by decide), f 4 (by decide), f 5 (by decide), f 6 (by decide), f 7 (by decide)]
  have d3 : DI σ' 26 27 28 29 30 31 = DI σ 26 27 28 29 30 31 := by
    funext k i
    simp only [DI, f 26 (by decide), f 27 (by decide), f 28 (by decide), f 29 (by decide), f 30 (by decide), f 31 (by decide)]
  have d4 : DI σ' 32 33 34 35 36 37 = DI σ 32 33 34 35 36 37 := by
    funext k i
    simp only [DI, f 32 (by decide), f 33 (by decide), f 34 (by decide), f 35 (by decide), f 36 (by decide), f 37 (by decide)]
  refine ⟨d1.trans h1, d2.trans h2, h3, h4, by rw [f 14 (by decide)]; exact h5, by omega, fun k k0 k1 => by omega, fun q => lay_keep (h8 (by rw [← e0 11 (by decide)]; exact q)) f (by decide), ?_, ?_⟩
  · rw [e0 14 (by decide), d3, f 26 (by decide)]; exact h9
  · rw [e0 15 (by decide), d4, f 32 (by decide)]; exact h10
set_option maxHeartbeats 4000000 in
set_option maxRecDepth 100000 in
theorem c_text {σ D S : Sto} (hC : CI σ D S) : CtI yX6_text cX6_text 2 (some .int) 10 [mR 0] σ (fun z σ' => (∀ r, 70 < r → σ' r = σ r) ∧ ∃ s0 : PS, ST0 D s0 ∧ ((¬ (pAll (σ 1) (σ 0 1) 401 0 s0).1.f = 0 ∧ z = -10 - (pAll (σ 1) (σ 0 1) 401 0 s0).1.b ∧ σ' 38 10 = (pAll (σ 1) (σ 0 1) 401 0 s0).1.f ∧ σ' 0 1 = 0 ∧ CI σ' D S ∧ (∀ k, k ≠ 1 → σ' 0 k = σ 0 k) ∧ ∀ r, 26 ≤ r → r < 38 → σ' r = σ r) ∨ ((pAll (σ 1) (σ 0 1) 401 0 s0).1.f = 0 ∧ z = (pAll (σ 1) (σ 0 1) 401 0 s0).2 ∧ σ' 38 10 = 0 ∧ σ' 0 1 = 0 ∧ σ' 0 14 = 0 ∧ σ' 0 15 = 0 ∧ ∃ D' S', CI σ' D' S' ∧ Same D' (pAll (σ 1) (σ 0 1) 401 0 s0).1.D ∧ SameS S' (pAll (σ 1) (σ 0 1) 401 0 s0).1.S))) := by
  refine ct_of rfl [some (mR 0), none] (Nat.le_of_ble_eq_true rfl) rfl (fun hσ => ?_)
  show Wp cX6_text RX6 (some .int) 10 0 [some (mR 0), none] [] _ _
  generalize hυ : cpy2 σ 19 25 0 0 6 = υ
  have fυ : Frm [25] σ υ := by rw [← hυ]; exact Frm.rf.cp (by decide)
  have e25 : ∀ k, 0 ≤ k → k < 6 → υ 25 k = σ 19 k := fun k k0 k1 => by rw [← hυ]; exact cpy2_in k0 k1
  generalize hs0 : ((0, 0, 0, fun _ => 0, (fun k i => if k = 0 then 0 else DN υ k i), (fun k i => if k = 0 then 0 else SN υ k i)) : PS) = s0
  have hst : ST0 D s0 := by
    rw [← hs0]
    refine ⟨rfl, rfl, fun _ _ _ => rfl, rfl, fun k k0 k1 => ?_, rfl⟩
    rw [(hC.n.2.2.2.2.1 k).2.2.2.2]
    exact e25 k k0 k1
  have hl := hC.2.2.2.2.2.1
  have htp := hC.2.2.2.2.2.2.1
  have hpg := hst.ok (n := σ 0 1) hC.2.2.1 hl.1
  have e1 : υ 1 = σ 1 := fυ 1 (by decide)
  have e0 : υ 0 = σ 0 := fυ 0 (by decide)
  have f0 : Frm [8, 9, 10, 11, 12, 13, 20, 21, 22, 23, 24, 25, 38] σ υ := fυ.mono (by decide)
  refine wp_aload_n (pc := 0) dX6_text_0 rfl rfl ?_
  refine wp_getR (pc := 1) (q := 20) dX6_text_1 fl_X6_30 rfl ?_
  refine wp_aload_n (pc := 4) dX6_text_4 rfl rfl ?_
  refine wp_getR (pc := 5) (q := 14) dX6_text_5 fl_X6_23 rfl ?_
  refine wp_cvV1 (pc := 8) dX6_text_8 mv_X6_84 (c_takeSettings_20_14) (Nat.le_of_ble_eq_true rfl) rfl (Nat.le_of_ble_eq_true rfl) (fun σ_8 h_8 => ?_)
  rw [hυ] at h_8; subst h_8
  refine wp_aload_n (pc := 11) dX6_text_11 rfl rfl ?_
  refine wp_getR (pc := 12) (q := 38) dX6_text_12 fl_X6_38 rfl ?_
  refine wp_aload_n (pc := 15) dX6_text_15 rfl rfl ?_
  refine wp_getI (pc := 16) 1 dX6_text_16 fl_X6_80 rfl rfl ?_
  rw [show σ_8 0 1 = σ 0 1 by rw [e0]]
  refine wp_cvI1 (pc := 19) dX6_text_19 mv_X6_88 (c_readAllP (R := pAll (σ 1) (σ 0 1) 401 0 s0) (s0 := s0) hl (fun k k0 k1 => by rw [e1]; exact htp k k0 k1) hs0.symm hpg (by rw [e1])) (Nat.le_of_ble_eq_true rfl) rfl (Nat.le_of_ble_eq_true rfl) (fun z_19 σ_19 h_19 => ?_)
  obtain ⟨f19, q19⟩ := h_19
  have f20 := f0.tr f19
  refine wp_istore_n (pc := 22) dX6_text_22 rfl (Nat.le_of_ble_eq_true rfl) rfl ?_
  refine wp_aload_n (pc := 23) dX6_text_23 rfl rfl ?_
  refine wp_iconst (pc := 24) dX6_text_24 (by decide) ?_
  refine wp_putI (pc := 25) 1 dX6_text_25 fl_X6_80 ⟨rfl, rfl⟩ rfl rfl ?_
  refine wp_aload_n (pc := 28) dX6_text_28 rfl rfl ?_
  refine wp_getR (pc := 29) (q := 38) dX6_text_29 fl_X6_38 rfl ?_
  refine wp_cvI0 (pc := 32) dX6_text_32 mv_X6_92 (c_faultKind) (Nat.le_of_ble_eq_true rfl) rfl (Nat.le_of_ble_eq_true rfl) (fun z_32 σ_32 h_32 => ?_)
  obtain ⟨zz_32, e_32⟩ := h_32; have e2_32 := e_32.symm; subst e2_32
  rw [upd2_r (by decide)] at zz_32
  refine wp_if_ne (pc := 35) 75 dX6_text_35 (by decide) (fun c_35 => ?_) (fun c_35 => ?_)
  · refine wp_iload_n (pc := 75) dX6_text_75 rfl rfl ?_
    refine wp_ireturn (pc := 76) dX6_text_76 rfl ?_
    first
      | (have hn : ¬ (pAll (σ 1) (σ 0 1) 401 0 s0).1.f = 0 ∧ z_19 = -10 - (pAll (σ 1) (σ 0 1) 401 0 s0).1.b ∧ σ_19 38 10 = (pAll (σ 1) (σ 0 1) 401 0 s0).1.f := by
           rcases q19 with y | y
           · exact absurd (zz_32.trans y.2.2.1) c_35
           · exact y
         have hf : Frm [0, 8, 9, 10, 11, 12, 13, 20, 21, 22, 23, 24, 25, 38] σ (upd2 σ_19 0 1 0) := (f20.mono (by decide)).up (by decide)
         have h0 : ∀ k, k ≠ 1 → upd2 σ_19 0 1 0 0 k = σ 0 k := fun k hk => by rw [upd2_k hk, f20 0 (by decide)]
         refine ⟨_, rfl, fun r hr => hf r (fun q => by simp at q; omega), s0, hst, Or.inl ⟨hn.1, hn.2.1, ?_, upd2_eq, hC.txt hf h0 upd2_eq, h0, fun r a b => hf r (fun q => by simp at q; omega)⟩⟩
         rw [upd2_r (by decide)]; exact hn.2.2)
      | (obtain ⟨y1, y2, y3, y4, y5, y6, y7, y8⟩ : (pAll (σ 1) (σ 0 1) 401 0 s0).1.f = 0 ∧ z_19 = (pAll (σ 1) (σ 0 1) 401 0 s0).2 ∧ σ_19 38 10 = 0 ∧ DN σ_19 = (pAll (σ 1) (σ 0 1) 401 0 s0).1.D ∧ SN σ_19 = (pAll (σ 1) (σ 0 1) 401 0 s0).1.S ∧ σ_19 20 1 = tot (pAll (σ 1) (σ 0 1) 401 0 s0).1.D ∧ OKD (pAll (σ 1) (σ 0 1) 401 0 s0).1.D (pAll (σ 1) (σ 0 1) 401 0 s0).1.S ∧ OKS (pAll (σ 1) (σ 0 1) 401 0 s0).1.S := by
           rcases q19 with y | y
           · exact y
           · exact absurd (y.2.2.symm.trans (zz_32.symm.trans c_35)) y.1
         generalize hRR : pAll (σ 1) (σ 0 1) 401 0 s0 = R at *
         have g0 : ∀ r, 8 ≤ r → r ≠ 14 → r ≠ 15 → r ≠ 16 → r ≠ 17 → r ≠ 18 → r ≠ 19 → σ_57 r = σ_19 r := fun r a b1 b2 b3 b4 b5 b6 => by
           rw [f57 r (by simp; omega), f46 r (by simp; omega)]
           funext k; rw [upd2_r (by omega)]
         have g1 : ∀ r, 8 ≤ r → σ_46 r = σ_19 r := fun r a => by
           rw [f46 r (by simp; omega)]
           funext k; rw [upd2_r (by omega)]
         have hr : ∀ r k, r ≠ 0 → upd2 (upd2 (upd2 σ_57 0 14 0) 0 15 0) 0 11 1 r k = σ_57 r k := fun r k h => by rw [upd2_r h, upd2_r h, upd2_r h]
         have hD : Same (DC (upd2 (upd2 (upd2 σ_57 0 14 0) 0 15 0) 0 11 1)) R.1.D := by
           rw [← y4]
           refine ⟨?_, fun p p0 p1 => ⟨?_, ?_, ?_⟩, fun w w0 w1 => ?_, fun k k0 k1 => ?_⟩
           · show upd2 (upd2 (upd2 σ_57 0 14 0) 0 15 0) 0 11 1 14 0 = σ_19 20 0
             rw [hr 14 _ (by decide), t1, g1 20 (by decide)]
           · show upd2 (upd2 (upd2 σ_57 0 14 0) 0 15 0) 0 11 1 16 p = σ_19 22 p
             rw [hr 16 _ (by decide), (t4 p p0 p1).1, g1 22 (by decide)]
           · show upd2 (upd2 (upd2 σ_57 0 14 0) 0 15 0) 0 11 1 17 p = σ_19 23 p
             rw [hr 17 _ (by decide), (t4 p p0 p1).2.1, g1 23 (by decide)]
           · show upd2 (upd2 (upd2 σ_57 0 14 0) 0 15 0) 0 11 1 18 p = σ_19 24 p
             rw [hr 18 _ (by decide), (t4 p p0 p1).2.2, g1 24 (by decide)]
           · show upd2 (upd2 (upd2 σ_57 0 14 0) 0 15 0) 0 11 1 15 w = σ_19 21 w
             rw [hr 15 _ (by decide), t3 w w0 w1, g1 21 (by decide)]
           · show upd2 (upd2 (upd2 σ_57 0 14 0) 0 15 0) 0 11 1 19 k = σ_19 25 k
             rw [hr 19 _ (by decide), t5 k k0 k1, g1 25 (by decide)]
         have hS : SameS (SC (upd2 (upd2 (upd2 σ_57 0 14 0) 0 15 0) 0 11 1)) R.1.S := by
           have g2 : ∀ r, 2 ≤ r → r ≤ 7 → σ_57 r = σ_46 r := fun r a b => f57 r (by simp; omega)
           have g3 : ∀ r k, 8 ≤ r → upd2 σ_19 0 1 0 r k = σ_19 r k := fun r k a => upd2_r (by omega)
           rw [← y5]
           refine ⟨?_, fun p p0 p1 => ⟨?_, ?_, ?_⟩, fun x x0 x1 => ⟨?_, ?_⟩⟩
           · show upd2 (upd2 (upd2 σ_57 0 14 0) 0 15 0) 0 11 1 2 0 = σ_19 8 0
             rw [hr 2 _ (by decide), g2 2 (by decide) (by decide), s1, g3 8 _ (by decide)]
           · show upd2 (upd2 (upd2 σ_57 0 14 0) 0 15 0) 0 11 1 3 p = σ_19 9 p
             rw [hr 3 _ (by decide), g2 3 (by decide) (by decide), (s2 p p0 p1).1, g3 9 _ (by decide)]
           · show upd2 (upd2 (upd2 σ_57 0 14 0) 0 15 0) 0 11 1 4 p = σ_19 10 p
             rw [hr 4 _ (by decide), g2 4 (by decide) (by decide), (s2 p p0 p1).2.1, g3 10 _ (by decide)]
           · show upd2 (upd2 (upd2 σ_57 0 14 0) 0 15 0) 0 11 1 5 p = σ_19 11 p
             rw [hr 5 _ (by decide), g2 5 (by decide) (by decide), (s2 p p0 p1).2.2, g3 11 _ (by decide)]
           · show upd2 (upd2 (upd2 σ_57 0 14 0) 0 15 0) 0 11 1 6 x = σ_19 12 x
             rw [hr 6 _ (by decide), g2 6 (by decide) (by decide), (s3 x x0 x1).1, g3 12 _ (by decide)]
           · show upd2 (upd2 (upd2 σ_57 0 14 0) 0 15 0) 0 11 1 7 x = σ_19 13 x
             rw [hr 7 _ (by decide), g2 7 (by decide) (by decide), (s3 x x0 x1).2, g3 13 _ (by decide)]
         have z1 : upd2 (upd2 (upd2 σ_57 0 14 0) 0 15 0) 0 11 1 0 1 = 0 := by
           rw [upd2_k (by decide), upd2_k (by decide), upd2_k (by decide), f57 0 (by decide), f46 0 (by decide), upd2_eq]
         have z14 : upd2 (upd2 (upd2 σ_57 0 14 0) 0 15 0) 0 11 1 0 14 = 0 := by rw [upd2_k (by decide), upd2_k (by decide), upd2_eq]
         have z15 : upd2 (upd2 (upd2 σ_57 0 14 0) 0 15 0) 0 11 1 0 15 = 0 := by rw [upd2_k (by decide), upd2_eq]
         have z11 : upd2 (upd2 (upd2 σ_57 0 14 0) 0 15 0) 0 11 1 0 11 = 1 := upd2_eq
         have z38 : upd2 (upd2 (upd2 σ_57 0 14 0) 0 15 0) 0 11 1 38 10 = 0 := by rw [hr 38 _ (by decide), g0 38 (by decide) (by decide) (by decide) (by decide) (by decide) (by decide) (by decide)]; exact y3
         have zt : upd2 (upd2 (upd2 σ_57 0 14 0) 0 15 0) 0 11 1 14 1 = tot R.1.D := by rw [hr 14 _ (by decide), t2, g1 20 (by decide)]; exact y6
         have zr : ∀ r, 70 < r → upd2 (upd2 (upd2 σ_57 0 14 0) 0 15 0) 0 11 1 r = σ r := fun r a => by
           funext k
           rw [hr r k (by omega), g0 r (by omega) (by omega) (by omega) (by omega) (by omega) (by omega) (by omega), f20 r (by simp; omega)]
         generalize upd2 (upd2 (upd2 σ_57 0 14 0) 0 15 0) 0 11 1 = υ at *
         have so := hS.ok y8
         have dd := hD.ok (S := SC υ) (y7.mS (by rw [hS.1]; exact Int.le_refl _))
         subst hRR
         exact ⟨_, rfl, zr, s0, hst, Or.inr ⟨y1, y2, z38, z1, z14, z15, _, _, ⟨rfl, rfl, dd.1, so, by rw [zt, dd.2], by omega, fun k k0 k1 => by omega, fun q => by omega, fun q => absurd z14 q, fun q => absurd z15 q⟩, hD, hS⟩⟩)
  · refine wp_aload_n (pc := 38) dX6_text_38 rfl rfl ?_
    refine wp_getR (pc := 39) (q := 2) dX6_text_39 fl_X6_16 rfl ?_
    refine wp_aload_n (pc := 42) dX6_text_42 rfl rfl ?_
    refine wp_getR (pc := 43) (q := 8) dX6_text_43 fl_X6_27 rfl ?_
    refine wp_cvV1 (pc := 46) dX6_text_46 mv_X6_96 (c_shCopy) (Nat.le_of_ble_eq_true rfl) rfl (Nat.le_of_ble_eq_true rfl) (fun σ_46 h_46 => ?_)
    obtain ⟨f46, s1, s2, s3⟩ := h_46
    refine wp_aload_n (pc := 49) dX6_text_49 rfl rfl ?_
    refine wp_getR (pc := 50) (q := 14) dX6_text_50 fl_X6_23 rfl ?_
    refine wp_aload_n (pc := 53) dX6_text_53 rfl rfl ?_
    refine wp_getR (pc := 54) (q := 20) dX6_text_54 fl_X6_30 rfl ?_
    refine wp_cvV1 (pc := 57) dX6_text_57 mv_X6_100 (c_copyFrom_14_20) (Nat.le_of_ble_eq_true rfl) rfl (Nat.le_of_ble_eq_true rfl) (fun σ_57 h_57 => ?_)
    obtain ⟨f57, t1, t2, t3, t4, t5⟩ := h_57
    refine wp_aload_n (pc := 60) dX6_text_60 rfl rfl ?_
    refine wp_iconst (pc := 61) dX6_text_61 (by decide) ?_
    refine wp_putZ (pc := 62) 14 dX6_text_62 fl_X6_102 ⟨rfl, rfl⟩ rfl rfl (by omega) ?_
    refine wp_aload_n (pc := 65) dX6_text_65 rfl rfl ?_
    refine wp_iconst (pc := 66) dX6_text_66 (by decide) ?_
    refine wp_putZ (pc := 67) 15 dX6_text_67 fl_X6_105 ⟨rfl, rfl⟩ rfl rfl (by omega) ?_
    refine wp_aload_n (pc := 70) dX6_text_70 rfl rfl ?_
    refine wp_iconst (pc := 71) dX6_text_71 (by decide) ?_
    refine wp_putZ (pc := 72) 11 dX6_text_72 fl_X6_70 ⟨rfl, rfl⟩ rfl rfl (by omega) ?_
    refine wp_iload_n (pc := 75) dX6_text_75 rfl rfl ?_
    refine wp_ireturn (pc := 76) dX6_text_76 rfl ?_
    first
      | (have hn : ¬ (pAll (σ 1) (σ 0 1) 401 0 s0).1.f = 0 ∧ z_19 = -10 - (pAll (σ 1) (σ 0 1) 401 0 s0).1.b ∧ σ_19 38 10 = (pAll (σ 1) (σ 0 1) 401 0 s0).1.f := by
           rcases q19 with y | y
           · exact absurd (zz_32.trans y.2.2.1) c_35
           · exact y
         have hf : Frm [0, 8, 9, 10, 11, 12, 13, 20, 21, 22, 23, 24, 25, 38] σ (upd2 σ_19 0 1 0) := (f20.mono (by decide)).up (by decide)
         have h0 : ∀ k, k ≠ 1 → upd2 σ_19 0 1 0 0 k = σ 0 k := fun k hk => by rw [upd2_k hk, f20 0 (by decide)]
         refine ⟨_, rfl, fun r hr => hf r (fun q => by simp at q; omega), s0, hst, Or.inl ⟨hn.1, hn.2.1, ?_, upd2_eq, hC.txt hf h0 upd2_eq, h0, fun r a b => hf r (fun q => by simp at q; omega)⟩⟩
         rw [upd2_r (by decide)]; exact hn.2.2)
      | (obtain ⟨y1, y2, y3, y4, y5, y6, y7, y8⟩ : (pAll (σ 1) (σ 0 1) 401 0 s0).1.f = 0 ∧ z_19 = (pAll (σ 1) (σ 0 1) 401 0 s0).2 ∧ σ_19 38 10 = 0 ∧ DN σ_19 = (pAll (σ 1) (σ 0 1) 401 0 s0).1.D ∧ SN σ_19 = (pAll (σ 1) (σ 0 1) 401 0 s0).1.S ∧ σ_19 20 1 = tot (pAll (σ 1) (σ 0 1) 401 0 s0).1.D ∧ OKD (pAll (σ 1) (σ 0 1) 401 0 s0).1.D (pAll (σ 1) (σ 0 1) 401 0 s0).1.S ∧ OKS (pAll (σ 1) (σ 0 1) 401 0 s0).1.S := by
           rcases q19 with y | y
           · exact y
           · exact absurd (y.2.2.symm.trans (zz_32.symm.trans c_35)) y.1
         generalize hRR : pAll (σ 1) (σ 0 1) 401 0 s0 = R at *
         have g0 : ∀ r, 8 ≤ r → r ≠ 14 → r ≠ 15 → r ≠ 16 → r ≠ 17 → r ≠ 18 → r ≠ 19 → σ_57 r = σ_19 r := fun r a b1 b2 b3 b4 b5 b6 => by
           rw [f57 r (by simp; omega), f46 r (by simp; omega)]
           funext k; rw [upd2_r (by omega)]
         have g1 : ∀ r, 8 ≤ r → σ_46 r = σ_19 r := fun r a => by
           rw [f46 r (by simp; omega)]
           funext k; rw [upd2_r (by omega)]
         have hr : ∀ r k, r ≠ 0 → upd2 (upd2 (upd2 σ_57 0 14 0) 0 15 0) 0 11 1 r k = σ_57 r k := fun r k h => by rw [upd2_r h, upd2_r h, upd2_r h]
         have hD : Same (DC (upd2 (upd2 (upd2 σ_57 0 14 0) 0 15 0) 0 11 1)) R.1.D := by
           rw [← y4]
           refine ⟨?_, fun p p0 p1 => ⟨?_, ?_, ?_⟩, fun w w0 w1 => ?_, fun k k0 k1 => ?_⟩
           · show upd2 (upd2 (upd2 σ_57 0 14 0) 0 15 0) 0 11 1 14 0 = σ_19 20 0
             rw [hr 14 _ (by decide), t1, g1 20 (by decide)]
           · show upd2 (upd2 (upd2 σ_57 0 14 0) 0 15 0) 0 11 1 16 p = σ_19 22 p
             rw [hr 16 _ (by decide), (t4 p p0 p1).1, g1 22 (by decide)]
           · show upd2 (upd2 (upd2 σ_57 0 14 0) 0 15 0) 0 11 1 17 p = σ_19 23 p
             rw [hr 17 _ (by decide), (t4 p p0 p1).2.1, g1 23 (by decide)]
           · show upd2 (upd2 (upd2 σ_57 0 14 0) 0 15 0) 0 11 1 18 p = σ_19 24 p
             rw [hr 18 _ (by decide), (t4 p p0 p1).2.2, g1 24 (by decide)]
           · show upd2 (upd2 (upd2 σ_57 0 14 0) 0 15 0) 0 11 1 15 w = σ_19 21 w
             rw [hr 15 _ (by decide), t3 w w0 w1, g1 21 (by decide)]
           · show upd2 (upd2 (upd2 σ_57 0 14 0) 0 15 0) 0 11 1 19 k = σ_19 25 k
             rw [hr 19 _ (by decide), t5 k k0 k1, g1 25 (by decide)]
         have hS : SameS (SC (upd2 (upd2 (upd2 σ_57 0 14 0) 0 15 0) 0 11 1)) R.1.S := by
           have g2 : ∀ r, 2 ≤ r → r ≤ 7 → σ_57 r = σ_46 r := fun r a b => f57 r (by simp; omega)
           have g3 : ∀ r k, 8 ≤ r → upd2 σ_19 0 1 0 r k = σ_19 r k := fun r k a => upd2_r (by omega)
           rw [← y5]
           refine ⟨?_, fun p p0 p1 => ⟨?_, ?_, ?_⟩, fun x x0 x1 => ⟨?_, ?_⟩⟩
           · show upd2 (upd2 (upd2 σ_57 0 14 0) 0 15 0) 0 11 1 2 0 = σ_19 8 0
             rw [hr 2 _ (by decide), g2 2 (by decide) (by decide), s1, g3 8 _ (by decide)]
           · show upd2 (upd2 (upd2 σ_57 0 14 0) 0 15 0) 0 11 1 3 p = σ_19 9 p
             rw [hr 3 _ (by decide), g2 3 (by decide) (by decide), (s2 p p0 p1).1, g3 9 _ (by decide)]
           · show upd2 (upd2 (upd2 σ_57 0 14 0) 0 15 0) 0 11 1 4 p = σ_19 10 p
             rw [hr 4 _ (by decide), g2 4 (by decide) (by decide), (s2 p p0 p1).2.1, g3 10 _ (by decide)]
           · show upd2 (upd2 (upd2 σ_57 0 14 0) 0 15 0) 0 11 1 5 p = σ_19 11 p
             rw [hr 5 _ (by decide), g2 5 (by decide) (by decide), (s2 p p0 p1).2.2, g3 11 _ (by decide)]
           · show upd2 (upd2 (upd2 σ_57 0 14 0) 0 15 0) 0 11 1 6 x = σ_19 12 x
             rw [hr 6 _ (by decide), g2 6 (by decide) (by decide), (s3 x x0 x1).1, g3 12 _ (by decide)]
           · show upd2 (upd2 (upd2 σ_57 0 14 0) 0 15 0) 0 11 1 7 x = σ_19 13 x
             rw [hr 7 _ (by decide), g2 7 (by decide) (by decide), (s3 x x0 x1).2, g3 13 _ (by decide)]
         have z1 : upd2 (upd2 (upd2 σ_57 0 14 0) 0 15 0) 0 11 1 0 1 = 0 := by
           rw [upd2_k (by decide), upd2_k (by decide), upd2_k (by decide), f57 0 (by decide), f46 0 (by decide), upd2_eq]
         have z14 : upd2 (upd2 (upd2 σ_57 0 14 0) 0 15 0) 0 11 1 0 14 = 0 := by rw [upd2_k (by decide), upd2_k (by decide), upd2_eq]
         have z15 : upd2 (upd2 (upd2 σ_57 0 14 0) 0 15 0) 0 11 1 0 15 = 0 := by rw [upd2_k (by decide), upd2_eq]
         have z11 : upd2 (upd2 (upd2 σ_57 0 14 0) 0 15 0) 0 11 1 0 11 = 1 := upd2_eq
         have z38 : upd2 (upd2 (upd2 σ_57 0 14 0) 0 15 0) 0 11 1 38 10 = 0 := by rw [hr 38 _ (by decide), g0 38 (by decide) (by decide) (by decide) (by decide) (by decide) (by decide) (by decide)]; exact y3
         have zt : upd2 (upd2 (upd2 σ_57 0 14 0) 0 15 0) 0 11 1 14 1 = tot R.1.D := by rw [hr 14 _ (by decide), t2, g1 20 (by decide)]; exact y6
         have zr : ∀ r, 70 < r → upd2 (upd2 (upd2 σ_57 0 14 0) 0 15 0) 0 11 1 r = σ r := fun r a => by
           funext k
           rw [hr r k (by omega), g0 r (by omega) (by omega) (by omega) (by omega) (by omega) (by omega) (by omega), f20 r (by simp; omega)]
         generalize upd2 (upd2 (upd2 σ_57 0 14 0) 0 15 0) 0 11 1 = υ at *
         have so := hS.ok y8
         have dd := hD.ok (S := SC υ) (y7.mS (by rw [hS.1]; exact Int.le_refl _))
         subst hRR
         exact ⟨_, rfl, zr, s0, hst, Or.inr ⟨y1, y2, z38, z1, z14, z15, _, _, ⟨rfl, rfl, dd.1, so, by rw [zt, dd.2], by omega, fun k k0 k1 => by omega, fun q => by omega, fun q => absurd z14 q, fun q => absurd z15 q⟩, hD, hS⟩⟩)
