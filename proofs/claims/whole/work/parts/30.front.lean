def DI (σ : Sto) (b c1 c2 c3 c4 c5 : Nat) : Sto := fun k i => if k = 0 then σ b 0 else if k = 1 then σ c2 i else if k = 2 then σ c3 i else if k = 3 then σ c4 i else if k = 4 then σ c1 i else σ c5 i
abbrev Lay49 (σ D S : Sto) : Prop := LayOK σ 49 50 51 52 53 54 55 56 57 58 59 D S (D 0 0)
abbrev Lay60 (σ D S : Sto) : Prop := LayOK σ 60 61 62 63 64 65 66 67 68 69 70 D S (D 0 0)
-- what holds between two calls, of the class
def CI (σ D S : Sto) : Prop := DC σ = D ∧ SC σ = S ∧ OKD D S ∧ OKS S ∧ σ 14 1 = tot D ∧ (0 ≤ σ 0 1 ∧ σ 0 1 ≤ 400) ∧ (∀ k, 0 ≤ k → k < σ 0 1 → 0 ≤ σ 1 k ∧ σ 1 k ≤ 127) ∧ (σ 0 11 = 0 → Lay49 σ D S) ∧ (¬ σ 0 14 = 0 → OKD (DI σ 26 27 28 29 30 31) S ∧ σ 26 1 = tot (DI σ 26 27 28 29 30 31)) ∧ (¬ σ 0 15 = 0 → OKD (DI σ 32 33 34 35 36 37) S ∧ σ 32 1 = tot (DI σ 32 33 34 35 36 37))
-- only what is laid or drawn may be another
def Obs (σ σ' : Sto) : Prop := ∀ r k, ¬ (38 < r ∧ r < 71) → ¬ (r = 0 ∧ k = 11) → σ' r k = σ r k
set_option maxHeartbeats 4000000 in
set_option maxRecDepth 100000 in
theorem Obs.rf {σ : Sto} : Obs σ σ := fun _ _ _ _ => rfl
set_option maxHeartbeats 4000000 in
set_option maxRecDepth 100000 in
theorem Obs.tr {a b c : Sto} (h1 : Obs a b) (h2 : Obs b c) : Obs a c := fun r k p q => (h2 r k p q).trans (h1 r k p q)
set_option maxHeartbeats 4000000 in
set_option maxRecDepth 100000 in
theorem Obs.of {σ σ' : Sto} {L : List Nat} (h : Frm L σ σ') (hL : ∀ r ∈ L, 38 < r ∧ r < 71) : Obs σ σ' := fun r k p _ => by rw [h r (fun q => p (hL r q))]
set_option maxHeartbeats 4000000 in
set_option maxRecDepth 100000 in
theorem Obs.row {σ σ' : Sto} (h : Obs σ σ') {r : Nat} (hr : ¬ (38 < r ∧ r < 71)) (h0 : r ≠ 0) : σ' r = σ r := funext fun k => h r k hr (fun q => h0 q.1)
set_option maxHeartbeats 4000000 in
set_option maxRecDepth 100000 in
theorem Obs.d {σ σ' : Sto} (h : Obs σ σ') : DC σ' = DC σ ∧ SC σ' = SC σ ∧ DI σ' 26 27 28 29 30 31 = DI σ 26 27 28 29 30 31 ∧ DI σ' 32 33 34 35 36 37 = DI σ 32 33 34 35 36 37 := by
  have e : ∀ r, r < 38 → r ≠ 0 → σ' r = σ r := fun r hr h0 => h.row (by omega) h0
  refine ⟨?_, ?_, ?_, ?_⟩
  · funext k i
    simp only [DC, e 14 (by decide) (by decide), e 15 (by decide) (by decide), e 16 (by decide) (by decide), e 17 (by decide) (by decide), e 18 (by decide) (by decide), e 19 (by decide) (by decide)]
  · funext k i
    simp only [SC, e 2 (by decide) (by decide), e 3 (by decide) (by decide), e 4 (by decide) (by decide), e 5 (by decide) (by decide), e 6 (by decide) (by decide), e 7 (by decide) (by decide)]
  · funext k i
    simp only [DI, e 26 (by decide) (by decide), e 27 (by decide) (by decide), e 28 (by decide) (by decide), e 29 (by decide) (by decide), e 30 (by decide) (by decide), e 31 (by decide) (by decide)]
  · funext k i
    simp only [DI, e 32 (by decide) (by decide), e 33 (by decide) (by decide), e 34 (by decide) (by decide), e 35 (by decide) (by decide), e 36 (by decide) (by decide), e 37 (by decide) (by decide)]
set_option maxHeartbeats 4000000 in
set_option maxRecDepth 100000 in
theorem CI.obs {σ σ' D S : Sto} (h : CI σ D S) (ho : Obs σ σ') (hl : σ' 0 11 = 0 → Lay49 σ' D S) : CI σ' D S := by
  obtain ⟨h1, h2, h3, h4, h5, h6, h7, h8, h9, h10⟩ := h
  obtain ⟨d1, d2, d3, d4⟩ := ho.d
  have e0 : ∀ k, k ≠ 11 → σ' 0 k = σ 0 k := fun k hk => ho 0 k (by omega) (fun q => hk q.2)
  refine ⟨d1.trans h1, d2.trans h2, h3, h4, by rw [ho.row (by decide) (by decide)]; exact h5, by rw [e0 1 (by decide)]; exact h6, by rw [e0 1 (by decide), ho.row (r := 1) (by decide) (by decide)]; exact h7, hl, ?_, ?_⟩
  · rw [e0 14 (by decide), d3, ho.row (r := 26) (by decide) (by decide)]; exact h9
  · rw [e0 15 (by decide), d4, ho.row (r := 32) (by decide) (by decide)]; exact h10
set_option maxHeartbeats 4000000 in
set_option maxRecDepth 100000 in
theorem lay_keep {σ σ' D S : Sto} {L : List Nat} (h : Lay49 σ D S) (hf : Frm L σ σ') (hL : ∀ r ∈ L, r < 49 ∨ 59 < r) : Lay49 σ' D S := by
  have e : ∀ r, 49 ≤ r → r ≤ 59 → σ' r = σ r := fun r h1 h2 => hf r (fun q => by have := hL r q; omega)
  unfold Lay49 LayOK RK LPf at *
  rw [e 49 (by decide) (by decide), e 50 (by decide) (by decide), e 51 (by decide) (by decide), e 52 (by decide) (by decide), e 53 (by decide) (by decide), e 54 (by decide) (by decide), e 55 (by decide) (by decide), e 56 (by decide) (by decide), e 57 (by decide) (by decide), e 58 (by decide) (by decide), e 59 (by decide) (by decide)]
  exact h
-- an observer that only draws
set_option maxHeartbeats 4000000 in
set_option maxRecDepth 100000 in
theorem CI.drw {σ σ' D S : Sto} {L : List Nat} (h : CI σ D S) (hf : Frm L σ σ') (hL : ∀ r ∈ L, (38 < r ∧ r < 49) ∨ (59 < r ∧ r < 71)) : Obs σ σ' ∧ CI σ' D S := by
  have ho : Obs σ σ' := Obs.of hf (fun r hr => by have := hL r hr; omega)
  have e0 : σ' 0 = σ 0 := hf 0 (fun q => by have := hL 0 q; omega)
  exact ⟨ho, h.obs ho (fun hz => lay_keep (h.2.2.2.2.2.2.2.1 (by rw [← e0]; exact hz)) hf (fun r hr => by have := hL r hr; omega))⟩
set_option maxHeartbeats 4000000 in
set_option maxRecDepth 100000 in
theorem c_laid {σ D S : Sto} (hC : CI σ D S) : CtR yX6_laid cX6_laid 1 (some (.object "DropCapitals$Layout")) 4 [mR 0] σ (fun z σ' => z = 49 ∧ Obs σ σ' ∧ CI σ' D S ∧ Lay49 σ' D S) := by
  refine ct_of rfl [some (mR 0)] (Nat.le_of_ble_eq_true rfl) rfl (fun hσ => ?_)
  show Wp cX6_laid RX6 (some (.object "DropCapitals$Layout")) 4 0 [some (mR 0)] [] _ _
  refine wp_aload_n (pc := 0) dX6_laid_0 rfl rfl ?_
  refine wp_getI (pc := 1) 11 dX6_laid_1 fl_X6_70 rfl rfl ?_
  refine wp_if_eq (pc := 4) 19 dX6_laid_4 (by decide) (fun c_4 => ?_) (fun c_4 => ?_)
  · refine wp_aload_n (pc := 19) dX6_laid_19 rfl rfl ?_
    refine wp_getR (pc := 20) (q := 49) dX6_laid_20 fl_X6_63 rfl ?_
    refine wp_areturn (pc := 23) dX6_laid_23 rfl ?_
    first
      | exact ⟨_, rfl, rfl, Obs.rf, hC, hC.2.2.2.2.2.2.2.1 c_4⟩
      | exact ⟨_, rfl, rfl, o11, hC.obs o11 (fun _ => l12), l12⟩
  · refine wp_aload_n (pc := 7) dX6_laid_7 rfl rfl ?_
    refine wp_getR (pc := 8) (q := 49) dX6_laid_8 fl_X6_63 rfl ?_
    refine wp_cvV0 (pc := 11) dX6_laid_11 mv_X6_279 (c_layAll_49 hC.1 hC.2.1 hC.2.2.1 hC.2.2.2.1 hC.2.2.2.2.1) (Nat.le_of_ble_eq_true rfl) rfl (Nat.le_of_ble_eq_true rfl) (fun σ_11 h_11 => ?_)
    obtain ⟨f11, l11⟩ := h_11
    have o11 : Obs σ (upd2 σ_11 0 11 0) := fun r k p q => by
      rw [upd2_ne (fun w => q w)]
      exact Obs.of f11 (by decide) r k p q
    have l12 : Lay49 (upd2 σ_11 0 11 0) D S := lay_keep (L := [0]) l11 (Frm.rf.up (by decide)) (by decide)
    refine wp_aload_n (pc := 14) dX6_laid_14 rfl rfl ?_
    refine wp_iconst (pc := 15) dX6_laid_15 (by decide) ?_
    refine wp_putZ (pc := 16) 11 dX6_laid_16 fl_X6_70 ⟨rfl, rfl⟩ rfl rfl (by omega) ?_
    refine wp_aload_n (pc := 19) dX6_laid_19 rfl rfl ?_
    refine wp_getR (pc := 20) (q := 49) dX6_laid_20 fl_X6_63 rfl ?_
    refine wp_areturn (pc := 23) dX6_laid_23 rfl ?_
    first
      | exact ⟨_, rfl, rfl, Obs.rf, hC, hC.2.2.2.2.2.2.2.1 c_4⟩
      | exact ⟨_, rfl, rfl, o11, hC.obs o11 (fun _ => l12), l12⟩
set_option maxHeartbeats 4000000 in
set_option maxRecDepth 100000 in
theorem c_isPar {σ : Sto} {p : Int} : CtI yX6_isPar cX6_isPar 2 (some .boolean) 0 [mR 0, mI p] σ (fun z σ' => z = (if 0 ≤ p ∧ p < σ 14 0 then 1 else 0) ∧ σ' = σ) := by
  refine ct_of rfl [some (mR 0), some (mI p)] (Nat.le_of_ble_eq_true rfl) rfl (fun hσ => ?_)
  show Wp cX6_isPar RX6 (some .boolean) 0 0 [some (mR 0), some (mI p)] [] _ _
  refine wp_iload_n (pc := 0) dX6_isPar_0 rfl rfl ?_
  refine wp_if_lt (pc := 1) 19 dX6_isPar_1 (by decide) (fun c_1 => ?_) (fun c_1 => ?_)
  · refine wp_iconst (pc := 19) dX6_isPar_19 (by decide) ?_
    refine wp_zreturn (pc := 20) dX6_isPar_20 rfl (by omega) ?_
    exact ⟨_, rfl, by split <;> omega, rfl⟩
  · refine wp_iload_n (pc := 4) dX6_isPar_4 rfl rfl ?_
    refine wp_aload_n (pc := 5) dX6_isPar_5 rfl rfl ?_
    refine wp_getR (pc := 6) (q := 14) dX6_isPar_6 fl_X6_23 rfl ?_
    refine wp_getI (pc := 9) 0 dX6_isPar_9 fl_X6_115 rfl rfl ?_
    refine wp_icmp_ge (pc := 12) 19 dX6_isPar_12 (by decide) (fun c_12 => ?_) (fun c_12 => ?_)
    · refine wp_iconst (pc := 19) dX6_isPar_19 (by decide) ?_
      refine wp_zreturn (pc := 20) dX6_isPar_20 rfl (by omega) ?_
      exact ⟨_, rfl, by split <;> omega, rfl⟩
    · refine wp_iconst (pc := 15) dX6_isPar_15 (by decide) ?_
      refine wp_goto (pc := 16) 20 dX6_isPar_16 (by decide) ?_
      refine wp_zreturn (pc := 20) dX6_isPar_20 rfl (by omega) ?_
      exact ⟨_, rfl, by split <;> omega, rfl⟩
set_option maxHeartbeats 4000000 in
set_option maxRecDepth 100000 in
theorem c_isShape {σ : Sto} {g : Int} : CtI yX6_isShape cX6_isShape 2 (some .boolean) 0 [mR 0, mI g] σ (fun z σ' => z = (if 0 ≤ g ∧ g < σ 2 0 then 1 else 0) ∧ σ' = σ) := by
  refine ct_of rfl [some (mR 0), some (mI g)] (Nat.le_of_ble_eq_true rfl) rfl (fun hσ => ?_)
  show Wp cX6_isShape RX6 (some .boolean) 0 0 [some (mR 0), some (mI g)] [] _ _
  refine wp_iload_n (pc := 0) dX6_isShape_0 rfl rfl ?_
  refine wp_if_lt (pc := 1) 19 dX6_isShape_1 (by decide) (fun c_1 => ?_) (fun c_1 => ?_)
  · refine wp_iconst (pc := 19) dX6_isShape_19 (by decide) ?_
    refine wp_zreturn (pc := 20) dX6_isShape_20 rfl (by omega) ?_
    exact ⟨_, rfl, by split <;> omega, rfl⟩
  · refine wp_iload_n (pc := 4) dX6_isShape_4 rfl rfl ?_
    refine wp_aload_n (pc := 5) dX6_isShape_5 rfl rfl ?_
    refine wp_getR (pc := 6) (q := 2) dX6_isShape_6 fl_X6_16 rfl ?_
    refine wp_getI (pc := 9) 0 dX6_isShape_9 fl_X6_112 rfl rfl ?_
    refine wp_icmp_ge (pc := 12) 19 dX6_isShape_12 (by decide) (fun c_12 => ?_) (fun c_12 => ?_)
    · refine wp_iconst (pc := 19) dX6_isShape_19 (by decide) ?_
      refine wp_zreturn (pc := 20) dX6_isShape_20 rfl (by omega) ?_
      exact ⟨_, rfl, by split <;> omega, rfl⟩
    · refine wp_iconst (pc := 15) dX6_isShape_15 (by decide) ?_
      refine wp_goto (pc := 16) 20 dX6_isShape_16 (by decide) ?_
      refine wp_zreturn (pc := 20) dX6_isShape_20 rfl (by omega) ?_
      exact ⟨_, rfl, by split <;> omega, rfl⟩
set_option maxHeartbeats 4000000 in
set_option maxRecDepth 100000 in
theorem CI.n {σ D S : Sto} (h : CI σ D S) : D 0 0 = σ 14 0 ∧ S 0 0 = σ 2 0 ∧ (0 ≤ σ 14 0 ∧ σ 14 0 ≤ 8) ∧ (0 ≤ σ 2 0 ∧ σ 2 0 ≤ 6) ∧ (∀ p, D 1 p = σ 16 p ∧ D 2 p = σ 17 p ∧ D 3 p = σ 18 p ∧ D 4 p = σ 15 p ∧ D 5 p = σ 19 p) ∧ (∀ g, S 1 g = σ 3 g ∧ S 2 g = σ 4 g ∧ S 3 g = σ 5 g ∧ S 4 g = σ 6 g ∧ S 5 g = σ 7 g) ∧ (0 ≤ σ 14 1 ∧ σ 14 1 ≤ 80) := by
  obtain ⟨h1, h2, h3, h4, h5, -⟩ := h
  have a : D 0 0 = σ 14 0 := by rw [← h1]; rfl
  have b : S 0 0 = σ 2 0 := by rw [← h2]; rfl
  have c := h3.1
  have d := h4.1
  have e := fst_bd h3 (p := D 0 0) h3.1.1 (Int.le_refl _)
  have f := h3.2.2.1
  refine ⟨a, b, by omega, by omega, fun p => ?_, fun g => ?_, by omega⟩
  · rw [← h1]; exact ⟨rfl, rfl, rfl, rfl, rfl⟩
  · rw [← h2]; exact ⟨rfl, rfl, rfl, rfl, rfl⟩
set_option maxHeartbeats 4000000 in
set_option maxRecDepth 100000 in
theorem CI.B {σ D S : Sto} (h : CI σ D S) : PgB σ := by
  obtain ⟨h1, h2, h3, h4, h5, -⟩ := h
  subst h1; subst h2
  exact PgB_of h3 h5
set_option maxHeartbeats 4000000 in
set_option maxRecDepth 100000 in
theorem c_shape {σ D S : Sto} {g w : Int} (hC : CI σ D S) : CtI yX6_shape cX6_shape 3 (some .int) 2 [mR 0, mI g, mI w] σ (fun z σ' => z = aShape S g w ∧ σ' = σ) := by
  refine ct_of rfl [some (mR 0), some (mI g), some (mI w)] (Nat.le_of_ble_eq_true rfl) rfl (fun hσ => ?_)
  show Wp cX6_shape RX6 (some .int) 2 0 [some (mR 0), some (mI g), some (mI w)] [] _ _
  obtain ⟨n1, n2, n3, n4, n5, n6, n7⟩ := hC.n
  have hst : 0 ≤ g → g < σ 2 0 → 1 ≤ σ 5 g ∧ σ 5 g ≤ 8 := fun a b => by have := (hC.2.2.2.1.2 g a (by omega)).2.2.1; rw [(n6 g).2.2.1] at this; exact this
  refine wp_aload_n (pc := 0) dX6_shape_0 rfl rfl ?_
  refine wp_iload_n (pc := 1) dX6_shape_1 rfl rfl ?_
  refine wp_cvI1 (pc := 2) dX6_shape_2 mv_X6_139 c_isShape (Nat.le_of_ble_eq_true rfl) rfl (Nat.le_of_ble_eq_true rfl) (fun z_2 σ_2 h_2 => ?_)
  obtain ⟨zz_2, e_2⟩ := h_2; have e2_2 := e_2.symm; subst e2_2; have y_2 : (z_2 = 1 ∧ 0 ≤ g ∧ g < σ 2 0) ∨ (z_2 = 0 ∧ ¬ (0 ≤ g ∧ g < σ 2 0)) := by split at zz_2 <;> omega
  refine wp_if_ne (pc := 5) 10 dX6_shape_5 (by decide) (fun c_5 => ?_) (fun c_5 => ?_)
  · refine wp_iload_n (pc := 10) dX6_shape_10 rfl rfl ?_
    refine wp_top (fun sw_11 esw_11 => ?_)
    rcases (show (sw_11 < 0 ∨ 3 < sw_11) ∨ sw_11 = 0 ∨ sw_11 = 1 ∨ sw_11 = 2 ∨ sw_11 = 3 by omega) with c_11 | c_11 | c_11 | c_11 | c_11
    · refine wp_tabOut (pc := 11) 79 dX6_shape_11 c_11 (by decide) ?_
      refine wp_iconst (pc := 79) dX6_shape_79 (by decide) ?_
      refine wp_ireturn (pc := 80) dX6_shape_80 rfl ?_
      refine ⟨_, rfl, ?_, rfl⟩
      have n6g := n6 g
      unfold aShape
      first
        | (rw [if_pos (by omega)]; done)
        | (rw [if_neg (by omega), if_pos (by omega)]; omega)
        | (rw [if_neg (by omega), if_neg (by omega), if_pos (by omega)]; omega)
        | (rw [if_neg (by omega), if_neg (by omega), if_neg (by omega), if_pos (by omega)]; omega)
        | (rw [if_neg (by omega), if_neg (by omega), if_neg (by omega), if_neg (by omega), (n6 g).2.2.1]; exact mxI_cong (fun k _ _ => (n6 _).2.2.2.2.symm))
    · refine wp_tabIn (pc := 11) (29) 40 dX6_shape_11 (by omega) (by omega) (by rw [c_11]; rfl) (by decide) ?_
      refine wp_aload_n (pc := 40) dX6_shape_40 rfl rfl ?_
      refine wp_getR (pc := 41) (q := 2) dX6_shape_41 fl_X6_16 rfl ?_
      refine wp_getR (pc := 44) (q := 3) dX6_shape_44 fl_X6_143 rfl ?_
      refine wp_iload_n (pc := 47) dX6_shape_47 rfl rfl ?_
      refine wp_iald (pc := 48) 6 dX6_shape_48 rfl (by omega) ?_
      refine wp_ireturn (pc := 49) dX6_shape_49 rfl ?_
      refine ⟨_, rfl, ?_, rfl⟩
      have n6g := n6 g
      unfold aShape
      first
        | (rw [if_pos (by omega)]; done)
        | (rw [if_neg (by omega), if_pos (by omega)]; omega)
        | (rw [if_neg (by omega), if_neg (by omega), if_pos (by omega)]; omega)
        | (rw [if_neg (by omega), if_neg (by omega), if_neg (by omega), if_pos (by omega)]; omega)
        | (rw [if_neg (by omega), if_neg (by omega), if_neg (by omega), if_neg (by omega), (n6 g).2.2.1]; exact mxI_cong (fun k _ _ => (n6 _).2.2.2.2.symm))
    · refine wp_tabIn (pc := 11) (39) 50 dX6_shape_11 (by omega) (by omega) (by rw [c_11]; rfl) (by decide) ?_
      refine wp_aload_n (pc := 50) dX6_shape_50 rfl rfl ?_
      refine wp_getR (pc := 51) (q := 2) dX6_shape_51 fl_X6_16 rfl ?_
      refine wp_getR (pc := 54) (q := 4) dX6_shape_54 fl_X6_146 rfl ?_
      refine wp_iload_n (pc := 57) dX6_shape_57 rfl rfl ?_
      refine wp_iald (pc := 58) 6 dX6_shape_58 rfl (by omega) ?_
      refine wp_ireturn (pc := 59) dX6_shape_59 rfl ?_
      refine ⟨_, rfl, ?_, rfl⟩
      have n6g := n6 g
      unfold aShape
      first
        | (rw [if_pos (by omega)]; done)
        | (rw [if_neg (by omega), if_pos (by omega)]; omega)
        | (rw [if_neg (by omega), if_neg (by omega), if_pos (by omega)]; omega)
        | (rw [if_neg (by omega), if_neg (by omega), if_neg (by omega), if_pos (by omega)]; omega)
        | (rw [if_neg (by omega), if_neg (by omega), if_neg (by omega), if_neg (by omega), (n6 g).2.2.1]; exact mxI_cong (fun k _ _ => (n6 _).2.2.2.2.symm))
    · refine wp_tabIn (pc := 11) (49) 60 dX6_shape_11 (by omega) (by omega) (by rw [c_11]; rfl) (by decide) ?_
      refine wp_aload_n (pc := 60) dX6_shape_60 rfl rfl ?_
      refine wp_getR (pc := 61) (q := 2) dX6_shape_61 fl_X6_16 rfl ?_
      refine wp_getR (pc := 64) (q := 5) dX6_shape_64 fl_X6_149 rfl ?_
      refine wp_iload_n (pc := 67) dX6_shape_67 rfl rfl ?_
      refine wp_iald (pc := 68) 6 dX6_shape_68 rfl (by omega) ?_
      refine wp_ireturn (pc := 69) dX6_shape_69 rfl ?_
      refine ⟨_, rfl, ?_, rfl⟩
      have n6g := n6 g
      unfold aShape
      first
        | (rw [if_pos (by omega)]; done)
        | (rw [if_neg (by omega), if_pos (by omega)]; omega)
        | (rw [if_neg (by omega), if_neg (by omega), if_pos (by omega)]; omega)
        | (rw [if_neg (by omega), if_neg (by omega), if_neg (by omega), if_pos (by omega)]; omega)
        | (rw [if_neg (by omega), if_neg (by omega), if_neg (by omega), if_neg (by omega), (n6 g).2.2.1]; exact mxI_cong (fun k _ _ => (n6 _).2.2.2.2.symm))
    · refine wp_tabIn (pc := 11) (59) 70 dX6_shape_11 (by omega) (by omega) (by rw [c_11]; rfl) (by decide) ?_
      have hs9 := hst (by omega) (by omega)
      refine wp_aload_n (pc := 70) dX6_shape_70 rfl rfl ?_
      refine wp_getR (pc := 71) (q := 2) dX6_shape_71 fl_X6_16 rfl ?_
      refine wp_iload_n (pc := 74) dX6_shape_74 rfl rfl ?_
      refine wp_cvI1 (pc := 75) dX6_shape_75 mv_X6_152 (c_greatestExtent (by omega) (by omega)) (Nat.le_of_ble_eq_true rfl) rfl (Nat.le_of_ble_eq_true rfl) (fun z_75 σ_75 h_75 => ?_)
      obtain ⟨rfl, e_75⟩ := h_75; have e2_75 := e_75.symm; subst e2_75
      refine wp_ireturn (pc := 78) dX6_shape_78 rfl ?_
      refine ⟨_, rfl, ?_, rfl⟩
      have n6g := n6 g
      unfold aShape
      first
        | (rw [if_pos (by omega)]; done)
        | (rw [if_neg (by omega), if_pos (by omega)]; omega)
        | (rw [if_neg (by omega), if_neg (by omega), if_pos (by omega)]; omega)
        | (rw [if_neg (by omega), if_neg (by omega), if_neg (by omega), if_pos (by omega)]; omega)
        | (rw [if_neg (by omega), if_neg (by omega), if_neg (by omega), if_neg (by omega), (n6 g).2.2.1]; exact mxI_cong (fun k _ _ => (n6 _).2.2.2.2.symm))
  · refine wp_iconst (pc := 8) dX6_shape_8 (by decide) ?_
    refine wp_ireturn (pc := 9) dX6_shape_9 rfl ?_
    refine ⟨_, rfl, ?_, rfl⟩
    have n6g := n6 g
    unfold aShape
    first
      | (rw [if_pos (by omega)]; done)
      | (rw [if_neg (by omega), if_pos (by omega)]; omega)
      | (rw [if_neg (by omega), if_neg (by omega), if_pos (by omega)]; omega)
      | (rw [if_neg (by omega), if_neg (by omega), if_neg (by omega), if_pos (by omega)]; omega)
      | (rw [if_neg (by omega), if_neg (by omega), if_neg (by omega), if_neg (by omega), (n6 g).2.2.1]; exact mxI_cong (fun k _ _ => (n6 _).2.2.2.2.symm))
set_option maxHeartbeats 4000000 in
set_option maxRecDepth 100000 in
theorem c_step {σ D S : Sto} {g i w : Int} (hC : CI σ D S) : CtI yX6_step cX6_step 4 (some .int) 1 [mR 0, mI g, mI i, mI w] σ (fun z σ' => z = aStep S g i w ∧ σ' = σ) := by
  refine ct_of rfl [some (mR 0), some (mI g), some (mI i), some (mI w)] (Nat.le_of_ble_eq_true rfl) rfl (fun hσ => ?_)
  show Wp cX6_step RX6 (some .int) 1 0 [some (mR 0), some (mI g), some (mI i), some (mI w)] [] _ _
  obtain ⟨n1, n2, n3, n4, n5, n6, n7⟩ := hC.n
  have hst : 0 ≤ g → g < σ 2 0 → 1 ≤ σ 5 g ∧ σ 5 g ≤ 8 := fun a b => by have := (hC.2.2.2.1.2 g a (by omega)).2.2.1; rw [(n6 g).2.2.1] at this; exact this
  refine wp_aload_n (pc := 0) dX6_step_0 rfl rfl ?_
  refine wp_iload_n (pc := 1) dX6_step_1 rfl rfl ?_
  refine wp_cvI1 (pc := 2) dX6_step_2 mv_X6_139 c_isShape (Nat.le_of_ble_eq_true rfl) rfl (Nat.le_of_ble_eq_true rfl) (fun z_2 σ_2 h_2 => ?_)
  obtain ⟨zz_2, e_2⟩ := h_2; have e2_2 := e_2.symm; subst e2_2; have y_2 : (z_2 = 1 ∧ 0 ≤ g ∧ g < σ 2 0) ∨ (z_2 = 0 ∧ ¬ (0 ≤ g ∧ g < σ 2 0)) := by split at zz_2 <;> omega
  refine wp_if_eq (pc := 5) 21 dX6_step_5 (by decide) (fun c_5 => ?_) (fun c_5 => ?_)
  · refine wp_iconst (pc := 21) dX6_step_21 (by decide) ?_
    refine wp_ireturn (pc := 22) dX6_step_22 rfl ?_
    refine ⟨_, rfl, ?_, rfl⟩
    have n6g := n6 g
    have n6k := n6 (g * 8 + i)
    unfold aStep
    first
      | (rw [if_pos (by omega)]; done)
      | (rw [if_neg (by omega), if_pos (by omega)]; done)
      | (rw [if_neg (by omega), if_neg (by omega), if_pos (by omega)]; omega)
      | (rw [if_neg (by omega), if_neg (by omega), if_neg (by omega)]; omega)
  · refine wp_iload_n (pc := 8) dX6_step_8 rfl rfl ?_
    refine wp_if_lt (pc := 9) 21 dX6_step_9 (by decide) (fun c_9 => ?_) (fun c_9 => ?_)
    · refine wp_iconst (pc := 21) dX6_step_21 (by decide) ?_
      refine wp_ireturn (pc := 22) dX6_step_22 rfl ?_
      refine ⟨_, rfl, ?_, rfl⟩
      have n6g := n6 g
      have n6k := n6 (g * 8 + i)
      unfold aStep
      first
        | (rw [if_pos (by omega)]; done)
        | (rw [if_neg (by omega), if_pos (by omega)]; done)
        | (rw [if_neg (by omega), if_neg (by omega), if_pos (by omega)]; omega)
        | (rw [if_neg (by omega), if_neg (by omega), if_neg (by omega)]; omega)
    · refine wp_iload_n (pc := 12) dX6_step_12 rfl rfl ?_
      refine wp_if_lt (pc := 13) 21 dX6_step_13 (by decide) (fun c_13 => ?_) (fun c_13 => ?_)
      · refine wp_iconst (pc := 21) dX6_step_21 (by decide) ?_
        refine wp_ireturn (pc := 22) dX6_step_22 rfl ?_
        refine ⟨_, rfl, ?_, rfl⟩
        have n6g := n6 g
        have n6k := n6 (g * 8 + i)
        unfold aStep
        first
          | (rw [if_pos (by omega)]; done)
          | (rw [if_neg (by omega), if_pos (by omega)]; done)
          | (rw [if_neg (by omega), if_neg (by omega), if_pos (by omega)]; omega)
          | (rw [if_neg (by omega), if_neg (by omega), if_neg (by omega)]; omega)
      · refine wp_iload_n (pc := 16) dX6_step_16 rfl rfl ?_
        refine wp_iconst (pc := 17) dX6_step_17 (by decide) ?_
        refine wp_icmp_le (pc := 18) 23 dX6_step_18 (by decide) (fun c_18 => ?_) (fun c_18 => ?_)
        · refine wp_iload_n (pc := 23) dX6_step_23 rfl rfl ?_
          refine wp_aload_n (pc := 24) dX6_step_24 rfl rfl ?_
          refine wp_getR (pc := 25) (q := 2) dX6_step_25 fl_X6_16 rfl ?_
          refine wp_getR (pc := 28) (q := 5) dX6_step_28 fl_X6_149 rfl ?_
          refine wp_iload_n (pc := 31) dX6_step_31 rfl rfl ?_
          refine wp_iald (pc := 32) 6 dX6_step_32 rfl (by omega) ?_
          refine wp_icmp_lt (pc := 33) 39 dX6_step_33 (by decide) (fun c_33 => ?_) (fun c_33 => ?_)
          · have hs9 := hst (by omega) (by omega)
            refine wp_iload_n (pc := 39) dX6_step_39 rfl rfl ?_
            refine wp_if_ne (pc := 40) 55 dX6_step_40 (by decide) (fun c_40 => ?_) (fun c_40 => ?_)
            · refine wp_aload_n (pc := 55) dX6_step_55 rfl rfl ?_
              refine wp_getR (pc := 56) (q := 2) dX6_step_56 fl_X6_16 rfl ?_
              refine wp_iload_n (pc := 59) dX6_step_59 rfl rfl ?_
              refine wp_iload_n (pc := 60) dX6_step_60 rfl rfl ?_
              refine wp_cvI2 (pc := 61) dX6_step_61 mv_X6_158 (c_extentOf (by omega)) (Nat.le_of_ble_eq_true rfl) rfl (Nat.le_of_ble_eq_true rfl) (fun z_61 σ_61 h_61 => ?_)
              obtain ⟨rfl, e_61⟩ := h_61; have e2_61 := e_61.symm; subst e2_61
              refine wp_ireturn (pc := 64) dX6_step_64 rfl ?_
              refine ⟨_, rfl, ?_, rfl⟩
              have n6g := n6 g
              have n6k := n6 (g * 8 + i)
              unfold aStep
              first
                | (rw [if_pos (by omega)]; done)
                | (rw [if_neg (by omega), if_pos (by omega)]; done)
                | (rw [if_neg (by omega), if_neg (by omega), if_pos (by omega)]; omega)
                | (rw [if_neg (by omega), if_neg (by omega), if_neg (by omega)]; omega)
            · refine wp_aload_n (pc := 43) dX6_step_43 rfl rfl ?_
              refine wp_getR (pc := 44) (q := 2) dX6_step_44 fl_X6_16 rfl ?_
              refine wp_iload_n (pc := 47) dX6_step_47 rfl rfl ?_
              refine wp_iload_n (pc := 48) dX6_step_48 rfl rfl ?_
              refine wp_cvI2 (pc := 49) dX6_step_49 mv_X6_155 (c_depthOf (by omega)) (Nat.le_of_ble_eq_true rfl) rfl (Nat.le_of_ble_eq_true rfl) (fun z_49 σ_49 h_49 => ?_)
              obtain ⟨rfl, e_49⟩ := h_49; have e2_49 := e_49.symm; subst e2_49
              refine wp_goto (pc := 52) 64 dX6_step_52 (by decide) ?_
              refine wp_ireturn (pc := 64) dX6_step_64 rfl ?_
              refine ⟨_, rfl, ?_, rfl⟩
              have n6g := n6 g
              have n6k := n6 (g * 8 + i)
              unfold aStep
              first
                | (rw [if_pos (by omega)]; done)
                | (rw [if_neg (by omega), if_pos (by omega)]; done)
                | (rw [if_neg (by omega), if_neg (by omega), if_pos (by omega)]; omega)
                | (rw [if_neg (by omega), if_neg (by omega), if_neg (by omega)]; omega)
          · refine wp_bipush (pc := 36) dX6_step_36 (by decide) (by decide) ?_
            refine wp_ireturn (pc := 38) dX6_step_38 rfl ?_
            refine ⟨_, rfl, ?_, rfl⟩
            have n6g := n6 g
            have n6k := n6 (g * 8 + i)
            unfold aStep
            first
              | (rw [if_pos (by omega)]; done)
              | (rw [if_neg (by omega), if_pos (by omega)]; done)
              | (rw [if_neg (by omega), if_neg (by omega), if_pos (by omega)]; omega)
              | (rw [if_neg (by omega), if_neg (by omega), if_neg (by omega)]; omega)
        · refine wp_iconst (pc := 21) dX6_step_21 (by decide) ?_
          refine wp_ireturn (pc := 22) dX6_step_22 rfl ?_
          refine ⟨_, rfl, ?_, rfl⟩
          have n6g := n6 g
          have n6k := n6 (g * 8 + i)
          unfold aStep
          first
            | (rw [if_pos (by omega)]; done)
            | (rw [if_neg (by omega), if_pos (by omega)]; done)
            | (rw [if_neg (by omega), if_neg (by omega), if_pos (by omega)]; omega)
            | (rw [if_neg (by omega), if_neg (by omega), if_neg (by omega)]; omega)
set_option maxHeartbeats 4000000 in
set_option maxRecDepth 100000 in
theorem c_letter {σ D S : Sto} {p i k : Int} (hC : CI σ D S) : CtI yX6_letter cX6_letter 5 (some .int) 2 [mR 0, mI p, mI i, mI k] σ (fun z σ' => z = aLetter D p i k ∧ σ' = σ) := by
  refine ct_of rfl [some (mR 0), some (mI p), some (mI i), some (mI k), none] (Nat.le_of_ble_eq_true rfl) rfl (fun hσ => ?_)
  show Wp cX6_letter RX6 (some .int) 2 0 [some (mR 0), some (mI p), some (mI i), some (mI k), none] [] _ _
  obtain ⟨n1, n2, n3, n4, n5, n6, n7⟩ := hC.n
  have hB := hC.B
  have hcode : 0 ≤ p → p < σ 14 0 → 0 ≤ i → i < σ 16 p → okC (σ 15 (sumI (σ 16) p + i)) := fun a b c d => by
    have h1 := hB.first (p := p) a (by omega)
    have h2 := hB.first1 (p := p) a b
    have := hC.2.2.1.2.2.2.2.1 (sumI (σ 16) p + i) (by omega) (by rw [← hC.2.2.2.2.1]; omega)
    rw [(n5 _).2.2.2.1] at this
    exact this
  have ef : D 4 (fstS D p + i) = σ 15 (sumI (σ 16) p + i) := by rw [(n5 _).2.2.2.1, show fstS D p = sumI (σ 16) p from sumI_cong (fun k _ _ => (n5 k).1)]
  have n5p := n5 p
  refine wp_aload_n (pc := 0) dX6_letter_0 rfl rfl ?_
  refine wp_iload_n (pc := 1) dX6_letter_1 rfl rfl ?_
  refine wp_cvI1 (pc := 2) dX6_letter_2 mv_X6_161 c_isPar (Nat.le_of_ble_eq_true rfl) rfl (Nat.le_of_ble_eq_true rfl) (fun z_2 σ_2 h_2 => ?_)
  obtain ⟨zz_2, e_2⟩ := h_2; have e2_2 := e_2.symm; subst e2_2; have y_2 : (z_2 = 1 ∧ 0 ≤ p ∧ p < σ 14 0) ∨ (z_2 = 0 ∧ ¬ (0 ≤ p ∧ p < σ 14 0)) := by split at zz_2 <;> omega
  refine wp_if_eq (pc := 5) 16 dX6_letter_5 (by decide) (fun c_5 => ?_) (fun c_5 => ?_)
  · refine wp_iconst (pc := 16) dX6_letter_16 (by decide) ?_
    refine wp_ireturn (pc := 17) dX6_letter_17 rfl ?_
    refine ⟨_, rfl, ?_, rfl⟩
    unfold aLetter
    rw [ef]
    first
      | (rw [if_pos (by omega)]; done)
      | (rw [if_neg (by omega), if_pos (by omega)]; done)
      | (rw [if_neg (by omega), if_neg (by omega), if_pos (by omega)]; done)
      | (rw [if_neg (by omega), if_neg (by omega), if_neg (by omega)]; done)
  · refine wp_iload_n (pc := 8) dX6_letter_8 rfl rfl ?_
    refine wp_if_lt (pc := 9) 16 dX6_letter_9 (by decide) (fun c_9 => ?_) (fun c_9 => ?_)
    · refine wp_iconst (pc := 16) dX6_letter_16 (by decide) ?_
      refine wp_ireturn (pc := 17) dX6_letter_17 rfl ?_
      refine ⟨_, rfl, ?_, rfl⟩
      unfold aLetter
      rw [ef]
      first
        | (rw [if_pos (by omega)]; done)
        | (rw [if_neg (by omega), if_pos (by omega)]; done)
        | (rw [if_neg (by omega), if_neg (by omega), if_pos (by omega)]; done)
        | (rw [if_neg (by omega), if_neg (by omega), if_neg (by omega)]; done)
    · refine wp_iload_n (pc := 12) dX6_letter_12 rfl rfl ?_
      refine wp_if_ge (pc := 13) 18 dX6_letter_13 (by decide) (fun c_13 => ?_) (fun c_13 => ?_)
      · refine wp_iload_n (pc := 18) dX6_letter_18 rfl rfl ?_
        refine wp_aload_n (pc := 19) dX6_letter_19 rfl rfl ?_
        refine wp_getR (pc := 20) (q := 14) dX6_letter_20 fl_X6_23 rfl ?_
        refine wp_getR (pc := 23) (q := 16) dX6_letter_23 fl_X6_164 rfl ?_
        refine wp_iload_n (pc := 26) dX6_letter_26 rfl rfl ?_
        refine wp_iald (pc := 27) 8 dX6_letter_27 rfl (by omega) ?_
        refine wp_icmp_lt (pc := 28) 34 dX6_letter_28 (by decide) (fun c_28 => ?_) (fun c_28 => ?_)
        · refine wp_aload_n (pc := 34) dX6_letter_34 rfl rfl ?_
          refine wp_getR (pc := 35) (q := 14) dX6_letter_35 fl_X6_23 rfl ?_
          refine wp_iload_n (pc := 38) dX6_letter_38 rfl rfl ?_
          refine wp_iload_n (pc := 39) dX6_letter_39 rfl rfl ?_
          refine wp_cvI2 (pc := 40) dX6_letter_40 mv_X6_179 (c_wordOf hB (by omega) (by omega)) (Nat.le_of_ble_eq_true rfl) rfl (Nat.le_of_ble_eq_true rfl) (fun z_40 σ_40 h_40 => ?_)
          obtain ⟨rfl, e_40⟩ := h_40; have e2_40 := e_40.symm; subst e2_40
          refine wp_istore (pc := 43) dX6_letter_43 (Nat.le_of_ble_eq_true rfl) rfl ?_
          have hk := hcode (by omega) (by omega) (by omega) (by omega)
          have hk0 := hk.1
          have hnl : nlt (σ 15 (sumI (σ 16) p + i)) ≤ 6 := (sumI_bd (f := fun k => if ltr (σ 15 (sumI (σ 16) p + i)) k = 0 then 0 else 1) (n := 6) (c := 1) (by decide) (fun k _ _ => by split <;> omega)).2
          refine wp_iload_n (pc := 45) dX6_letter_45 rfl rfl ?_
          refine wp_iload (pc := 46) dX6_letter_46 rfl ?_
          refine wp_csI1 (pc := 48) dX6_letter_48 ms_X6_182 (c_lettersIn (by omega)) (Nat.le_of_ble_eq_true rfl) (Nat.le_of_ble_eq_true rfl) (fun z_48 σ_48 h_48 => ?_)
          obtain ⟨rfl, e_48⟩ := h_48; have e2_48 := e_48.symm; subst e2_48
          refine wp_icmp_lt (pc := 51) 59 dX6_letter_51 (by decide) (fun c_51 => ?_) (fun c_51 => ?_)
          · refine wp_iload (pc := 59) dX6_letter_59 rfl ?_
            refine wp_iload_n (pc := 61) dX6_letter_61 rfl rfl ?_
            refine wp_csI2 (pc := 62) dX6_letter_62 ms_X6_197 (c_letterOf (by omega)) (Nat.le_of_ble_eq_true rfl) (Nat.le_of_ble_eq_true rfl) (fun z_62 σ_62 h_62 => ?_)
            obtain ⟨rfl, e_62⟩ := h_62; have e2_62 := e_62.symm; subst e2_62
            refine wp_ireturn (pc := 65) dX6_letter_65 rfl ?_
            refine ⟨_, rfl, ?_, rfl⟩
            unfold aLetter
            rw [ef]
            first
              | (rw [if_pos (by omega)]; done)
              | (rw [if_neg (by omega), if_pos (by omega)]; done)
              | (rw [if_neg (by omega), if_neg (by omega), if_pos (by omega)]; done)
              | (rw [if_neg (by omega), if_neg (by omega), if_neg (by omega)]; done)
          · refine wp_bipush (pc := 54) dX6_letter_54 (by decide) (by decide) ?_
            refine wp_goto (pc := 56) 65 dX6_letter_56 (by decide) ?_
            refine wp_ireturn (pc := 65) dX6_letter_65 rfl ?_
            refine ⟨_, rfl, ?_, rfl⟩
            unfold aLetter
            rw [ef]
            first
              | (rw [if_pos (by omega)]; done)
              | (rw [if_neg (by omega), if_pos (by omega)]; done)
              | (rw [if_neg (by omega), if_neg (by omega), if_pos (by omega)]; done)
              | (rw [if_neg (by omega), if_neg (by omega), if_neg (by omega)]; done)
        · refine wp_bipush (pc := 31) dX6_letter_31 (by decide) (by decide) ?_
          refine wp_ireturn (pc := 33) dX6_letter_33 rfl ?_
          refine ⟨_, rfl, ?_, rfl⟩
          unfold aLetter
          rw [ef]
          first
            | (rw [if_pos (by omega)]; done)
            | (rw [if_neg (by omega), if_pos (by omega)]; done)
            | (rw [if_neg (by omega), if_neg (by omega), if_pos (by omega)]; done)
            | (rw [if_neg (by omega), if_neg (by omega), if_neg (by omega)]; done)
      · refine wp_iconst (pc := 16) dX6_letter_16 (by decide) ?_
        refine wp_ireturn (pc := 17) dX6_letter_17 rfl ?_
        refine ⟨_, rfl, ?_, rfl⟩
        unfold aLetter
        rw [ef]
        first
          | (rw [if_pos (by omega)]; done)
          | (rw [if_neg (by omega), if_pos (by omega)]; done)
          | (rw [if_neg (by omega), if_neg (by omega), if_pos (by omega)]; done)
          | (rw [if_neg (by omega), if_neg (by omega), if_neg (by omega)]; done)
