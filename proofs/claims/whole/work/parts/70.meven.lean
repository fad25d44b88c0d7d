set_option maxHeartbeats 4000000 in
set_option maxRecDepth 100000 in
theorem rpM_up {τ : Sto} {r : Nat} {k v x : Int} {e : Int × Int × Int} (hr : r < 88) (h : rpM τ x e) : rpM (upd2 τ r k v) x e := by
  unfold rpM at *
  rw [upd2_r (by omega), upd2_r (by omega), upd2_r (by omega)]
  exact h
set_option maxHeartbeats 4000000 in
set_option maxRecDepth 100000 in
theorem m_laysEven {σ D S : Sto} {p : Int} (h : RM σ D S) (hp : 0 ≤ p ∧ p < D 0 0) (hB : ∀ q, 0 ≤ q → q ≤ p → σ 82 q = LB D S q) : CtV yX7_laysEven cX7_laysEven 8 none 6 [mR 71, mI p, mI (LM D S p)] σ (fun σ' => Frm [85, 86, 88, 89, 90] σ σ' ∧ (∀ t, 0 ≤ t → t < LM D S p → σ' 85 (LB D S p + t) = fstS D p + evP (wdS D p) (rmS D S p) (D 1 p) (LM D S p) t.toNat ∧ σ' 86 (LB D S p + t) = evK (wdS D p) (rmS D S p) (D 1 p) (LM D S p) t) ∧ ∀ x, (x < LB D S p ∨ LB D S p + LM D S p ≤ x) → σ' 85 x = σ 85 x ∧ σ' 86 x = σ 86 x) := by
  refine ct_of rfl [some (mR 71), some (mI p), some (mI (LM D S p)), none, none, none, none, none] (Nat.le_of_ble_eq_true rfl) rfl (fun hσ => ?_)
  show Wp cX7_laysEven RX7 none 6 0 [some (mR 71), some (mI p), some (mI (LM D S p)), none, none, none, none, none] [] _ _
  have nn := h.n
  have q := h.p hp.1 hp.2
  have lb := LBb h.2.2.2.1 hp.1 hp.2
  have le := LE_eq D S hp.1
  have hBp := hB p hp.1 (Int.le_refl _)
  have hw0 : ∀ k, 0 ≤ k → k < D 1 p → 0 ≤ wdS D p k := fun k _ _ => (wdS_bd D p k).1
  have hR9 : ∀ t, rmS D S p t ≤ 99 := fun t => (roomS_bd h.2.2.2.1 h.2.2.2.2 (LB D S) _ hp.1 hp.2).2
  have hR0 : ∀ t, 0 ≤ rmS D S p t := fun t => (roomS_bd h.2.2.2.1 h.2.2.2.2 (LB D S) _ hp.1 hp.2).1
  obtain ⟨hG, m1, m2⟩ := LG_ok D S (show 1 ≤ D 1 p by omega)
  -- the lines
  have lp2 : ∀ t, t ≤ LM D S p → 0 ≤ t → ∀ (τ : Sto), Frm [85, 86, 88, 89, 90] σ τ → (∀ j w, 0 ≤ j → j < LM D S p → 0 ≤ w → w < D 1 p → rpM τ (81 * j + w) (evS (wdS D p) (rmS D S p) (D 1 p) (LM D S p) (LM D S p - j).toNat w)) → (∀ u, 0 ≤ u → u < t → τ 85 (LB D S p + u) = fstS D p + evP (wdS D p) (rmS D S p) (D 1 p) (LM D S p) u.toNat ∧ τ 86 (LB D S p + u) = evK (wdS D p) (rmS D S p) (D 1 p) (LM D S p) u) → (∀ x, (x < LB D S p ∨ LB D S p + t ≤ x) → τ 85 x = σ 85 x ∧ τ 86 x = σ 86 x) → Wp cX7_laysEven RX7 none 6 102 [some (mR 71), some (mI p), some (mI (LM D S p)), some (mI (D 1 p)), some (mI (fstS D p)), some (mI (evP (wdS D p) (rmS D S p) (D 1 p) (LM D S p) t.toNat)), some (mI t), none] [] τ (fun v σ' => v = none ∧ (fun σ' => Frm [85, 86, 88, 89, 90] σ σ' ∧ (∀ t, 0 ≤ t → t < LM D S p → σ' 85 (LB D S p + t) = fstS D p + evP (wdS D p) (rmS D S p) (D 1 p) (LM D S p) t.toNat ∧ σ' 86 (LB D S p + t) = evK (wdS D p) (rmS D S p) (D 1 p) (LM D S p) t) ∧ ∀ x, (x < LB D S p ∨ LB D S p + LM D S p ≤ x) → σ' 85 x = σ 85 x ∧ σ' 86 x = σ 86 x) σ') := by
    refine up_ind _ (fun t ht ih t0 τ hF htab hd ho => ?_)
    have hP := evP_ok hw0 hG t.toNat (by omega)
    rw [show ((t.toNat : Nat) : Int) = t by omega] at hP
    have hrem := fun c => evS_rem (wd := wdS D p) (rm := rmS D S p) (n := D 1 p) (m := LM D S p) ((LM D S p).toNat - t.toNat) (evP (wdS D p) (rmS D S p) (D 1 p) (LM D S p) t.toNat) (hP.2.2.2.1 (show t < LM D S p from c))
    have epe : evP (wdS D p) (rmS D S p) (D 1 p) (LM D S p) (t + 1).toNat = evP (wdS D p) (rmS D S p) (D 1 p) (LM D S p) t.toNat + evK (wdS D p) (rmS D S p) (D 1 p) (LM D S p) t := by
      rw [show (t + 1).toNat = t.toNat + 1 by omega]; rfl
    have hP2 := fun c : t < LM D S p => evP_ok hw0 hG (t + 1).toNat (by omega)
    have e82 : τ 82 p = LB D S p := by rw [hF 82 (by decide)]; exact hBp
    generalize hE : evP (wdS D p) (rmS D S p) (D 1 p) (LM D S p) t.toNat = E at *
    refine wp_iload (pc := 102) dX7_laysEven_102 rfl ?_
    refine wp_iload_n (pc := 104) dX7_laysEven_104 rfl rfl ?_
    refine wp_icmp_ge (pc := 105) 178 dX7_laysEven_105 (by decide) (fun c_105 => ?_) (fun c_105 => ?_)
    · refine wp_return (pc := 178) dX7_laysEven_178 rfl ?_
      exact ⟨rfl, hF, fun u u0 u1 => hd u u0 (by omega), fun x hx => ho x (by omega)⟩
    · have htM : t < LM D S p := by omega
      have hrem2 := hrem htM
      have hpos := hP.2.2.2.1 htM
      have hP3 := hP2 htM
      rw [epe] at hP3
      have hr := (htab t E t0 htM hP.1 (by omega)).1
      have hr2 : τ 90 (81 * t + E) = evK (wdS D p) (rmS D S p) (D 1 p) (LM D S p) t := by
        rw [hr, show (LM D S p - t).toNat = (LM D S p).toNat - t.toNat by omega]
        unfold evK
        rw [hE]
      have hfh := hG.hi (t + 1) (by omega) (by omega)
      have hg3 : ((((t + 1).toNat : Nat) : Int)) = t + 1 := by omega
      rw [hg3] at hP3
      refine wp_aload_n (pc := 108) dX7_laysEven_108 rfl rfl ?_
      refine wp_getR (pc := 109) (q := 85) dX7_laysEven_109 fl_X7_50 rfl ?_
      refine wp_aload_n (pc := 112) dX7_laysEven_112 rfl rfl ?_
      refine wp_getR (pc := 113) (q := 82) dX7_laysEven_113 fl_X7_41 rfl ?_
      refine wp_iload_n (pc := 116) dX7_laysEven_116 rfl rfl ?_
      refine wp_iald (pc := 117) 9 dX7_laysEven_117 rfl (by omega) ?_
      rw [e82]
      refine wp_iload (pc := 118) dX7_laysEven_118 rfl ?_
      refine wp_iadd (pc := 120) dX7_laysEven_120 (by omega) ?_
      refine wp_iload (pc := 121) dX7_laysEven_121 rfl ?_
      refine wp_iload (pc := 123) dX7_laysEven_123 rfl ?_
      refine wp_iadd (pc := 125) dX7_laysEven_125 (by omega) ?_
      refine wp_iast (pc := 126) 300 dX7_laysEven_126 rfl (by omega) ?_
      refine wp_aload_n (pc := 127) dX7_laysEven_127 rfl rfl ?_
      refine wp_getR (pc := 128) (q := 86) dX7_laysEven_128 fl_X7_53 rfl ?_
      refine wp_aload_n (pc := 131) dX7_laysEven_131 rfl rfl ?_
      refine wp_getR (pc := 132) (q := 82) dX7_laysEven_132 fl_X7_41 rfl ?_
      refine wp_iload_n (pc := 135) dX7_laysEven_135 rfl rfl ?_
      refine wp_iald (pc := 136) 9 dX7_laysEven_136 rfl (by omega) ?_
      rw [upd2_r (r := 85) (r' := 82) (by decide)]
      rw [e82]
      refine wp_iload (pc := 137) dX7_laysEven_137 rfl ?_
      refine wp_iadd (pc := 139) dX7_laysEven_139 (by omega) ?_
      refine wp_aload_n (pc := 140) dX7_laysEven_140 rfl rfl ?_
      refine wp_getR (pc := 141) (q := 90) dX7_laysEven_141 fl_X7_65 rfl ?_
      refine wp_bipush (pc := 144) dX7_laysEven_144 (by decide) (by decide) ?_
      refine wp_iload (pc := 146) dX7_laysEven_146 rfl ?_
      refine wp_imul (pc := 148) dX7_laysEven_148 (by omega) ?_
      refine wp_iload (pc := 149) dX7_laysEven_149 rfl ?_
      refine wp_iadd (pc := 151) dX7_laysEven_151 (by omega) ?_
      refine wp_iald (pc := 152) 6642 dX7_laysEven_152 rfl (by omega) ?_
      rw [upd2_r (r := 85) (r' := 90) (by decide)]
      rw [hr2]
      refine wp_iast (pc := 153) 300 dX7_laysEven_153 rfl (by omega) ?_
      refine wp_iload (pc := 154) dX7_laysEven_154 rfl ?_
      refine wp_aload_n (pc := 156) dX7_laysEven_156 rfl rfl ?_
      refine wp_getR (pc := 157) (q := 90) dX7_laysEven_157 fl_X7_65 rfl ?_
      refine wp_bipush (pc := 160) dX7_laysEven_160 (by decide) (by decide) ?_
      refine wp_iload (pc := 162) dX7_laysEven_162 rfl ?_
      refine wp_imul (pc := 164) dX7_laysEven_164 (by omega) ?_
      refine wp_iload (pc := 165) dX7_laysEven_165 rfl ?_
      refine wp_iadd (pc := 167) dX7_laysEven_167 (by omega) ?_
      refine wp_iald (pc := 168) 6642 dX7_laysEven_168 rfl (by omega) ?_
      rw [upd2_r (r := 86) (r' := 90) (by decide), upd2_r (r := 85) (r' := 90) (by decide)]
      rw [hr2]
      refine wp_iadd (pc := 169) dX7_laysEven_169 (by omega) ?_
      refine wp_istore (pc := 170) dX7_laysEven_170 (Nat.le_of_ble_eq_true rfl) rfl ?_
      refine wp_iinc (pc := 172) dX7_laysEven_172 rfl rfl (by omega) ?_
      refine wp_goto (pc := 175) 102 dX7_laysEven_175 (by decide) ?_
      have := ih htM (by omega) (upd2 (upd2 τ 85 (LB D S p + t) (fstS D p + E)) 86 (LB D S p + t) (evK (wdS D p) (rmS D S p) (D 1 p) (LM D S p) t)) ((hF.up (by decide)).up (by decide)) (fun j w j0 j1 w0 w1 => rpM_up (by decide) (rpM_up (by decide) (htab j w j0 j1 w0 w1))) (fun u u0 u1 => ?_) (fun x hx => ?_)
      · rw [epe] at this
        exact this
      · by_cases e : u = t
        · rw [e, hE, upd2_r (by decide), upd2_eq, upd2_eq]
          exact ⟨rfl, rfl⟩
        · rw [upd2_r (by decide), upd2_k (by omega), upd2_k (by omega), upd2_r (by decide)]
          exact hd u u0 (by omega)
      · rw [upd2_r (by decide), upd2_k (by omega), upd2_k (by omega), upd2_r (by decide)]
        exact ho x (by omega)
  -- the table
  have lp : ∀ j, -1 ≤ j → j < LM D S p → ∀ (τ : Sto), Frm [88, 89, 90] σ τ → (∀ j' w, 0 ≤ j' → j < j' → j' < LM D S p → 0 ≤ w → w < D 1 p → rpM τ (81 * j' + w) (evS (wdS D p) (rmS D S p) (D 1 p) (LM D S p) (LM D S p - j').toNat w)) → Wp cX7_laysEven RX7 none 6 18 [some (mR 71), some (mI p), some (mI (LM D S p)), some (mI (D 1 p)), some (mI (fstS D p)), some (mI j), none, none] [] τ (fun v σ' => v = none ∧ (fun σ' => Frm [85, 86, 88, 89, 90] σ σ' ∧ (∀ t, 0 ≤ t → t < LM D S p → σ' 85 (LB D S p + t) = fstS D p + evP (wdS D p) (rmS D S p) (D 1 p) (LM D S p) t.toNat ∧ σ' 86 (LB D S p + t) = evK (wdS D p) (rmS D S p) (D 1 p) (LM D S p) t) ∧ ∀ x, (x < LB D S p ∨ LB D S p + LM D S p ≤ x) → σ' 85 x = σ 85 x ∧ σ' 86 x = σ 86 x) σ') := by
    refine down_ind (-1) (fun j hj ih hjm τ hF htab => ?_)
    have e82 : τ 82 p = LB D S p := by rw [hF 82 (by decide)]; exact hBp
    have hRM : RM τ D S := h.kp (hF 72 (by decide)) (hF 74 (by decide)) (by rw [hF 71 (by decide)])
    have hBt : ∀ q, 0 ≤ q → q ≤ p → τ 82 q = LB D S q := fun q q0 q1 => by rw [hF 82 (by decide)]; exact hB q q0 q1
    have inn : 0 ≤ j → ∀ w, w ≤ D 1 p → 0 ≤ w → ∀ (υ : Sto), Frm [88, 89, 90] σ υ → (∀ j' w, 0 ≤ j' → j < j' → j' < LM D S p → 0 ≤ w → w < D 1 p → rpM υ (81 * j' + w) (evS (wdS D p) (rmS D S p) (D 1 p) (LM D S p) (LM D S p - j').toNat w)) → (∀ v, 0 ≤ v → v < w → rpM υ (81 * j + v) (evS (wdS D p) (rmS D S p) (D 1 p) (LM D S p) (LM D S p - j).toNat v)) → Wp cX7_laysEven RX7 none 6 42 [some (mR 71), some (mI p), some (mI (LM D S p)), some (mI (D 1 p)), some (mI (fstS D p)), some (mI j), some (mI (rmS D S p j)), some (mI w)] [] υ (fun v σ' => v = none ∧ (fun σ' => Frm [85, 86, 88, 89, 90] σ σ' ∧ (∀ t, 0 ≤ t → t < LM D S p → σ' 85 (LB D S p + t) = fstS D p + evP (wdS D p) (rmS D S p) (D 1 p) (LM D S p) t.toNat ∧ σ' 86 (LB D S p + t) = evK (wdS D p) (rmS D S p) (D 1 p) (LM D S p) t) ∧ ∀ x, (x < LB D S p ∨ LB D S p + LM D S p ≤ x) → σ' 85 x = σ 85 x ∧ σ' 86 x = σ 86 x) σ') := by
      intro j0
      refine up_ind _ (fun w hw ihw w0 υ hFu htu hrow => ?_)
      have hRu : RM υ D S := h.kp (hFu 72 (by decide)) (hFu 74 (by decide)) (by rw [hFu 71 (by decide)])
      have er1 : (LM D S p - j).toNat = (LM D S p - 1 - j).toNat + 1 := by omega
      have er2 : (((LM D S p - 1 - j).toNat : Nat) : Int) = LM D S p - 1 - j := by omega
      have eev : evS (wdS D p) (rmS D S p) (D 1 p) (LM D S p) (LM D S p - j).toNat w = evB (wdS D p) (rmS D S p j) (D 1 p) w (LM D S p - 1 - j).toNat (evS (wdS D p) (rmS D S p) (D 1 p) (LM D S p) (LM D S p - 1 - j).toNat) (D 1 p - w).toNat := by
        rw [er1]
        show evB (wdS D p) (rmS D S p (LM D S p - ((((LM D S p - 1 - j).toNat : Nat) : Int) + 1))) (D 1 p) w _ _ _ = _
        rw [er2, show LM D S p - (LM D S p - 1 - j + 1) = j by omega]
      have hbd : ∀ v, w < v → v < D 1 p → 0 < (evS (wdS D p) (rmS D S p) (D 1 p) (LM D S p) (LM D S p - 1 - j).toNat v).1 → (0 ≤ (evS (wdS D p) (rmS D S p) (D 1 p) (LM D S p) (LM D S p - 1 - j).toNat v).2.1 ∧ (evS (wdS D p) (rmS D S p) (D 1 p) (LM D S p) (LM D S p - 1 - j).toNat v).2.1 ≤ 100) ∧ 0 ≤ (evS (wdS D p) (rmS D S p) (D 1 p) (LM D S p) (LM D S p - 1 - j).toNat v).2.2 ∧ (evS (wdS D p) (rmS D S p) (D 1 p) (LM D S p) (LM D S p - 1 - j).toNat v).2.2 ≤ 1000000 := fun v v0 v1 hv => by
        have := evS_bd hw0 hR9 (LM D S p - 1 - j).toNat v (by omega) hv
        rw [er2] at this
        omega
      have w79 : ∀ il : Int, w < D 1 p → ((il = 1 ∧ j = LM D S p - 1) ∨ (il = 0 ∧ j < LM D S p - 1)) → Wp cX7_laysEven RX7 none 6 79 [some (mR 71), some (mI p), some (mI (LM D S p)), some (mI (D 1 p)), some (mI (fstS D p)), some (mI j), some (mI (rmS D S p j)), some (mI w)] [mI il, mI (D 1 p - w), mI (fstS D p + w), mI (81 * j + w), mR 71] υ (fun v σ' => v = none ∧ (fun σ' => Frm [85, 86, 88, 89, 90] σ σ' ∧ (∀ t, 0 ≤ t → t < LM D S p → σ' 85 (LB D S p + t) = fstS D p + evP (wdS D p) (rmS D S p) (D 1 p) (LM D S p) t.toNat ∧ σ' 86 (LB D S p + t) = evK (wdS D p) (rmS D S p) (D 1 p) (LM D S p) t) ∧ ∀ x, (x < LB D S p ∨ LB D S p + LM D S p ≤ x) → σ' 85 x = σ 85 x ∧ σ' 86 x = σ 86 x) σ') := by
        intro il hw1 hil
        refine wp_iload (pc := 79) dX7_laysEven_79 rfl ?_
        refine wp_cvV5 (pc := 81) dX7_laysEven_81 mv_X7_210 (m_choosesAt (n := D 1 p) (w := w) (r := (LM D S p - 1 - j).toNat) (nx := evS (wdS D p) (rmS D S p) (D 1 p) (LM D S p) (LM D S p - 1 - j).toNat) hRu hp rfl ⟨w0, hw1⟩ ⟨by omega, by omega⟩ ⟨hR0 j, hR9 j⟩ (by omega) (fun hr c c1 c2 => by have := htu (j + 1) (w + c) (by omega) (by omega) (by omega) (by omega) c2; rw [show (LM D S p - (j + 1)).toNat = (LM D S p - 1 - j).toNat by omega, show 81 * (j + 1) + (w + c) = 81 * j + w + 81 + c by omega] at this; exact this) hbd rfl rfl) (Nat.le_of_ble_eq_true rfl) rfl (Nat.le_of_ble_eq_true rfl) (fun σ_81 h_81 => ?_)
        obtain ⟨f81, o81, r81⟩ := h_81
        have keep : ∀ x e, x ≠ 81 * j + w → rpM υ x e → rpM σ_81 x e := fun x e hx hr => by
          obtain ⟨o1, o2, o3⟩ := o81 x hx
          unfold rpM at *
          rw [o1, o2, o3]; exact hr
        refine wp_iinc (pc := 84) dX7_laysEven_84 rfl rfl (by omega) ?_
        refine wp_goto (pc := 87) 42 dX7_laysEven_87 (by decide) ?_
        refine ihw hw1 (by omega) σ_81 (hFu.tr f81) (fun j' v a b c d e => keep _ _ (by omega) (htu j' v a b c d e)) (fun v v0 v1 => ?_)
        by_cases hv : v = w
        · rw [hv, eev]; exact r81
        · exact keep _ _ (by omega) (hrow v v0 (by omega))
      refine wp_iload (pc := 42) dX7_laysEven_42 rfl ?_
      refine wp_iload_n (pc := 44) dX7_laysEven_44 rfl rfl ?_
      refine wp_icmp_ge (pc := 45) 90 dX7_laysEven_45 (by decide) (fun c_45 => ?_) (fun c_45 => ?_)
      · refine wp_iinc (pc := 90) dX7_laysEven_90 rfl rfl (by omega) ?_
        refine wp_goto (pc := 93) 18 dX7_laysEven_93 (by decide) ?_
        refine wp_fgt [6, 7] (ih (by omega) (by omega) υ hFu (fun j' v a b c d e => ?_))
        by_cases hjj : j' = j
        · rw [hjj]; exact hrow v d (by omega)
        · exact htu j' v a (by omega) c d e
      · refine wp_aload_n (pc := 48) dX7_laysEven_48 rfl rfl ?_
        refine wp_bipush (pc := 49) dX7_laysEven_49 (by decide) (by decide) ?_
        refine wp_iload (pc := 51) dX7_laysEven_51 rfl ?_
        refine wp_imul (pc := 53) dX7_laysEven_53 (by omega) ?_
        refine wp_iload (pc := 54) dX7_laysEven_54 rfl ?_
        refine wp_iadd (pc := 56) dX7_laysEven_56 (by omega) ?_
        refine wp_iload (pc := 57) dX7_laysEven_57 rfl ?_
        refine wp_iload (pc := 59) dX7_laysEven_59 rfl ?_
        refine wp_iadd (pc := 61) dX7_laysEven_61 (by omega) ?_
        refine wp_iload_n (pc := 62) dX7_laysEven_62 rfl rfl ?_
        refine wp_iload (pc := 63) dX7_laysEven_63 rfl ?_
        refine wp_isub (pc := 65) dX7_laysEven_65 (by omega) ?_
        refine wp_iload (pc := 66) dX7_laysEven_66 rfl ?_
        refine wp_iload_n (pc := 68) dX7_laysEven_68 rfl rfl ?_
        refine wp_iconst (pc := 69) dX7_laysEven_69 (by decide) ?_
        refine wp_isub (pc := 70) dX7_laysEven_70 (by omega) ?_
        refine wp_icmp_ne (pc := 71) 78 dX7_laysEven_71 (by decide) (fun c_71 => ?_) (fun c_71 => ?_)
        · refine wp_iconst (pc := 78) dX7_laysEven_78 (by decide) ?_
          first
            | exact w79 _ (by omega) (Or.inl ⟨rfl, by omega⟩)
            | exact w79 _ (by omega) (Or.inr ⟨rfl, by omega⟩)
        · refine wp_iconst (pc := 74) dX7_laysEven_74 (by decide) ?_
          refine wp_goto (pc := 75) 79 dX7_laysEven_75 (by decide) ?_
          first
            | exact w79 _ (by omega) (Or.inl ⟨rfl, by omega⟩)
            | exact w79 _ (by omega) (Or.inr ⟨rfl, by omega⟩)
    refine wp_iload (pc := 18) dX7_laysEven_18 rfl ?_
    refine wp_if_lt (pc := 20) 96 dX7_laysEven_20 (by decide) (fun c_20 => ?_) (fun c_20 => ?_)
    · refine wp_iconst (pc := 96) dX7_laysEven_96 (by decide) ?_
      refine wp_istore (pc := 97) dX7_laysEven_97 (Nat.le_of_ble_eq_true rfl) rfl ?_
      refine wp_iconst (pc := 99) dX7_laysEven_99 (by decide) ?_
      refine wp_istore (pc := 100) dX7_laysEven_100 (Nat.le_of_ble_eq_true rfl) rfl ?_
      exact lp2 0 (by omega) (by decide) τ (hF.mono (by decide)) (fun j' v a b c d => htab j' v a (by omega) b c d) (fun u u0 u1 => by omega) (fun x hx => by rw [hF 85 (by decide), hF 86 (by decide)]; exact ⟨rfl, rfl⟩)
    · refine wp_aload_n (pc := 23) dX7_laysEven_23 rfl rfl ?_
      refine wp_iload_n (pc := 24) dX7_laysEven_24 rfl rfl ?_
      refine wp_aload_n (pc := 25) dX7_laysEven_25 rfl rfl ?_
      refine wp_getR (pc := 26) (q := 82) dX7_laysEven_26 fl_X7_41 rfl ?_
      refine wp_iload_n (pc := 29) dX7_laysEven_29 rfl rfl ?_
      refine wp_iald (pc := 30) 9 dX7_laysEven_30 rfl (by omega) ?_
      rw [e82]
      refine wp_iload (pc := 31) dX7_laysEven_31 rfl ?_
      refine wp_iadd (pc := 33) dX7_laysEven_33 (by omega) ?_
      refine wp_cvI2 (pc := 34) dX7_laysEven_34 mv_X7_204 (m_roomAt hRM hp hBt (by omega)) (Nat.le_of_ble_eq_true rfl) rfl (Nat.le_of_ble_eq_true rfl) (fun z_34 σ_34 h_34 => ?_)
      obtain ⟨rfl, e_34⟩ := h_34; have e2_34 := e_34.symm; subst e2_34
      rw [show roomS D S (LB D S) p (LB D S p + j) = rmS D S p j from rfl]
      refine wp_istore (pc := 37) dX7_laysEven_37 (Nat.le_of_ble_eq_true rfl) rfl ?_
      refine wp_iconst (pc := 39) dX7_laysEven_39 (by decide) ?_
      refine wp_istore (pc := 40) dX7_laysEven_40 (Nat.le_of_ble_eq_true rfl) rfl ?_
      exact inn (by omega) 0 (by omega) (by decide) τ hF htab (fun v v0 v1 => by omega)
  refine wp_aload_n (pc := 0) dX7_laysEven_0 rfl rfl ?_
  refine wp_iload_n (pc := 1) dX7_laysEven_1 rfl rfl ?_
  refine wp_cvI1 (pc := 2) dX7_laysEven_2 mv_X7_171 (m_parWords h (by omega)) (Nat.le_of_ble_eq_true rfl) rfl (Nat.le_of_ble_eq_true rfl) (fun z_2 σ_2 h_2 => ?_)
  obtain ⟨rfl, e_2⟩ := h_2; have e2_2 := e_2.symm; subst e2_2
  refine wp_istore_n (pc := 5) dX7_laysEven_5 rfl (Nat.le_of_ble_eq_true rfl) rfl ?_
  refine wp_aload_n (pc := 6) dX7_laysEven_6 rfl rfl ?_
  refine wp_iload_n (pc := 7) dX7_laysEven_7 rfl rfl ?_
  refine wp_cvI1 (pc := 8) dX7_laysEven_8 mv_X7_201 (m_firstWord h (by omega)) (Nat.le_of_ble_eq_true rfl) rfl (Nat.le_of_ble_eq_true rfl) (fun z_8 σ_8 h_8 => ?_)
  obtain ⟨rfl, e_8⟩ := h_8; have e2_8 := e_8.symm; subst e2_8
  refine wp_istore (pc := 11) dX7_laysEven_11 (Nat.le_of_ble_eq_true rfl) rfl ?_
  refine wp_iload_n (pc := 13) dX7_laysEven_13 rfl rfl ?_
  refine wp_iconst (pc := 14) dX7_laysEven_14 (by decide) ?_
  refine wp_isub (pc := 15) dX7_laysEven_15 (by omega) ?_
  refine wp_istore (pc := 16) dX7_laysEven_16 (Nat.le_of_ble_eq_true rfl) rfl ?_
  exact lp (LM D S p - 1) (by omega) (by omega) σ Frm.rf (fun j' w a b c d e => by omega)
