set_option maxHeartbeats 4000000 in
set_option maxRecDepth 100000 in
theorem c_takePar {σ : Sto} {t f : Int} (h : 0 ≤ t ∧ t < 8 ∧ 0 ≤ f ∧ f < 8) : CtV yX3_takePar cX3_takePar 3 none 0 [mR 14, mI t, mI f] σ (fun σ' => σ' = upd2 (upd2 (upd2 σ 16 t (σ 16 f)) 17 t (σ 17 f)) 18 t (σ 18 f)) := by
  refine ct_of rfl [some (mR 14), some (mI t), some (mI f)] (Nat.le_of_ble_eq_true rfl) rfl (fun hσ => ?_)
  show Wp cX3_takePar RX3 none 0 0 [some (mR 14), some (mI t), some (mI f)] [] _ _
  refine wp_aload_n (pc := 0) dX3_takePar_0 rfl rfl ?_
  refine wp_getR (pc := 1) (q := 16) dX3_takePar_1 fl_X3_15 rfl ?_
  refine wp_iload_n (pc := 4) dX3_takePar_4 rfl rfl ?_
  refine wp_aload_n (pc := 5) dX3_takePar_5 rfl rfl ?_
  refine wp_getR (pc := 6) (q := 16) dX3_takePar_6 fl_X3_15 rfl ?_
  refine wp_iload_n (pc := 9) dX3_takePar_9 rfl rfl ?_
  refine wp_iald (pc := 10) 8 dX3_takePar_10 rfl (by omega) ?_
  refine wp_iast (pc := 11) 8 dX3_takePar_11 rfl (by omega) ?_
  refine wp_aload_n (pc := 12) dX3_takePar_12 rfl rfl ?_
  refine wp_getR (pc := 13) (q := 17) dX3_takePar_13 fl_X3_18 rfl ?_
  refine wp_iload_n (pc := 16) dX3_takePar_16 rfl rfl ?_
  refine wp_aload_n (pc := 17) dX3_takePar_17 rfl rfl ?_
  refine wp_getR (pc := 18) (q := 17) dX3_takePar_18 fl_X3_18 rfl ?_
  refine wp_iload_n (pc := 21) dX3_takePar_21 rfl rfl ?_
  refine wp_iald (pc := 22) 8 dX3_takePar_22 rfl (by omega) ?_
  rw [upd2_r (r := 16) (r' := 17) (by decide)]
  refine wp_iast (pc := 23) 8 dX3_takePar_23 rfl (by omega) ?_
  refine wp_aload_n (pc := 24) dX3_takePar_24 rfl rfl ?_
  refine wp_getR (pc := 25) (q := 18) dX3_takePar_25 fl_X3_21 rfl ?_
  refine wp_iload_n (pc := 28) dX3_takePar_28 rfl rfl ?_
  refine wp_aload_n (pc := 29) dX3_takePar_29 rfl rfl ?_
  refine wp_getR (pc := 30) (q := 18) dX3_takePar_30 fl_X3_21 rfl ?_
  refine wp_iload_n (pc := 33) dX3_takePar_33 rfl rfl ?_
  refine wp_iald (pc := 34) 8 dX3_takePar_34 rfl (by omega) ?_
  rw [upd2_r (r := 17) (r' := 18) (by decide), upd2_r (r := 16) (r' := 18) (by decide)]
  refine wp_iast (pc := 35) 8 dX3_takePar_35 rfl (by omega) ?_
  refine wp_return (pc := 36) dX3_takePar_36 rfl ?_
  exact ⟨rfl, rfl⟩
def shR (σ τ : Sto) (q n : Int) (r : Nat) : Prop := ∀ x, τ r x = if q < x ∧ x ≤ n then σ r (x - 1) else σ r x
def shL (σ τ : Sto) (p q : Int) (r : Nat) : Prop := ∀ x, τ r x = if p < x ∧ x < q then σ r (x + 1) else σ r x
set_option maxHeartbeats 4000000 in
set_option maxRecDepth 100000 in
theorem c_split {σ : Sto} {p i : Int} (hn : 0 ≤ p ∧ p < σ 14 0 ∧ σ 14 0 < 8) (hi : 0 < i ∧ i < σ 16 p ∧ σ 16 p ≤ 80) : CtV yX3_split cX3_split 4 none 1 [mR 14, mI p, mI i] σ (fun σ' => Frm [14, 16, 17, 18] σ σ' ∧ σ' 14 0 = σ 14 0 + 1 ∧ σ' 14 1 = σ 14 1 ∧ ∀ q, 0 ≤ q → q ≤ σ 14 0 → σ' 16 q = (if q < p then σ 16 q else if q = p then i else if q = p + 1 then σ 16 p - i else σ 16 (q - 1)) ∧ σ' 17 q = (if q ≤ p then σ 17 q else if q = p + 1 then -4 else σ 17 (q - 1)) ∧ σ' 18 q = (if q ≤ p then σ 18 q else if q = p + 1 then 0 else σ 18 (q - 1))) := by
  refine ct_of rfl [some (mR 14), some (mI p), some (mI i), none] (Nat.le_of_ble_eq_true rfl) rfl (fun hσ => ?_)
  show Wp cX3_split RX3 none 1 0 [some (mR 14), some (mI p), some (mI i), none] [] _ _
  have lp : ∀ q, p + 1 ≤ q → q ≤ σ 14 0 → ∀ τ : Sto, Frm [16, 17, 18] σ τ → shR σ τ q (σ 14 0) 16 → shR σ τ q (σ 14 0) 17 → shR σ τ q (σ 14 0) 18 → Wp cX3_split RX3 none 1 5 [some (mR 14), some (mI p), some (mI i), some (mI q)] [] τ (fun v σ' => v = none ∧ (fun σ' => Frm [14, 16, 17, 18] σ σ' ∧ σ' 14 0 = σ 14 0 + 1 ∧ σ' 14 1 = σ 14 1 ∧ ∀ q, 0 ≤ q → q ≤ σ 14 0 → σ' 16 q = (if q < p then σ 16 q else if q = p then i else if q = p + 1 then σ 16 p - i else σ 16 (q - 1)) ∧ σ' 17 q = (if q ≤ p then σ 17 q else if q = p + 1 then -4 else σ 17 (q - 1)) ∧ σ' 18 q = (if q ≤ p then σ 18 q else if q = p + 1 then 0 else σ 18 (q - 1))) σ') := by
    refine down_ind (p + 1) (fun q hq ih hqn τ hF h16 h17 h18 => ?_)
    have e14 : τ 14 = σ 14 := hF 14 (by decide)
    refine wp_iload_n (pc := 5) dX3_split_5 rfl rfl ?_
    refine wp_iload_n (pc := 6) dX3_split_6 rfl rfl ?_
    refine wp_iconst (pc := 7) dX3_split_7 (by decide) ?_
    refine wp_iadd (pc := 8) dX3_split_8 (by omega) ?_
    refine wp_icmp_le (pc := 9) 26 dX3_split_9 (by decide) (fun c_9 => ?_) (fun c_9 => ?_)
    · have eq : q = p + 1 := by omega
      subst eq
      refine wp_aload_n (pc := 26) dX3_split_26 rfl rfl ?_
      refine wp_dup (pc := 27) dX3_split_27 (fun _ h => by cases h) ?_
      refine wp_getI (pc := 28) 0 dX3_split_28 fl_X3_35 rfl rfl ?_
      refine wp_iconst (pc := 31) dX3_split_31 (by decide) ?_
      rw [e14]
      refine wp_iadd (pc := 32) dX3_split_32 (by omega) ?_
      refine wp_putI (pc := 33) 0 dX3_split_33 fl_X3_35 ⟨rfl, rfl⟩ rfl rfl ?_
      refine wp_aload_n (pc := 36) dX3_split_36 rfl rfl ?_
      refine wp_getR (pc := 37) (q := 16) dX3_split_37 fl_X3_15 rfl ?_
      refine wp_iload_n (pc := 40) dX3_split_40 rfl rfl ?_
      refine wp_iconst (pc := 41) dX3_split_41 (by decide) ?_
      refine wp_iadd (pc := 42) dX3_split_42 (by omega) ?_
      refine wp_aload_n (pc := 43) dX3_split_43 rfl rfl ?_
      refine wp_getR (pc := 44) (q := 16) dX3_split_44 fl_X3_15 rfl ?_
      refine wp_iload_n (pc := 47) dX3_split_47 rfl rfl ?_
      refine wp_iald (pc := 48) 8 dX3_split_48 rfl (by omega) ?_
      rw [upd2_r (r := 14) (r' := 16) (by decide)]
      refine wp_iload_n (pc := 49) dX3_split_49 rfl rfl ?_
      have hp16 := h16 p
      rw [if_neg (by omega)] at hp16
      rw [hp16]
      refine wp_isub (pc := 50) dX3_split_50 (by omega) ?_
      refine wp_iast (pc := 51) 8 dX3_split_51 rfl (by omega) ?_
      refine wp_aload_n (pc := 52) dX3_split_52 rfl rfl ?_
      refine wp_getR (pc := 53) (q := 17) dX3_split_53 fl_X3_18 rfl ?_
      refine wp_iload_n (pc := 56) dX3_split_56 rfl rfl ?_
      refine wp_iconst (pc := 57) dX3_split_57 (by decide) ?_
      refine wp_iadd (pc := 58) dX3_split_58 (by omega) ?_
      refine wp_bipush (pc := 59) dX3_split_59 (by decide) (by decide) ?_
      refine wp_iast (pc := 61) 8 dX3_split_61 rfl (by omega) ?_
      refine wp_aload_n (pc := 62) dX3_split_62 rfl rfl ?_
      refine wp_getR (pc := 63) (q := 18) dX3_split_63 fl_X3_21 rfl ?_
      refine wp_iload_n (pc := 66) dX3_split_66 rfl rfl ?_
      refine wp_iconst (pc := 67) dX3_split_67 (by decide) ?_
      refine wp_iadd (pc := 68) dX3_split_68 (by omega) ?_
      refine wp_iconst (pc := 69) dX3_split_69 (by decide) ?_
      refine wp_iast (pc := 70) 8 dX3_split_70 rfl (by omega) ?_
      refine wp_aload_n (pc := 71) dX3_split_71 rfl rfl ?_
      refine wp_getR (pc := 72) (q := 16) dX3_split_72 fl_X3_15 rfl ?_
      refine wp_iload_n (pc := 75) dX3_split_75 rfl rfl ?_
      refine wp_iload_n (pc := 76) dX3_split_76 rfl rfl ?_
      refine wp_iast (pc := 77) 8 dX3_split_77 rfl (by omega) ?_
      refine wp_return (pc := 78) dX3_split_78 rfl ?_
      refine ⟨rfl, ((((Frm.mono hF (by decide)).up (by decide)).up (by decide)).up (by decide)).up (by decide) |>.up (by decide), ?_, ?_, fun x h0 hx => ⟨?_, ?_, ?_⟩⟩
      · simp [upd2]
      · simp [upd2, e14]
      · have h1 := h16 x
        grind [upd2]
      · have h1 := h17 x
        grind [upd2]
      · have h1 := h18 x
        grind [upd2]
    · refine wp_aload_n (pc := 12) dX3_split_12 rfl rfl ?_
      refine wp_iload_n (pc := 13) dX3_split_13 rfl rfl ?_
      refine wp_iload_n (pc := 14) dX3_split_14 rfl rfl ?_
      refine wp_iconst (pc := 15) dX3_split_15 (by decide) ?_
      refine wp_isub (pc := 16) dX3_split_16 (by omega) ?_
      refine wp_cvV2 (pc := 17) dX3_split_17 mv_X3_60 (c_takePar (by omega)) (Nat.le_of_ble_eq_true rfl) rfl (Nat.le_of_ble_eq_true rfl) (fun σ_17 h_17 => ?_)
      subst h_17
      refine wp_iinc (pc := 20) dX3_split_20 rfl rfl (by omega) ?_
      refine wp_goto (pc := 23) 5 dX3_split_23 (by decide) ?_
      have ih2 := ih (by omega) (by omega) _ (((hF.up (r := 16) (k := q) (v := τ 16 (q - 1)) (by decide)).up (r := 17) (k := q) (v := τ 17 (q - 1)) (by decide)).up (r := 18) (k := q) (v := τ 18 (q - 1)) (by decide)) (fun x => ?_) (fun x => ?_) (fun x => ?_)
      · exact ih2
      · have h1 := h16 x
        have h2 := h16 (q - 1)
        grind [upd2]
      · have h1 := h17 x
        have h2 := h17 (q - 1)
        grind [upd2]
      · have h1 := h18 x
        have h2 := h18 (q - 1)
        grind [upd2]
  refine wp_aload_n (pc := 0) dX3_split_0 rfl rfl ?_
  refine wp_getI (pc := 1) 0 dX3_split_1 fl_X3_35 rfl rfl ?_
  refine wp_istore_n (pc := 4) dX3_split_4 rfl (Nat.le_of_ble_eq_true rfl) rfl ?_
  exact lp (σ 14 0) (by omega) (by omega) σ Frm.rf (fun x => by rw [if_neg (by omega)]) (fun x => by rw [if_neg (by omega)]) (fun x => by rw [if_neg (by omega)])
set_option maxHeartbeats 4000000 in
set_option maxRecDepth 100000 in
theorem c_unite {σ : Sto} {p : Int} (hn : 0 ≤ p ∧ p + 1 < σ 14 0 ∧ σ 14 0 ≤ 8) (hi : 0 ≤ σ 16 p ∧ σ 16 p ≤ 80 ∧ 0 ≤ σ 16 (p + 1) ∧ σ 16 (p + 1) ≤ 80) : CtV yX3_unite cX3_unite 3 none 1 [mR 14, mI p] σ (fun σ' => Frm [14, 16, 17, 18] σ σ' ∧ σ' 14 0 = σ 14 0 - 1 ∧ σ' 14 1 = σ 14 1 ∧ ∀ q, 0 ≤ q → q < σ 14 0 - 1 → σ' 16 q = (if q < p then σ 16 q else if q = p then σ 16 p + σ 16 (p + 1) else σ 16 (q + 1)) ∧ σ' 17 q = (if q ≤ p then σ 17 q else σ 17 (q + 1)) ∧ σ' 18 q = (if q ≤ p then σ 18 q else σ 18 (q + 1))) := by
  refine ct_of rfl [some (mR 14), some (mI p), none] (Nat.le_of_ble_eq_true rfl) rfl (fun hσ => ?_)
  show Wp cX3_unite RX3 none 1 0 [some (mR 14), some (mI p), none] [] _ _
  have lp : ∀ q, q ≤ σ 14 0 - 1 → p + 1 ≤ q → ∀ τ : Sto, Frm [14, 16, 17, 18] σ τ → τ 14 0 = σ 14 0 - 1 → τ 14 1 = σ 14 1 → (∀ x, τ 16 x = if x = p then σ 16 p + σ 16 (p + 1) else if p < x ∧ x < q then σ 16 (x + 1) else σ 16 x) → shL σ τ p q 17 → shL σ τ p q 18 → Wp cX3_unite RX3 none 1 31 [some (mR 14), some (mI p), some (mI q)] [] τ (fun v σ' => v = none ∧ (fun σ' => Frm [14, 16, 17, 18] σ σ' ∧ σ' 14 0 = σ 14 0 - 1 ∧ σ' 14 1 = σ 14 1 ∧ ∀ q, 0 ≤ q → q < σ 14 0 - 1 → σ' 16 q = (if q < p then σ 16 q else if q = p then σ 16 p + σ 16 (p + 1) else σ 16 (q + 1)) ∧ σ' 17 q = (if q ≤ p then σ 17 q else σ 17 (q + 1)) ∧ σ' 18 q = (if q ≤ p then σ 18 q else σ 18 (q + 1))) σ') := by
    refine up_ind (σ 14 0 - 1) (fun q hq ih hqn τ hF h0 h1 h16 h17 h18 => ?_)
    refine wp_iload_n (pc := 31) dX3_unite_31 rfl rfl ?_
    refine wp_aload_n (pc := 32) dX3_unite_32 rfl rfl ?_
    refine wp_getI (pc := 33) 0 dX3_unite_33 fl_X3_35 rfl rfl ?_
    refine wp_icmp_ge (pc := 36) 53 dX3_unite_36 (by decide) (fun c_36 => ?_) (fun c_36 => ?_)
    · refine wp_return (pc := 53) dX3_unite_53 rfl ?_
      refine ⟨rfl, hF, h0, h1, fun x hx0 hx => ⟨?_, ?_, ?_⟩⟩
      · have h2 := h16 x
        grind
      · have h2 := h17 x
        grind
      · have h2 := h18 x
        grind
    · refine wp_aload_n (pc := 39) dX3_unite_39 rfl rfl ?_
      refine wp_iload_n (pc := 40) dX3_unite_40 rfl rfl ?_
      refine wp_iload_n (pc := 41) dX3_unite_41 rfl rfl ?_
      refine wp_iconst (pc := 42) dX3_unite_42 (by decide) ?_
      refine wp_iadd (pc := 43) dX3_unite_43 (by omega) ?_
      refine wp_cvV2 (pc := 44) dX3_unite_44 mv_X3_60 (c_takePar (by omega)) (Nat.le_of_ble_eq_true rfl) rfl (Nat.le_of_ble_eq_true rfl) (fun σ_44 h_44 => ?_)
      subst h_44
      refine wp_iinc (pc := 47) dX3_unite_47 rfl rfl (by omega) ?_
      refine wp_goto (pc := 50) 31 dX3_unite_50 (by decide) ?_
      have ih2 := ih (by omega) (by omega) _ (((hF.up (r := 16) (k := q) (v := τ 16 (q + 1)) (by decide)).up (r := 17) (k := q) (v := τ 17 (q + 1)) (by decide)).up (r := 18) (k := q) (v := τ 18 (q + 1)) (by decide)) (by simp [upd2, h0]) (by simp [upd2, h1]) (fun x => ?_) (fun x => ?_) (fun x => ?_)
      · exact ih2
      · have h1 := h16 x
        have h2 := h16 (q + 1)
        grind [upd2]
      · have h1 := h17 x
        have h2 := h17 (q + 1)
        grind [upd2]
      · have h1 := h18 x
        have h2 := h18 (q + 1)
        grind [upd2]
  refine wp_aload_n (pc := 0) dX3_unite_0 rfl rfl ?_
  refine wp_getR (pc := 1) (q := 16) dX3_unite_1 fl_X3_15 rfl ?_
  refine wp_iload_n (pc := 4) dX3_unite_4 rfl rfl ?_
  refine wp_dup2 (pc := 5) dX3_unite_5 (fun _ h => by cases h) (fun _ h => by cases h) ?_
  refine wp_iald (pc := 6) 8 dX3_unite_6 rfl (by omega) ?_
  refine wp_aload_n (pc := 7) dX3_unite_7 rfl rfl ?_
  refine wp_getR (pc := 8) (q := 16) dX3_unite_8 fl_X3_15 rfl ?_
  refine wp_iload_n (pc := 11) dX3_unite_11 rfl rfl ?_
  refine wp_iconst (pc := 12) dX3_unite_12 (by decide) ?_
  refine wp_iadd (pc := 13) dX3_unite_13 (by omega) ?_
  refine wp_iald (pc := 14) 8 dX3_unite_14 rfl (by omega) ?_
  refine wp_iadd (pc := 15) dX3_unite_15 (by omega) ?_
  refine wp_iast (pc := 16) 8 dX3_unite_16 rfl (by omega) ?_
  refine wp_aload_n (pc := 17) dX3_unite_17 rfl rfl ?_
  refine wp_dup (pc := 18) dX3_unite_18 (fun _ h => by cases h) ?_
  refine wp_getI (pc := 19) 0 dX3_unite_19 fl_X3_35 rfl rfl ?_
  rw [upd2_r (r := 16) (r' := 14) (by decide)]
  refine wp_iconst (pc := 22) dX3_unite_22 (by decide) ?_
  refine wp_isub (pc := 23) dX3_unite_23 (by omega) ?_
  refine wp_putI (pc := 24) 0 dX3_unite_24 fl_X3_35 ⟨rfl, rfl⟩ rfl rfl ?_
  refine wp_iload_n (pc := 27) dX3_unite_27 rfl rfl ?_
  refine wp_iconst (pc := 28) dX3_unite_28 (by decide) ?_
  refine wp_iadd (pc := 29) dX3_unite_29 (by omega) ?_
  refine wp_istore_n (pc := 30) dX3_unite_30 rfl (Nat.le_of_ble_eq_true rfl) rfl ?_
  refine lp (p + 1) (by omega) (by omega) _ ((Frm.rf.up (by decide)).up (by decide)) (by simp [upd2]) (by simp [upd2]) (fun x => ?_) (fun x => ?_) (fun x => ?_)
  · grind [upd2]
  · grind [upd2]
  · grind [upd2]
set_option maxHeartbeats 4000000 in
set_option maxRecDepth 100000 in
theorem c_carry {σ : Sto} {p i q k a b : Int} (hB : PgB σ) (hp : 0 ≤ p ∧ p < σ 14 0) (hi : 0 ≤ i ∧ i < σ 16 p) (hq : 0 ≤ q ∧ q < σ 14 0) (hk : 0 ≤ k ∧ k ≤ σ 16 q) (ha : a = sumI (σ 16) p + i) (hb : b = sumI (σ 16) q + k) (hab : ¬ a = b) (hab2 : ¬ a + 1 = b) : CtV yX3_carry cX3_carry 9 none 1 [mR 14, mI p, mI i, mI q, mI k] σ (fun σ' => Frm [15, 16] σ σ' ∧ (∀ x, σ' 15 x = if a < b then (if a ≤ x ∧ x < b - 1 then σ 15 (x + 1) else if x = b - 1 then σ 15 a else σ 15 x) else (if b < x ∧ x ≤ a then σ 15 (x - 1) else if x = b then σ 15 a else σ 15 x)) ∧ ∀ x, σ' 16 x = σ 16 x - (if x = p then 1 else 0) + (if x = q then 1 else 0)) := by
  refine ct_of rfl [some (mR 14), some (mI p), some (mI i), some (mI q), some (mI k), none, none, none, none] (Nat.le_of_ble_eq_true rfl) rfl (fun hσ => ?_)
  show Wp cX3_carry RX3 none 1 0 [some (mR 14), some (mI p), some (mI i), some (mI q), some (mI k), none, none, none, none] [] _ _
  have h1 := hB.first (p := p) (by omega) (by omega)
  have h2 := hB.first1 (p := p) (by omega) (by omega)
  have h4 := hB.first (p := q) (by omega) (by omega)
  have h5 := hB.first1 (p := q) (by omega) (by omega)
  have h3 := hB.2.2.2.1
  have h8 := hB.2.1
  have hz := hB.sz (p := p) (by omega) (by omega)
  have hz2 := hB.sz (p := q) (by omega) (by omega)
  have fin : ∀ τ : Sto, Frm [15] σ τ → (∀ x, τ 15 x = if a < b then (if a ≤ x ∧ x < b - 1 then σ 15 (x + 1) else σ 15 x) else (if b < x ∧ x ≤ a then σ 15 (x - 1) else σ 15 x)) → ∀ w, Wp cX3_carry RX3 none 1 96 [some (mR 14), some (mI p), some (mI i), some (mI q), some (mI k), some (mI a), some (mI b), some (mI (σ 15 a)), some (mI w)] [] τ (fun v σ' => v = none ∧ (fun σ' => Frm [15, 16] σ σ' ∧ (∀ x, σ' 15 x = if a < b then (if a ≤ x ∧ x < b - 1 then σ 15 (x + 1) else if x = b - 1 then σ 15 a else σ 15 x) else (if b < x ∧ x ≤ a then σ 15 (x - 1) else if x = b then σ 15 a else σ 15 x)) ∧ ∀ x, σ' 16 x = σ 16 x - (if x = p then 1 else 0) + (if x = q then 1 else 0)) σ') := by
    intro τ hF hx w
    have e16 : τ 16 = σ 16 := hF 16 (by decide)
    refine wp_aload_n (pc := 96) dX3_carry_96 rfl rfl ?_
    refine wp_getR (pc := 97) (q := 15) dX3_carry_97 fl_X3_9 rfl ?_
    refine wp_iload (pc := 100) dX3_carry_100 rfl ?_
    refine wp_iload (pc := 102) dX3_carry_102 rfl ?_
    refine wp_icmp_ge (pc := 104) 114 dX3_carry_104 (by decide) (fun c_104 => ?_) (fun c_104 => ?_)
    · refine wp_iload (pc := 114) dX3_carry_114 rfl ?_
      refine wp_iload (pc := 116) dX3_carry_116 rfl ?_
      refine wp_iast (pc := 118) 80 dX3_carry_118 rfl (by omega) ?_
      refine wp_aload_n (pc := 119) dX3_carry_119 rfl rfl ?_
      refine wp_getR (pc := 120) (q := 16) dX3_carry_120 fl_X3_15 rfl ?_
      refine wp_iload_n (pc := 123) dX3_carry_123 rfl rfl ?_
      refine wp_dup2 (pc := 124) dX3_carry_124 (fun _ h => by cases h) (fun _ h => by cases h) ?_
      refine wp_iald (pc := 125) 8 dX3_carry_125 rfl (by omega) ?_
      rw [upd2_r (r := 15) (r' := 16) (by decide)]
      refine wp_iconst (pc := 126) dX3_carry_126 (by decide) ?_
      rw [e16]
      refine wp_isub (pc := 127) dX3_carry_127 (by omega) ?_
      refine wp_iast (pc := 128) 8 dX3_carry_128 rfl (by omega) ?_
      refine wp_aload_n (pc := 129) dX3_carry_129 rfl rfl ?_
      refine wp_getR (pc := 130) (q := 16) dX3_carry_130 fl_X3_15 rfl ?_
      refine wp_iload_n (pc := 133) dX3_carry_133 rfl rfl ?_
      refine wp_dup2 (pc := 134) dX3_carry_134 (fun _ h => by cases h) (fun _ h => by cases h) ?_
      refine wp_iald (pc := 135) 8 dX3_carry_135 rfl (by omega) ?_
      refine wp_iconst (pc := 136) dX3_carry_136 (by decide) ?_
      have e9 : upd2 (upd2 τ 15 (if a < b then b - 1 else b) (σ 15 a)) 16 p (σ 16 p - 1) 16 q = σ 16 q - (if q = p then 1 else 0) := by grind [upd2]
      first | rw [if_pos (by omega)] at e9 | rw [if_neg (by omega)] at e9
      rw [e9]
      have : -1 ≤ (-1 : Int) := by omega
      refine wp_iadd (pc := 137) dX3_carry_137 (by split <;> omega) ?_
      refine wp_iast (pc := 138) 8 dX3_carry_138 rfl (by omega) ?_
      refine wp_return (pc := 139) dX3_carry_139 rfl ?_
      refine ⟨rfl, ((Frm.mono hF (by decide)).up (by decide)).up (by decide) |>.up (by decide), fun x => ?_, fun x => ?_⟩
      · have h9 := hx x
        clear hx hB ha hb hF
        grind [upd2]
      · clear hx hB ha hb hF
        grind [upd2]
    · refine wp_iload (pc := 107) dX3_carry_107 rfl ?_
      refine wp_iconst (pc := 109) dX3_carry_109 (by decide) ?_
      refine wp_isub (pc := 110) dX3_carry_110 (by omega) ?_
      refine wp_goto (pc := 111) 116 dX3_carry_111 (by decide) ?_
      refine wp_iload (pc := 116) dX3_carry_116 rfl ?_
      refine wp_iast (pc := 118) 80 dX3_carry_118 rfl (by omega) ?_
      refine wp_aload_n (pc := 119) dX3_carry_119 rfl rfl ?_
      refine wp_getR (pc := 120) (q := 16) dX3_carry_120 fl_X3_15 rfl ?_
      refine wp_iload_n (pc := 123) dX3_carry_123 rfl rfl ?_
      refine wp_dup2 (pc := 124) dX3_carry_124 (fun _ h => by cases h) (fun _ h => by cases h) ?_
      refine wp_iald (pc := 125) 8 dX3_carry_125 rfl (by omega) ?_
      rw [upd2_r (r := 15) (r' := 16) (by decide)]
      refine wp_iconst (pc := 126) dX3_carry_126 (by decide) ?_
      rw [e16]
      refine wp_isub (pc := 127) dX3_carry_127 (by omega) ?_
      refine wp_iast (pc := 128) 8 dX3_carry_128 rfl (by omega) ?_
      refine wp_aload_n (pc := 129) dX3_carry_129 rfl rfl ?_
      refine wp_getR (pc := 130) (q := 16) dX3_carry_130 fl_X3_15 rfl ?_
      refine wp_iload_n (pc := 133) dX3_carry_133 rfl rfl ?_
      refine wp_dup2 (pc := 134) dX3_carry_134 (fun _ h => by cases h) (fun _ h => by cases h) ?_
      refine wp_iald (pc := 135) 8 dX3_carry_135 rfl (by omega) ?_
      refine wp_iconst (pc := 136) dX3_carry_136 (by decide) ?_
      have e9 : upd2 (upd2 τ 15 (if a < b then b - 1 else b) (σ 15 a)) 16 p (σ 16 p - 1) 16 q = σ 16 q - (if q = p then 1 else 0) := by grind [upd2]
      first | rw [if_pos (by omega)] at e9 | rw [if_neg (by omega)] at e9
      rw [e9]
      have : -1 ≤ (-1 : Int) := by omega
      refine wp_iadd (pc := 137) dX3_carry_137 (by split <;> omega) ?_
      refine wp_iast (pc := 138) 8 dX3_carry_138 rfl (by omega) ?_
      refine wp_return (pc := 139) dX3_carry_139 rfl ?_
      refine ⟨rfl, ((Frm.mono hF (by decide)).up (by decide)).up (by decide) |>.up (by decide), fun x => ?_, fun x => ?_⟩
      · have h9 := hx x
        clear hx hB ha hb hF
        grind [upd2]
      · clear hx hB ha hb hF
        grind [upd2]
  have lp2 : ∀ w, b ≤ w → w ≤ a → ∀ τ : Sto, Frm [15] σ τ → (∀ x, τ 15 x = if w < x ∧ x ≤ a then σ 15 (x - 1) else σ 15 x) → Wp cX3_carry RX3 none 1 67 [some (mR 14), some (mI p), some (mI i), some (mI q), some (mI k), some (mI a), some (mI b), some (mI (σ 15 a)), some (mI w)] [] τ (fun v σ' => v = none ∧ (fun σ' => Frm [15, 16] σ σ' ∧ (∀ x, σ' 15 x = if a < b then (if a ≤ x ∧ x < b - 1 then σ 15 (x + 1) else if x = b - 1 then σ 15 a else σ 15 x) else (if b < x ∧ x ≤ a then σ 15 (x - 1) else if x = b then σ 15 a else σ 15 x)) ∧ ∀ x, σ' 16 x = σ 16 x - (if x = p then 1 else 0) + (if x = q then 1 else 0)) σ') := by
    refine down_ind b (fun w hw ih hwa τ hF hx => ?_)
    refine wp_iload (pc := 67) dX3_carry_67 rfl ?_
    refine wp_iload (pc := 69) dX3_carry_69 rfl ?_
    refine wp_icmp_le (pc := 71) 96 dX3_carry_71 (by decide) (fun c_71 => ?_) (fun c_71 => ?_)
    · refine fin τ hF (fun x => ?_) w
      have h9 := hx x
      clear hx fin hB ha hb hF
      grind
    · refine wp_aload_n (pc := 74) dX3_carry_74 rfl rfl ?_
      refine wp_getR (pc := 75) (q := 15) dX3_carry_75 fl_X3_9 rfl ?_
      refine wp_iload (pc := 78) dX3_carry_78 rfl ?_
      refine wp_aload_n (pc := 80) dX3_carry_80 rfl rfl ?_
      refine wp_getR (pc := 81) (q := 15) dX3_carry_81 fl_X3_9 rfl ?_
      refine wp_iload (pc := 84) dX3_carry_84 rfl ?_
      refine wp_iconst (pc := 86) dX3_carry_86 (by decide) ?_
      refine wp_isub (pc := 87) dX3_carry_87 (by omega) ?_
      refine wp_iald (pc := 88) 80 dX3_carry_88 rfl (by omega) ?_
      refine wp_iast (pc := 89) 80 dX3_carry_89 rfl (by omega) ?_
      refine wp_iinc (pc := 90) dX3_carry_90 rfl rfl (by omega) ?_
      refine wp_goto (pc := 93) 67 dX3_carry_93 (by decide) ?_
      have ih2 := ih (by omega) (by omega) _ (hF.up (r := 15) (k := w) (v := τ 15 (w - 1)) (by decide)) (fun x => ?_)
      · exact ih2
      · have h9 := hx x
        have h8 := hx (w - 1)
        clear hx ih fin hB ha hb hF
        grind [upd2]
  have st2 : a < b → ∀ τ : Sto, Frm [15] σ τ → (∀ x, τ 15 x = if a ≤ x ∧ x < b - 1 then σ 15 (x + 1) else σ 15 x) → Wp cX3_carry RX3 none 1 67 [some (mR 14), some (mI p), some (mI i), some (mI q), some (mI k), some (mI a), some (mI b), some (mI (σ 15 a)), some (mI a)] [] τ (fun v σ' => v = none ∧ (fun σ' => Frm [15, 16] σ σ' ∧ (∀ x, σ' 15 x = if a < b then (if a ≤ x ∧ x < b - 1 then σ 15 (x + 1) else if x = b - 1 then σ 15 a else σ 15 x) else (if b < x ∧ x ≤ a then σ 15 (x - 1) else if x = b then σ 15 a else σ 15 x)) ∧ ∀ x, σ' 16 x = σ 16 x - (if x = p then 1 else 0) + (if x = q then 1 else 0)) σ') := by
    intro hl τ hF hx
    refine wp_iload (pc := 67) dX3_carry_67 rfl ?_
    refine wp_iload (pc := 69) dX3_carry_69 rfl ?_
    refine wp_icmp_le (pc := 71) 96 dX3_carry_71 (by decide) (fun c_71 => ?_) (fun c_71 => ?_)
    · refine fin τ hF (fun x => ?_) a
      have h9 := hx x
      clear hx fin hB ha hb hF
      grind
    · omega
  have lp1 : ∀ w, w ≤ max a (b - 1) → a ≤ w → ∀ τ : Sto, Frm [15] σ τ → (∀ x, τ 15 x = if a ≤ x ∧ x < w then σ 15 (x + 1) else σ 15 x) → Wp cX3_carry RX3 none 1 32 [some (mR 14), some (mI p), some (mI i), some (mI q), some (mI k), some (mI a), some (mI b), some (mI (σ 15 a)), some (mI w)] [] τ (fun v σ' => v = none ∧ (fun σ' => Frm [15, 16] σ σ' ∧ (∀ x, σ' 15 x = if a < b then (if a ≤ x ∧ x < b - 1 then σ 15 (x + 1) else if x = b - 1 then σ 15 a else σ 15 x) else (if b < x ∧ x ≤ a then σ 15 (x - 1) else if x = b then σ 15 a else σ 15 x)) ∧ ∀ x, σ' 16 x = σ 16 x - (if x = p then 1 else 0) + (if x = q then 1 else 0)) σ') := by
    refine up_ind (max a (b - 1)) (fun w hw ih hwa τ hF hx => ?_)
    refine wp_iload (pc := 32) dX3_carry_32 rfl ?_
    refine wp_iload (pc := 34) dX3_carry_34 rfl ?_
    refine wp_iconst (pc := 36) dX3_carry_36 (by decide) ?_
    refine wp_isub (pc := 37) dX3_carry_37 (by omega) ?_
    refine wp_icmp_ge (pc := 38) 63 dX3_carry_38 (by decide) (fun c_38 => ?_) (fun c_38 => ?_)
    · refine wp_iload (pc := 63) dX3_carry_63 rfl ?_
      refine wp_istore (pc := 65) dX3_carry_65 (Nat.le_of_ble_eq_true rfl) rfl ?_
      by_cases hl : a < b
      · refine st2 hl τ hF (fun x => ?_)
        have h9 := hx x
        clear hx ih fin lp2 st2 hB ha hb hF
        grind
      · refine lp2 a (by omega) (by omega) τ hF (fun x => ?_)
        have h9 := hx x
        clear hx ih fin lp2 st2 hB ha hb hF
        grind
    · refine wp_aload_n (pc := 41) dX3_carry_41 rfl rfl ?_
      refine wp_getR (pc := 42) (q := 15) dX3_carry_42 fl_X3_9 rfl ?_
      refine wp_iload (pc := 45) dX3_carry_45 rfl ?_
      refine wp_aload_n (pc := 47) dX3_carry_47 rfl rfl ?_
      refine wp_getR (pc := 48) (q := 15) dX3_carry_48 fl_X3_9 rfl ?_
      refine wp_iload (pc := 51) dX3_carry_51 rfl ?_
      refine wp_iconst (pc := 53) dX3_carry_53 (by decide) ?_
      refine wp_iadd (pc := 54) dX3_carry_54 (by omega) ?_
      refine wp_iald (pc := 55) 80 dX3_carry_55 rfl (by omega) ?_
      refine wp_iast (pc := 56) 80 dX3_carry_56 rfl (by omega) ?_
      refine wp_iinc (pc := 57) dX3_carry_57 rfl rfl (by omega) ?_
      refine wp_goto (pc := 60) 32 dX3_carry_60 (by decide) ?_
      have ih2 := ih (by omega) (by omega) _ (hF.up (r := 15) (k := w) (v := τ 15 (w + 1)) (by decide)) (fun x => ?_)
      · exact ih2
      · have h9 := hx x
        have h8 := hx (w + 1)
        clear hx ih fin lp2 st2 hB ha hb hF
        grind [upd2]
  refine wp_aload_n (pc := 0) dX3_carry_0 rfl rfl ?_
  refine wp_iload_n (pc := 1) dX3_carry_1 rfl rfl ?_
  refine wp_cvI1 (pc := 2) dX3_carry_2 mv_X3_52 (c_firstOf' hB (by omega)) (Nat.le_of_ble_eq_true rfl) rfl (Nat.le_of_ble_eq_true rfl) (fun z_2 σ_2 h_2 => ?_)
  obtain ⟨rfl, e_2⟩ := h_2; have e2_2 := e_2.symm; subst e2_2
  refine wp_iload_n (pc := 5) dX3_carry_5 rfl rfl ?_
  refine wp_iadd (pc := 6) dX3_carry_6 (by omega) ?_
  rw [← ha]
  refine wp_istore (pc := 7) dX3_carry_7 (Nat.le_of_ble_eq_true rfl) rfl ?_
  refine wp_aload_n (pc := 9) dX3_carry_9 rfl rfl ?_
  refine wp_iload_n (pc := 10) dX3_carry_10 rfl rfl ?_
  refine wp_cvI1 (pc := 11) dX3_carry_11 mv_X3_52 (c_firstOf' hB (by omega)) (Nat.le_of_ble_eq_true rfl) rfl (Nat.le_of_ble_eq_true rfl) (fun z_11 σ_11 h_11 => ?_)
  obtain ⟨rfl, e_11⟩ := h_11; have e2_11 := e_11.symm; subst e2_11
  refine wp_iload (pc := 14) dX3_carry_14 rfl ?_
  refine wp_iadd (pc := 16) dX3_carry_16 (by omega) ?_
  rw [← hb]
  refine wp_istore (pc := 17) dX3_carry_17 (Nat.le_of_ble_eq_true rfl) rfl ?_
  refine wp_aload_n (pc := 19) dX3_carry_19 rfl rfl ?_
  refine wp_getR (pc := 20) (q := 15) dX3_carry_20 fl_X3_9 rfl ?_
  refine wp_iload (pc := 23) dX3_carry_23 rfl ?_
  refine wp_iald (pc := 25) 80 dX3_carry_25 rfl (by omega) ?_
  refine wp_istore (pc := 26) dX3_carry_26 (Nat.le_of_ble_eq_true rfl) rfl ?_
  refine wp_iload (pc := 28) dX3_carry_28 rfl ?_
  refine wp_istore (pc := 30) dX3_carry_30 (Nat.le_of_ble_eq_true rfl) rfl ?_
  exact lp1 a (by omega) (by omega) σ Frm.rf (fun x => by rw [if_neg (by omega)])
