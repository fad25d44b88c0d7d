set_option maxHeartbeats 4000000 in
set_option maxRecDepth 100000 in
theorem Ct.mono {y : MethodName} {cc : ByteArray} {nL : Nat} {rt : Option FieldType} {d : Nat} {as : List MV} {σ : Sto} {Q Q' : Option MV → Sto → Prop} (h : Ct y cc nL rt d as σ Q) (hq : ∀ v σ', Q v σ' → Q' v σ') : Ct y cc nL rt d as σ Q' := by
  intro l g p e a b c s m args below h1 h2 hP hK
  obtain ⟨n, o, q1, q2, q3, ⟨⟨⟨r, σ', e1, e2, e3⟩, hF⟩, hL⟩⟩ := h l g p e a b c s m args below h1 h2 hP hK
  exact ⟨n, o, q1, q2, q3, ⟨⟨r, σ', e1, hq _ _ e2, e3⟩, hF⟩, hL⟩
-- only the reader's own numbers may be others
def Fr1 (σ σ' : Sto) : Prop := Frm [71] σ σ' ∧ ∀ k, (k < 10 ∨ 15 < k) → σ' 71 k = σ 71 k
set_option maxHeartbeats 4000000 in
set_option maxRecDepth 100000 in
theorem Fr1.rf {σ : Sto} : Fr1 σ σ := ⟨Frm.rf, fun _ _ => rfl⟩
set_option maxHeartbeats 4000000 in
set_option maxRecDepth 100000 in
theorem Fr1.tr {a b c : Sto} (h1 : Fr1 a b) (h2 : Fr1 b c) : Fr1 a c := ⟨h1.1.tr h2.1, fun k hk => (h2.2 k hk).trans (h1.2 k hk)⟩
def RFr (σ σ' : Sto) : Prop := Frm [71, 73, 75, 81] σ σ' ∧ ∀ k, (k < 10 ∨ 15 < k) → σ' 71 k = σ 71 k
def RFs (σ σ' : Sto) : Prop := Frm [71, 73, 75, 81] σ σ' ∧ ∀ k, (k < 5 ∨ (5 < k ∧ k < 10) ∨ 15 < k) → σ' 71 k = σ 71 k
set_option maxHeartbeats 4000000 in
set_option maxRecDepth 100000 in
theorem RFs.tr {a b c : Sto} (h1 : RFs a b) (h2 : RFs b c) : RFs a c := ⟨h1.1.tr h2.1, fun k hk => (h2.2 k hk).trans (h1.2 k hk)⟩
set_option maxHeartbeats 4000000 in
set_option maxRecDepth 100000 in
theorem RFr.s {σ σ' : Sto} (h : RFr σ σ') : RFs σ σ' := ⟨h.1, fun k hk => h.2 k (by omega)⟩
set_option maxHeartbeats 4000000 in
set_option maxRecDepth 100000 in
theorem RFr.rf {σ : Sto} : RFr σ σ := ⟨Frm.rf, fun _ _ => rfl⟩
set_option maxHeartbeats 4000000 in
set_option maxRecDepth 100000 in
theorem RFr.tr {a b c : Sto} (h1 : RFr a b) (h2 : RFr b c) : RFr a c := ⟨h1.1.tr h2.1, fun k hk => (h2.2 k hk).trans (h1.2 k hk)⟩
set_option maxHeartbeats 4000000 in
set_option maxRecDepth 100000 in
theorem Fr1.r {σ σ' : Sto} (h : Fr1 σ σ') : RFr σ σ' := ⟨h.1.mono (by decide), fun k hk => h.2 k (by omega)⟩
set_option maxHeartbeats 4000000 in
set_option maxRecDepth 100000 in
theorem RFr.up {σ σ' : Sto} {r : Nat} {k v : Int} (h : RFr σ σ') (hr : r = 73 ∨ r = 75 ∨ r = 81) : RFr σ (upd2 σ' r k v) := by
  refine ⟨h.1.up (by rcases hr with rfl | rfl | rfl <;> decide), fun j hj => ?_⟩
  rw [upd2_r (by omega)]
  exact h.2 j hj
def MB (t : Int → Int) (n : Int) (σ : Sto) (s : PS) (cnt : Int) : Prop := (0 ≤ n ∧ n ≤ 400) ∧ σ 71 9 = n ∧ (∀ k, 0 ≤ k → k < n → σ 78 k = t k) ∧ (∀ k, 0 ≤ k → k < n → 0 ≤ t k ∧ t k ≤ 127) ∧ (0 ≤ s.x ∧ s.x ≤ n) ∧ (∀ w, 0 ≤ w → w < 6 → σ 81 w = s.T w ∧ (s.T w = 0 ∨ s.T w = 1)) ∧ PR (σ 73) s.D ∧ SR (σ 75) s.S ∧ σ 71 5 = cnt ∧ NT σ ∧ s.f = 0
def MT (t : Int → Int) (n : Int) (σ : Sto) (x : Int) : Prop := ¬ tkK t n x = 0 ∧ σ 71 10 = 0 ∧ σ 71 12 = tkE t n x ∧ σ 71 13 = tkS t n x ∧ tkOK t n x (σ 71 14) (σ 71 15)
def MG (t : Int → Int) (n : Int) (σ : Sto) (s : PS) (cnt : Int) : Prop := MB t n σ s cnt ∧ MT t n σ s.x
def MSb (t : Int → Int) (n : Int) (σ : Sto) (s : PS) : Prop := 0 < σ 71 10 ∧ (0 ≤ σ 71 11 ∧ σ 71 11 ≤ 400) ∧ ((¬ s.f = 0 ∧ σ 71 10 = s.f ∧ σ 71 11 = s.b) ∨ (s.f = 0 ∧ tkK t n s.x = 0 ∧ σ 71 10 = 1 ∧ σ 71 11 = tkS t n s.x))
def MS (t : Int → Int) (n : Int) (σ : Sto) (s : PS) (cnt : Int) : Prop := MG t n σ s cnt ∨ MSb t n σ s
set_option maxHeartbeats 4000000 in
set_option maxRecDepth 100000 in
theorem MB.fr {t : Int → Int} {n cnt : Int} {σ σ' : Sto} {s : PS} (h : MB t n σ s cnt) (hf : Fr1 σ σ') : MB t n σ' s cnt := by
  obtain ⟨a, b, c, d, e, f, g, i, j, k, l⟩ := h
  refine ⟨a, by rw [hf.2 9 (by decide)]; exact b, by rw [hf.1 78 (by decide)]; exact c, d, e, by rw [hf.1 81 (by decide)]; exact f, by rw [hf.1 73 (by decide)]; exact g, by rw [hf.1 75 (by decide)]; exact i, by rw [hf.2 5 (by decide)]; exact j, ?_, l⟩
  unfold NT at *
  rw [hf.1 79 (by decide), hf.1 80 (by decide)]; exact k
set_option maxHeartbeats 4000000 in
set_option maxRecDepth 100000 in
theorem MS.nn {t : Int → Int} {n cnt : Int} {σ : Sto} {s : PS} (h : MS t n σ s cnt) : 0 ≤ σ 71 10 := by
  rcases h with h | h
  · have := h.2.2.1; omega
  · have := h.1; omega
set_option maxHeartbeats 4000000 in
set_option maxRecDepth 100000 in
theorem MS.good {t : Int → Int} {n cnt : Int} {σ : Sto} {s : PS} (h : MS t n σ s cnt) (h0 : ¬ 0 < σ 71 10) : MG t n σ s cnt := by
  rcases h with h | h
  · exact h
  · exact absurd h.1 h0
set_option maxHeartbeats 4000000 in
set_option maxRecDepth 100000 in
theorem MS.bad {t : Int → Int} {n cnt : Int} {σ : Sto} {s : PS} (h : MS t n σ s cnt) (h0 : 0 < σ 71 10) : MSb t n σ s := by
  rcases h with h | h
  · have := h.2.2.1; omega
  · exact h
-- a bad token at hand: whatever reads it is at fault there
set_option maxHeartbeats 4000000 in
set_option maxRecDepth 100000 in
theorem MSb.on {t : Int → Int} {n w : Int} {σ : Sto} {s : PS} (h : MSb t n σ s) (hs : s.f = 0) : MSb t n σ (s.bad t n w) := by
  obtain ⟨a, b, c⟩ := h
  rcases c with c | c
  · exact absurd hs c.1
  · have ef : (s.bad t n w).f = 1 := by show (if tkK t n s.x = 0 then 1 else w) = 1; rw [if_pos c.2.1]
    exact ⟨a, b, Or.inl ⟨by rw [ef]; decide, by rw [ef]; exact c.2.2.1, c.2.2.2⟩⟩
set_option maxHeartbeats 4000000 in
set_option maxRecDepth 100000 in
theorem MB.rd {t : Int → Int} {n cnt : Int} {σ σ' : Sto} {s : PS} (h : MB t n σ s cnt) (hr : rdP t n s.x σ σ') : MS t n σ' s cnt ∧ Fr1 σ σ' := by
  have hf : Fr1 σ σ' := ⟨hr.1, hr.2.1⟩
  refine ⟨?_, hf⟩
  have hb := tk_bd (t := t) h.2.2.2.2.1.1 h.2.2.2.2.1.2
  have hn := h.1
  have hx := h.2.2.2.2.1
  rcases hr.2.2 with c | c
  · exact Or.inl ⟨h.fr hf, c⟩
  · exact Or.inr ⟨by omega, by omega, Or.inr ⟨h.2.2.2.2.2.2.2.2.2.2, c.1, c.2.1, c.2.2⟩⟩
-- a fault of the token at hand
set_option maxHeartbeats 4000000 in
set_option maxRecDepth 100000 in
theorem MG.no {t : Int → Int} {n cnt w : Int} {σ σ' : Sto} {s : PS} (h : MG t n σ s cnt) (hw : 0 < w) (h1 : σ' 71 10 = w) (h2 : σ' 71 11 = σ 71 13) : MSb t n σ' (s.bad t n w) := by
  have hb := tk_bd (t := t) h.1.2.2.2.2.1.1 h.1.2.2.2.2.1.2
  have hn := h.1.1
  have hx := h.1.2.2.2.2.1
  have h13 := h.2.2.2.2.1
  have ef : (s.bad t n w).f = w := by show (if tkK t n s.x = 0 then 1 else w) = w; rw [if_neg h.2.1]
  exact ⟨by omega, by omega, Or.inl ⟨by rw [ef]; omega, by rw [ef]; exact h1, by rw [h2]; exact h13⟩⟩
def mstP (σ σ' : Sto) (b c : Int) : Prop := Fr1 σ σ' ∧ σ' 71 12 = σ 71 12 ∧ σ' 71 13 = σ 71 13 ∧ σ' 71 14 = σ 71 14 ∧ σ' 71 15 = σ 71 15 ∧ ((¬ (b = 0 ∧ σ 71 10 = 0) ∧ σ' 71 10 = σ 71 10 ∧ σ' 71 11 = σ 71 11) ∨ (b = 0 ∧ σ 71 10 = 0 ∧ σ' 71 10 = c ∧ σ' 71 11 = σ 71 13))
set_option maxHeartbeats 4000000 in
set_option maxRecDepth 100000 in
theorem m_mustP {σ : Sto} {b c : Int} : CtV yX7_must cX7_must 3 none 0 [mR 71, mI b, mI c] σ (fun σ' => mstP σ σ' b c) := by
  refine Ct.mono m_must (fun v σ' h => ⟨h.1, ?_⟩)
  obtain ⟨-, h⟩ := h
  by_cases hc : b = 0 ∧ σ 71 10 = 0
  · rw [mst_yes hc.1 hc.2] at h
    rw [h]
    refine ⟨⟨(Frm.rf.up (by decide)).up (by decide), fun k hk => by rw [upd2_k (by omega), upd2_k (by omega)]⟩, ?_, ?_, ?_, ?_, Or.inr ⟨hc.1, hc.2, ?_, upd2_eq⟩⟩
    · rw [upd2_k (by decide), upd2_k (by decide)]
    · rw [upd2_k (by decide), upd2_k (by decide)]
    · rw [upd2_k (by decide), upd2_k (by decide)]
    · rw [upd2_k (by decide), upd2_k (by decide)]
    · rw [upd2_k (by decide), upd2_eq]
  · rw [mst_no (by omega)] at h
    rw [h]
    exact ⟨Fr1.rf, rfl, rfl, rfl, rfl, Or.inl ⟨hc, rfl, rfl⟩⟩
set_option maxHeartbeats 4000000 in
set_option maxRecDepth 100000 in
theorem m_readsU {σ : Sto} {t : Int → Int} {n cnt : Int} {q : PS} (h0 : 0 ≤ σ 71 10) (h : σ 71 10 = 0 → MB t n σ q cnt ∧ σ 71 12 = q.x) : CtV yX7_reads cX7_reads 2 none 1 [mR 71] σ (fun σ' => Fr1 σ σ' ∧ ((σ 71 10 = 0 ∧ MS t n σ' q cnt) ∨ (0 < σ 71 10 ∧ σ' = σ))) := by
  by_cases hc : σ 71 10 = 0
  · obtain ⟨hb, hx⟩ := h hc
    refine Ct.mono (m_reads hc hb.2.1 hb.1 hb.2.2.1 hb.2.2.2.1 hx hb.2.2.2.2.1) (fun v σ' hq => ⟨hq.1, ?_⟩)
    have hr := hb.rd hq.2
    exact ⟨hr.2, Or.inl ⟨hc, hr.1⟩⟩
  · refine Ct.mono (m_reads0 (by omega)) (fun v σ' hq => ⟨hq.1, ?_⟩)
    rw [hq.2]
    exact ⟨Fr1.rf, Or.inr ⟨by omega, rfl⟩⟩
set_option maxHeartbeats 4000000 in
set_option maxRecDepth 100000 in
theorem m_number {σ : Sto} {t : Int → Int} {n cnt lo hi : Int} {s : PS} (hg : MG t n σ s cnt) : CtI yX7_number cX7_number 4 (some .int) 2 [mR 71, mI lo, mI hi] σ (fun z σ' => Fr1 σ σ' ∧ MS t n σ' (pNum t n lo hi s) cnt ∧ ((pNum t n lo hi s).f = 0 → z = tkN t n s.x)) := by
  refine ct_of rfl [some (mR 71), some (mI lo), some (mI hi), none] (Nat.le_of_ble_eq_true rfl) rfl (fun hσ => ?_)
  show Wp cX7_number RX7 (some .int) 2 0 [some (mR 71), some (mI lo), some (mI hi), none] [] _ _
  obtain ⟨hb, k0, k10, k12, k13, kk⟩ := hg
  have hg : MG t n σ s cnt := ⟨hb, k0, k10, k12, k13, kk⟩
  unfold tkOK at kk
  have w66 : ∀ (υ : Sto) (v : Int), Fr1 σ υ → υ 71 12 = σ 71 12 → ((υ 71 10 = 0 ∧ (tkK t n s.x = 2 ∧ lo ≤ tkN t n s.x ∧ tkN t n s.x ≤ hi) ∧ v = tkN t n s.x) ∨ (¬ (tkK t n s.x = 2 ∧ lo ≤ tkN t n s.x ∧ tkN t n s.x ≤ hi) ∧ υ 71 10 = (if tkK t n s.x = 2 then 3 else 2) ∧ υ 71 11 = σ 71 13)) → Wp cX7_number RX7 (some .int) 2 66 [some (mR 71), some (mI lo), some (mI hi), some (mI v)] [] υ (fun v σ' => ∃ z, v = some (mI z) ∧ (fun z σ' => Fr1 σ σ' ∧ MS t n σ' (pNum t n lo hi s) cnt ∧ ((pNum t n lo hi s).f = 0 → z = tkN t n s.x)) z σ') := by
    intro υ v hf h12 hc
    have hp : 0 ≤ υ 71 10 ∧ (υ 71 10 = 0 → (tkK t n s.x = 2 ∧ lo ≤ tkN t n s.x ∧ tkN t n s.x ≤ hi) ∧ v = tkN t n s.x) := by
      rcases hc with c | c
      · exact ⟨by omega, fun _ => c.2⟩
      · have c2 := c.2.1
        split at c2 <;> exact ⟨by omega, fun _ => by omega⟩
    have hbn : υ 71 10 = 0 → MB t n υ (s.nx t n) cnt ∧ υ 71 12 = (s.nx t n).x := fun _ => by
      refine ⟨?_, h12.trans k12⟩
      have hb2 := hb.fr hf
      have hnx := nx_bd (t := t) hb.2.2.2.2.1
      obtain ⟨b1, b2, b3, b4, b5, b6⟩ := hb2
      exact ⟨b1, b2, b3, b4, ⟨Int.le_trans b5.1 hnx.1, hnx.2⟩, b6⟩
    refine wp_aload_n (pc := 66) dX7_number_66 rfl rfl ?_
    refine wp_cvV0 (pc := 67) dX7_number_67 mv_X7_115 (m_readsU hp.1 hbn) (Nat.le_of_ble_eq_true rfl) rfl (Nat.le_of_ble_eq_true rfl) (fun σ_67 h_67 => ?_)
    obtain ⟨f67, q67⟩ := h_67
    refine wp_iload_n (pc := 70) dX7_number_70 rfl rfl ?_
    refine wp_ireturn (pc := 71) dX7_number_71 rfl ?_
    refine ⟨_, rfl, hf.tr f67, ?_⟩
    rcases hc with c | c
    · have e : pNum t n lo hi s = s.nx t n := by unfold pNum; rw [if_pos c.2.1]
      rw [e]
      refine ⟨?_, fun _ => c.2.2⟩
      rcases q67 with c2 | c2
      · exact c2.2
      · omega
    · have e : pNum t n lo hi s = s.bad t n (if tkK t n s.x = 2 then 3 else 2) := by unfold pNum; rw [if_neg c.1]
      have hw : 0 < (if tkK t n s.x = 2 then (3 : Int) else 2) := by split <;> decide
      rw [e]
      rcases q67 with c2 | c2
      · rw [c.2.1] at c2; omega
      · rw [c2.2]
        exact ⟨Or.inr (hg.no hw c.2.1 c.2.2), fun z => absurd z (bad_f (by omega))⟩
  refine wp_aload_n (pc := 0) dX7_number_0 rfl rfl ?_
  refine wp_aload_n (pc := 1) dX7_number_1 rfl rfl ?_
  refine wp_getI (pc := 2) 14 dX7_number_2 fl_X7_100 rfl rfl ?_
  refine wp_iconst (pc := 5) dX7_number_5 (by decide) ?_
  refine wp_icmp_ne (pc := 6) 13 dX7_number_6 (by decide) (fun c_6 => ?_) (fun c_6 => ?_)
  · refine wp_iconst (pc := 13) dX7_number_13 (by decide) ?_
    refine wp_iconst (pc := 14) dX7_number_14 (by decide) ?_
    refine wp_cvV2 (pc := 15) dX7_number_15 mv_X7_111 m_mustP (Nat.le_of_ble_eq_true rfl) rfl (Nat.le_of_ble_eq_true rfl) (fun σ_15 h_15 => ?_)
    obtain ⟨f_15, a12_15, a13_15, a14_15, a15_15, q_15⟩ := h_15
    refine wp_aload_n (pc := 18) dX7_number_18 rfl rfl ?_
    refine wp_aload_n (pc := 19) dX7_number_19 rfl rfl ?_
    refine wp_getI (pc := 20) 10 dX7_number_20 fl_X7_81 rfl rfl ?_
    refine wp_if_gt (pc := 23) 41 dX7_number_23 (by decide) (fun c_23 => ?_) (fun c_23 => ?_)
    · refine wp_iconst (pc := 41) dX7_number_41 (by decide) ?_
      refine wp_goto (pc := 42) 46 dX7_number_42 (by decide) ?_
      refine wp_iconst (pc := 46) dX7_number_46 (by decide) ?_
      refine wp_cvV2 (pc := 47) dX7_number_47 mv_X7_111 m_mustP (Nat.le_of_ble_eq_true rfl) rfl (Nat.le_of_ble_eq_true rfl) (fun σ_47 h_47 => ?_)
      obtain ⟨f_47, a12_47, a13_47, a14_47, a15_47, q_47⟩ := h_47
      refine wp_aload_n (pc := 50) dX7_number_50 rfl rfl ?_
      refine wp_getI (pc := 51) 10 dX7_number_51 fl_X7_81 rfl rfl ?_
      refine wp_if_le (pc := 54) 61 dX7_number_54 (by decide) (fun c_54 => ?_) (fun c_54 => ?_)
      · refine wp_aload_n (pc := 61) dX7_number_61 rfl rfl ?_
        refine wp_getI (pc := 62) 15 dX7_number_62 fl_X7_97 rfl rfl ?_
        refine wp_istore_n (pc := 65) dX7_number_65 rfl (Nat.le_of_ble_eq_true rfl) rfl ?_
        first
          | exact w66 _ _ (f_15.tr f_47) (by omega) (Or.inl ⟨by omega, by omega, by omega⟩)
          | exact w66 _ _ (f_15.tr f_47) (by omega) (Or.inr ⟨by omega, by rw [if_pos (by omega)]; omega, by omega⟩)
          | exact w66 _ _ (f_15.tr f_47) (by omega) (Or.inr ⟨by omega, by rw [if_neg (by omega)]; omega, by omega⟩)
          | (exfalso; omega)
      · refine wp_iconst (pc := 57) dX7_number_57 (by decide) ?_
        refine wp_goto (pc := 58) 65 dX7_number_58 (by decide) ?_
        refine wp_istore_n (pc := 65) dX7_number_65 rfl (Nat.le_of_ble_eq_true rfl) rfl ?_
        first
          | exact w66 _ _ (f_15.tr f_47) (by omega) (Or.inl ⟨by omega, by omega, by omega⟩)
          | exact w66 _ _ (f_15.tr f_47) (by omega) (Or.inr ⟨by omega, by rw [if_pos (by omega)]; omega, by omega⟩)
          | exact w66 _ _ (f_15.tr f_47) (by omega) (Or.inr ⟨by omega, by rw [if_neg (by omega)]; omega, by omega⟩)
          | (exfalso; omega)
    · refine wp_aload_n (pc := 26) dX7_number_26 rfl rfl ?_
      refine wp_getI (pc := 27) 15 dX7_number_27 fl_X7_97 rfl rfl ?_
      refine wp_i2l (pc := 30) dX7_number_30 ?_
      refine wp_iload_n (pc := 31) dX7_number_31 rfl rfl ?_
      refine wp_i2l (pc := 32) dX7_number_32 ?_
      refine wp_iload_n (pc := 33) dX7_number_33 rfl rfl ?_
      refine wp_i2l (pc := 34) dX7_number_34 ?_
      refine wp_csI3 (pc := 35) dX7_number_35 ms_X7_73 m_in (Nat.le_of_ble_eq_true rfl) (Nat.le_of_ble_eq_true rfl) (fun z_35 σ_35 h_35 => ?_)
      obtain ⟨y_35, e_35⟩ := h_35; have e2_35 := e_35.symm; subst e2_35
      refine wp_if_eq (pc := 38) 45 dX7_number_38 (by decide) (fun c_38 => ?_) (fun c_38 => ?_)
      · refine wp_iconst (pc := 45) dX7_number_45 (by decide) ?_
        refine wp_iconst (pc := 46) dX7_number_46 (by decide) ?_
        refine wp_cvV2 (pc := 47) dX7_number_47 mv_X7_111 m_mustP (Nat.le_of_ble_eq_true rfl) rfl (Nat.le_of_ble_eq_true rfl) (fun σ_47 h_47 => ?_)
        obtain ⟨f_47, a12_47, a13_47, a14_47, a15_47, q_47⟩ := h_47
        refine wp_aload_n (pc := 50) dX7_number_50 rfl rfl ?_
        refine wp_getI (pc := 51) 10 dX7_number_51 fl_X7_81 rfl rfl ?_
        refine wp_if_le (pc := 54) 61 dX7_number_54 (by decide) (fun c_54 => ?_) (fun c_54 => ?_)
        · refine wp_aload_n (pc := 61) dX7_number_61 rfl rfl ?_
          refine wp_getI (pc := 62) 15 dX7_number_62 fl_X7_97 rfl rfl ?_
          refine wp_istore_n (pc := 65) dX7_number_65 rfl (Nat.le_of_ble_eq_true rfl) rfl ?_
          first
            | exact w66 _ _ (f_15.tr f_47) (by omega) (Or.inl ⟨by omega, by omega, by omega⟩)
            | exact w66 _ _ (f_15.tr f_47) (by omega) (Or.inr ⟨by omega, by rw [if_pos (by omega)]; omega, by omega⟩)
            | exact w66 _ _ (f_15.tr f_47) (by omega) (Or.inr ⟨by omega, by rw [if_neg (by omega)]; omega, by omega⟩)
            | (exfalso; omega)
        · refine wp_iconst (pc := 57) dX7_number_57 (by decide) ?_
          refine wp_goto (pc := 58) 65 dX7_number_58 (by decide) ?_
          refine wp_istore_n (pc := 65) dX7_number_65 rfl (Nat.le_of_ble_eq_true rfl) rfl ?_
          first
            | exact w66 _ _ (f_15.tr f_47) (by omega) (Or.inl ⟨by omega, by omega, by omega⟩)
            | exact w66 _ _ (f_15.tr f_47) (by omega) (Or.inr ⟨by omega, by rw [if_pos (by omega)]; omega, by omega⟩)
            | exact w66 _ _ (f_15.tr f_47) (by omega) (Or.inr ⟨by omega, by rw [if_neg (by omega)]; omega, by omega⟩)
            | (exfalso; omega)
      · refine wp_iconst (pc := 41) dX7_number_41 (by decide) ?_
        refine wp_goto (pc := 42) 46 dX7_number_42 (by decide) ?_
        refine wp_iconst (pc := 46) dX7_number_46 (by decide) ?_
        refine wp_cvV2 (pc := 47) dX7_number_47 mv_X7_111 m_mustP (Nat.le_of_ble_eq_true rfl) rfl (Nat.le_of_ble_eq_true rfl) (fun σ_47 h_47 => ?_)
        obtain ⟨f_47, a12_47, a13_47, a14_47, a15_47, q_47⟩ := h_47
        refine wp_aload_n (pc := 50) dX7_number_50 rfl rfl ?_
        refine wp_getI (pc := 51) 10 dX7_number_51 fl_X7_81 rfl rfl ?_
        refine wp_if_le (pc := 54) 61 dX7_number_54 (by decide) (fun c_54 => ?_) (fun c_54 => ?_)
        · refine wp_aload_n (pc := 61) dX7_number_61 rfl rfl ?_
          refine wp_getI (pc := 62) 15 dX7_number_62 fl_X7_97 rfl rfl ?_
          refine wp_istore_n (pc := 65) dX7_number_65 rfl (Nat.le_of_ble_eq_true rfl) rfl ?_
          first
            | exact w66 _ _ (f_15.tr f_47) (by omega) (Or.inl ⟨by omega, by omega, by omega⟩)
            | exact w66 _ _ (f_15.tr f_47) (by omega) (Or.inr ⟨by omega, by rw [if_pos (by omega)]; omega, by omega⟩)
            | exact w66 _ _ (f_15.tr f_47) (by omega) (Or.inr ⟨by omega, by rw [if_neg (by omega)]; omega, by omega⟩)
            | (exfalso; omega)
        · refine wp_iconst (pc := 57) dX7_number_57 (by decide) ?_
          refine wp_goto (pc := 58) 65 dX7_number_58 (by decide) ?_
          refine wp_istore_n (pc := 65) dX7_number_65 rfl (Nat.le_of_ble_eq_true rfl) rfl ?_
          first
            | exact w66 _ _ (f_15.tr f_47) (by omega) (Or.inl ⟨by omega, by omega, by omega⟩)
            | exact w66 _ _ (f_15.tr f_47) (by omega) (Or.inr ⟨by omega, by rw [if_pos (by omega)]; omega, by omega⟩)
            | exact w66 _ _ (f_15.tr f_47) (by omega) (Or.inr ⟨by omega, by rw [if_neg (by omega)]; omega, by omega⟩)
            | (exfalso; omega)
  · refine wp_iconst (pc := 9) dX7_number_9 (by decide) ?_
    refine wp_goto (pc := 10) 14 dX7_number_10 (by decide) ?_
    refine wp_iconst (pc := 14) dX7_number_14 (by decide) ?_
    refine wp_cvV2 (pc := 15) dX7_number_15 mv_X7_111 m_mustP (Nat.le_of_ble_eq_true rfl) rfl (Nat.le_of_ble_eq_true rfl) (fun σ_15 h_15 => ?_)
    obtain ⟨f_15, a12_15, a13_15, a14_15, a15_15, q_15⟩ := h_15
    refine wp_aload_n (pc := 18) dX7_number_18 rfl rfl ?_
    refine wp_aload_n (pc := 19) dX7_number_19 rfl rfl ?_
    refine wp_getI (pc := 20) 10 dX7_number_20 fl_X7_81 rfl rfl ?_
    refine wp_if_gt (pc := 23) 41 dX7_number_23 (by decide) (fun c_23 => ?_) (fun c_23 => ?_)
    · refine wp_iconst (pc := 41) dX7_number_41 (by decide) ?_
      refine wp_goto (pc := 42) 46 dX7_number_42 (by decide) ?_
      refine wp_iconst (pc := 46) dX7_number_46 (by decide) ?_
      refine wp_cvV2 (pc := 47) dX7_number_47 mv_X7_111 m_mustP (Nat.le_of_ble_eq_true rfl) rfl (Nat.le_of_ble_eq_true rfl) (fun σ_47 h_47 => ?_)
      obtain ⟨f_47, a12_47, a13_47, a14_47, a15_47, q_47⟩ := h_47
      refine wp_aload_n (pc := 50) dX7_number_50 rfl rfl ?_
      refine wp_getI (pc := 51) 10 dX7_number_51 fl_X7_81 rfl rfl ?_
      refine wp_if_le (pc := 54) 61 dX7_number_54 (by decide) (fun c_54 => ?_) (fun c_54 => ?_)
      · refine wp_aload_n (pc := 61) dX7_number_61 rfl rfl ?_
        refine wp_getI (pc := 62) 15 dX7_number_62 fl_X7_97 rfl rfl ?_
        refine wp_istore_n (pc := 65) dX7_number_65 rfl (Nat.le_of_ble_eq_true rfl) rfl ?_
        first
          | exact w66 _ _ (f_15.tr f_47) (by omega) (Or.inl ⟨by omega, by omega, by omega⟩)
          | exact w66 _ _ (f_15.tr f_47) (by omega) (Or.inr ⟨by omega, by rw [if_pos (by omega)]; omega, by omega⟩)
          | exact w66 _ _ (f_15.tr f_47) (by omega) (Or.inr ⟨by omega, by rw [if_neg (by omega)]; omega, by omega⟩)
          | (exfalso; omega)
      · refine wp_iconst (pc := 57) dX7_number_57 (by decide) ?_
        refine wp_goto (pc := 58) 65 dX7_number_58 (by decide) ?_
        refine wp_istore_n (pc := 65) dX7_number_65 rfl (Nat.le_of_ble_eq_true rfl) rfl ?_
        first
          | exact w66 _ _ (f_15.tr f_47) (by omega) (Or.inl ⟨by omega, by omega, by omega⟩)
          | exact w66 _ _ (f_15.tr f_47) (by omega) (Or.inr ⟨by omega, by rw [if_pos (by omega)]; omega, by omega⟩)
          | exact w66 _ _ (f_15.tr f_47) (by omega) (Or.inr ⟨by omega, by rw [if_neg (by omega)]; omega, by omega⟩)
          | (exfalso; omega)
    · refine wp_aload_n (pc := 26) dX7_number_26 rfl rfl ?_
      refine wp_getI (pc := 27) 15 dX7_number_27 fl_X7_97 rfl rfl ?_
      refine wp_i2l (pc := 30) dX7_number_30 ?_
      refine wp_iload_n (pc := 31) dX7_number_31 rfl rfl ?_
      refine wp_i2l (pc := 32) dX7_number_32 ?_
      refine wp_iload_n (pc := 33) dX7_number_33 rfl rfl ?_
      refine wp_i2l (pc := 34) dX7_number_34 ?_
      refine wp_csI3 (pc := 35) dX7_number_35 ms_X7_73 m_in (Nat.le_of_ble_eq_true rfl) (Nat.le_of_ble_eq_true rfl) (fun z_35 σ_35 h_35 => ?_)
      obtain ⟨y_35, e_35⟩ := h_35; have e2_35 := e_35.symm; subst e2_35
      refine wp_if_eq (pc := 38) 45 dX7_number_38 (by decide) (fun c_38 => ?_) (fun c_38 => ?_)
      · refine wp_iconst (pc := 45) dX7_number_45 (by decide) ?_
        refine wp_iconst (pc := 46) dX7_number_46 (by decide) ?_
        refine wp_cvV2 (pc := 47) dX7_number_47 mv_X7_111 m_mustP (Nat.le_of_ble_eq_true rfl) rfl (Nat.le_of_ble_eq_true rfl) (fun σ_47 h_47 => ?_)
        obtain ⟨f_47, a12_47, a13_47, a14_47, a15_47, q_47⟩ := h_47
        refine wp_aload_n (pc := 50) dX7_number_50 rfl rfl ?_
        refine wp_getI (pc := 51) 10 dX7_number_51 fl_X7_81 rfl rfl ?_
        refine wp_if_le (pc := 54) 61 dX7_number_54 (by decide) (fun c_54 => ?_) (fun c_54 => ?_)
        · refine wp_aload_n (pc := 61) dX7_number_61 rfl rfl ?_
          refine wp_getI (pc := 62) 15 dX7_number_62 fl_X7_97 rfl rfl ?_
          refine wp_istore_n (pc := 65) dX7_number_65 rfl (Nat.le_of_ble_eq_true rfl) rfl ?_
          first
            | exact w66 _ _ (f_15.tr f_47) (by omega) (Or.inl ⟨by omega, by omega, by omega⟩)
            | exact w66 _ _ (f_15.tr f_47) (by omega) (Or.inr ⟨by omega, by rw [if_pos (by omega)]; omega, by omega⟩)
            | exact w66 _ _ (f_15.tr f_47) (by omega) (Or.inr ⟨by omega, by rw [if_neg (by omega)]; omega, by omega⟩)
            | (exfalso; omega)
        · refine wp_iconst (pc := 57) dX7_number_57 (by decide) ?_
          refine wp_goto (pc := 58) 65 dX7_number_58 (by decide) ?_
          refine wp_istore_n (pc := 65) dX7_number_65 rfl (Nat.le_of_ble_eq_true rfl) rfl ?_
          first
            | exact w66 _ _ (f_15.tr f_47) (by omega) (Or.inl ⟨by omega, by omega, by omega⟩)
            | exact w66 _ _ (f_15.tr f_47) (by omega) (Or.inr ⟨by omega, by rw [if_pos (by omega)]; omega, by omega⟩)
            | exact w66 _ _ (f_15.tr f_47) (by omega) (Or.inr ⟨by omega, by rw [if_neg (by omega)]; omega, by omega⟩)
            | (exfalso; omega)
      · refine wp_iconst (pc := 41) dX7_number_41 (by decide) ?_
        refine wp_goto (pc := 42) 46 dX7_number_42 (by decide) ?_
        refine wp_iconst (pc := 46) dX7_number_46 (by decide) ?_
        refine wp_cvV2 (pc := 47) dX7_number_47 mv_X7_111 m_mustP (Nat.le_of_ble_eq_true rfl) rfl (Nat.le_of_ble_eq_true rfl) (fun σ_47 h_47 => ?_)
        obtain ⟨f_47, a12_47, a13_47, a14_47, a15_47, q_47⟩ := h_47
        refine wp_aload_n (pc := 50) dX7_number_50 rfl rfl ?_
        refine wp_getI (pc := 51) 10 dX7_number_51 fl_X7_81 rfl rfl ?_
        refine wp_if_le (pc := 54) 61 dX7_number_54 (by decide) (fun c_54 => ?_) (fun c_54 => ?_)
        · refine wp_aload_n (pc := 61) dX7_number_61 rfl rfl ?_
          refine wp_getI (pc := 62) 15 dX7_number_62 fl_X7_97 rfl rfl ?_
          refine wp_istore_n (pc := 65) dX7_number_65 rfl (Nat.le_of_ble_eq_true rfl) rfl ?_
          first
            | exact w66 _ _ (f_15.tr f_47) (by omega) (Or.inl ⟨by omega, by omega, by omega⟩)
            | exact w66 _ _ (f_15.tr f_47) (by omega) (Or.inr ⟨by omega, by rw [if_pos (by omega)]; omega, by omega⟩)
            | exact w66 _ _ (f_15.tr f_47) (by omega) (Or.inr ⟨by omega, by rw [if_neg (by omega)]; omega, by omega⟩)
            | (exfalso; omega)
        · refine wp_iconst (pc := 57) dX7_number_57 (by decide) ?_
          refine wp_goto (pc := 58) 65 dX7_number_58 (by decide) ?_
          refine wp_istore_n (pc := 65) dX7_number_65 rfl (Nat.le_of_ble_eq_true rfl) rfl ?_
          first
            | exact w66 _ _ (f_15.tr f_47) (by omega) (Or.inl ⟨by omega, by omega, by omega⟩)
            | exact w66 _ _ (f_15.tr f_47) (by omega) (Or.inr ⟨by omega, by rw [if_pos (by omega)]; omega, by omega⟩)
            | exact w66 _ _ (f_15.tr f_47) (by omega) (Or.inr ⟨by omega, by rw [if_neg (by omega)]; omega, by omega⟩)
            | (exfalso; omega)
set_option maxHeartbeats 4000000 in
set_option maxRecDepth 100000 in
theorem m_number0 {σ : Sto} {lo hi : Int} (hg : 0 < σ 71 10) : CtI yX7_number cX7_number 4 (some .int) 2 [mR 71, mI lo, mI hi] σ (fun z σ' => z = 0 ∧ Fr1 σ σ' ∧ σ' 71 10 = σ 71 10 ∧ σ' 71 11 = σ 71 11) := by
  refine ct_of rfl [some (mR 71), some (mI lo), some (mI hi), none] (Nat.le_of_ble_eq_true rfl) rfl (fun hσ => ?_)
  show Wp cX7_number RX7 (some .int) 2 0 [some (mR 71), some (mI lo), some (mI hi), none] [] _ _
  refine wp_aload_n (pc := 0) dX7_number_0 rfl rfl ?_
  refine wp_aload_n (pc := 1) dX7_number_1 rfl rfl ?_
  refine wp_getI (pc := 2) 14 dX7_number_2 fl_X7_100 rfl rfl ?_
  refine wp_iconst (pc := 5) dX7_number_5 (by decide) ?_
  refine wp_icmp_ne (pc := 6) 13 dX7_number_6 (by decide) (fun c_6 => ?_) (fun c_6 => ?_)
  · refine wp_iconst (pc := 13) dX7_number_13 (by decide) ?_
    refine wp_iconst (pc := 14) dX7_number_14 (by decide) ?_
    refine wp_cvV2 (pc := 15) dX7_number_15 mv_X7_111 m_mustP (Nat.le_of_ble_eq_true rfl) rfl (Nat.le_of_ble_eq_true rfl) (fun σ_15 h_15 => ?_)
    obtain ⟨f_15, a12_15, a13_15, a14_15, a15_15, q_15⟩ := h_15
    refine wp_aload_n (pc := 18) dX7_number_18 rfl rfl ?_
    refine wp_aload_n (pc := 19) dX7_number_19 rfl rfl ?_
    refine wp_getI (pc := 20) 10 dX7_number_20 fl_X7_81 rfl rfl ?_
    refine wp_if_gt (pc := 23) 41 dX7_number_23 (by decide) (fun c_23 => ?_) (fun c_23 => ?_)
    · refine wp_iconst (pc := 41) dX7_number_41 (by decide) ?_
      refine wp_goto (pc := 42) 46 dX7_number_42 (by decide) ?_
      refine wp_iconst (pc := 46) dX7_number_46 (by decide) ?_
      refine wp_cvV2 (pc := 47) dX7_number_47 mv_X7_111 m_mustP (Nat.le_of_ble_eq_true rfl) rfl (Nat.le_of_ble_eq_true rfl) (fun σ_47 h_47 => ?_)
      obtain ⟨f_47, a12_47, a13_47, a14_47, a15_47, q_47⟩ := h_47
      refine wp_aload_n (pc := 50) dX7_number_50 rfl rfl ?_
      refine wp_getI (pc := 51) 10 dX7_number_51 fl_X7_81 rfl rfl ?_
      refine wp_if_le (pc := 54) 61 dX7_number_54 (by decide) (fun c_54 => ?_) (fun c_54 => ?_)
      · omega
      · refine wp_iconst (pc := 57) dX7_number_57 (by decide) ?_
        refine wp_goto (pc := 58) 65 dX7_number_58 (by decide) ?_
        refine wp_istore_n (pc := 65) dX7_number_65 rfl (Nat.le_of_ble_eq_true rfl) rfl ?_
        refine wp_aload_n (pc := 66) dX7_number_66 rfl rfl ?_
        refine wp_cvV0 (pc := 67) dX7_number_67 mv_X7_115 (m_reads0 (by omega)) (Nat.le_of_ble_eq_true rfl) rfl (Nat.le_of_ble_eq_true rfl) (fun σ_67 h_67 => ?_)
        subst h_67
        refine wp_iload_n (pc := 70) dX7_number_70 rfl rfl ?_
        refine wp_ireturn (pc := 71) dX7_number_71 rfl ?_
        exact ⟨_, rfl, rfl, f_15.tr f_47, by omega, by omega⟩
    · omega
  · refine wp_iconst (pc := 9) dX7_number_9 (by decide) ?_
    refine wp_goto (pc := 10) 14 dX7_number_10 (by decide) ?_
    refine wp_iconst (pc := 14) dX7_number_14 (by decide) ?_
    refine wp_cvV2 (pc := 15) dX7_number_15 mv_X7_111 m_mustP (Nat.le_of_ble_eq_true rfl) rfl (Nat.le_of_ble_eq_true rfl) (fun σ_15 h_15 => ?_)
    obtain ⟨f_15, a12_15, a13_15, a14_15, a15_15, q_15⟩ := h_15
    refine wp_aload_n (pc := 18) dX7_number_18 rfl rfl ?_
    refine wp_aload_n (pc := 19) dX7_number_19 rfl rfl ?_
    refine wp_getI (pc := 20) 10 dX7_number_20 fl_X7_81 rfl rfl ?_
    refine wp_if_gt (pc := 23) 41 dX7_number_23 (by decide) (fun c_23 => ?_) (fun c_23 => ?_)
    · refine wp_iconst (pc := 41) dX7_number_41 (by decide) ?_
      refine wp_goto (pc := 42) 46 dX7_number_42 (by decide) ?_
      refine wp_iconst (pc := 46) dX7_number_46 (by decide) ?_
      refine wp_cvV2 (pc := 47) dX7_number_47 mv_X7_111 m_mustP (Nat.le_of_ble_eq_true rfl) rfl (Nat.le_of_ble_eq_true rfl) (fun σ_47 h_47 => ?_)
      obtain ⟨f_47, a12_47, a13_47, a14_47, a15_47, q_47⟩ := h_47
      refine wp_aload_n (pc := 50) dX7_number_50 rfl rfl ?_
      refine wp_getI (pc := 51) 10 dX7_number_51 fl_X7_81 rfl rfl ?_
      refine wp_if_le (pc := 54) 61 dX7_number_54 (by decide) (fun c_54 => ?_) (fun c_54 => ?_)
      · omega
      · refine wp_iconst (pc := 57) dX7_number_57 (by decide) ?_
        refine wp_goto (pc := 58) 65 dX7_number_58 (by decide) ?_
        refine wp_istore_n (pc := 65) dX7_number_65 rfl (Nat.le_of_ble_eq_true rfl) rfl ?_
        refine wp_aload_n (pc := 66) dX7_number_66 rfl rfl ?_
        refine wp_cvV0 (pc := 67) dX7_number_67 mv_X7_115 (m_reads0 (by omega)) (Nat.le_of_ble_eq_true rfl) rfl (Nat.le_of_ble_eq_true rfl) (fun σ_67 h_67 => ?_)
        subst h_67
        refine wp_iload_n (pc := 70) dX7_number_70 rfl rfl ?_
        refine wp_ireturn (pc := 71) dX7_number_71 rfl ?_
        exact ⟨_, rfl, rfl, f_15.tr f_47, by omega, by omega⟩
    · omega
set_option maxHeartbeats 4000000 in
set_option maxRecDepth 100000 in
theorem m_numberU {σ : Sto} {t : Int → Int} {n cnt lo hi : Int} {s : PS} (h0 : 0 ≤ σ 71 10) (hg : σ 71 10 = 0 → MG t n σ s cnt) : CtI yX7_number cX7_number 4 (some .int) 2 [mR 71, mI lo, mI hi] σ (fun z σ' => Fr1 σ σ' ∧ ((σ 71 10 = 0 ∧ MS t n σ' (pNum t n lo hi s) cnt ∧ ((pNum t n lo hi s).f = 0 → z = tkN t n s.x)) ∨ (0 < σ 71 10 ∧ z = 0 ∧ σ' 71 10 = σ 71 10 ∧ σ' 71 11 = σ 71 11))) := by
  by_cases hc : σ 71 10 = 0
  · exact Ct.mono (m_number (hg hc)) (fun v σ' ⟨z, h1, h2, h3, h4⟩ => ⟨z, h1, h2, Or.inl ⟨hc, h3, h4⟩⟩)
  · exact Ct.mono (m_number0 (by omega)) (fun v σ' ⟨z, h1, h2, h3, h4, h5⟩ => ⟨z, h1, h3, Or.inr ⟨by omega, h2, h4, h5⟩⟩)
