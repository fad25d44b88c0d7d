def semi (t : Int → Int) (n : Int) (q : PS) : PS := if tkK t n q.x = 4 then q.nx t n else q.bad t n 2
-- a line but for its end
def SM (t : Int → Int) (n : Int) (P q : PS) : Prop := (q.f = 0 ∧ P = semi t n q) ∨ (¬ q.f = 0 ∧ P = q)
set_option maxHeartbeats 4000000 in
set_option maxRecDepth 100000 in
theorem pSet_c {t : Int → Int} {n W : Int} {s : PS} (hW : W = nm6 (s.nm t n)) : ((¬ tkK t n s.x = 1 ∨ W < 0) → pSet t n s = s.bad t n 2) ∧ (tkK t n s.x = 1 → 0 ≤ W → ¬ s.T W = 0 → pSet t n s = s.bad t n 4) ∧ (tkK t n s.x = 1 → 0 ≤ W → s.T W = 0 → ¬ (pNum t n (stV 0 W) (stV 1 W) (s.nx t n)).f = 0 → pSet t n s = pNum t n (stV 0 W) (stV 1 W) (s.nx t n)) ∧ (tkK t n s.x = 1 → 0 ≤ W → s.T W = 0 → (pNum t n (stV 0 W) (stV 1 W) (s.nx t n)).f = 0 → pSet t n s = semi t n ((((s.nx t n).nx t n).wT (upf s.T W 1)).wD (setSt s.D W (tkN t n (s.nx t n).x)))) := by
  unfold pSet
  rw [← hW]
  refine ⟨fun h => by rw [if_pos h], fun h1 h2 h3 => by rw [if_neg (by omega), if_pos h3], fun h1 h2 h3 h4 => by rw [if_neg (by omega), if_neg (fun z => z h3), if_pos h4], fun h1 h2 h3 h4 => by rw [if_neg (by omega), if_neg (fun z => z h3), if_neg (fun z => z h4)]; rfl⟩
set_option maxHeartbeats 4000000 in
set_option maxRecDepth 100000 in
theorem PR.ss {σ D S : Sto} {k v : Int} (h : PR (σ 73) D) (hD : OKD D S) (hk : 0 ≤ k ∧ k < 6) : PR (upd2 σ 73 (585 + k) v 73) (setSt D k v) := by
  have hb := hD.tt
  obtain ⟨a, b, c, d⟩ := h
  have e : ∀ r, r < 5 → setSt D k v r = D r := fun r hr => by funext i; show ite _ _ _ = _; rw [if_neg (by omega)]
  have e5 : ∀ i, setSt D k v 5 i = if i = k then v else D 5 i := fun i => by simp [setSt]
  have et : tot (setSt D k v) = tot D := tot_sett
  refine ⟨?_, fun q q0 q1 => ?_, fun w w0 w1 => ?_, fun j j0 j1 => ?_⟩
  · rw [upd2_k (by omega), e 0 (by decide)]; exact a
  · rw [e 0 (by decide)] at q1
    rw [e 2 (by decide), e 1 (by decide), e 3 (by decide), upd2_k (by omega), upd2_k (by omega), upd2_k (by omega)]
    exact b q q0 q1
  · rw [et] at w1
    rw [e 4 (by decide), upd2_k (by omega)]
    refine ⟨(c w w0 w1).1, fun j j0 j1 => ?_⟩
    rw [upd2_k (by omega)]
    exact (c w w0 w1).2 j j0 j1
  · rw [e5]
    by_cases hj : j = k
    · rw [hj, upd2_eq, if_pos rfl]
    · rw [upd2_k (by omega), if_neg hj]; exact d j j0 j1
-- the state behind the token at hand
set_option maxHeartbeats 4000000 in
set_option maxRecDepth 100000 in
theorem MG.nx {t : Int → Int} {n cnt : Int} {σ υ : Sto} {s : PS} (h : MG t n σ s cnt) (hf : Fr1 σ υ) (h12 : υ 71 12 = σ 71 12) : MB t n υ (s.nx t n) cnt ∧ υ 71 12 = (s.nx t n).x := by
  refine ⟨?_, h12.trans h.2.2.2.1⟩
  have hb2 := h.1.fr hf
  have hnx := nx_bd (t := t) h.1.2.2.2.2.1
  obtain ⟨b1, b2, b3, b4, b5, b6⟩ := hb2
  exact ⟨b1, b2, b3, b4, ⟨Int.le_trans b5.1 hnx.1, hnx.2⟩, b6⟩
set_option maxHeartbeats 4000000 in
set_option maxRecDepth 100000 in
theorem m_readsSetting {t : Int → Int} {n cnt : Int} {σ : Sto} {s P : PS} (hg : MG t n σ s cnt) (hp : PG n s) (hcn : s.S 0 0 = cnt) (hP : P = pSet t n s) : CtV yX7_readsSetting cX7_readsSetting 3 none 3 [mR 71] σ (fun σ' => RFr σ σ' ∧ ∃ q, MS t n σ' q cnt ∧ SM t n P q ∧ (q.f = 0 → q.S 0 0 = cnt)) := by
  refine ct_of rfl [some (mR 71), none, none] (Nat.le_of_ble_eq_true rfl) rfl (fun hσ => ?_)
  show Wp cX7_readsSetting RX7 none 3 0 [some (mR 71), none, none] [] _ _
  have hb := hg.1
  obtain ⟨k0, k10, k12, k13, kk⟩ := hg.2
  unfold tkOK at kk
  have htb := tk_bd (t := t) hb.2.2.2.2.1.1 hb.2.2.2.2.1.2
  have hn4 := hb.1
  have hx0 := hb.2.2.2.2.1
  have hbd := nm6_bd (s.nm t n)
  generalize hW : nm6 (s.nm t n) = W at hbd
  obtain ⟨p1, p2, p3, p4⟩ := pSet_c (t := t) (n := n) (s := s) hW.symm
  rw [← hP] at p1 p2 p3 p4
  have hT : 0 ≤ W → σ 81 W = s.T W ∧ (s.T W = 0 ∨ s.T W = 1) := fun c => hb.2.2.2.2.2.1 W c (by omega)
  refine wp_aload_n (pc := 0) dX7_readsSetting_0 rfl rfl ?_
  refine wp_iconst (pc := 1) dX7_readsSetting_1 (by decide) ?_
  refine wp_bipush (pc := 2) dX7_readsSetting_2 (by decide) (by decide) ?_
  refine wp_cvI2 (pc := 4) dX7_readsSetting_4 mv_X7_118 (m_nameNow (t := t) (n := n) (hs := tkS t n s.x) (m := tkE t n s.x - tkS t n s.x) hb.2.2.2.2.2.2.2.2.2.1 hb.2.1 hb.1.2 hb.2.2.1 k13 (by omega) (by omega) (by omega)) (Nat.le_of_ble_eq_true rfl) rfl (Nat.le_of_ble_eq_true rfl) (fun z_4 σ_4 h_4 => ?_)
  obtain ⟨zz_4, e_4⟩ := h_4; have e2_4 := e_4.symm; subst e2_4
  have hz : (tkK t n s.x = 1 ∧ ((0 ≤ W ∧ z_4 = W + 3) ∨ (W = -4 ∧ z_4 = -4))) ∨ (¬ tkK t n s.x = 1 ∧ z_4 = -4) := by
    by_cases h1 : tkK t n s.x = 1
    · left
      refine ⟨h1, ?_⟩
      rw [← hW]
      refine nm6_to ?_
      rcases zz_4 with ⟨w, w1, w2, w3, w4, w5, w6⟩ | ⟨w1, w2⟩
      · exact Or.inl ⟨w, w1, w2, w4, w5, w6⟩
      · exact Or.inr ⟨w1, w2 (by omega)⟩
    · right
      refine ⟨h1, ?_⟩
      rcases zz_4 with ⟨w, w1, w2, w3, w4, w5, w6⟩ | ⟨w1, w2⟩
      · omega
      · exact w1
  refine wp_istore_n (pc := 7) dX7_readsSetting_7 rfl (Nat.le_of_ble_eq_true rfl) rfl ?_
  refine wp_aload_n (pc := 8) dX7_readsSetting_8 rfl rfl ?_
  refine wp_iload_n (pc := 9) dX7_readsSetting_9 rfl rfl ?_
  refine wp_bipush (pc := 10) dX7_readsSetting_10 (by decide) (by decide) ?_
  refine wp_icmp_eq (pc := 12) 19 dX7_readsSetting_12 (by decide) (fun c_12 => ?_) (fun c_12 => ?_)
  · refine wp_iconst (pc := 19) dX7_readsSetting_19 (by decide) ?_
    refine wp_iconst (pc := 20) dX7_readsSetting_20 (by decide) ?_
    refine wp_cvV2 (pc := 21) dX7_readsSetting_21 mv_X7_111 m_mustP (Nat.le_of_ble_eq_true rfl) rfl (Nat.le_of_ble_eq_true rfl) (fun σ_21 h_21 => ?_)
    obtain ⟨f_21, a12_21, a13_21, a14_21, a15_21, q_21⟩ := h_21
    refine wp_aload_n (pc := 24) dX7_readsSetting_24 rfl rfl ?_
    refine wp_aload_n (pc := 25) dX7_readsSetting_25 rfl rfl ?_
    refine wp_getI (pc := 26) 10 dX7_readsSetting_26 fl_X7_81 rfl rfl ?_
    refine wp_if_gt (pc := 29) 43 dX7_readsSetting_29 (by decide) (fun c_29 => ?_) (fun c_29 => ?_)
    · refine wp_iconst (pc := 43) dX7_readsSetting_43 (by decide) ?_
      refine wp_goto (pc := 44) 48 dX7_readsSetting_44 (by decide) ?_
      refine wp_iconst (pc := 48) dX7_readsSetting_48 (by decide) ?_
      refine wp_cvV2 (pc := 49) dX7_readsSetting_49 mv_X7_111 m_mustP (Nat.le_of_ble_eq_true rfl) rfl (Nat.le_of_ble_eq_true rfl) (fun σ_49 h_49 => ?_)
      obtain ⟨f_49, a12_49, a13_49, a14_49, a15_49, q_49⟩ := h_49
      refine wp_aload_n (pc := 52) dX7_readsSetting_52 rfl rfl ?_
      have F49 := f_21.tr f_49
      have h12 : σ_49 71 12 = σ 71 12 := by omega
      refine wp_cvV0 (pc := 53) dX7_readsSetting_53 mv_X7_115 (m_readsU (t := t) (n := n) (cnt := cnt) (q := s.nx t n) (by omega) (fun _ => hg.nx F49 h12)) (Nat.le_of_ble_eq_true rfl) rfl (Nat.le_of_ble_eq_true rfl) (fun σ_53 h_53 => ?_)
      obtain ⟨f53, q53⟩ := h_53
      refine wp_aload_n (pc := 56) dX7_readsSetting_56 rfl rfl ?_
      refine wp_getI (pc := 57) 10 dX7_readsSetting_57 fl_X7_81 rfl rfl ?_
      refine wp_if_ne (pc := 60) 96 dX7_readsSetting_60 (by decide) (fun c_60 => ?_) (fun c_60 => ?_)
      · refine wp_return (pc := 96) dX7_readsSetting_96 rfl ?_
        first
          | (have hRF : RFr σ (upd2 σ_92 73 (585 + W) z_92) := ((((f_21.tr f_49).tr f53).r.up (Or.inr (Or.inr rfl))).tr f92.r).up (Or.inl rfl)
             refine ⟨rfl, hRF, ?_⟩
             by_cases hf : (pNum t n (stV 0 W) (stV 1 W) (s.nx t n)).f = 0
             · obtain ⟨e1, e2, e3, e4⟩ := pNum_f hf
               have e5 : pNum t n (stV 0 W) (stV 1 W) ((s.nx t n).wT (upf s.T W 1)) = ((s.nx t n).nx t n).wT (upf s.T W 1) := by unfold pNum; rw [if_pos (show tkK t n ((s.nx t n).wT (upf s.T W 1)).x = 2 ∧ stV 0 W ≤ tkN t n ((s.nx t n).wT (upf s.T W 1)).x ∧ tkN t n ((s.nx t n).wT (upf s.T W 1)).x ≤ stV 1 W from ⟨e2, e3, e4⟩)]; rfl
               rw [e5] at m92 v92
               have v93 : z_92 = tkN t n (s.nx t n).x := v92 hp.2.1
               refine ⟨(((s.nx t n).nx t n).wT (upf s.T W 1)).wD (setSt s.D W (tkN t n (s.nx t n).x)), ?_, Or.inl ⟨hp.2.1, p4 hk1 hW0.1 hT0 hf⟩, fun _ => hcn⟩
               rw [v93]
               rcases m92 with m | m
               · left
                 obtain ⟨⟨b1, b2, b3, b4, b5, b6, b7, b8, b9, b10, b11⟩, m1⟩ := m
                 refine ⟨⟨b1, by rw [upd2_r (by decide)]; exact b2, fun k k0 k1 => by rw [upd2_r (by decide)]; exact b3 k k0 k1, b4, b5, fun w w0 w1 => by rw [upd2_r (by decide)]; exact b6 w w0 w1, PR.ss b7 hp.2.2.1 (by omega), ?_, by rw [upd2_r (by decide)]; exact b9, ⟨fun j hj => by rw [upd2_r (by decide)]; exact b10.1 j hj, fun j hj => by rw [upd2_r (by decide)]; exact b10.2 j hj⟩, b11⟩, ?_⟩
                 · rw [show upd2 σ_92 73 (585 + W) (tkN t n (s.nx t n).x) 75 = σ_92 75 from funext fun k => upd2_r (by decide)]; exact b8
                 · unfold MT at *
                   rw [upd2_r (by decide), upd2_r (by decide), upd2_r (by decide), upd2_r (by decide), upd2_r (by decide)]; exact m1
               · right
                 unfold MSb at *
                 rw [upd2_r (by decide), upd2_r (by decide)]; exact m
             · have e5 : (pNum t n (stV 0 W) (stV 1 W) ((s.nx t n).wT (upf s.T W 1))).f = (pNum t n (stV 0 W) (stV 1 W) (s.nx t n)).f ∧ (pNum t n (stV 0 W) (stV 1 W) ((s.nx t n).wT (upf s.T W 1))).b = (pNum t n (stV 0 W) (stV 1 W) (s.nx t n)).b := by
                 unfold pNum
                 by_cases c : tkK t n (s.nx t n).x = 2 ∧ stV 0 W ≤ tkN t n (s.nx t n).x ∧ tkN t n (s.nx t n).x ≤ stV 1 W
                 · rw [if_pos c, if_pos (show tkK t n ((s.nx t n).wT (upf s.T W 1)).x = 2 ∧ stV 0 W ≤ tkN t n ((s.nx t n).wT (upf s.T W 1)).x ∧ tkN t n ((s.nx t n).wT (upf s.T W 1)).x ≤ stV 1 W from c)]; exact ⟨rfl, rfl⟩
                 · rw [if_neg c, if_neg (show ¬ (tkK t n ((s.nx t n).wT (upf s.T W 1)).x = 2 ∧ stV 0 W ≤ tkN t n ((s.nx t n).wT (upf s.T W 1)).x ∧ tkN t n ((s.nx t n).wT (upf s.T W 1)).x ≤ stV 1 W) from c)]; exact ⟨rfl, rfl⟩
               refine ⟨pNum t n (stV 0 W) (stV 1 W) (s.nx t n), Or.inr ?_, Or.inr ⟨hf, p3 hk1 hW0.1 hT0 hf⟩, fun z => absurd z hf⟩
               rcases m92 with m | m
               · exact absurd (e5.1.symm.trans m.1.2.2.2.2.2.2.2.2.2.2) hf
               · unfold MSb at *
                 rw [e5.1, e5.2] at m
                 rw [upd2_r (by decide), upd2_r (by decide)]
                 rcases m.2.2 with c | c
                 · exact ⟨m.1, m.2.1, Or.inl c⟩
                 · exact absurd c.1 hf)
          | (have hRF : RFr σ σ_53 := ((f_21.tr f_49).tr f53).r
             refine ⟨rfl, hRF, ?_⟩
             rcases q53 with c | c
             · have hW0 : 0 ≤ W ∧ z_4 = W + 3 := by omega
               have hk1 : tkK t n s.x = 1 := by omega
               have hT2 := hT hW0.1
               have hT0 : s.T W = 0 := by
                 rcases hT2.2 with c | c
                 · exact c
                 · exfalso; omega
               have hnn := c.2.nn
               have hbad := c.2.bad (by omega)
               have hk3 : tkK t n (s.nx t n).x = 0 := by
                 rcases hbad.2.2 with d | d
                 · exact absurd hp.2.1 d.1
                 · exact d.2.1
               have e : pNum t n (stV 0 W) (stV 1 W) (s.nx t n) = (s.nx t n).bad t n 2 := by unfold pNum; rw [if_neg (by omega), if_neg (by omega)]
               have hf : ¬ (pNum t n (stV 0 W) (stV 1 W) (s.nx t n)).f = 0 := by rw [e]; exact bad_f (by decide)
               exact ⟨(s.nx t n).bad t n 2, Or.inr (hbad.on hp.2.1), Or.inr ⟨bad_f (by decide), by rw [p3 hk1 hW0.1 hT0 hf, e]⟩, fun z => absurd z (bad_f (by decide))⟩
             · rw [c.2]
               first
                 | exact ⟨s.bad t n 2, Or.inr (hg.no (by decide) (by omega) (by omega)), Or.inr ⟨bad_f (by decide), p1 (by omega)⟩, fun z => absurd z (bad_f (by decide))⟩
                 | exact ⟨s.bad t n 4, Or.inr (hg.no (by decide) (by omega) (by omega)), Or.inr ⟨bad_f (by decide), p2 (by omega) (by omega) (by omega)⟩, fun z => absurd z (bad_f (by decide))⟩)
      · have hok : σ_49 71 10 = 0 ∧ MS t n σ_53 (s.nx t n) cnt := by
          rcases q53 with c | c
          · exact c
          · rw [c.2] at c_60; omega
        have hg3 := hok.2.good (by omega)
        have hW0 : 0 ≤ W ∧ z_4 = W + 3 := by omega
        have hk1 : tkK t n s.x = 1 := by omega
        have hT2 := hT hW0.1
        have hT0 : s.T W = 0 := by
          rcases hT2.2 with c | c
          · exact c
          · exfalso; omega
        refine wp_iload_n (pc := 63) dX7_readsSetting_63 rfl rfl ?_
        refine wp_iconst (pc := 64) dX7_readsSetting_64 (by decide) ?_
        refine wp_isub (pc := 65) dX7_readsSetting_65 (by omega) ?_
        rw [show z_4 - 3 = W by omega]
        refine wp_istore_n (pc := 66) dX7_readsSetting_66 rfl (Nat.le_of_ble_eq_true rfl) rfl ?_
        refine wp_aload_n (pc := 67) dX7_readsSetting_67 rfl rfl ?_
        refine wp_getR (pc := 68) (q := 81) dX7_readsSetting_68 fl_X7_38 rfl ?_
        refine wp_iload_n (pc := 71) dX7_readsSetting_71 rfl rfl ?_
        refine wp_iconst (pc := 72) dX7_readsSetting_72 (by decide) ?_
        refine wp_zast (pc := 73) 6 dX7_readsSetting_73 rfl (by omega) (by omega) ?_
        refine wp_aload_n (pc := 74) dX7_readsSetting_74 rfl rfl ?_
        refine wp_getR (pc := 75) (q := 73) dX7_readsSetting_75 fl_X7_13 rfl ?_
        refine wp_sipush (pc := 78) dX7_readsSetting_78 (by decide) (by decide) ?_
        refine wp_iload_n (pc := 81) dX7_readsSetting_81 rfl rfl ?_
        refine wp_iadd (pc := 82) dX7_readsSetting_82 (by omega) ?_
        refine wp_aload_n (pc := 83) dX7_readsSetting_83 rfl rfl ?_
        refine wp_iload_n (pc := 84) dX7_readsSetting_84 rfl rfl ?_
        refine wp_csI1 (pc := 85) dX7_readsSetting_85 ms_X7_122 (m_leastOf (by omega)) (Nat.le_of_ble_eq_true rfl) (Nat.le_of_ble_eq_true rfl) (fun z_85 σ_85 h_85 => ?_)
        obtain ⟨rfl, e_85⟩ := h_85; have e2_85 := e_85.symm; subst e2_85
        refine wp_iload_n (pc := 88) dX7_readsSetting_88 rfl rfl ?_
        refine wp_csI1 (pc := 89) dX7_readsSetting_89 ms_X7_125 (m_mostOf (by omega)) (Nat.le_of_ble_eq_true rfl) (Nat.le_of_ble_eq_true rfl) (fun z_89 σ_89 h_89 => ?_)
        obtain ⟨rfl, e_89⟩ := h_89; have e2_89 := e_89.symm; subst e2_89
        have hg4 : MG t n (upd2 σ_53 81 W 1) ((s.nx t n).wT (upf s.T W 1)) cnt := by
          obtain ⟨⟨b1, b2, b3, b4, b5, b6, b7, b8, b9, b10, b11⟩, m1⟩ := hg3
          refine ⟨⟨b1, by rw [upd2_r (by decide)]; exact b2, fun k k0 k1 => by rw [upd2_r (by decide)]; exact b3 k k0 k1, b4, b5, fun w w0 w1 => ?_, ?_, ?_, by rw [upd2_r (by decide)]; exact b9, ⟨fun j hj => by rw [upd2_r (by decide)]; exact b10.1 j hj, fun j hj => by rw [upd2_r (by decide)]; exact b10.2 j hj⟩, b11⟩, ?_⟩
          · show _ = (if w = W then 1 else s.T w) ∧ ((if w = W then 1 else s.T w) = 0 ∨ (if w = W then 1 else s.T w) = 1)
            by_cases e : w = W
            · rw [e, upd2_eq, if_pos rfl]; exact ⟨rfl, Or.inr rfl⟩
            · rw [upd2_k e, if_neg e]; exact b6 w w0 w1
          · rw [show upd2 σ_53 81 W 1 73 = σ_53 73 from funext fun k => upd2_r (by decide)]; exact b7
          · rw [show upd2 σ_53 81 W 1 75 = σ_53 75 from funext fun k => upd2_r (by decide)]; exact b8
          · unfold MT at *
            rw [upd2_r (by decide), upd2_r (by decide), upd2_r (by decide), upd2_r (by decide), upd2_r (by decide)]; exact m1
        refine wp_cvI2 (pc := 92) dX7_readsSetting_92 mv_X7_128 (m_number hg4) (Nat.le_of_ble_eq_true rfl) rfl (Nat.le_of_ble_eq_true rfl) (fun z_92 σ_92 h_92 => ?_)
        obtain ⟨f92, m92, v92⟩ := h_92
        refine wp_iast (pc := 95) 591 dX7_readsSetting_95 rfl (by omega) ?_
        refine wp_return (pc := 96) dX7_readsSetting_96 rfl ?_
        first
          | (have hRF : RFr σ (upd2 σ_92 73 (585 + W) z_92) := ((((f_21.tr f_49).tr f53).r.up (Or.inr (Or.inr rfl))).tr f92.r).up (Or.inl rfl)
             refine ⟨rfl, hRF, ?_⟩
             by_cases hf : (pNum t n (stV 0 W) (stV 1 W) (s.nx t n)).f = 0
             · obtain ⟨e1, e2, e3, e4⟩ := pNum_f hf
               have e5 : pNum t n (stV 0 W) (stV 1 W) ((s.nx t n).wT (upf s.T W 1)) = ((s.nx t n).nx t n).wT (upf s.T W 1) := by unfold pNum; rw [if_pos (show tkK t n ((s.nx t n).wT (upf s.T W 1)).x = 2 ∧ stV 0 W ≤ tkN t n ((s.nx t n).wT (upf s.T W 1)).x ∧ tkN t n ((s.nx t n).wT (upf s.T W 1)).x ≤ stV 1 W from ⟨e2, e3, e4⟩)]; rfl
               rw [e5] at m92 v92
               have v93 : z_92 = tkN t n (s.nx t n).x := v92 hp.2.1
               refine ⟨(((s.nx t n).nx t n).wT (upf s.T W 1)).wD (setSt s.D W (tkN t n (s.nx t n).x)), ?_, Or.inl ⟨hp.2.1, p4 hk1 hW0.1 hT0 hf⟩, fun _ => hcn⟩
               rw [v93]
               rcases m92 with m | m
               · left
                 obtain ⟨⟨b1, b2, b3, b4, b5, b6, b7, b8, b9, b10, b11⟩, m1⟩ := m
                 refine ⟨⟨b1, by rw [upd2_r (by decide)]; exact b2, fun k k0 k1 => by rw [upd2_r (by decide)]; exact b3 k k0 k1, b4, b5, fun w w0 w1 => by rw [upd2_r (by decide)]; exact b6 w w0 w1, PR.ss b7 hp.2.2.1 (by omega), ?_, by rw [upd2_r (by decide)]; exact b9, ⟨fun j hj => by rw [upd2_r (by decide)]; exact b10.1 j hj, fun j hj => by rw [upd2_r (by decide)]; exact b10.2 j hj⟩, b11⟩, ?_⟩
                 · rw [show upd2 σ_92 73 (585 + W) (tkN t n (s.nx t n).x) 75 = σ_92 75 from funext fun k => upd2_r (by decide)]; exact b8
                 · unfold MT at *
                   rw [upd2_r (by decide), upd2_r (by decide), upd2_r (by decide), upd2_r (by decide), upd2_r (by decide)]; exact m1
               · right
                 unfold MSb at *
                 rw [upd2_r (by decide), upd2_r (by decide)]; exact m
             · have e5 : (pNum t n (stV 0 W) (stV 1 W) ((s.nx t n).wT (upf s.T W 1))).f = (pNum t n (stV 0 W) (stV 1 W) (s.nx t n)).f ∧ (pNum t n (stV 0 W) (stV 1 W) ((s.nx t n).wT (upf s.T W 1))).b = (pNum t n (stV 0 W) (stV 1 W) (s.nx t n)).b := by
                 unfold pNum
                 by_cases c : tkK t n (s.nx t n).x = 2 ∧ stV 0 W ≤ tkN t n (s.nx t n).x ∧ tkN t n (s.nx t n).x ≤ stV 1 W
                 · rw [if_pos c, if_pos (show tkK t n ((s.nx t n).wT (upf s.T W 1)).x = 2 ∧ stV 0 W ≤ tkN t n ((s.nx t n).wT (upf s.T W 1)).x ∧ tkN t n ((s.nx t n).wT (upf s.T W 1)).x ≤ stV 1 W from c)]; exact ⟨rfl, rfl⟩
                 · rw [if_neg c, if_neg (show ¬ (tkK t n ((s.nx t n).wT (upf s.T W 1)).x = 2 ∧ stV 0 W ≤ tkN t n ((s.nx t n).wT (upf s.T W 1)).x ∧ tkN t n ((s.nx t n).wT (upf s.T W 1)).x ≤ stV 1 W) from c)]; exact ⟨rfl, rfl⟩
               refine ⟨pNum t n (stV 0 W) (stV 1 W) (s.nx t n), Or.inr ?_, Or.inr ⟨hf, p3 hk1 hW0.1 hT0 hf⟩, fun z => absurd z hf⟩
               rcases m92 with m | m
               · exact absurd (e5.1.symm.trans m.1.2.2.2.2.2.2.2.2.2.2) hf
               · unfold MSb at *
                 rw [e5.1, e5.2] at m
                 rw [upd2_r (by decide), upd2_r (by decide)]
                 rcases m.2.2 with c | c
                 · exact ⟨m.1, m.2.1, Or.inl c⟩
                 · exact absurd c.1 hf)
          | (have hRF : RFr σ σ_53 := ((f_21.tr f_49).tr f53).r
             refine ⟨rfl, hRF, ?_⟩
             rcases q53 with c | c
             · have hW0 : 0 ≤ W ∧ z_4 = W + 3 := by omega
               have hk1 : tkK t n s.x = 1 := by omega
               have hT2 := hT hW0.1
               have hT0 : s.T W = 0 := by
                 rcases hT2.2 with c | c
                 · exact c
                 · exfalso; omega
               have hnn := c.2.nn
               have hbad := c.2.bad (by omega)
               have hk3 : tkK t n (s.nx t n).x = 0 := by
                 rcases hbad.2.2 with d | d
                 · exact absurd hp.2.1 d.1
                 · exact d.2.1
               have e : pNum t n (stV 0 W) (stV 1 W) (s.nx t n) = (s.nx t n).bad t n 2 := by unfold pNum; rw [if_neg (by omega), if_neg (by omega)]
               have hf : ¬ (pNum t n (stV 0 W) (stV 1 W) (s.nx t n)).f = 0 := by rw [e]; exact bad_f (by decide)
               exact ⟨(s.nx t n).bad t n 2, Or.inr (hbad.on hp.2.1), Or.inr ⟨bad_f (by decide), by rw [p3 hk1 hW0.1 hT0 hf, e]⟩, fun z => absurd z (bad_f (by decide))⟩
             · rw [c.2]
               first
                 | exact ⟨s.bad t n 2, Or.inr (hg.no (by decide) (by omega) (by omega)), Or.inr ⟨bad_f (by decide), p1 (by omega)⟩, fun z => absurd z (bad_f (by decide))⟩
                 | exact ⟨s.bad t n 4, Or.inr (hg.no (by decide) (by omega) (by omega)), Or.inr ⟨bad_f (by decide), p2 (by omega) (by omega) (by omega)⟩, fun z => absurd z (bad_f (by decide))⟩)
    · have hW0 : 0 ≤ W ∧ z_4 = W + 3 := by omega
      have hT2 := hT hW0.1
      have e81 : σ_21 81 (z_4 - 3) = s.T W := by rw [f_21.1 81 (by decide), show z_4 - 3 = W by omega]; exact hT2.1
      refine wp_aload_n (pc := 32) dX7_readsSetting_32 rfl rfl ?_
      refine wp_getR (pc := 33) (q := 81) dX7_readsSetting_33 fl_X7_38 rfl ?_
      refine wp_iload_n (pc := 36) dX7_readsSetting_36 rfl rfl ?_
      refine wp_iconst (pc := 37) dX7_readsSetting_37 (by decide) ?_
      refine wp_isub (pc := 38) dX7_readsSetting_38 (by omega) ?_
      refine wp_zald (pc := 39) 6 dX7_readsSetting_39 rfl (by omega) ?_
      rw [e81]
      refine wp_if_ne (pc := 40) 47 dX7_readsSetting_40 (by decide) (fun c_40 => ?_) (fun c_40 => ?_)
      · refine wp_iconst (pc := 47) dX7_readsSetting_47 (by decide) ?_
        refine wp_iconst (pc := 48) dX7_readsSetting_48 (by decide) ?_
        refine wp_cvV2 (pc := 49) dX7_readsSetting_49 mv_X7_111 m_mustP (Nat.le_of_ble_eq_true rfl) rfl (Nat.le_of_ble_eq_true rfl) (fun σ_49 h_49 => ?_)
        obtain ⟨f_49, a12_49, a13_49, a14_49, a15_49, q_49⟩ := h_49
        refine wp_aload_n (pc := 52) dX7_readsSetting_52 rfl rfl ?_
        have F49 := f_21.tr f_49
        have h12 : σ_49 71 12 = σ 71 12 := by omega
        refine wp_cvV0 (pc := 53) dX7_readsSetting_53 mv_X7_115 (m_readsU (t := t) (n := n) (cnt := cnt) (q := s.nx t n) (by omega) (fun _ => hg.nx F49 h12)) (Nat.le_of_ble_eq_true rfl) rfl (Nat.le_of_ble_eq_true rfl) (fun σ_53 h_53 => ?_)
        obtain ⟨f53, q53⟩ := h_53
        refine wp_aload_n (pc := 56) dX7_readsSetting_56 rfl rfl ?_
        refine wp_getI (pc := 57) 10 dX7_readsSetting_57 fl_X7_81 rfl rfl ?_
        refine wp_if_ne (pc := 60) 96 dX7_readsSetting_60 (by decide) (fun c_60 => ?_) (fun c_60 => ?_)
        · refine wp_return (pc := 96) dX7_readsSetting_96 rfl ?_
          first
            | (have hRF : RFr σ (upd2 σ_92 73 (585 + W) z_92) := ((((f_21.tr f_49).tr f53).r.up (Or.inr (Or.inr rfl))).tr f92.r).up (Or.inl rfl)
               refine ⟨rfl, hRF, ?_⟩
               by_cases hf : (pNum t n (stV 0 W) (stV 1 W) (s.nx t n)).f = 0
               · obtain ⟨e1, e2, e3, e4⟩ := pNum_f hf
                 have e5 : pNum t n (stV 0 W) (stV 1 W) ((s.nx t n).wT (upf s.T W 1)) = ((s.nx t n).nx t n).wT (upf s.T W 1) := by unfold pNum; rw [if_pos (show tkK t n ((s.nx t n).wT (upf s.T W 1)).x = 2 ∧ stV 0 W ≤ tkN t n ((s.nx t n).wT (upf s.T W 1)).x ∧ tkN t n ((s.nx t n).wT (upf s.T W 1)).x ≤ stV 1 W from ⟨e2, e3, e4⟩)]; rfl
                 rw [e5] at m92 v92
                 have v93 : z_92 = tkN t n (s.nx t n).x := v92 hp.2.1
                 refine ⟨(((s.nx t n).nx t n).wT (upf s.T W 1)).wD (setSt s.D W (tkN t n (s.nx t n).x)), ?_, Or.inl ⟨hp.2.1, p4 hk1 hW0.1 hT0 hf⟩, fun _ => hcn⟩
                 rw [v93]
                 rcases m92 with m | m
                 · left
                   obtain ⟨⟨b1, b2, b3, b4, b5, b6, b7, b8, b9, b10, b11⟩, m1⟩ := m
                   refine ⟨⟨b1, by rw [upd2_r (by decide)]; exact b2, fun k k0 k1 => by rw [upd2_r (by decide)]; exact b3 k k0 k1, b4, b5, fun w w0 w1 => by rw [upd2_r (by decide)]; exact b6 w w0 w1, PR.ss b7 hp.2.2.1 (by omega), ?_, by rw [upd2_r (by decide)]; exact b9, ⟨fun j hj => by rw [upd2_r (by decide)]; exact b10.1 j hj, fun j hj => by rw [upd2_r (by decide)]; exact b10.2 j hj⟩, b11⟩, ?_⟩
                   · rw [show upd2 σ_92 73 (585 + W) (tkN t n (s.nx t n).x) 75 = σ_92 75 from funext fun k => upd2_r (by decide)]; exact b8
                   · unfold MT at *
                     rw [upd2_r (by decide), upd2_r (by decide), upd2_r (by decide), upd2_r (by decide), upd2_r (by decide)]; exact m1
                 · right
                   unfold MSb at *
                   rw [upd2_r (by decide), upd2_r (by decide)]; exact m
               · have e5 : (pNum t n (stV 0 W) (stV 1 W) ((s.nx t n).wT (upf s.T W 1))).f = (pNum t n (stV 0 W) (stV 1 W) (s.nx t n)).f ∧ (pNum t n (stV 0 W) (stV 1 W) ((s.nx t n).wT (upf s.T W 1))).b = (pNum t n (stV 0 W) (stV 1 W) (s.nx t n)).b := by
                   unfold pNum
                   by_cases c : tkK t n (s.nx t n).x = 2 ∧ stV 0 W ≤ tkN t n (s.nx t n).x ∧ tkN t n (s.nx t n).x ≤ stV 1 W
                   · rw [if_pos c, if_pos (show tkK t n ((s.nx t n).wT (upf s.T W 1)).x = 2 ∧ stV 0 W ≤ tkN t n ((s.nx t n).wT (upf s.T W 1)).x ∧ tkN t n ((s.nx t n).wT (upf s.T W 1)).x ≤ stV 1 W from c)]; exact ⟨rfl, rfl⟩
                   · rw [if_neg c, if_neg (show ¬ (tkK t n ((s.nx t n).wT (upf s.T W 1)).x = 2 ∧ stV 0 W ≤ tkN t n ((s.nx t n).wT (upf s.T W 1)).x ∧ tkN t n ((s.nx t n).wT (upf s.T W 1)).x ≤ stV 1 W) from c)]; exact ⟨rfl, rfl⟩
                 refine ⟨pNum t n (stV 0 W) (stV 1 W) (s.nx t n), Or.inr ?_, Or.inr ⟨hf, p3 hk1 hW0.1 hT0 hf⟩, fun z => absurd z hf⟩
                 rcases m92 with m | m
                 · exact absurd (e5.1.symm.trans m.1.2.2.2.2.2.2.2.2.2.2) hf
                 · unfold MSb at *
                   rw [e5.1, e5.2] at m
                   rw [upd2_r (by decide), upd2_r (by decide)]
                   rcases m.2.2 with c | c
                   · exact ⟨m.1, m.2.1, Or.inl c⟩
                   · exact absurd c.1 hf)
            | (have hRF : RFr σ σ_53 := ((f_21.tr f_49).tr f53).r
               refine ⟨rfl, hRF, ?_⟩
               rcases q53 with c | c
               · have hW0 : 0 ≤ W ∧ z_4 = W + 3 := by omega
                 have hk1 : tkK t n s.x = 1 := by omega
                 have hT2 := hT hW0.1
                 have hT0 : s.T W = 0 := by
                   rcases hT2.2 with c | c
                   · exact c
                   · exfalso; omega
                 have hnn := c.2.nn
                 have hbad := c.2.bad (by omega)
                 have hk3 : tkK t n (s.nx t n).x = 0 := by
                   rcases hbad.2.2 with d | d
                   · exact absurd hp.2.1 d.1
                   · exact d.2.1
                 have e : pNum t n (stV 0 W) (stV 1 W) (s.nx t n) = (s.nx t n).bad t n 2 := by unfold pNum; rw [if_neg (by omega), if_neg (by omega)]
                 have hf : ¬ (pNum t n (stV 0 W) (stV 1 W) (s.nx t n)).f = 0 := by rw [e]; exact bad_f (by decide)
                 exact ⟨(s.nx t n).bad t n 2, Or.inr (hbad.on hp.2.1), Or.inr ⟨bad_f (by decide), by rw [p3 hk1 hW0.1 hT0 hf, e]⟩, fun z => absurd z (bad_f (by decide))⟩
               · rw [c.2]
                 first
                   | exact ⟨s.bad t n 2, Or.inr (hg.no (by decide) (by omega) (by omega)), Or.inr ⟨bad_f (by decide), p1 (by omega)⟩, fun z => absurd z (bad_f (by decide))⟩
                   | exact ⟨s.bad t n 4, Or.inr (hg.no (by decide) (by omega) (by omega)), Or.inr ⟨bad_f (by decide), p2 (by omega) (by omega) (by omega)⟩, fun z => absurd z (bad_f (by decide))⟩)
        · have hok : σ_49 71 10 = 0 ∧ MS t n σ_53 (s.nx t n) cnt := by
            rcases q53 with c | c
            · exact c
            · rw [c.2] at c_60; omega
          have hg3 := hok.2.good (by omega)
          have hW0 : 0 ≤ W ∧ z_4 = W + 3 := by omega
          have hk1 : tkK t n s.x = 1 := by omega
          have hT2 := hT hW0.1
          have hT0 : s.T W = 0 := by
            rcases hT2.2 with c | c
            · exact c
            · exfalso; omega
          refine wp_iload_n (pc := 63) dX7_readsSetting_63 rfl rfl ?_
          refine wp_iconst (pc := 64) dX7_readsSetting_64 (by decide) ?_
          refine wp_isub (pc := 65) dX7_readsSetting_65 (by omega) ?_
          rw [show z_4 - 3 = W by omega]
          refine wp_istore_n (pc := 66) dX7_readsSetting_66 rfl (Nat.le_of_ble_eq_true rfl) rfl ?_
          refine wp_aload_n (pc := 67) dX7_readsSetting_67 rfl rfl ?_
          refine wp_getR (pc := 68) (q := 81) dX7_readsSetting_68 fl_X7_38 rfl ?_
          refine wp_iload_n (pc := 71) dX7_readsSetting_71 rfl rfl ?_
          refine wp_iconst (pc := 72) dX7_readsSetting_72 (by decide) ?_
          refine wp_zast (pc := 73) 6 dX7_readsSetting_73 rfl (by omega) (by omega) ?_
          refine wp_aload_n (pc := 74) dX7_readsSetting_74 rfl rfl ?_
          refine wp_getR (pc := 75) (q := 73) dX7_readsSetting_75 fl_X7_13 rfl ?_
          refine wp_sipush (pc := 78) dX7_readsSetting_78 (by decide) (by decide) ?_
          refine wp_iload_n (pc := 81) dX7_readsSetting_81 rfl rfl ?_
          refine wp_iadd (pc := 82) dX7_readsSetting_82 (by omega) ?_
          refine wp_aload_n (pc := 83) dX7_readsSetting_83 rfl rfl ?_
          refine wp_iload_n (pc := 84) dX7_readsSetting_84 rfl rfl ?_
          refine wp_csI1 (pc := 85) dX7_readsSetting_85 ms_X7_122 (m_leastOf (by omega)) (Nat.le_of_ble_eq_true rfl) (Nat.le_of_ble_eq_true rfl) (fun z_85 σ_85 h_85 => ?_)
          obtain ⟨rfl, e_85⟩ := h_85; have e2_85 := e_85.symm; subst e2_85
          refine wp_iload_n (pc := 88) dX7_readsSetting_88 rfl rfl ?_
          refine wp_csI1 (pc := 89) dX7_readsSetting_89 ms_X7_125 (m_mostOf (by omega)) (Nat.le_of_ble_eq_true rfl) (Nat.le_of_ble_eq_true rfl) (fun z_89 σ_89 h_89 => ?_)
          obtain ⟨rfl, e_89⟩ := h_89; have e2_89 := e_89.symm; subst e2_89
          have hg4 : MG t n (upd2 σ_53 81 W 1) ((s.nx t n).wT (upf s.T W 1)) cnt := by
            obtain ⟨⟨b1, b2, b3, b4, b5, b6, b7, b8, b9, b10, b11⟩, m1⟩ := hg3
            refine ⟨⟨b1, by rw [upd2_r (by decide)]; exact b2, fun k k0 k1 => by rw [upd2_r (by decide)]; exact b3 k k0 k1, b4, b5, fun w w0 w1 => ?_, ?_, ?_, by rw [upd2_r (by decide)]; exact b9, ⟨fun j hj => by rw [upd2_r (by decide)]; exact b10.1 j hj, fun j hj => by rw [upd2_r (by decide)]; exact b10.2 j hj⟩, b11⟩, ?_⟩
            · show _ = (if w = W then 1 else s.T w) ∧ ((if w = W then 1 else s.T w) = 0 ∨ (if w = W then 1 else s.T w) = 1)
              by_cases e : w = W
              · rw [e, upd2_eq, if_pos rfl]; exact ⟨rfl, Or.inr rfl⟩
              · rw [upd2_k e, if_neg e]; exact b6 w w0 w1
            · rw [show upd2 σ_53 81 W 1 73 = σ_53 73 from funext fun k => upd2_r (by decide)]; exact b7
            · rw [show upd2 σ_53 81 W 1 75 = σ_53 75 from funext fun k => upd2_r (by decide)]; exact b8
            · unfold MT at *
              rw [upd2_r (by decide), upd2_r (by decide), upd2_r (by decide), upd2_r (by decide), upd2_r (by decide)]; exact m1
          refine wp_cvI2 (pc := 92) dX7_readsSetting_92 mv_X7_128 (m_number hg4) (Nat.le_of_ble_eq_true rfl) rfl (Nat.le_of_ble_eq_true rfl) (fun z_92 σ_92 h_92 => ?_)
          obtain ⟨f92, m92, v92⟩ := h_92
          refine wp_iast (pc := 95) 591 dX7_readsSetting_95 rfl (by omega) ?_
          refine wp_return (pc := 96) dX7_readsSetting_96 rfl ?_
          first
            | (have hRF : RFr σ (upd2 σ_92 73 (585 + W) z_92) := ((((f_21.tr f_49).tr f53).r.up (Or.inr (Or.inr rfl))).tr f92.r).up (Or.inl rfl)
               refine ⟨rfl, hRF, ?_⟩
               by_cases hf : (pNum t n (stV 0 W) (stV 1 W) (s.nx t n)).f = 0
               · obtain ⟨e1, e2, e3, e4⟩ := pNum_f hf
                 have e5 : pNum t n (stV 0 W) (stV 1 W) ((s.nx t n).wT (upf s.T W 1)) = ((s.nx t n).nx t n).wT (upf s.T W 1) := by unfold pNum; rw [if_pos (show tkK t n ((s.nx t n).wT (upf s.T W 1)).x = 2 ∧ stV 0 W ≤ tkN t n ((s.nx t n).wT (upf s.T W 1)).x ∧ tkN t n ((s.nx t n).wT (upf s.T W 1)).x ≤ stV 1 W from ⟨e2, e3, e4⟩)]; rfl
                 rw [e5] at m92 v92
                 have v93 : z_92 = tkN t n (s.nx t n).x := v92 hp.2.1
                 refine ⟨(((s.nx t n).nx t n).wT (upf s.T W 1)).wD (setSt s.D W (tkN t n (s.nx t n).x)), ?_, Or.inl ⟨hp.2.1, p4 hk1 hW0.1 hT0 hf⟩, fun _ => hcn⟩
                 rw [v93]
                 rcases m92 with m | m
                 · left
                   obtain ⟨⟨b1, b2, b3, b4, b5, b6, b7, b8, b9, b10, b11⟩, m1⟩ := m
                   refine ⟨⟨b1, by rw [upd2_r (by decide)]; exact b2, fun k k0 k1 => by rw [upd2_r (by decide)]; exact b3 k k0 k1, b4, b5, fun w w0 w1 => by rw [upd2_r (by decide)]; exact b6 w w0 w1, PR.ss b7 hp.2.2.1 (by omega), ?_, by rw [upd2_r (by decide)]; exact b9, ⟨fun j hj => by rw [upd2_r (by decide)]; exact b10.1 j hj, fun j hj => by rw [upd2_r (by decide)]; exact b10.2 j hj⟩, b11⟩, ?_⟩
                   · rw [show upd2 σ_92 73 (585 + W) (tkN t n (s.nx t n).x) 75 = σ_92 75 from funext fun k => upd2_r (by decide)]; exact b8
                   · unfold MT at *
                     rw [upd2_r (by decide), upd2_r (by decide), upd2_r (by decide), upd2_r (by decide), upd2_r (by decide)]; exact m1
                 · right
                   unfold MSb at *
                   rw [upd2_r (by decide), upd2_r (by decide)]; exact m
               · have e5 : (pNum t n (stV 0 W) (stV 1 W) ((s.nx t n).wT (upf s.T W 1))).f = (pNum t n (stV 0 W) (stV 1 W) (s.nx t n)).f ∧ (pNum t n (stV 0 W) (stV 1 W) ((s.nx t n).wT (upf s.T W 1))).b = (pNum t n (stV 0 W) (stV 1 W) (s.nx t n)).b := by
                   unfold pNum
                   by_cases c : tkK t n (s.nx t n).x = 2 ∧ stV 0 W ≤ tkN t n (s.nx t n).x ∧ tkN t n (s.nx t n).x ≤ stV 1 W
                   · rw [if_pos c, if_pos (show tkK t n ((s.nx t n).wT (upf s.T W 1)).x = 2 ∧ stV 0 W ≤ tkN t n ((s.nx t n).wT (upf s.T W 1)).x ∧ tkN t n ((s.nx t n).wT (upf s.T W 1)).x ≤ stV 1 W from c)]; exact ⟨rfl, rfl⟩
                   · rw [if_neg c, if_neg (show ¬ (tkK t n ((s.nx t n).wT (upf s.T W 1)).x = 2 ∧ stV 0 W ≤ tkN t n ((s.nx t n).wT (upf s.T W 1)).x ∧ tkN t n ((s.nx t n).wT (upf s.T W 1)).x ≤ stV 1 W) from c)]; exact ⟨rfl, rfl⟩
                 refine ⟨pNum t n (stV 0 W) (stV 1 W) (s.nx t n), Or.inr ?_, Or.inr ⟨hf, p3 hk1 hW0.1 hT0 hf⟩, fun z => absurd z hf⟩
                 rcases m92 with m | m
                 · exact absurd (e5.1.symm.trans m.1.2.2.2.2.2.2.2.2.2.2) hf
                 · unfold MSb at *
                   rw [e5.1, e5.2] at m
                   rw [upd2_r (by decide), upd2_r (by decide)]
                   rcases m.2.2 with c | c
                   · exact ⟨m.1, m.2.1, Or.inl c⟩
                   · exact absurd c.1 hf)
            | (have hRF : RFr σ σ_53 := ((f_21.tr f_49).tr f53).r
               refine ⟨rfl, hRF, ?_⟩
               rcases q53 with c | c
               · have hW0 : 0 ≤ W ∧ z_4 = W + 3 := by omega
                 have hk1 : tkK t n s.x = 1 := by omega
                 have hT2 := hT hW0.1
                 have hT0 : s.T W = 0 := by
                   rcases hT2.2 with c | c
                   · exact c
                   · exfalso; omega
                 have hnn := c.2.nn
                 have hbad := c.2.bad (by omega)
                 have hk3 : tkK t n (s.nx t n).x = 0 := by
                   rcases hbad.2.2 with d | d
                   · exact absurd hp.2.1 d.1
                   · exact d.2.1
                 have e : pNum t n (stV 0 W) (stV 1 W) (s.nx t n) = (s.nx t n).bad t n 2 := by unfold pNum; rw [if_neg (by omega), if_neg (by omega)]
                 have hf : ¬ (pNum t n (stV 0 W) (stV 1 W) (s.nx t n)).f = 0 := by rw [e]; exact bad_f (by decide)
                 exact ⟨(s.nx t n).bad t n 2, Or.inr (hbad.on hp.2.1), Or.inr ⟨bad_f (by decide), by rw [p3 hk1 hW0.1 hT0 hf, e]⟩, fun z => absurd z (bad_f (by decide))⟩
               · rw [c.2]
                 first
                   | exact ⟨s.bad t n 2, Or.inr (hg.no (by decide) (by omega) (by omega)), Or.inr ⟨bad_f (by decide), p1 (by omega)⟩, fun z => absurd z (bad_f (by decide))⟩
                   | exact ⟨s.bad t n 4, Or.inr (hg.no (by decide) (by omega) (by omega)), Or.inr ⟨bad_f (by decide), p2 (by omega) (by omega) (by omega)⟩, fun z => absurd z (bad_f (by decide))⟩)
      · refine wp_iconst (pc := 43) dX7_readsSetting_43 (by decide) ?_
        refine wp_goto (pc := 44) 48 dX7_readsSetting_44 (by decide) ?_
        refine wp_iconst (pc := 48) dX7_readsSetting_48 (by decide) ?_
        refine wp_cvV2 (pc := 49) dX7_readsSetting_49 mv_X7_111 m_mustP (Nat.le_of_ble_eq_true rfl) rfl (Nat.le_of_ble_eq_true rfl) (fun σ_49 h_49 => ?_)
        obtain ⟨f_49, a12_49, a13_49, a14_49, a15_49, q_49⟩ := h_49
        refine wp_aload_n (pc := 52) dX7_readsSetting_52 rfl rfl ?_
        have F49 := f_21.tr f_49
        have h12 : σ_49 71 12 = σ 71 12 := by omega
        refine wp_cvV0 (pc := 53) dX7_readsSetting_53 mv_X7_115 (m_readsU (t := t) (n := n) (cnt := cnt) (q := s.nx t n) (by omega) (fun _ => hg.nx F49 h12)) (Nat.le_of_ble_eq_true rfl) rfl (Nat.le_of_ble_eq_true rfl) (fun σ_53 h_53 => ?_)
        obtain ⟨f53, q53⟩ := h_53
        refine wp_aload_n (pc := 56) dX7_readsSetting_56 rfl rfl ?_
        refine wp_getI (pc := 57) 10 dX7_readsSetting_57 fl_X7_81 rfl rfl ?_
        refine wp_if_ne (pc := 60) 96 dX7_readsSetting_60 (by decide) (fun c_60 => ?_) (fun c_60 => ?_)
        · refine wp_return (pc := 96) dX7_readsSetting_96 rfl ?_
          first
            | (have hRF : RFr σ (upd2 σ_92 73 (585 + W) z_92) := ((((f_21.tr f_49).tr f53).r.up (Or.inr (Or.inr rfl))).tr f92.r).up (Or.inl rfl)
               refine ⟨rfl, hRF, ?_⟩
               by_cases hf : (pNum t n (stV 0 W) (stV 1 W) (s.nx t n)).f = 0
               · obtain ⟨e1, e2, e3, e4⟩ := pNum_f hf
                 have e5 : pNum t n (stV 0 W) (stV 1 W) ((s.nx t n).wT (upf s.T W 1)) = ((s.nx t n).nx t n).wT (upf s.T W 1) := by unfold pNum; rw [if_pos (show tkK t n ((s.nx t n).wT (upf s.T W 1)).x = 2 ∧ stV 0 W ≤ tkN t n ((s.nx t n).wT (upf s.T W 1)).x ∧ tkN t n ((s.nx t n).wT (upf s.T W 1)).x ≤ stV 1 W from ⟨e2, e3, e4⟩)]; rfl
                 rw [e5] at m92 v92
                 have v93 : z_92 = tkN t n (s.nx t n).x := v92 hp.2.1
                 refine ⟨(((s.nx t n).nx t n).wT (upf s.T W 1)).wD (setSt s.D W (tkN t n (s.nx t n).x)), ?_, Or.inl ⟨hp.2.1, p4 hk1 hW0.1 hT0 hf⟩, fun _ => hcn⟩
                 rw [v93]
                 rcases m92 with m | m
                 · left
                   obtain ⟨⟨b1, b2, b3, b4, b5, b6, b7, b8, b9, b10, b11⟩, m1⟩ := m
                   refine ⟨⟨b1, by rw [upd2_r (by decide)]; exact b2, fun k k0 k1 => by rw [upd2_r (by decide)]; exact b3 k k0 k1, b4, b5, fun w w0 w1 => by rw [upd2_r (by decide)]; exact b6 w w0 w1, PR.ss b7 hp.2.2.1 (by omega), ?_, by rw [upd2_r (by decide)]; exact b9, ⟨fun j hj => by rw [upd2_r (by decide)]; exact b10.1 j hj, fun j hj => by rw [upd2_r (by decide)]; exact b10.2 j hj⟩, b11⟩, ?_⟩
                   · rw [show upd2 σ_92 73 (585 + W) (tkN t n (s.nx t n).x) 75 = σ_92 75 from funext fun k => upd2_r (by decide)]; exact b8
                   · unfold MT at *
                     rw [upd2_r (by decide), upd2_r (by decide), upd2_r (by decide), upd2_r (by decide), upd2_r (by decide)]; exact m1
                 · right
                   unfold MSb at *
                   rw [upd2_r (by decide), upd2_r (by decide)]; exact m
               · have e5 : (pNum t n (stV 0 W) (stV 1 W) ((s.nx t n).wT (upf s.T W 1))).f = (pNum t n (stV 0 W) (stV 1 W) (s.nx t n)).f ∧ (pNum t n (stV 0 W) (stV 1 W) ((s.nx t n).wT (upf s.T W 1))).b = (pNum t n (stV 0 W) (stV 1 W) (s.nx t n)).b := by
                   unfold pNum
                   by_cases c : tkK t n (s.nx t n).x = 2 ∧ stV 0 W ≤ tkN t n (s.nx t n).x ∧ tkN t n (s.nx t n).x ≤ stV 1 W
                   · rw [if_pos c, if_pos (show tkK t n ((s.nx t n).wT (upf s.T W 1)).x = 2 ∧ stV 0 W ≤ tkN t n ((s.nx t n).wT (upf s.T W 1)).x ∧ tkN t n ((s.nx t n).wT (upf s.T W 1)).x ≤ stV 1 W from c)]; exact ⟨rfl, rfl⟩
                   · rw [if_neg c, if_neg (show ¬ (tkK t n ((s.nx t n).wT (upf s.T W 1)).x = 2 ∧ stV 0 W ≤ tkN t n ((s.nx t n).wT (upf s.T W 1)).x ∧ tkN t n ((s.nx t n).wT (upf s.T W 1)).x ≤ stV 1 W) from c)]; exact ⟨rfl, rfl⟩
                 refine ⟨pNum t n (stV 0 W) (stV 1 W) (s.nx t n), Or.inr ?_, Or.inr ⟨hf, p3 hk1 hW0.1 hT0 hf⟩, fun z => absurd z hf⟩
                 rcases m92 with m | m
                 · exact absurd (e5.1.symm.trans m.1.2.2.2.2.2.2.2.2.2.2) hf
                 · unfold MSb at *
                   rw [e5.1, e5.2] at m
                   rw [upd2_r (by decide), upd2_r (by decide)]
                   rcases m.2.2 with c | c
                   · exact ⟨m.1, m.2.1, Or.inl c⟩
                   · exact absurd c.1 hf)
            | (have hRF : RFr σ σ_53 := ((f_21.tr f_49).tr f53).r
               refine ⟨rfl, hRF, ?_⟩
               rcases q53 with c | c
               · have hW0 : 0 ≤ W ∧ z_4 = W + 3 := by omega
                 have hk1 : tkK t n s.x = 1 := by omega
                 have hT2 := hT hW0.1
                 have hT0 : s.T W = 0 := by
                   rcases hT2.2 with c | c
                   · exact c
                   · exfalso; omega
                 have hnn := c.2.nn
                 have hbad := c.2.bad (by omega)
                 have hk3 : tkK t n (s.nx t n).x = 0 := by
                   rcases hbad.2.2 with d | d
                   · exact absurd hp.2.1 d.1
                   · exact d.2.1
                 have e : pNum t n (stV 0 W) (stV 1 W) (s.nx t n) = (s.nx t n).bad t n 2 := by unfold pNum; rw [if_neg (by omega), if_neg (by omega)]
                 have hf : ¬ (pNum t n (stV 0 W) (stV 1 W) (s.nx t n)).f = 0 := by rw [e]; exact bad_f (by decide)
                 exact ⟨(s.nx t n).bad t n 2, Or.inr (hbad.on hp.2.1), Or.inr ⟨bad_f (by decide), by rw [p3 hk1 hW0.1 hT0 hf, e]⟩, fun z => absurd z (bad_f (by decide))⟩
               · rw [c.2]
                 first
                   | exact ⟨s.bad t n 2, Or.inr (hg.no (by decide) (by omega) (by omega)), Or.inr ⟨bad_f (by decide), p1 (by omega)⟩, fun z => absurd z (bad_f (by decide))⟩
                   | exact ⟨s.bad t n 4, Or.inr (hg.no (by decide) (by omega) (by omega)), Or.inr ⟨bad_f (by decide), p2 (by omega) (by omega) (by omega)⟩, fun z => absurd z (bad_f (by decide))⟩)
        · have hok : σ_49 71 10 = 0 ∧ MS t n σ_53 (s.nx t n) cnt := by
            rcases q53 with c | c
            · exact c
            · rw [c.2] at c_60; omega
          have hg3 := hok.2.good (by omega)
          have hW0 : 0 ≤ W ∧ z_4 = W + 3 := by omega
          have hk1 : tkK t n s.x = 1 := by omega
          have hT2 := hT hW0.1
          have hT0 : s.T W = 0 := by
            rcases hT2.2 with c | c
            · exact c
            · exfalso; omega
          refine wp_iload_n (pc := 63) dX7_readsSetting_63 rfl rfl ?_
          refine wp_iconst (pc := 64) dX7_readsSetting_64 (by decide) ?_
          refine wp_isub (pc := 65) dX7_readsSetting_65 (by omega) ?_
          rw [show z_4 - 3 = W by omega]
          refine wp_istore_n (pc := 66) dX7_readsSetting_66 rfl (Nat.le_of_ble_eq_true rfl) rfl ?_
          refine wp_aload_n (pc := 67) dX7_readsSetting_67 rfl rfl ?_
          refine wp_getR (pc := 68) (q := 81) dX7_readsSetting_68 fl_X7_38 rfl ?_
          refine wp_iload_n (pc := 71) dX7_readsSetting_71 rfl rfl ?_
          refine wp_iconst (pc := 72) dX7_readsSetting_72 (by decide) ?_
          refine wp_zast (pc := 73) 6 dX7_readsSetting_73 rfl (by omega) (by omega) ?_
          refine wp_aload_n (pc := 74) dX7_readsSetting_74 rfl rfl ?_
          refine wp_getR (pc := 75) (q := 73) dX7_readsSetting_75 fl_X7_13 rfl ?_
          refine wp_sipush (pc := 78) dX7_readsSetting_78 (by decide) (by decide) ?_
          refine wp_iload_n (pc := 81) dX7_readsSetting_81 rfl rfl ?_
          refine wp_iadd (pc := 82) dX7_readsSetting_82 (by omega) ?_
          refine wp_aload_n (pc := 83) dX7_readsSetting_83 rfl rfl ?_
          refine wp_iload_n (pc := 84) dX7_readsSetting_84 rfl rfl ?_
          refine wp_csI1 (pc := 85) dX7_readsSetting_85 ms_X7_122 (m_leastOf (by omega)) (Nat.le_of_ble_eq_true rfl) (Nat.le_of_ble_eq_true rfl) (fun z_85 σ_85 h_85 => ?_)
          obtain ⟨rfl, e_85⟩ := h_85; have e2_85 := e_85.symm; subst e2_85
          refine wp_iload_n (pc := 88) dX7_readsSetting_88 rfl rfl ?_
          refine wp_csI1 (pc := 89) dX7_readsSetting_89 ms_X7_125 (m_mostOf (by omega)) (Nat.le_of_ble_eq_true rfl) (Nat.le_of_ble_eq_true rfl) (fun z_89 σ_89 h_89 => ?_)
          obtain ⟨rfl, e_89⟩ := h_89; have e2_89 := e_89.symm; subst e2_89
          have hg4 : MG t n (upd2 σ_53 81 W 1) ((s.nx t n).wT (upf s.T W 1)) cnt := by
            obtain ⟨⟨b1, b2, b3, b4, b5, b6, b7, b8, b9, b10, b11⟩, m1⟩ := hg3
            refine ⟨⟨b1, by rw [upd2_r (by decide)]; exact b2, fun k k0 k1 => by rw [upd2_r (by decide)]; exact b3 k k0 k1, b4, b5, fun w w0 w1 => ?_, ?_, ?_, by rw [upd2_r (by decide)]; exact b9, ⟨fun j hj => by rw [upd2_r (by decide)]; exact b10.1 j hj, fun j hj => by rw [upd2_r (by decide)]; exact b10.2 j hj⟩, b11⟩, ?_⟩
            · show _ = (if w = W then 1 else s.T w) ∧ ((if w = W then 1 else s.T w) = 0 ∨ (if w = W then 1 else s.T w) = 1)
              by_cases e : w = W
              · rw [e, upd2_eq, if_pos rfl]; exact ⟨rfl, Or.inr rfl⟩
              · rw [upd2_k e, if_neg e]; exact b6 w w0 w1
            · rw [show upd2 σ_53 81 W 1 73 = σ_53 73 from funext fun k => upd2_r (by decide)]; exact b7
            · rw [show upd2 σ_53 81 W 1 75 = σ_53 75 from funext fun k => upd2_r (by decide)]; exact b8
            · unfold MT at *
              rw [upd2_r (by decide), upd2_r (by decide), upd2_r (by decide), upd2_r (by decide), upd2_r (by decide)]; exact m1
          refine wp_cvI2 (pc := 92) dX7_readsSetting_92 mv_X7_128 (m_number hg4) (Nat.le_of_ble_eq_true rfl) rfl (Nat.le_of_ble_eq_true rfl) (fun z_92 σ_92 h_92 => ?_)
          obtain ⟨f92, m92, v92⟩ := h_92
          refine wp_iast (pc := 95) 591 dX7_readsSetting_95 rfl (by omega) ?_
          refine wp_return (pc := 96) dX7_readsSetting_96 rfl ?_
          first
            | (have hRF : RFr σ (upd2 σ_92 73 (585 + W) z_92) := ((((f_21.tr f_49).tr f53).r.up (Or.inr (Or.inr rfl))).tr f92.r).up (Or.inl rfl)
               refine ⟨rfl, hRF, ?_⟩
               by_cases hf : (pNum t n (stV 0 W) (stV 1 W) (s.nx t n)).f = 0
               · obtain ⟨e1, e2, e3, e4⟩ := pNum_f hf
                 have e5 : pNum t n (stV 0 W) (stV 1 W) ((s.nx t n).wT (upf s.T W 1)) = ((s.nx t n).nx t n).wT (upf s.T W 1) := by unfold pNum; rw [if_pos (show tkK t n ((s.nx t n).wT (upf s.T W 1)).x = 2 ∧ stV 0 W ≤ tkN t n ((s.nx t n).wT (upf s.T W 1)).x ∧ tkN t n ((s.nx t n).wT (upf s.T W 1)).x ≤ stV 1 W from ⟨e2, e3, e4⟩)]; rfl
                 rw [e5] at m92 v92
                 have v93 : z_92 = tkN t n (s.nx t n).x := v92 hp.2.1
                 refine ⟨(((s.nx t n).nx t n).wT (upf s.T W 1)).wD (setSt s.D W (tkN t n (s.nx t n).x)), ?_, Or.inl ⟨hp.2.1, p4 hk1 hW0.1 hT0 hf⟩, fun _ => hcn⟩
                 rw [v93]
                 rcases m92 with m | m
                 · left
                   obtain ⟨⟨b1, b2, b3, b4, b5, b6, b7, b8, b9, b10, b11⟩, m1⟩ := m
                   refine ⟨⟨b1, by rw [upd2_r (by decide)]; exact b2, fun k k0 k1 => by rw [upd2_r (by decide)]; exact b3 k k0 k1, b4, b5, fun w w0 w1 => by rw [upd2_r (by decide)]; exact b6 w w0 w1, PR.ss b7 hp.2.2.1 (by omega), ?_, by rw [upd2_r (by decide)]; exact b9, ⟨fun j hj => by rw [upd2_r (by decide)]; exact b10.1 j hj, fun j hj => by rw [upd2_r (by decide)]; exact b10.2 j hj⟩, b11⟩, ?_⟩
                   · rw [show upd2 σ_92 73 (585 + W) (tkN t n (s.nx t n).x) 75 = σ_92 75 from funext fun k => upd2_r (by decide)]; exact b8
                   · unfold MT at *
                     rw [upd2_r (by decide), upd2_r (by decide), upd2_r (by decide), upd2_r (by decide), upd2_r (by decide)]; exact m1
                 · right
                   unfold MSb at *
                   rw [upd2_r (by decide), upd2_r (by decide)]; exact m
               · have e5 : (pNum t n (stV 0 W) (stV 1 W) ((s.nx t n).wT (upf s.T W 1))).f = (pNum t n (stV 0 W) (stV 1 W) (s.nx t n)).f ∧ (pNum t n (stV 0 W) (stV 1 W) ((s.nx t n).wT (upf s.T W 1))).b = (pNum t n (stV 0 W) (stV 1 W) (s.nx t n)).b := by
                   unfold pNum
                   by_cases c : tkK t n (s.nx t n).x = 2 ∧ stV 0 W ≤ tkN t n (s.nx t n).x ∧ tkN t n (s.nx t n).x ≤ stV 1 W
                   · rw [if_pos c, if_pos (show tkK t n ((s.nx t n).wT (upf s.T W 1)).x = 2 ∧ stV 0 W ≤ tkN t n ((s.nx t n).wT (upf s.T W 1)).x ∧ tkN t n ((s.nx t n).wT (upf s.T W 1)).x ≤ stV 1 W from c)]; exact ⟨rfl, rfl⟩
                   · rw [if_neg c, if_neg (show ¬ (tkK t n ((s.nx t n).wT (upf s.T W 1)).x = 2 ∧ stV 0 W ≤ tkN t n ((s.nx t n).wT (upf s.T W 1)).x ∧ tkN t n ((s.nx t n).wT (upf s.T W 1)).x ≤ stV 1 W) from c)]; exact ⟨rfl, rfl⟩
                 refine ⟨pNum t n (stV 0 W) (stV 1 W) (s.nx t n), Or.inr ?_, Or.inr ⟨hf, p3 hk1 hW0.1 hT0 hf⟩, fun z => absurd z hf⟩
                 rcases m92 with m | m
                 · exact absurd (e5.1.symm.trans m.1.2.2.2.2.2.2.2.2.2.2) hf
                 · unfold MSb at *
                   rw [e5.1, e5.2] at m
                   rw [upd2_r (by decide), upd2_r (by decide)]
                   rcases m.2.2 with c | c
                   · exact ⟨m.1, m.2.1, Or.inl c⟩
                   · exact absurd c.1 hf)
            | (have hRF : RFr σ σ_53 := ((f_21.tr f_49).tr f53).r
               refine ⟨rfl, hRF, ?_⟩
               rcases q53 with c | c
               · have hW0 : 0 ≤ W ∧ z_4 = W + 3 := by omega
                 have hk1 : tkK t n s.x = 1 := by omega
                 have hT2 := hT hW0.1
                 have hT0 : s.T W = 0 := by
                   rcases hT2.2 with c | c
                   · exact c
                   · exfalso; omega
                 have hnn := c.2.nn
                 have hbad := c.2.bad (by omega)
                 have hk3 : tkK t n (s.nx t n).x = 0 := by
                   rcases hbad.2.2 with d | d
                   · exact absurd hp.2.1 d.1
                   · exact d.2.1
                 have e : pNum t n (stV 0 W) (stV 1 W) (s.nx t n) = (s.nx t n).bad t n 2 := by unfold pNum; rw [if_neg (by omega), if_neg (by omega)]
                 have hf : ¬ (pNum t n (stV 0 W) (stV 1 W) (s.nx t n)).f = 0 := by rw [e]; exact bad_f (by decide)
                 exact ⟨(s.nx t n).bad t n 2, Or.inr (hbad.on hp.2.1), Or.inr ⟨bad_f (by decide), by rw [p3 hk1 hW0.1 hT0 hf, e]⟩, fun z => absurd z (bad_f (by decide))⟩
               · rw [c.2]
                 first
                   | exact ⟨s.bad t n 2, Or.inr (hg.no (by decide) (by omega) (by omega)), Or.inr ⟨bad_f (by decide), p1 (by omega)⟩, fun z => absurd z (bad_f (by decide))⟩
                   | exact ⟨s.bad t n 4, Or.inr (hg.no (by decide) (by omega) (by omega)), Or.inr ⟨bad_f (by decide), p2 (by omega) (by omega) (by omega)⟩, fun z => absurd z (bad_f (by decide))⟩)
  · refine wp_iconst (pc := 15) dX7_readsSetting_15 (by decide) ?_
    refine wp_goto (pc := 16) 20 dX7_readsSetting_16 (by decide) ?_
    refine wp_iconst (pc := 20) dX7_readsSetting_20 (by decide) ?_
    refine wp_cvV2 (pc := 21) dX7_readsSetting_21 mv_X7_111 m_mustP (Nat.le_of_ble_eq_true rfl) rfl (Nat.le_of_ble_eq_true rfl) (fun σ_21 h_21 => ?_)
    obtain ⟨f_21, a12_21, a13_21, a14_21, a15_21, q_21⟩ := h_21
    refine wp_aload_n (pc := 24) dX7_readsSetting_24 rfl rfl ?_
    refine wp_aload_n (pc := 25) dX7_readsSetting_25 rfl rfl ?_
    refine wp_getI (pc := 26) 10 dX7_readsSetting_26 fl_X7_81 rfl rfl ?_
    refine wp_if_gt (pc := 29) 43 dX7_readsSetting_29 (by decide) (fun c_29 => ?_) (fun c_29 => ?_)
    · refine wp_iconst (pc := 43) dX7_readsSetting_43 (by decide) ?_
      refine wp_goto (pc := 44) 48 dX7_readsSetting_44 (by decide) ?_
      refine wp_iconst (pc := 48) dX7_readsSetting_48 (by decide) ?_
      refine wp_cvV2 (pc := 49) dX7_readsSetting_49 mv_X7_111 m_mustP (Nat.le_of_ble_eq_true rfl) rfl (Nat.le_of_ble_eq_true rfl) (fun σ_49 h_49 => ?_)
      obtain ⟨f_49, a12_49, a13_49, a14_49, a15_49, q_49⟩ := h_49
      refine wp_aload_n (pc := 52) dX7_readsSetting_52 rfl rfl ?_
      have F49 := f_21.tr f_49
      have h12 : σ_49 71 12 = σ 71 12 := by omega
      refine wp_cvV0 (pc := 53) dX7_readsSetting_53 mv_X7_115 (m_readsU (t := t) (n := n) (cnt := cnt) (q := s.nx t n) (by omega) (fun _ => hg.nx F49 h12)) (Nat.le_of_ble_eq_true rfl) rfl (Nat.le_of_ble_eq_true rfl) (fun σ_53 h_53 => ?_)
      obtain ⟨f53, q53⟩ := h_53
      refine wp_aload_n (pc := 56) dX7_readsSetting_56 rfl rfl ?_
      refine wp_getI (pc := 57) 10 dX7_readsSetting_57 fl_X7_81 rfl rfl ?_
      refine wp_if_ne (pc := 60) 96 dX7_readsSetting_60 (by decide) (fun c_60 => ?_) (fun c_60 => ?_)
      · refine wp_return (pc := 96) dX7_readsSetting_96 rfl ?_
        first
          | (have hRF : RFr σ (upd2 σ_92 73 (585 + W) z_92) := ((((f_21.tr f_49).tr f53).r.up (Or.inr (Or.inr rfl))).tr f92.r).up (Or.inl rfl)
             refine ⟨rfl, hRF, ?_⟩
             by_cases hf : (pNum t n (stV 0 W) (stV 1 W) (s.nx t n)).f = 0
             · obtain ⟨e1, e2, e3, e4⟩ := pNum_f hf
               have e5 : pNum t n (stV 0 W) (stV 1 W) ((s.nx t n).wT (upf s.T W 1)) = ((s.nx t n).nx t n).wT (upf s.T W 1) := by unfold pNum; rw [if_pos (show tkK t n ((s.nx t n).wT (upf s.T W 1)).x = 2 ∧ stV 0 W ≤ tkN t n ((s.nx t n).wT (upf s.T W 1)).x ∧ tkN t n ((s.nx t n).wT (upf s.T W 1)).x ≤ stV 1 W from ⟨e2, e3, e4⟩)]; rfl
               rw [e5] at m92 v92
               have v93 : z_92 = tkN t n (s.nx t n).x := v92 hp.2.1
               refine ⟨(((s.nx t n).nx t n).wT (upf s.T W 1)).wD (setSt s.D W (tkN t n (s.nx t n).x)), ?_, Or.inl ⟨hp.2.1, p4 hk1 hW0.1 hT0 hf⟩, fun _ => hcn⟩
               rw [v93]
               rcases m92 with m | m
               · left
                 obtain ⟨⟨b1, b2, b3, b4, b5, b6, b7, b8, b9, b10, b11⟩, m1⟩ := m
                 refine ⟨⟨b1, by rw [upd2_r (by decide)]; exact b2, fun k k0 k1 => by rw [upd2_r (by decide)]; exact b3 k k0 k1, b4, b5, fun w w0 w1 => by rw [upd2_r (by decide)]; exact b6 w w0 w1, PR.ss b7 hp.2.2.1 (by omega), ?_, by rw [upd2_r (by decide)]; exact b9, ⟨fun j hj => by rw [upd2_r (by decide)]; exact b10.1 j hj, fun j hj => by rw [upd2_r (by decide)]; exact b10.2 j hj⟩, b11⟩, ?_⟩
                 · rw [show upd2 σ_92 73 (585 + W) (tkN t n (s.nx t n).x) 75 = σ_92 75 from funext fun k => upd2_r (by decide)]; exact b8
                 · unfold MT at *
                   rw [upd2_r (by decide), upd2_r (by decide), upd2_r (by decide), upd2_r (by decide), upd2_r (by decide)]; exact m1
               · right
                 unfold MSb at *
                 rw [upd2_r (by decide), upd2_r (by decide)]; exact m
             · have e5 : (pNum t n (stV 0 W) (stV 1 W) ((s.nx t n).wT (upf s.T W 1))).f = (pNum t n (stV 0 W) (stV 1 W) (s.nx t n)).f ∧ (pNum t n (stV 0 W) (stV 1 W) ((s.nx t n).wT (upf s.T W 1))).b = (pNum t n (stV 0 W) (stV 1 W) (s.nx t n)).b := by
                 unfold pNum
                 by_cases c : tkK t n (s.nx t n).x = 2 ∧ stV 0 W ≤ tkN t n (s.nx t n).x ∧ tkN t n (s.nx t n).x ≤ stV 1 W
                 · rw [if_pos c, if_pos (show tkK t n ((s.nx t n).wT (upf s.T W 1)).x = 2 ∧ stV 0 W ≤ tkN t n ((s.nx t n).wT (upf s.T W 1)).x ∧ tkN t n ((s.nx t n).wT (upf s.T W 1)).x ≤ stV 1 W from c)]; exact ⟨rfl, rfl⟩
                 · rw [if_neg c, if_neg (show ¬ (tkK t n ((s.nx t n).wT (upf s.T W 1)).x = 2 ∧ stV 0 W ≤ tkN t n ((s.nx t n).wT (upf s.T W 1)).x ∧ tkN t n ((s.nx t n).wT (upf s.T W 1)).x ≤ stV 1 W) from c)]; exact ⟨rfl, rfl⟩
               refine ⟨pNum t n (stV 0 W) (stV 1 W) (s.nx t n), Or.inr ?_, Or.inr ⟨hf, p3 hk1 hW0.1 hT0 hf⟩, fun z => absurd z hf⟩
               rcases m92 with m | m
               · exact absurd (e5.1.symm.trans m.1.2.2.2.2.2.2.2.2.2.2) hf
               · unfold MSb at *
                 rw [e5.1, e5.2] at m
                 rw [upd2_r (by decide), upd2_r (by decide)]
                 rcases m.2.2 with c | c
                 · exact ⟨m.1, m.2.1, Or.inl c⟩
                 · exact absurd c.1 hf)
          | (have hRF : RFr σ σ_53 := ((f_21.tr f_49).tr f53).r
             refine ⟨rfl, hRF, ?_⟩
             rcases q53 with c | c
             · have hW0 : 0 ≤ W ∧ z_4 = W + 3 := by omega
               have hk1 : tkK t n s.x = 1 := by omega
               have hT2 := hT hW0.1
               have hT0 : s.T W = 0 := by
                 rcases hT2.2 with c | c
                 · exact c
                 · exfalso; omega
               have hnn := c.2.nn
               have hbad := c.2.bad (by omega)
               have hk3 : tkK t n (s.nx t n).x = 0 := by
                 rcases hbad.2.2 with d | d
                 · exact absurd hp.2.1 d.1
                 · exact d.2.1
               have e : pNum t n (stV 0 W) (stV 1 W) (s.nx t n) = (s.nx t n).bad t n 2 := by unfold pNum; rw [if_neg (by omega), if_neg (by omega)]
               have hf : ¬ (pNum t n (stV 0 W) (stV 1 W) (s.nx t n)).f = 0 := by rw [e]; exact bad_f (by decide)
               exact ⟨(s.nx t n).bad t n 2, Or.inr (hbad.on hp.2.1), Or.inr ⟨bad_f (by decide), by rw [p3 hk1 hW0.1 hT0 hf, e]⟩, fun z => absurd z (bad_f (by decide))⟩
             · rw [c.2]
               first
                 | exact ⟨s.bad t n 2, Or.inr (hg.no (by decide) (by omega) (by omega)), Or.inr ⟨bad_f (by decide), p1 (by omega)⟩, fun z => absurd z (bad_f (by decide))⟩
                 | exact ⟨s.bad t n 4, Or.inr (hg.no (by decide) (by omega) (by omega)), Or.inr ⟨bad_f (by decide), p2 (by omega) (by omega) (by omega)⟩, fun z => absurd z (bad_f (by decide))⟩)
      · have hok : σ_49 71 10 = 0 ∧ MS t n σ_53 (s.nx t n) cnt := by
          rcases q53 with c | c
          · exact c
          · rw [c.2] at c_60; omega
        have hg3 := hok.2.good (by omega)
        have hW0 : 0 ≤ W ∧ z_4 = W + 3 := by omega
        have hk1 : tkK t n s.x = 1 := by omega
        have hT2 := hT hW0.1
        have hT0 : s.T W = 0 := by
          rcases hT2.2 with c | c
          · exact c
          · exfalso; omega
        refine wp_iload_n (pc := 63) dX7_readsSetting_63 rfl rfl ?_
        refine wp_iconst (pc := 64) dX7_readsSetting_64 (by decide) ?_
        refine wp_isub (pc := 65) dX7_readsSetting_65 (by omega) ?_
        rw [show z_4 - 3 = W by omega]
        refine wp_istore_n (pc := 66) dX7_readsSetting_66 rfl (Nat.le_of_ble_eq_true rfl) rfl ?_
        refine wp_aload_n (pc := 67) dX7_readsSetting_67 rfl rfl ?_
        refine wp_getR (pc := 68) (q := 81) dX7_readsSetting_68 fl_X7_38 rfl ?_
        refine wp_iload_n (pc := 71) dX7_readsSetting_71 rfl rfl ?_
        refine wp_iconst (pc := 72) dX7_readsSetting_72 (by decide) ?_
        refine wp_zast (pc := 73) 6 dX7_readsSetting_73 rfl (by omega) (by omega) ?_
        refine wp_aload_n (pc := 74) dX7_readsSetting_74 rfl rfl ?_
        refine wp_getR (pc := 75) (q := 73) dX7_readsSetting_75 fl_X7_13 rfl ?_
        refine wp_sipush (pc := 78) dX7_readsSetting_78 (by decide) (by decide) ?_
        refine wp_iload_n (pc := 81) dX7_readsSetting_81 rfl rfl ?_
        refine wp_iadd (pc := 82) dX7_readsSetting_82 (by omega) ?_
        refine wp_aload_n (pc := 83) dX7_readsSetting_83 rfl rfl ?_
        refine wp_iload_n (pc := 84) dX7_readsSetting_84 rfl rfl ?_
        refine wp_csI1 (pc := 85) dX7_readsSetting_85 ms_X7_122 (m_leastOf (by omega)) (Nat.le_of_ble_eq_true rfl) (Nat.le_of_ble_eq_true rfl) (fun z_85 σ_85 h_85 => ?_)
        obtain ⟨rfl, e_85⟩ := h_85; have e2_85 := e_85.symm; subst e2_85
        refine wp_iload_n (pc := 88) dX7_readsSetting_88 rfl rfl ?_
        refine wp_csI1 (pc := 89) dX7_readsSetting_89 ms_X7_125 (m_mostOf (by omega)) (Nat.le_of_ble_eq_true rfl) (Nat.le_of_ble_eq_true rfl) (fun z_89 σ_89 h_89 => ?_)
        obtain ⟨rfl, e_89⟩ := h_89; have e2_89 := e_89.symm; subst e2_89
        have hg4 : MG t n (upd2 σ_53 81 W 1) ((s.nx t n).wT (upf s.T W 1)) cnt := by
          obtain ⟨⟨b1, b2, b3, b4, b5, b6, b7, b8, b9, b10, b11⟩, m1⟩ := hg3
          refine ⟨⟨b1, by rw [upd2_r (by decide)]; exact b2, fun k k0 k1 => by rw [upd2_r (by decide)]; exact b3 k k0 k1, b4, b5, fun w w0 w1 => ?_, ?_, ?_, by rw [upd2_r (by decide)]; exact b9, ⟨fun j hj => by rw [upd2_r (by decide)]; exact b10.1 j hj, fun j hj => by rw [upd2_r (by decide)]; exact b10.2 j hj⟩, b11⟩, ?_⟩
          · show _ = (if w = W then 1 else s.T w) ∧ ((if w = W then 1 else s.T w) = 0 ∨ (if w = W then 1 else s.T w) = 1)
            by_cases e : w = W
            · rw [e, upd2_eq, if_pos rfl]; exact ⟨rfl, Or.inr rfl⟩
            · rw [upd2_k e, if_neg e]; exact b6 w w0 w1
          · rw [show upd2 σ_53 81 W 1 73 = σ_53 73 from funext fun k => upd2_r (by decide)]; exact b7
          · rw [show upd2 σ_53 81 W 1 75 = σ_53 75 from funext fun k => upd2_r (by decide)]; exact b8
          · unfold MT at *
            rw [upd2_r (by decide), upd2_r (by decide), upd2_r (by decide), upd2_r (by decide), upd2_r (by decide)]; exact m1
        refine wp_cvI2 (pc := 92) dX7_readsSetting_92 mv_X7_128 (m_number hg4) (Nat.le_of_ble_eq_true rfl) rfl (Nat.le_of_ble_eq_true rfl) (fun z_92 σ_92 h_92 => ?_)
        obtain ⟨f92, m92, v92⟩ := h_92
        refine wp_iast (pc := 95) 591 dX7_readsSetting_95 rfl (by omega) ?_
        refine wp_return (pc := 96) dX7_readsSetting_96 rfl ?_
        first
          | (have hRF : RFr σ (upd2 σ_92 73 (585 + W) z_92) := ((((f_21.tr f_49).tr f53).r.up (Or.inr (Or.inr rfl))).tr f92.r).up (Or.inl rfl)
             refine ⟨rfl, hRF, ?_⟩
             by_cases hf : (pNum t n (stV 0 W) (stV 1 W) (s.nx t n)).f = 0
             · obtain ⟨e1, e2, e3, e4⟩ := pNum_f hf
               have e5 : pNum t n (stV 0 W) (stV 1 W) ((s.nx t n).wT (upf s.T W 1)) = ((s.nx t n).nx t n).wT (upf s.T W 1) := by unfold pNum; rw [if_pos (show tkK t n ((s.nx t n).wT (upf s.T W 1)).x = 2 ∧ stV 0 W ≤ tkN t n ((s.nx t n).wT (upf s.T W 1)).x ∧ tkN t n ((s.nx t n).wT (upf s.T W 1)).x ≤ stV 1 W from ⟨e2, e3, e4⟩)]; rfl
               rw [e5] at m92 v92
               have v93 : z_92 = tkN t n (s.nx t n).x := v92 hp.2.1
               refine ⟨(((s.nx t n).nx t n).wT (upf s.T W 1)).wD (setSt s.D W (tkN t n (s.nx t n).x)), ?_, Or.inl ⟨hp.2.1, p4 hk1 hW0.1 hT0 hf⟩, fun _ => hcn⟩
               rw [v93]
               rcases m92 with m | m
               · left
                 obtain ⟨⟨b1, b2, b3, b4, b5, b6, b7, b8, b9, b10, b11⟩, m1⟩ := m
                 refine ⟨⟨b1, by rw [upd2_r (by decide)]; exact b2, fun k k0 k1 => by rw [upd2_r (by decide)]; exact b3 k k0 k1, b4, b5, fun w w0 w1 => by rw [upd2_r (by decide)]; exact b6 w w0 w1, PR.ss b7 hp.2.2.1 (by omega), ?_, by rw [upd2_r (by decide)]; exact b9, ⟨fun j hj => by rw [upd2_r (by decide)]; exact b10.1 j hj, fun j hj => by rw [upd2_r (by decide)]; exact b10.2 j hj⟩, b11⟩, ?_⟩
                 · rw [show upd2 σ_92 73 (585 + W) (tkN t n (s.nx t n).x) 75 = σ_92 75 from funext fun k => upd2_r (by decide)]; exact b8
                 · unfold MT at *
                   rw [upd2_r (by decide), upd2_r (by decide), upd2_r (by decide), upd2_r (by decide), upd2_r (by decide)]; exact m1
               · right
                 unfold MSb at *
                 rw [upd2_r (by decide), upd2_r (by decide)]; exact m
             · have e5 : (pNum t n (stV 0 W) (stV 1 W) ((s.nx t n).wT (upf s.T W 1))).f = (pNum t n (stV 0 W) (stV 1 W) (s.nx t n)).f ∧ (pNum t n (stV 0 W) (stV 1 W) ((s.nx t n).wT (upf s.T W 1))).b = (pNum t n (stV 0 W) (stV 1 W) (s.nx t n)).b := by
                 unfold pNum
                 by_cases c : tkK t n (s.nx t n).x = 2 ∧ stV 0 W ≤ tkN t n (s.nx t n).x ∧ tkN t n (s.nx t n).x ≤ stV 1 W
                 · rw [if_pos c, if_pos (show tkK t n ((s.nx t n).wT (upf s.T W 1)).x = 2 ∧ stV 0 W ≤ tkN t n ((s.nx t n).wT (upf s.T W 1)).x ∧ tkN t n ((s.nx t n).wT (upf s.T W 1)).x ≤ stV 1 W from c)]; exact ⟨rfl, rfl⟩
                 · rw [if_neg c, if_neg (show ¬ (tkK t n ((s.nx t n).wT (upf s.T W 1)).x = 2 ∧ stV 0 W ≤ tkN t n ((s.nx t n).wT (upf s.T W 1)).x ∧ tkN t n ((s.nx t n).wT (upf s.T W 1)).x ≤ stV 1 W) from c)]; exact ⟨rfl, rfl⟩
               refine ⟨pNum t n (stV 0 W) (stV 1 W) (s.nx t n), Or.inr ?_, Or.inr ⟨hf, p3 hk1 hW0.1 hT0 hf⟩, fun z => absurd z hf⟩
               rcases m92 with m | m
               · exact absurd (e5.1.symm.trans m.1.2.2.2.2.2.2.2.2.2.2) hf
               · unfold MSb at *
                 rw [e5.1, e5.2] at m
                 rw [upd2_r (by decide), upd2_r (by decide)]
                 rcases m.2.2 with c | c
                 · exact ⟨m.1, m.2.1, Or.inl c⟩
                 · exact absurd c.1 hf)
          | (have hRF : RFr σ σ_53 := ((f_21.tr f_49).tr f53).r
             refine ⟨rfl, hRF, ?_⟩
             rcases q53 with c | c
             · have hW0 : 0 ≤ W ∧ z_4 = W + 3 := by omega
               have hk1 : tkK t n s.x = 1 := by omega
               have hT2 := hT hW0.1
               have hT0 : s.T W = 0 := by
                 rcases hT2.2 with c | c
                 · exact c
                 · exfalso; omega
               have hnn := c.2.nn
               have hbad := c.2.bad (by omega)
               have hk3 : tkK t n (s.nx t n).x = 0 := by
                 rcases hbad.2.2 with d | d
                 · exact absurd hp.2.1 d.1
                 · exact d.2.1
               have e : pNum t n (stV 0 W) (stV 1 W) (s.nx t n) = (s.nx t n).bad t n 2 := by unfold pNum; rw [if_neg (by omega), if_neg (by omega)]
               have hf : ¬ (pNum t n (stV 0 W) (stV 1 W) (s.nx t n)).f = 0 := by rw [e]; exact bad_f (by decide)
               exact ⟨(s.nx t n).bad t n 2, Or.inr (hbad.on hp.2.1), Or.inr ⟨bad_f (by decide), by rw [p3 hk1 hW0.1 hT0 hf, e]⟩, fun z => absurd z (bad_f (by decide))⟩
             · rw [c.2]
               first
                 | exact ⟨s.bad t n 2, Or.inr (hg.no (by decide) (by omega) (by omega)), Or.inr ⟨bad_f (by decide), p1 (by omega)⟩, fun z => absurd z (bad_f (by decide))⟩
                 | exact ⟨s.bad t n 4, Or.inr (hg.no (by decide) (by omega) (by omega)), Or.inr ⟨bad_f (by decide), p2 (by omega) (by omega) (by omega)⟩, fun z => absurd z (bad_f (by decide))⟩)
    · have hW0 : 0 ≤ W ∧ z_4 = W + 3 := by omega
      have hT2 := hT hW0.1
      have e81 : σ_21 81 (z_4 - 3) = s.T W := by rw [f_21.1 81 (by decide), show z_4 - 3 = W by omega]; exact hT2.1
      refine wp_aload_n (pc := 32) dX7_readsSetting_32 rfl rfl ?_
      refine wp_getR (pc := 33) (q := 81) dX7_readsSetting_33 fl_X7_38 rfl ?_
      refine wp_iload_n (pc := 36) dX7_readsSetting_36 rfl rfl ?_
      refine wp_iconst (pc := 37) dX7_readsSetting_37 (by decide) ?_
      refine wp_isub (pc := 38) dX7_readsSetting_38 (by omega) ?_
      refine wp_zald (pc := 39) 6 dX7_readsSetting_39 rfl (by omega) ?_
      rw [e81]
      refine wp_if_ne (pc := 40) 47 dX7_readsSetting_40 (by decide) (fun c_40 => ?_) (fun c_40 => ?_)
      · refine wp_iconst (pc := 47) dX7_readsSetting_47 (by decide) ?_
        refine wp_iconst (pc := 48) dX7_readsSetting_48 (by decide) ?_
        refine wp_cvV2 (pc := 49) dX7_readsSetting_49 mv_X7_111 m_mustP (Nat.le_of_ble_eq_true rfl) rfl (Nat.le_of_ble_eq_true rfl) (fun σ_49 h_49 => ?_)
        obtain ⟨f_49, a12_49, a13_49, a14_49, a15_49, q_49⟩ := h_49
        refine wp_aload_n (pc := 52) dX7_readsSetting_52 rfl rfl ?_
        have F49 := f_21.tr f_49
        have h12 : σ_49 71 12 = σ 71 12 := by omega
        refine wp_cvV0 (pc := 53) dX7_readsSetting_53 mv_X7_115 (m_readsU (t := t) (n := n) (cnt := cnt) (q := s.nx t n) (by omega) (fun _ => hg.nx F49 h12)) (Nat.le_of_ble_eq_true rfl) rfl (Nat.le_of_ble_eq_true rfl) (fun σ_53 h_53 => ?_)
        obtain ⟨f53, q53⟩ := h_53
        refine wp_aload_n (pc := 56) dX7_readsSetting_56 rfl rfl ?_
        refine wp_getI (pc := 57) 10 dX7_readsSetting_57 fl_X7_81 rfl rfl ?_
        refine wp_if_ne (pc := 60) 96 dX7_readsSetting_60 (by decide) (fun c_60 => ?_) (fun c_60 => ?_)
        · refine wp_return (pc := 96) dX7_readsSetting_96 rfl ?_
          first
            | (have hRF : RFr σ (upd2 σ_92 73 (585 + W) z_92) := ((((f_21.tr f_49).tr f53).r.up (Or.inr (Or.inr rfl))).tr f92.r).up (Or.inl rfl)
               refine ⟨rfl, hRF, ?_⟩
               by_cases hf : (pNum t n (stV 0 W) (stV 1 W) (s.nx t n)).f = 0
               · obtain ⟨e1, e2, e3, e4⟩ := pNum_f hf
                 have e5 : pNum t n (stV 0 W) (stV 1 W) ((s.nx t n).wT (upf s.T W 1)) = ((s.nx t n).nx t n).wT (upf s.T W 1) := by unfold pNum; rw [if_pos (show tkK t n ((s.nx t n).wT (upf s.T W 1)).x = 2 ∧ stV 0 W ≤ tkN t n ((s.nx t n).wT (upf s.T W 1)).x ∧ tkN t n ((s.nx t n).wT (upf s.T W 1)).x ≤ stV 1 W from ⟨e2, e3, e4⟩)]; rfl
                 rw [e5] at m92 v92
                 have v93 : z_92 = tkN t n (s.nx t n).x := v92 hp.2.1
                 refine ⟨(((s.nx t n).nx t n).wT (upf s.T W 1)).wD (setSt s.D W (tkN t n (s.nx t n).x)), ?_, Or.inl ⟨hp.2.1, p4 hk1 hW0.1 hT0 hf⟩, fun _ => hcn⟩
                 rw [v93]
                 rcases m92 with m | m
                 · left
                   obtain ⟨⟨b1, b2, b3, b4, b5, b6, b7, b8, b9, b10, b11⟩, m1⟩ := m
                   refine ⟨⟨b1, by rw [upd2_r (by decide)]; exact b2, fun k k0 k1 => by rw [upd2_r (by decide)]; exact b3 k k0 k1, b4, b5, fun w w0 w1 => by rw [upd2_r (by decide)]; exact b6 w w0 w1, PR.ss b7 hp.2.2.1 (by omega), ?_, by rw [upd2_r (by decide)]; exact b9, ⟨fun j hj => by rw [upd2_r (by decide)]; exact b10.1 j hj, fun j hj => by rw [upd2_r (by decide)]; exact b10.2 j hj⟩, b11⟩, ?_⟩
                   · rw [show upd2 σ_92 73 (585 + W) (tkN t n (s.nx t n).x) 75 = σ_92 75 from funext fun k => upd2_r (by decide)]; exact b8
                   · unfold MT at *
                     rw [upd2_r (by decide), upd2_r (by decide), upd2_r (by decide), upd2_r (by decide), upd2_r (by decide)]; exact m1
                 · right
                   unfold MSb at *
                   rw [upd2_r (by decide), upd2_r (by decide)]; exact m
               · have e5 : (pNum t n (stV 0 W) (stV 1 W) ((s.nx t n).wT (upf s.T W 1))).f = (pNum t n (stV 0 W) (stV 1 W) (s.nx t n)).f ∧ (pNum t n (stV 0 W) (stV 1 W) ((s.nx t n).wT (upf s.T W 1))).b = (pNum t n (stV 0 W) (stV 1 W) (s.nx t n)).b := by
                   unfold pNum
                   by_cases c : tkK t n (s.nx t n).x = 2 ∧ stV 0 W ≤ tkN t n (s.nx t n).x ∧ tkN t n (s.nx t n).x ≤ stV 1 W
                   · rw [if_pos c, if_pos (show tkK t n ((s.nx t n).wT (upf s.T W 1)).x = 2 ∧ stV 0 W ≤ tkN t n ((s.nx t n).wT (upf s.T W 1)).x ∧ tkN t n ((s.nx t n).wT (upf s.T W 1)).x ≤ stV 1 W from c)]; exact ⟨rfl, rfl⟩
                   · rw [if_neg c, if_neg (show ¬ (tkK t n ((s.nx t n).wT (upf s.T W 1)).x = 2 ∧ stV 0 W ≤ tkN t n ((s.nx t n).wT (upf s.T W 1)).x ∧ tkN t n ((s.nx t n).wT (upf s.T W 1)).x ≤ stV 1 W) from c)]; exact ⟨rfl, rfl⟩
                 refine ⟨pNum t n (stV 0 W) (stV 1 W) (s.nx t n), Or.inr ?_, Or.inr ⟨hf, p3 hk1 hW0.1 hT0 hf⟩, fun z => absurd z hf⟩
                 rcases m92 with m | m
                 · exact absurd (e5.1.symm.trans m.1.2.2.2.2.2.2.2.2.2.2) hf
                 · unfold MSb at *
                   rw [e5.1, e5.2] at m
                   rw [upd2_r (by decide), upd2_r (by decide)]
                   rcases m.2.2 with c | c
                   · exact ⟨m.1, m.2.1, Or.inl c⟩
                   · exact absurd c.1 hf)
            | (have hRF : RFr σ σ_53 := ((f_21.tr f_49).tr f53).r
               refine ⟨rfl, hRF, ?_⟩
               rcases q53 with c | c
               · have hW0 : 0 ≤ W ∧ z_4 = W + 3 := by omega
                 have hk1 : tkK t n s.x = 1 := by omega
                 have hT2 := hT hW0.1
                 have hT0 : s.T W = 0 := by
                   rcases hT2.2 with c | c
                   · exact c
                   · exfalso; omega
                 have hnn := c.2.nn
                 have hbad := c.2.bad (by omega)
                 have hk3 : tkK t n (s.nx t n).x = 0 := by
                   rcases hbad.2.2 with d | d
                   · exact absurd hp.2.1 d.1
                   · exact d.2.1
                 have e : pNum t n (stV 0 W) (stV 1 W) (s.nx t n) = (s.nx t n).bad t n 2 := by unfold pNum; rw [if_neg (by omega), if_neg (by omega)]
                 have hf : ¬ (pNum t n (stV 0 W) (stV 1 W) (s.nx t n)).f = 0 := by rw [e]; exact bad_f (by decide)
                 exact ⟨(s.nx t n).bad t n 2, Or.inr (hbad.on hp.2.1), Or.inr ⟨bad_f (by decide), by rw [p3 hk1 hW0.1 hT0 hf, e]⟩, fun z => absurd z (bad_f (by decide))⟩
               · rw [c.2]
                 first
                   | exact ⟨s.bad t n 2, Or.inr (hg.no (by decide) (by omega) (by omega)), Or.inr ⟨bad_f (by decide), p1 (by omega)⟩, fun z => absurd z (bad_f (by decide))⟩
                   | exact ⟨s.bad t n 4, Or.inr (hg.no (by decide) (by omega) (by omega)), Or.inr ⟨bad_f (by decide), p2 (by omega) (by omega) (by omega)⟩, fun z => absurd z (bad_f (by decide))⟩)
        · have hok : σ_49 71 10 = 0 ∧ MS t n σ_53 (s.nx t n) cnt := by
            rcases q53 with c | c
            · exact c
            · rw [c.2] at c_60; omega
          have hg3 := hok.2.good (by omega)
          have hW0 : 0 ≤ W ∧ z_4 = W + 3 := by omega
          have hk1 : tkK t n s.x = 1 := by omega
          have hT2 := hT hW0.1
          have hT0 : s.T W = 0 := by
            rcases hT2.2 with c | c
            · exact c
            · exfalso; omega
          refine wp_iload_n (pc := 63) dX7_readsSetting_63 rfl rfl ?_
          refine wp_iconst (pc := 64) dX7_readsSetting_64 (by decide) ?_
          refine wp_isub (pc := 65) dX7_readsSetting_65 (by omega) ?_
          rw [show z_4 - 3 = W by omega]
          refine wp_istore_n (pc := 66) dX7_readsSetting_66 rfl (Nat.le_of_ble_eq_true rfl) rfl ?_
          refine wp_aload_n (pc := 67) dX7_readsSetting_67 rfl rfl ?_
          refine wp_getR (pc := 68) (q := 81) dX7_readsSetting_68 fl_X7_38 rfl ?_
          refine wp_iload_n (pc := 71) dX7_readsSetting_71 rfl rfl ?_
          refine wp_iconst (pc := 72) dX7_readsSetting_72 (by decide) ?_
          refine wp_zast (pc := 73) 6 dX7_readsSetting_73 rfl (by omega) (by omega) ?_
          refine wp_aload_n (pc := 74) dX7_readsSetting_74 rfl rfl ?_
          refine wp_getR (pc := 75) (q := 73) dX7_readsSetting_75 fl_X7_13 rfl ?_
          refine wp_sipush (pc := 78) dX7_readsSetting_78 (by decide) (by decide) ?_
          refine wp_iload_n (pc := 81) dX7_readsSetting_81 rfl rfl ?_
          refine wp_iadd (pc := 82) dX7_readsSetting_82 (by omega) ?_
          refine wp_aload_n (pc := 83) dX7_readsSetting_83 rfl rfl ?_
          refine wp_iload_n (pc := 84) dX7_readsSetting_84 rfl rfl ?_
          refine wp_csI1 (pc := 85) dX7_readsSetting_85 ms_X7_122 (m_leastOf (by omega)) (Nat.le_of_ble_eq_true rfl) (Nat.le_of_ble_eq_true rfl) (fun z_85 σ_85 h_85 => ?_)
          obtain ⟨rfl, e_85⟩ := h_85; have e2_85 := e_85.symm; subst e2_85
          refine wp_iload_n (pc := 88) dX7_readsSetting_88 rfl rfl ?_
          refine wp_csI1 (pc := 89) dX7_readsSetting_89 ms_X7_125 (m_mostOf (by omega)) (Nat.le_of_ble_eq_true rfl) (Nat.le_of_ble_eq_true rfl) (fun z_89 σ_89 h_89 => ?_)
          obtain ⟨rfl, e_89⟩ := h_89; have e2_89 := e_89.symm; subst e2_89
          have hg4 : MG t n (upd2 σ_53 81 W 1) ((s.nx t n).wT (upf s.T W 1)) cnt := by
            obtain ⟨⟨b1, b2, b3, b4, b5, b6, b7, b8, b9, b10, b11⟩, m1⟩ := hg3
            refine ⟨⟨b1, by rw [upd2_r (by decide)]; exact b2, fun k k0 k1 => by rw [upd2_r (by decide)]; exact b3 k k0 k1, b4, b5, fun w w0 w1 => ?_, ?_, ?_, by rw [upd2_r (by decide)]; exact b9, ⟨fun j hj => by rw [upd2_r (by decide)]; exact b10.1 j hj, fun j hj => by rw [upd2_r (by decide)]; exact b10.2 j hj⟩, b11⟩, ?_⟩
            · show _ = (if w = W then 1 else s.T w) ∧ ((if w = W then 1 else s.T w) = 0 ∨ (if w = W then 1 else s.T w) = 1)
              by_cases e : w = W
              · rw [e, upd2_eq, if_pos rfl]; exact ⟨rfl, Or.inr rfl⟩
              · rw [upd2_k e, if_neg e]; exact b6 w w0 w1
            · rw [show upd2 σ_53 81 W 1 73 = σ_53 73 from funext fun k => upd2_r (by decide)]; exact b7
            · rw [show upd2 σ_53 81 W 1 75 = σ_53 75 from funext fun k => upd2_r (by decide)]; exact b8
            · unfold MT at *
              rw [upd2_r (by decide), upd2_r (by decide), upd2_r (by decide), upd2_r (by decide), upd2_r (by decide)]; exact m1
          refine wp_cvI2 (pc := 92) dX7_readsSetting_92 mv_X7_128 (m_number hg4) (Nat.le_of_ble_eq_true rfl) rfl (Nat.le_of_ble_eq_true rfl) (fun z_92 σ_92 h_92 => ?_)
          obtain ⟨f92, m92, v92⟩ := h_92
          refine wp_iast (pc := 95) 591 dX7_readsSetting_95 rfl (by omega) ?_
          refine wp_return (pc := 96) dX7_readsSetting_96 rfl ?_
          first
            | (have hRF : RFr σ (upd2 σ_92 73 (585 + W) z_92) := ((((f_21.tr f_49).tr f53).r.up (Or.inr (Or.inr rfl))).tr f92.r).up (Or.inl rfl)
               refine ⟨rfl, hRF, ?_⟩
               by_cases hf : (pNum t n (stV 0 W) (stV 1 W) (s.nx t n)).f = 0
               · obtain ⟨e1, e2, e3, e4⟩ := pNum_f hf
                 have e5 : pNum t n (stV 0 W) (stV 1 W) ((s.nx t n).wT (upf s.T W 1)) = ((s.nx t n).nx t n).wT (upf s.T W 1) := by unfold pNum; rw [if_pos (show tkK t n ((s.nx t n).wT (upf s.T W 1)).x = 2 ∧ stV 0 W ≤ tkN t n ((s.nx t n).wT (upf s.T W 1)).x ∧ tkN t n ((s.nx t n).wT (upf s.T W 1)).x ≤ stV 1 W from ⟨e2, e3, e4⟩)]; rfl
                 rw [e5] at m92 v92
                 have v93 : z_92 = tkN t n (s.nx t n).x := v92 hp.2.1
                 refine ⟨(((s.nx t n).nx t n).wT (upf s.T W 1)).wD (setSt s.D W (tkN t n (s.nx t n).x)), ?_, Or.inl ⟨hp.2.1, p4 hk1 hW0.1 hT0 hf⟩, fun _ => hcn⟩
                 rw [v93]
                 rcases m92 with m | m
                 · left
                   obtain ⟨⟨b1, b2, b3, b4, b5, b6, b7, b8, b9, b10, b11⟩, m1⟩ := m
                   refine ⟨⟨b1, by rw [upd2_r (by decide)]; exact b2, fun k k0 k1 => by rw [upd2_r (by decide)]; exact b3 k k0 k1, b4, b5, fun w w0 w1 => by rw [upd2_r (by decide)]; exact b6 w w0 w1, PR.ss b7 hp.2.2.1 (by omega), ?_, by rw [upd2_r (by decide)]; exact b9, ⟨fun j hj => by rw [upd2_r (by decide)]; exact b10.1 j hj, fun j hj => by rw [upd2_r (by decide)]; exact b10.2 j hj⟩, b11⟩, ?_⟩
                   · rw [show upd2 σ_92 73 (585 + W) (tkN t n (s.nx t n).x) 75 = σ_92 75 from funext fun k => upd2_r (by decide)]; exact b8
                   · unfold MT at *
                     rw [upd2_r (by decide), upd2_r (by decide), upd2_r (by decide), upd2_r (by decide), upd2_r (by decide)]; exact m1
                 · right
                   unfold MSb at *
                   rw [upd2_r (by decide), upd2_r (by decide)]; exact m
               · have e5 : (pNum t n (stV 0 W) (stV 1 W) ((s.nx t n).wT (upf s.T W 1))).f = (pNum t n (stV 0 W) (stV 1 W) (s.nx t n)).f ∧ (pNum t n (stV 0 W) (stV 1 W) ((s.nx t n).wT (upf s.T W 1))).b = (pNum t n (stV 0 W) (stV 1 W) (s.nx t n)).b := by
                   unfold pNum
                   by_cases c : tkK t n (s.nx t n).x = 2 ∧ stV 0 W ≤ tkN t n (s.nx t n).x ∧ tkN t n (s.nx t n).x ≤ stV 1 W
                   · rw [if_pos c, if_pos (show tkK t n ((s.nx t n).wT (upf s.T W 1)).x = 2 ∧ stV 0 W ≤ tkN t n ((s.nx t n).wT (upf s.T W 1)).x ∧ tkN t n ((s.nx t n).wT (upf s.T W 1)).x ≤ stV 1 W from c)]; exact ⟨rfl, rfl⟩
                   · rw [if_neg c, if_neg (show ¬ (tkK t n ((s.nx t n).wT (upf s.T W 1)).x = 2 ∧ stV 0 W ≤ tkN t n ((s.nx t n).wT (upf s.T W 1)).x ∧ tkN t n ((s.nx t n).wT (upf s.T W 1)).x ≤ stV 1 W) from c)]; exact ⟨rfl, rfl⟩
                 refine ⟨pNum t n (stV 0 W) (stV 1 W) (s.nx t n), Or.inr ?_, Or.inr ⟨hf, p3 hk1 hW0.1 hT0 hf⟩, fun z => absurd z hf⟩
                 rcases m92 with m | m
                 · exact absurd (e5.1.symm.trans m.1.2.2.2.2.2.2.2.2.2.2) hf
                 · unfold MSb at *
                   rw [e5.1, e5.2] at m
                   rw [upd2_r (by decide), upd2_r (by decide)]
                   rcases m.2.2 with c | c
                   · exact ⟨m.1, m.2.1, Or.inl c⟩
                   · exact absurd c.1 hf)
            | (have hRF : RFr σ σ_53 := ((f_21.tr f_49).tr f53).r
               refine ⟨rfl, hRF, ?_⟩
               rcases q53 with c | c
               · have hW0 : 0 ≤ W ∧ z_4 = W + 3 := by omega
                 have hk1 : tkK t n s.x = 1 := by omega
                 have hT2 := hT hW0.1
                 have hT0 : s.T W = 0 := by
                   rcases hT2.2 with c | c
                   · exact c
                   · exfalso; omega
                 have hnn := c.2.nn
                 have hbad := c.2.bad (by omega)
                 have hk3 : tkK t n (s.nx t n).x = 0 := by
                   rcases hbad.2.2 with d | d
                   · exact absurd hp.2.1 d.1
                   · exact d.2.1
                 have e : pNum t n (stV 0 W) (stV 1 W) (s.nx t n) = (s.nx t n).bad t n 2 := by unfold pNum; rw [if_neg (by omega), if_neg (by omega)]
                 have hf : ¬ (pNum t n (stV 0 W) (stV 1 W) (s.nx t n)).f = 0 := by rw [e]; exact bad_f (by decide)
                 exact ⟨(s.nx t n).bad t n 2, Or.inr (hbad.on hp.2.1), Or.inr ⟨bad_f (by decide), by rw [p3 hk1 hW0.1 hT0 hf, e]⟩, fun z => absurd z (bad_f (by decide))⟩
               · rw [c.2]
                 first
                   | exact ⟨s.bad t n 2, Or.inr (hg.no (by decide) (by omega) (by omega)), Or.inr ⟨bad_f (by decide), p1 (by omega)⟩, fun z => absurd z (bad_f (by decide))⟩
                   | exact ⟨s.bad t n 4, Or.inr (hg.no (by decide) (by omega) (by omega)), Or.inr ⟨bad_f (by decide), p2 (by omega) (by omega) (by omega)⟩, fun z => absurd z (bad_f (by decide))⟩)
      · refine wp_iconst (pc := 43) dX7_readsSetting_43 (by decide) ?_
        refine wp_goto (pc := 44) 48 dX7_readsSetting_44 (by decide) ?_
        refine wp_iconst (pc := 48) dX7_readsSetting_48 (by decide) ?_
        refine wp_cvV2 (pc := 49) dX7_readsSetting_49 mv_X7_111 m_mustP (Nat.le_of_ble_eq_true rfl) rfl (Nat.le_of_ble_eq_true rfl) (fun σ_49 h_49 => ?_)
        obtain ⟨f_49, a12_49, a13_49, a14_49, a15_49, q_49⟩ := h_49
        refine wp_aload_n (pc := 52) dX7_readsSetting_52 rfl rfl ?_
        have F49 := f_21.tr f_49
        have h12 : σ_49 71 12 = σ 71 12 := by omega
        refine wp_cvV0 (pc := 53) dX7_readsSetting_53 mv_X7_115 (m_readsU (t := t) (n := n) (cnt := cnt) (q := s.nx t n) (by omega) (fun _ => hg.nx F49 h12)) (Nat.le_of_ble_eq_true rfl) rfl (Nat.le_of_ble_eq_true rfl) (fun σ_53 h_53 => ?_)
        obtain ⟨f53, q53⟩ := h_53
        refine wp_aload_n (pc := 56) dX7_readsSetting_56 rfl rfl ?_
        refine wp_getI (pc := 57) 10 dX7_readsSetting_57 fl_X7_81 rfl rfl ?_
        refine wp_if_ne (pc := 60) 96 dX7_readsSetting_60 (by decide) (fun c_60 => ?_) (fun c_60 => ?_)
        · refine wp_return (pc := 96) dX7_readsSetting_96 rfl ?_
          first
            | (have hRF : RFr σ (upd2 σ_92 73 (585 + W) z_92) := ((((f_21.tr f_49).tr f53).r.up (Or.inr (Or.inr rfl))).tr f92.r).up (Or.inl rfl)
               refine ⟨rfl, hRF, ?_⟩
               by_cases hf : (pNum t n (stV 0 W) (stV 1 W) (s.nx t n)).f = 0
               · obtain ⟨e1, e2, e3, e4⟩ := pNum_f hf
                 have e5 : pNum t n (stV 0 W) (stV 1 W) ((s.nx t n).wT (upf s.T W 1)) = ((s.nx t n).nx t n).wT (upf s.T W 1) := by unfold pNum; rw [if_pos (show tkK t n ((s.nx t n).wT (upf s.T W 1)).x = 2 ∧ stV 0 W ≤ tkN t n ((s.nx t n).wT (upf s.T W 1)).x ∧ tkN t n ((s.nx t n).wT (upf s.T W 1)).x ≤ stV 1 W from ⟨e2, e3, e4⟩)]; rfl
                 rw [e5] at m92 v92
                 have v93 : z_92 = tkN t n (s.nx t n).x := v92 hp.2.1
                 refine ⟨(((s.nx t n).nx t n).wT (upf s.T W 1)).wD (setSt s.D W (tkN t n (s.nx t n).x)), ?_, Or.inl ⟨hp.2.1, p4 hk1 hW0.1 hT0 hf⟩, fun _ => hcn⟩
                 rw [v93]
                 rcases m92 with m | m
                 · left
                   obtain ⟨⟨b1, b2, b3, b4, b5, b6, b7, b8, b9, b10, b11⟩, m1⟩ := m
                   refine ⟨⟨b1, by rw [upd2_r (by decide)]; exact b2, fun k k0 k1 => by rw [upd2_r (by decide)]; exact b3 k k0 k1, b4, b5, fun w w0 w1 => by rw [upd2_r (by decide)]; exact b6 w w0 w1, PR.ss b7 hp.2.2.1 (by omega), ?_, by rw [upd2_r (by decide)]; exact b9, ⟨fun j hj => by rw [upd2_r (by decide)]; exact b10.1 j hj, fun j hj => by rw [upd2_r (by decide)]; exact b10.2 j hj⟩, b11⟩, ?_⟩
                   · rw [show upd2 σ_92 73 (585 + W) (tkN t n (s.nx t n).x) 75 = σ_92 75 from funext fun k => upd2_r (by decide)]; exact b8
                   · unfold MT at *
                     rw [upd2_r (by decide), upd2_r (by decide), upd2_r (by decide), upd2_r (by decide), upd2_r (by decide)]; exact m1
                 · right
                   unfold MSb at *
                   rw [upd2_r (by decide), upd2_r (by decide)]; exact m
               · have e5 : (pNum t n (stV 0 W) (stV 1 W) ((s.nx t n).wT (upf s.T W 1))).f = (pNum t n (stV 0 W) (stV 1 W) (s.nx t n)).f ∧ (pNum t n (stV 0 W) (stV 1 W) ((s.nx t n).wT (upf s.T W 1))).b = (pNum t n (stV 0 W) (stV 1 W) (s.nx t n)).b := by
                   unfold pNum
                   by_cases c : tkK t n (s.nx t n).x = 2 ∧ stV 0 W ≤ tkN t n (s.nx t n).x ∧ tkN t n (s.nx t n).x ≤ stV 1 W
                   · rw [if_pos c, if_pos (show tkK t n ((s.nx t n).wT (upf s.T W 1)).x = 2 ∧ stV 0 W ≤ tkN t n ((s.nx t n).wT (upf s.T W 1)).x ∧ tkN t n ((s.nx t n).wT (upf s.T W 1)).x ≤ stV 1 W from c)]; exact ⟨rfl, rfl⟩
                   · rw [if_neg c, if_neg (show ¬ (tkK t n ((s.nx t n).wT (upf s.T W 1)).x = 2 ∧ stV 0 W ≤ tkN t n ((s.nx t n).wT (upf s.T W 1)).x ∧ tkN t n ((s.nx t n).wT (upf s.T W 1)).x ≤ stV 1 W) from c)]; exact ⟨rfl, rfl⟩
                 refine ⟨pNum t n (stV 0 W) (stV 1 W) (s.nx t n), Or.inr ?_, Or.inr ⟨hf, p3 hk1 hW0.1 hT0 hf⟩, fun z => absurd z hf⟩
                 rcases m92 with m | m
                 · exact absurd (e5.1.symm.trans m.1.2.2.2.2.2.2.2.2.2.2) hf
                 · unfold MSb at *
                   rw [e5.1, e5.2] at m
                   rw [upd2_r (by decide), upd2_r (by decide)]
                   rcases m.2.2 with c | c
                   · exact ⟨m.1, m.2.1, Or.inl c⟩
                   · exact absurd c.1 hf)
            | (have hRF : RFr σ σ_53 := ((f_21.tr f_49).tr f53).r
               refine ⟨rfl, hRF, ?_⟩
               rcases q53 with c | c
               · have hW0 : 0 ≤ W ∧ z_4 = W + 3 := by omega
                 have hk1 : tkK t n s.x = 1 := by omega
                 have hT2 := hT hW0.1
                 have hT0 : s.T W = 0 := by
                   rcases hT2.2 with c | c
                   · exact c
                   · exfalso; omega
                 have hnn := c.2.nn
                 have hbad := c.2.bad (by omega)
                 have hk3 : tkK t n (s.nx t n).x = 0 := by
                   rcases hbad.2.2 with d | d
                   · exact absurd hp.2.1 d.1
                   · exact d.2.1
                 have e : pNum t n (stV 0 W) (stV 1 W) (s.nx t n) = (s.nx t n).bad t n 2 := by unfold pNum; rw [if_neg (by omega), if_neg (by omega)]
                 have hf : ¬ (pNum t n (stV 0 W) (stV 1 W) (s.nx t n)).f = 0 := by rw [e]; exact bad_f (by decide)
                 exact ⟨(s.nx t n).bad t n 2, Or.inr (hbad.on hp.2.1), Or.inr ⟨bad_f (by decide), by rw [p3 hk1 hW0.1 hT0 hf, e]⟩, fun z => absurd z (bad_f (by decide))⟩
               · rw [c.2]
                 first
                   | exact ⟨s.bad t n 2, Or.inr (hg.no (by decide) (by omega) (by omega)), Or.inr ⟨bad_f (by decide), p1 (by omega)⟩, fun z => absurd z (bad_f (by decide))⟩
                   | exact ⟨s.bad t n 4, Or.inr (hg.no (by decide) (by omega) (by omega)), Or.inr ⟨bad_f (by decide), p2 (by omega) (by omega) (by omega)⟩, fun z => absurd z (bad_f (by decide))⟩)
        · have hok : σ_49 71 10 = 0 ∧ MS t n σ_53 (s.nx t n) cnt := by
            rcases q53 with c | c
            · exact c
            · rw [c.2] at c_60; omega
          have hg3 := hok.2.good (by omega)
          have hW0 : 0 ≤ W ∧ z_4 = W + 3 := by omega
          have hk1 : tkK t n s.x = 1 := by omega
          have hT2 := hT hW0.1
          have hT0 : s.T W = 0 := by
            rcases hT2.2 with c | c
            · exact c
            · exfalso; omega
          refine wp_iload_n (pc := 63) dX7_readsSetting_63 rfl rfl ?_
          refine wp_iconst (pc := 64) dX7_readsSetting_64 (by decide) ?_
          refine wp_isub (pc := 65) dX7_readsSetting_65 (by omega) ?_
          rw [show z_4 - 3 = W by omega]
          refine wp_istore_n (pc := 66) dX7_readsSetting_66 rfl (Nat.le_of_ble_eq_true rfl) rfl ?_
          refine wp_aload_n (pc := 67) dX7_readsSetting_67 rfl rfl ?_
          refine wp_getR (pc := 68) (q := 81) dX7_readsSetting_68 fl_X7_38 rfl ?_
          refine wp_iload_n (pc := 71) dX7_readsSetting_71 rfl rfl ?_
          refine wp_iconst (pc := 72) dX7_readsSetting_72 (by decide) ?_
          refine wp_zast (pc := 73) 6 dX7_readsSetting_73 rfl (by omega) (by omega) ?_
          refine wp_aload_n (pc := 74) dX7_readsSetting_74 rfl rfl ?_
          refine wp_getR (pc := 75) (q := 73) dX7_readsSetting_75 fl_X7_13 rfl ?_
          refine wp_sipush (pc := 78) dX7_readsSetting_78 (by decide) (by decide) ?_
          refine wp_iload_n (pc := 81) dX7_readsSetting_81 rfl rfl ?_
          refine wp_iadd (pc := 82) dX7_readsSetting_82 (by omega) ?_
          refine wp_aload_n (pc := 83) dX7_readsSetting_83 rfl rfl ?_
          refine wp_iload_n (pc := 84) dX7_readsSetting_84 rfl rfl ?_
          refine wp_csI1 (pc := 85) dX7_readsSetting_85 ms_X7_122 (m_leastOf (by omega)) (Nat.le_of_ble_eq_true rfl) (Nat.le_of_ble_eq_true rfl) (fun z_85 σ_85 h_85 => ?_)
          obtain ⟨rfl, e_85⟩ := h_85; have e2_85 := e_85.symm; subst e2_85
          refine wp_iload_n (pc := 88) dX7_readsSetting_88 rfl rfl ?_
          refine wp_csI1 (pc := 89) dX7_readsSetting_89 ms_X7_125 (m_mostOf (by omega)) (Nat.le_of_ble_eq_true rfl) (Nat.le_of_ble_eq_true rfl) (fun z_89 σ_89 h_89 => ?_)
          obtain ⟨rfl, e_89⟩ := h_89; have e2_89 := e_89.symm; subst e2_89
          have hg4 : MG t n (upd2 σ_53 81 W 1) ((s.nx t n).wT (upf s.T W 1)) cnt := by
            obtain ⟨⟨b1, b2, b3, b4, b5, b6, b7, b8, b9, b10, b11⟩, m1⟩ := hg3
            refine ⟨⟨b1, by rw [upd2_r (by decide)]; exact b2, fun k k0 k1 => by rw [upd2_r (by decide)]; exact b3 k k0 k1, b4, b5, fun w w0 w1 => ?_, ?_, ?_, by rw [upd2_r (by decide)]; exact b9, ⟨fun j hj => by rw [upd2_r (by decide)]; exact b10.1 j hj, fun j hj => by rw [upd2_r (by decide)]; exact b10.2 j hj⟩, b11⟩, ?_⟩
            · show _ = (if w = W then 1 else s.T w) ∧ ((if w = W then 1 else s.T w) = 0 ∨ (if w = W then 1 else s.T w) = 1)
              by_cases e : w = W
              · rw [e, upd2_eq, if_pos rfl]; exact ⟨rfl, Or.inr rfl⟩
              · rw [upd2_k e, if_neg e]; exact b6 w w0 w1
            · rw [show upd2 σ_53 81 W 1 73 = σ_53 73 from funext fun k => upd2_r (by decide)]; exact b7
            · rw [show upd2 σ_53 81 W 1 75 = σ_53 75 from funext fun k => upd2_r (by decide)]; exact b8
            · unfold MT at *
              rw [upd2_r (by decide), upd2_r (by decide), upd2_r (by decide), upd2_r (by decide), upd2_r (by decide)]; exact m1
          refine wp_cvI2 (pc := 92) dX7_readsSetting_92 mv_X7_128 (m_number hg4) (Nat.le_of_ble_eq_true rfl) rfl (Nat.le_of_ble_eq_true rfl) (fun z_92 σ_92 h_92 => ?_)
          obtain ⟨f92, m92, v92⟩ := h_92
          refine wp_iast (pc := 95) 591 dX7_readsSetting_95 rfl (by omega) ?_
          refine wp_return (pc := 96) dX7_readsSetting_96 rfl ?_
          first
            | (have hRF : RFr σ (upd2 σ_92 73 (585 + W) z_92) := ((((f_21.tr f_49).tr f53).r.up (Or.inr (Or.inr rfl))).tr f92.r).up (Or.inl rfl)
               refine ⟨rfl, hRF, ?_⟩
               by_cases hf : (pNum t n (stV 0 W) (stV 1 W) (s.nx t n)).f = 0
               · obtain ⟨e1, e2, e3, e4⟩ := pNum_f hf
                 have e5 : pNum t n (stV 0 W) (stV 1 W) ((s.nx t n).wT (upf s.T W 1)) = ((s.nx t n).nx t n).wT (upf s.T W 1) := by unfold pNum; rw [if_pos (show tkK t n ((s.nx t n).wT (upf s.T W 1)).x = 2 ∧ stV 0 W ≤ tkN t n ((s.nx t n).wT (upf s.T W 1)).x ∧ tkN t n ((s.nx t n).wT (upf s.T W 1)).x ≤ stV 1 W from ⟨e2, e3, e4⟩)]; rfl
                 rw [e5] at m92 v92
                 have v93 : z_92 = tkN t n (s.nx t n).x := v92 hp.2.1
                 refine ⟨(((s.nx t n).nx t n).wT (upf s.T W 1)).wD (setSt s.D W (tkN t n (s.nx t n).x)), ?_, Or.inl ⟨hp.2.1, p4 hk1 hW0.1 hT0 hf⟩, fun _ => hcn⟩
                 rw [v93]
                 rcases m92 with m | m
                 · left
                   obtain ⟨⟨b1, b2, b3, b4, b5, b6, b7, b8, b9, b10, b11⟩, m1⟩ := m
                   refine ⟨⟨b1, by rw [upd2_r (by decide)]; exact b2, fun k k0 k1 => by rw [upd2_r (by decide)]; exact b3 k k0 k1, b4, b5, fun w w0 w1 => by rw [upd2_r (by decide)]; exact b6 w w0 w1, PR.ss b7 hp.2.2.1 (by omega), ?_, by rw [upd2_r (by decide)]; exact b9, ⟨fun j hj => by rw [upd2_r (by decide)]; exact b10.1 j hj, fun j hj => by rw [upd2_r (by decide)]; exact b10.2 j hj⟩, b11⟩, ?_⟩
                   · rw [show upd2 σ_92 73 (585 + W) (tkN t n (s.nx t n).x) 75 = σ_92 75 from funext fun k => upd2_r (by decide)]; exact b8
                   · unfold MT at *
                     rw [upd2_r (by decide), upd2_r (by decide), upd2_r (by decide), upd2_r (by decide), upd2_r (by decide)]; exact m1
                 · right
                   unfold MSb at *
                   rw [upd2_r (by decide), upd2_r (by decide)]; exact m
               · have e5 : (pNum t n (stV 0 W) (stV 1 W) ((s.nx t n).wT (upf s.T W 1))).f = (pNum t n (stV 0 W) (stV 1 W) (s.nx t n)).f ∧ (pNum t n (stV 0 W) (stV 1 W) ((s.nx t n).wT (upf s.T W 1))).b = (pNum t n (stV 0 W) (stV 1 W) (s.nx t n)).b := by
                   unfold pNum
                   by_cases c : tkK t n (s.nx t n).x = 2 ∧ stV 0 W ≤ tkN t n (s.nx t n).x ∧ tkN t n (s.nx t n).x ≤ stV 1 W
                   · rw [if_pos c, if_pos (show tkK t n ((s.nx t n).wT (upf s.T W 1)).x = 2 ∧ stV 0 W ≤ tkN t n ((s.nx t n).wT (upf s.T W 1)).x ∧ tkN t n ((s.nx t n).wT (upf s.T W 1)).x ≤ stV 1 W from c)]; exact ⟨rfl, rfl⟩
                   · rw [if_neg c, if_neg (show ¬ (tkK t n ((s.nx t n).wT (upf s.T W 1)).x = 2 ∧ stV 0 W ≤ tkN t n ((s.nx t n).wT (upf s.T W 1)).x ∧ tkN t n ((s.nx t n).wT (upf s.T W 1)).x ≤ stV 1 W) from c)]; exact ⟨rfl, rfl⟩
                 refine ⟨pNum t n (stV 0 W) (stV 1 W) (s.nx t n), Or.inr ?_, Or.inr ⟨hf, p3 hk1 hW0.1 hT0 hf⟩, fun z => absurd z hf⟩
                 rcases m92 with m | m
                 · exact absurd (e5.1.symm.trans m.1.2.2.2.2.2.2.2.2.2.2) hf
                 · unfold MSb at *
                   rw [e5.1, e5.2] at m
                   rw [upd2_r (by decide), upd2_r (by decide)]
                   rcases m.2.2 with c | c
                   · exact ⟨m.1, m.2.1, Or.inl c⟩
                   · exact absurd c.1 hf)
            | (have hRF : RFr σ σ_53 := ((f_21.tr f_49).tr f53).r
               refine ⟨rfl, hRF, ?_⟩
               rcases q53 with c | c
               · have hW0 : 0 ≤ W ∧ z_4 = W + 3 := by omega
                 have hk1 : tkK t n s.x = 1 := by omega
                 have hT2 := hT hW0.1
                 have hT0 : s.T W = 0 := by
                   rcases hT2.2 with c | c
                   · exact c
                   · exfalso; omega
                 have hnn := c.2.nn
                 have hbad := c.2.bad (by omega)
                 have hk3 : tkK t n (s.nx t n).x = 0 := by
                   rcases hbad.2.2 with d | d
                   · exact absurd hp.2.1 d.1
                   · exact d.2.1
                 have e : pNum t n (stV 0 W) (stV 1 W) (s.nx t n) = (s.nx t n).bad t n 2 := by unfold pNum; rw [if_neg (by omega), if_neg (by omega)]
                 have hf : ¬ (pNum t n (stV 0 W) (stV 1 W) (s.nx t n)).f = 0 := by rw [e]; exact bad_f (by decide)
                 exact ⟨(s.nx t n).bad t n 2, Or.inr (hbad.on hp.2.1), Or.inr ⟨bad_f (by decide), by rw [p3 hk1 hW0.1 hT0 hf, e]⟩, fun z => absurd z (bad_f (by decide))⟩
               · rw [c.2]
                 first
                   | exact ⟨s.bad t n 2, Or.inr (hg.no (by decide) (by omega) (by omega)), Or.inr ⟨bad_f (by decide), p1 (by omega)⟩, fun z => absurd z (bad_f (by decide))⟩
                   | exact ⟨s.bad t n 4, Or.inr (hg.no (by decide) (by omega) (by omega)), Or.inr ⟨bad_f (by decide), p2 (by omega) (by omega) (by omega)⟩, fun z => absurd z (bad_f (by decide))⟩)
