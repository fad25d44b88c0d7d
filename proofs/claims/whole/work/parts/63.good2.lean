def PG (n : Int) (s : PS) : Prop := (0 ≤ s.x ∧ s.x ≤ n) ∧ s.f = 0 ∧ OKD s.D s.S ∧ OKS s.S
set_option maxHeartbeats 4000000 in
set_option maxRecDepth 100000 in
theorem OKD.mS {D S S' : Sto} (h : OKD D S) (hs : S 0 0 ≤ S' 0 0) : OKD D S' := by
  obtain ⟨a, b, c, d, e, f⟩ := h
  refine ⟨a, b, c, fun p p0 p1 => ?_, e, f⟩
  have := d p p0 p1
  omega
set_option maxHeartbeats 4000000 in
set_option maxRecDepth 100000 in
theorem pSet_at {t : Int → Int} {n : Int} {s : PS} (h : (pSet t n s).f = 0) : ∃ w, 0 ≤ w ∧ w < 6 ∧ tkK t n s.x = 1 ∧ w = nm6 (s.nm t n) ∧ s.T w = 0 ∧ tkK t n (s.nx t n).x = 2 ∧ stV 0 w ≤ tkN t n (s.nx t n).x ∧ tkN t n (s.nx t n).x ≤ stV 1 w ∧ tkK t n ((s.nx t n).nx t n).x = 4 ∧ pSet t n s = ((((s.nx t n).nx t n).wT (upf s.T w 1)).wD (setSt s.D w (tkN t n (s.nx t n).x))).nx t n := by
  have hb := nm6_bd (s.nm t n)
  generalize hw : nm6 (s.nm t n) = w at hb
  refine ⟨w, ?_⟩
  unfold pSet at h ⊢
  rw [hw] at h ⊢
  by_cases c1 : ¬ tkK t n s.x = 1 ∨ w < 0
  · rw [if_pos c1] at h; exact absurd h (bad_f (by decide))
  · rw [if_neg c1] at h ⊢
    by_cases c2 : ¬ s.T w = 0
    · rw [if_pos c2] at h; exact absurd h (bad_f (by decide))
    · rw [if_neg c2] at h ⊢
      by_cases c3 : ¬ (pNum t n (stV 0 w) (stV 1 w) (s.nx t n)).f = 0
      · rw [if_pos c3] at h; exact absurd h c3
      · rw [if_neg c3] at h ⊢
        obtain ⟨-, b1, b2, b3⟩ := pNum_f (Classical.byContradiction c3)
        by_cases c4 : tkK t n ((s.nx t n).nx t n).x = 4
        · refine ⟨by omega, by omega, by omega, rfl, Classical.byContradiction c2, b1, b2, b3, c4, ?_⟩
          exact if_pos c4
        · exfalso
          have e : ((fun q : PS => if tkK t n q.x = 4 then q.nx t n else q.bad t n 2) ((((s.nx t n).nx t n).wT (upf s.T w 1)).wD (setSt s.D w (tkN t n (s.nx t n).x)))) = ((((s.nx t n).nx t n).wT (upf s.T w 1)).wD (setSt s.D w (tkN t n (s.nx t n).x))).bad t n 2 := if_neg c4
          rw [e] at h
          exact bad_f (by decide) h
set_option maxHeartbeats 4000000 in
set_option maxRecDepth 100000 in
theorem stT2 {w v : Int} (h : 0 ≤ w) (h2 : w < 6) (a : stV 0 w ≤ v) (b : v ≤ stV 1 w) : isSet (w + 8) v := by
  have hT := stT (w := w + 8) (by omega) (by omega)
  rw [show w + 8 - 8 = w by omega] at hT
  unfold isSet
  omega
set_option maxHeartbeats 4000000 in
set_option maxRecDepth 100000 in
theorem pSet_ok {t : Int → Int} {n : Int} {s : PS} (hg : PG n s) (h : (pSet t n s).f = 0) : PG n (pSet t n s) ∧ s.x ≤ (pSet t n s).x := by
  obtain ⟨w, w0, w1, -, -, -, -, b2, b3, -, e⟩ := pSet_at h
  obtain ⟨hx, hf, hD, hS⟩ := hg
  rw [e]
  have n1 := nx_bd (t := t) hx
  have n2 := nx_bd (t := t) (s := s.nx t n) ⟨Int.le_trans hx.1 n1.1, n1.2⟩
  have n3 := nx_bd (t := t) (s := (((s.nx t n).nx t n).wT (upf s.T w 1)).wD (setSt s.D w (tkN t n (s.nx t n).x))) ⟨Int.le_trans hx.1 (Int.le_trans n1.1 n2.1), n2.2⟩
  have ho := setSt_ok (D := s.D) (S := s.S) hD (stT2 w0 w1 b2 b3)
  rw [show w + 8 - 8 = w by omega] at ho
  exact ⟨⟨⟨Int.le_trans hx.1 (Int.le_trans n1.1 (Int.le_trans n2.1 n3.1)), n3.2⟩, hf, ho.1, hS⟩, Int.le_trans n1.1 (Int.le_trans n2.1 n3.1)⟩
set_option maxHeartbeats 4000000 in
set_option maxRecDepth 100000 in
theorem adS_at {S : Sto} {g m : Int} : adS S g m 0 0 = S 0 0 + 1 ∧ (∀ k, adS S g m 1 k = if k = S 0 0 then g else S 1 k) ∧ (∀ k, adS S g m 2 k = if k = S 0 0 then m else S 2 k) ∧ (∀ k, adS S g m 3 k = if k = S 0 0 then 0 else S 3 k) ∧ adS S g m 4 = S 4 ∧ adS S g m 5 = S 5 := by
  refine ⟨by simp [adS], fun k => by simp [adS], fun k => by simp [adS], fun k => by simp [adS], by funext i; simp [adS], by funext i; simp [adS]⟩
set_option maxHeartbeats 4000000 in
set_option maxRecDepth 100000 in
theorem adS_SW {S : Sto} {g m : Int} (h : OKS S) (hc : S 0 0 < 6) (hg : 1 ≤ g ∧ g ≤ 26) (hm : 1 ≤ m ∧ m ≤ 60) : SW (adS S g m) := by
  obtain ⟨e0, e1, e2, e3, e4, e5⟩ := adS_at (S := S) (g := g) (m := m)
  have h0 := h.1
  refine ⟨by omega, fun q q0 q1 => ?_⟩
  rw [e1, e2, e3, e4, e5, e0]
  by_cases hq : q = S 0 0
  · rw [if_pos hq, if_pos hq, if_pos hq]
    exact ⟨hg, hm, ⟨by omega, by omega, fun z => by omega⟩, fun i i0 i1 => by omega⟩
  · rw [if_neg hq, if_neg hq, if_neg hq]
    obtain ⟨a1, a2, a3, a4⟩ := h.2 q q0 (by omega)
    exact ⟨a1, a2, ⟨by omega, by omega, fun z => by omega⟩, a4⟩
set_option maxHeartbeats 4000000 in
set_option maxRecDepth 100000 in
theorem pShp_at {t : Int → Int} {n : Int} {s : PS} (h : (pShp t n s).f = 0) : tkK t n s.x = 1 ∧ tkE t n s.x - tkS t n s.x = 1 ∧ fnd (s.S 1) (s.S 0 0) (t (tkS t n s.x) - 96) < 0 ∧ tkK t n (s.nx t n).x = 2 ∧ 1 ≤ tkN t n (s.nx t n).x ∧ tkN t n (s.nx t n).x ≤ 60 ∧ pShp t n s = pStps t n (tkN t n (s.nx t n).x) 9 0 0 (((s.nx t n).nx t n).wS (adS s.S (t (tkS t n s.x) - 96) (tkN t n (s.nx t n).x))) := by
  unfold pShp at h ⊢
  by_cases c1 : ¬ (tkK t n s.x = 1 ∧ tkE t n s.x - tkS t n s.x = 1)
  · rw [if_pos c1] at h; exact absurd h (bad_f (by decide))
  · rw [if_neg c1] at h ⊢
    by_cases c2 : 0 ≤ fnd (s.S 1) (s.S 0 0) (t (tkS t n s.x) - 96)
    · rw [if_pos c2] at h; exact absurd h (bad_f (by decide))
    · rw [if_neg c2] at h ⊢
      by_cases c3 : ¬ (pNum t n 1 60 (s.nx t n)).f = 0
      · rw [if_pos c3] at h; exact absurd h c3
      · rw [if_neg c3]
        obtain ⟨-, b1, b2, b3⟩ := pNum_f (Classical.byContradiction c3)
        exact ⟨by omega, by omega, by omega, b1, b2, b3, rfl⟩
set_option maxHeartbeats 4000000 in
set_option maxRecDepth 100000 in
theorem pShp_ok {t : Int → Int} {n : Int} {s : PS} (hg : PG n s) (hc : s.S 0 0 < 6) (h : (pShp t n s).f = 0) : PG n (pShp t n s) ∧ s.x ≤ (pShp t n s).x := by
  obtain ⟨k1, k2, -, -, b1, b2, e⟩ := pShp_at h
  obtain ⟨hx, hf, hD, hS⟩ := hg
  have hL := (tkL (t := t) hx.1 hx.2 k1).2 (tkS t n s.x) (Int.le_refl _) (by omega)
  have hS0 := hS.1
  have n1 := nx_bd (t := t) hx
  have n2 := nx_bd (t := t) (s := s.nx t n) ⟨Int.le_trans hx.1 n1.1, n1.2⟩
  obtain ⟨e0, -, e2, e3, -⟩ := adS_at (S := s.S) (g := t (tkS t n s.x) - 96) (m := tkN t n (s.nx t n).x)
  have hx3 : 0 ≤ ((s.nx t n).nx t n).x ∧ ((s.nx t n).nx t n).x ≤ n := ⟨Int.le_trans hx.1 (Int.le_trans n1.1 n2.1), n2.2⟩
  rw [e] at h ⊢
  generalize hh : tkN t n (s.nx t n).x = hh0 at *
  obtain ⟨r1, r2, r3, r4⟩ := pStps_ok (t := t) (n := n) (h := hh0) 9 0 0 (((s.nx t n).nx t n).wS (adS s.S (t (tkS t n s.x) - 96) hh0)) hx3 hf (adS_SW hS hc (by omega) ⟨b1, b2⟩) (by show 1 ≤ adS s.S (t (tkS t n s.x) - 96) hh0 0 0; rw [e0]; omega) (by
    show adS s.S (t (tkS t n s.x) - 96) hh0 3 (adS s.S (t (tkS t n s.x) - 96) hh0 0 0 - 1) = 0
    rw [e0, e3, if_pos (by omega)]) (by
    show adS s.S (t (tkS t n s.x) - 96) hh0 2 (adS s.S (t (tkS t n s.x) - 96) hh0 0 0 - 1) = hh0
    rw [e0, e2, if_pos (by omega)]) (by decide) (by decide) h
  refine ⟨⟨⟨Int.le_trans hx3.1 r1.1, r1.2⟩, h, ?_, r2⟩, Int.le_trans n1.1 (Int.le_trans n2.1 r1.1)⟩
  rw [r3]
  refine hD.mS (S := s.S) ?_
  rw [r4]
  show s.S 0 0 ≤ adS s.S (t (tkS t n s.x) - 96) hh0 0 0
  rw [e0]; omega
set_option maxHeartbeats 4000000 in
set_option maxRecDepth 100000 in
theorem pBdy_ok {t : Int → Int} {n g m : Int} {s : PS} (hg : PG n s) (hc : s.D 0 0 < 8) (hgm : (g = -4 ∧ m = 0) ∨ (0 ≤ g ∧ g < s.S 0 0 ∧ 2 ≤ m ∧ m ≤ 5)) (h : (pBdy t n g m s).f = 0) : PG n (pBdy t n g m s) ∧ s.x ≤ (pBdy t n g m s).x := by
  obtain ⟨hx, hf, hD, hS⟩ := hg
  have n1 := nx_bd (t := t) hx
  unfold pBdy at h ⊢
  by_cases c1 : ¬ tkK t n s.x = 3
  · rw [if_pos c1] at h; exact absurd h (bad_f (by decide))
  · rw [if_neg c1] at h ⊢
    obtain ⟨e0, e1, -, -, ek, -⟩ := adP_at (D := s.D) (g := g) (m := m)
    have hD0 := hD.1
    obtain ⟨r1, r2, r3⟩ := pWds_ok (t := t) (n := n) 81 0 ((s.nx t n).wD (adP s.D g m)) ⟨Int.le_trans hx.1 n1.1, n1.2⟩ hf (adP_DW hD hc hgm) (by show 1 ≤ adP s.D g m 0 0; omega) (fun p p0 p1 => by
      have p1 : p < adP s.D g m 0 0 - 1 := p1
      show 1 ≤ adP s.D g m 1 p
      rw [(ek p (by omega)).1]
      exact hD.2.1 p p0 (by omega)) (by decide) (fun q => absurd q (by decide)) h
    refine ⟨⟨⟨Int.le_trans hx.1 (Int.le_trans n1.1 r1.1), r1.2⟩, h, ?_, ?_⟩, Int.le_trans n1.1 r1.1⟩
    · rw [r3]; exact r2
    · rw [r3]; exact hS
set_option maxHeartbeats 4000000 in
set_option maxRecDepth 100000 in
theorem pPar_ok {t : Int → Int} {n : Int} {s : PS} (hg : PG n s) (hc : s.D 0 0 < 8) (h : (pPar t n s).f = 0) : PG n (pPar t n s) ∧ s.x ≤ (pPar t n s).x := by
  unfold pPar at h ⊢
  by_cases c1 : ¬ tkK t n s.x = 1
  · rw [if_pos c1] at h ⊢
    exact pBdy_ok hg hc (Or.inl ⟨rfl, rfl⟩) h
  · rw [if_neg c1] at h ⊢
    by_cases c2 : ¬ tkE t n s.x - tkS t n s.x = 1 ∨ fnd (s.S 1) (s.S 0 0) (t (tkS t n s.x) - 96) < 0
    · rw [if_pos c2] at h; exact absurd h (bad_f (by decide))
    · rw [if_neg c2] at h ⊢
      by_cases c3 : ¬ (pNum t n 2 5 (s.nx t n)).f = 0
      · rw [if_pos c3] at h; exact absurd h c3
      · rw [if_neg c3] at h ⊢
        obtain ⟨-, b1, b2, b3⟩ := pNum_f (Classical.byContradiction c3)
        obtain ⟨hx, hf, hD, hS⟩ := hg
        have n1 := nx_bd (t := t) hx
        have n2 := nx_bd (t := t) (s := s.nx t n) ⟨Int.le_trans hx.1 n1.1, n1.2⟩
        have hfb := fnd_bd (s.S 1) (s.S 0 0) (t (tkS t n s.x) - 96)
        obtain ⟨r1, r2⟩ := pBdy_ok (t := t) (n := n) (s := (s.nx t n).nx t n) ⟨⟨Int.le_trans hx.1 (Int.le_trans n1.1 n2.1), n2.2⟩, hf, hD, hS⟩ hc (Or.inr ⟨by omega, by show _ < s.S 0 0; omega, b2, b3⟩) h
        exact ⟨r1, Int.le_trans n1.1 (Int.le_trans n2.1 r2)⟩
set_option maxHeartbeats 4000000 in
set_option maxRecDepth 100000 in
theorem pLin_ok {t : Int → Int} {n : Int} {s : PS} (hg : PG n s) (h : (pLin t n s).f = 0) : PG n (pLin t n s) ∧ s.x < (pLin t n s).x := by
  unfold pLin at h ⊢
  by_cases c1 : ¬ tkK t n s.x = 1 ∨ nm3 (s.nm t n) < 0
  · rw [if_pos c1] at h; exact absurd h (bad_f (by decide))
  · rw [if_neg c1] at h ⊢
    obtain ⟨hx, hf, hD, hS⟩ := hg
    have hL := (tkL (t := t) hx.1 hx.2 (show tkK t n s.x = 1 by omega)).1
    have n1 := nx_bd (t := t) hx
    have n2 : s.x < (s.nx t n).x := by
      have := tk_bd (t := t) hx.1 hx.2
      show s.x < tkE t n s.x
      omega
    have hg2 : PG n (s.nx t n) := ⟨⟨Int.le_trans hx.1 n1.1, n1.2⟩, hf, hD, hS⟩
    by_cases c2 : nm3 (s.nm t n) = 0
    · rw [if_pos c2] at h ⊢
      have r := pSet_ok hg2 h
      exact ⟨r.1, Int.lt_of_lt_of_le n2 r.2⟩
    · rw [if_neg c2] at h ⊢
      by_cases c3 : nm3 (s.nm t n) = 1
      · rw [if_pos c3] at h ⊢
        by_cases c4 : 6 ≤ s.S 0 0
        · rw [if_pos c4] at h; exact absurd h (bad_f (by decide))
        · rw [if_neg c4] at h ⊢
          have r := pShp_ok hg2 (by show s.S 0 0 < 6; omega) h
          exact ⟨r.1, Int.lt_of_lt_of_le n2 r.2⟩
      · rw [if_neg c3] at h ⊢
        by_cases c4 : 8 ≤ s.D 0 0
        · rw [if_pos c4] at h; exact absurd h (bad_f (by decide))
        · rw [if_neg c4] at h ⊢
          have r := pPar_ok hg2 (by show s.D 0 0 < 8; omega) h
          exact ⟨r.1, Int.lt_of_lt_of_le n2 r.2⟩
set_option maxHeartbeats 4000000 in
set_option maxRecDepth 100000 in
theorem tkK_end {t : Int → Int} {n x : Int} (h : n ≤ x) : tkK t n x = 5 := by
  have e : tkS t n x = x := rn_stop (Or.inl h)
  unfold tkK
  rw [e, if_pos h]
-- where a fault stands
set_option maxHeartbeats 4000000 in
set_option maxRecDepth 100000 in
theorem bad_b {t : Int → Int} {n : Int} {s : PS} {w : Int} (h : 0 ≤ s.x ∧ s.x ≤ n) : 0 ≤ (s.bad t n w).b ∧ (s.bad t n w).b ≤ n := by
  have := tk_bd (t := t) h.1 h.2
  show 0 ≤ tkS t n s.x ∧ tkS t n s.x ≤ n
  omega
