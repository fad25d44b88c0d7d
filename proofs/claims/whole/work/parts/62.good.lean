set_option maxHeartbeats 4000000 in
set_option maxRecDepth 100000 in
theorem bad_f {t : Int → Int} {n : Int} {s : PS} {w : Int} (hw : ¬ w = 0) : ¬ (s.bad t n w).f = 0 := by
  show ¬ (if tkK t n s.x = 0 then 1 else w) = 0
  split
  · decide
  · exact hw
set_option maxHeartbeats 4000000 in
set_option maxRecDepth 100000 in
theorem nx_bd {t : Int → Int} {n : Int} {s : PS} (h : 0 ≤ s.x ∧ s.x ≤ n) : s.x ≤ (s.nx t n).x ∧ (s.nx t n).x ≤ n := by
  have := tk_bd (t := t) h.1 h.2
  show s.x ≤ tkE t n s.x ∧ tkE t n s.x ≤ n
  omega
set_option maxHeartbeats 4000000 in
set_option maxRecDepth 100000 in
theorem pNum_f {t : Int → Int} {n lo hi : Int} {s : PS} (h : (pNum t n lo hi s).f = 0) : pNum t n lo hi s = s.nx t n ∧ tkK t n s.x = 2 ∧ lo ≤ tkN t n s.x ∧ tkN t n s.x ≤ hi := by
  by_cases hc : tkK t n s.x = 2 ∧ lo ≤ tkN t n s.x ∧ tkN t n s.x ≤ hi
  · exact ⟨by unfold pNum; rw [if_pos hc], hc⟩
  · exfalso
    unfold pNum at h
    rw [if_neg hc] at h
    exact bad_f (by split <;> decide) h
set_option maxHeartbeats 4000000 in
set_option maxRecDepth 100000 in
theorem DW.ok {D S : Sto} (h : DW D S) (h1 : ∀ p, 0 ≤ p → p < D 0 0 → 1 ≤ D 1 p) : OKD D S := by
  obtain ⟨a, b, c, d, e, f⟩ := h
  exact ⟨a, h1, c, d, e, f⟩
set_option maxHeartbeats 4000000 in
set_option maxRecDepth 100000 in
theorem adW_1 {D : Sto} {c k : Int} : adW D c 0 0 = D 0 0 ∧ adW D c 1 k = if k = D 0 0 - 1 then D 1 k + 1 else D 1 k := by
  constructor
  · simp [adW, updD]
  · by_cases h : k = D 0 0 - 1
    · subst h; simp [adW, updD]
    · simp [adW, updD, h]
set_option maxHeartbeats 4000000 in
set_option maxRecDepth 100000 in
theorem pWds_ok {t : Int → Int} {n : Int} : ∀ (k : Nat) (i : Int) (s : PS), (0 ≤ s.x ∧ s.x ≤ n) → s.f = 0 → DW s.D s.S → 1 ≤ s.D 0 0 → (∀ p, 0 ≤ p → p < s.D 0 0 - 1 → 1 ≤ s.D 1 p) → 0 ≤ i → (0 < i → 1 ≤ s.D 1 (s.D 0 0 - 1)) → (pWds t n k i s).f = 0 → (s.x ≤ (pWds t n k i s).x ∧ (pWds t n k i s).x ≤ n) ∧ OKD (pWds t n k i s).D s.S ∧ (pWds t n k i s).S = s.S := by
  intro k
  induction k with
  | zero => intro i s _ _ _ _ _ _ _ h; exact absurd h (bad_f (by decide))
  | succ k ih =>
    intro i s hx hf hW h1 hp i0 hi h
    have hnx := nx_bd (t := t) hx
    rw [pWds_s] at h ⊢
    by_cases c1 : tkK t n s.x = 4 ∧ 0 < i
    · rw [if_pos c1]
      refine ⟨hnx, hW.ok (fun p p0 p1 => ?_), rfl⟩
      by_cases hl : p = s.D 0 0 - 1
      · rw [hl]; exact hi c1.2
      · exact hp p p0 (by omega)
    · rw [if_neg c1] at h ⊢
      by_cases c2 : ¬ tkK t n s.x = 1
      · rw [if_pos c2] at h; exact absurd h (bad_f (by decide))
      · rw [if_neg c2] at h ⊢
        by_cases c3 : 6 < tkE t n s.x - tkS t n s.x
        · rw [if_pos c3] at h; exact absurd h (bad_f (by decide))
        · rw [if_neg c3] at h ⊢
          by_cases c4 : 80 ≤ tot s.D
          · rw [if_pos c4] at h; exact absurd h (bad_f (by decide))
          · rw [if_neg c4] at h ⊢
            have hL := tkL (t := t) hx.1 hx.2 (Classical.byContradiction c2)
            have hok := (wcd_ok (t := t) (s := tkS t n s.x) (m := tkE t n s.x - tkS t n s.x) (by omega) (by omega) (fun k k0 k1 => hL.2 _ (by omega) (by omega))).1
            generalize hc : wcd t (tkS t n s.x) (tkE t n s.x - tkS t n s.x) = c at *
            have hl := hW.last h1
            have e0 := (adW_1 (D := s.D) (c := c) (k := 0)).1
            obtain ⟨r1, r2, r3⟩ := ih (i + 1) ((s.nx t n).wD (adW s.D c)) ⟨Int.le_trans hx.1 hnx.1, hnx.2⟩ hf (adW_DW hW h1 (by omega) hok) (by show 1 ≤ adW s.D c 0 0; omega) (fun p p0 p1 => by
              have p1 : p < adW s.D c 0 0 - 1 := p1
              show 1 ≤ adW s.D c 1 p
              rw [adW_1.2]
              have := hp p p0 (by omega)
              split <;> omega) (by omega) (fun _ => by
              show 1 ≤ adW s.D c 1 (adW s.D c 0 0 - 1)
              rw [e0, adW_1.2, if_pos rfl]
              omega) h
            exact ⟨⟨Int.le_trans hnx.1 r1.1, r1.2⟩, r2, r3⟩
-- shapes that are told on: the last one may still have no step
def SW (S : Sto) : Prop := (0 ≤ S 0 0 ∧ S 0 0 ≤ 6) ∧ ∀ g, 0 ≤ g → g < S 0 0 → (1 ≤ S 1 g ∧ S 1 g ≤ 26) ∧ (1 ≤ S 2 g ∧ S 2 g ≤ 60) ∧ (0 ≤ S 3 g ∧ S 3 g ≤ 8 ∧ (g < S 0 0 - 1 → 1 ≤ S 3 g)) ∧ ∀ i, 0 ≤ i → i < S 3 g → 0 ≤ S 4 (g * 8 + i) ∧ S 4 (g * 8 + i) < S 2 g ∧ 0 ≤ S 5 (g * 8 + i) ∧ S 5 (g * 8 + i) ≤ 60
set_option maxHeartbeats 4000000 in
set_option maxRecDepth 100000 in
theorem stS_at {S : Sto} {a b : Int} : stS S a b 0 0 = S 0 0 ∧ stS S a b 1 = S 1 ∧ stS S a b 2 = S 2 ∧ (∀ g, stS S a b 3 g = if g = S 0 0 - 1 then S 3 g + 1 else S 3 g) ∧ (∀ x, stS S a b 4 x = if x = (S 0 0 - 1) * 8 + S 3 (S 0 0 - 1) then a else S 4 x) ∧ (∀ x, stS S a b 5 x = if x = (S 0 0 - 1) * 8 + S 3 (S 0 0 - 1) then b else S 5 x) := by
  refine ⟨by simp [stS, updD], by funext i; simp [stS, updD], by funext i; simp [stS, updD], fun g => ?_, fun x => by simp [stS, updD], fun x => by simp [stS, updD]⟩
  by_cases h : g = S 0 0 - 1
  · subst h; simp [stS, updD]
  · simp [stS, updD, h]
set_option maxHeartbeats 4000000 in
set_option maxRecDepth 100000 in
theorem stS_SW {S : Sto} {a b : Int} (h : SW S) (h1 : 1 ≤ S 0 0) (h8 : S 3 (S 0 0 - 1) < 8) (ha : 0 ≤ a ∧ a < S 2 (S 0 0 - 1)) (hb : 0 ≤ b ∧ b ≤ 60) : SW (stS S a b) := by
  obtain ⟨e0, e1, e2, e3, e4, e5⟩ := stS_at (S := S) (a := a) (b := b)
  refine ⟨by rw [e0]; exact h.1, fun g g0 g1 => ?_⟩
  rw [e0] at g1
  obtain ⟨a1, a2, a3, a4⟩ := h.2 g g0 g1
  rw [e0, e1, e2, e3]
  refine ⟨a1, a2, ?_, fun i i0 i1 => ?_⟩
  · by_cases hg : g = S 0 0 - 1
    · rw [if_pos hg]
      rw [← hg] at h8
      exact ⟨by omega, by omega, fun q => by omega⟩
    · rw [if_neg hg]; exact a3
  · rw [e4, e5]
    by_cases hx : g * 8 + i = (S 0 0 - 1) * 8 + S 3 (S 0 0 - 1)
    · rw [if_pos hx, if_pos hx]
      have a5 := (h.2 (S 0 0 - 1) (by omega) (by omega)).2.2.1
      have hg : g = S 0 0 - 1 := by
        by_cases hg : g = S 0 0 - 1
        · exact hg
        · rw [if_neg hg] at i1
          omega
      rw [hg]
      exact ⟨ha.1, ha.2, hb.1, hb.2⟩
    · rw [if_neg hx, if_neg hx]
      refine a4 i i0 ?_
      by_cases hg : g = S 0 0 - 1
      · rw [if_pos hg] at i1
        rw [← hg] at hx
        omega
      · rw [if_neg hg] at i1; exact i1
set_option maxHeartbeats 4000000 in
set_option maxRecDepth 100000 in
theorem SW.ok {S : Sto} (h : SW S) (h1 : 1 ≤ S 0 0 → 1 ≤ S 3 (S 0 0 - 1)) : OKS S := by
  refine ⟨h.1, fun g g0 g1 => ?_⟩
  obtain ⟨a1, a2, a3, a4⟩ := h.2 g g0 g1
  refine ⟨a1, a2, ⟨?_, a3.2.1⟩, a4⟩
  by_cases hg : g = S 0 0 - 1
  · rw [hg]; exact h1 (by omega)
  · exact a3.2.2 (by omega)
set_option maxHeartbeats 4000000 in
set_option maxRecDepth 100000 in
theorem pStps_ok {t : Int → Int} {n h : Int} : ∀ (k : Nat) (i lo : Int) (s : PS), (0 ≤ s.x ∧ s.x ≤ n) → s.f = 0 → SW s.S → 1 ≤ s.S 0 0 → s.S 3 (s.S 0 0 - 1) = i → s.S 2 (s.S 0 0 - 1) = h → 0 ≤ i ∧ i ≤ 8 → 0 ≤ lo → (pStps t n h k i lo s).f = 0 → (s.x ≤ (pStps t n h k i lo s).x ∧ (pStps t n h k i lo s).x ≤ n) ∧ OKS (pStps t n h k i lo s).S ∧ (pStps t n h k i lo s).D = s.D ∧ (pStps t n h k i lo s).S 0 0 = s.S 0 0 := by
  intro k
  induction k with
  | zero => intro i lo s _ _ _ _ _ _ _ _ h; exact absurd h (bad_f (by decide))
  | succ k ih =>
    intro i lo s hx hf hW h1 hi hh hib hlo hz
    have hnx := nx_bd (t := t) hx
    rw [pStps_s] at hz ⊢
    by_cases c1 : tkK t n s.x = 4 ∧ 0 < i
    · rw [if_pos c1]
      exact ⟨hnx, hW.ok (fun _ => by rw [hi]; omega), rfl, rfl⟩
    · rw [if_neg c1] at hz ⊢
      by_cases c2 : ¬ tkK t n s.x = 2 ∨ i = 8
      · rw [if_pos c2] at hz; exact absurd hz (bad_f (by decide))
      · rw [if_neg c2] at hz ⊢
        by_cases c3 : ¬ (pStp t n s lo (if i = 0 then 0 else h - 1)).f = 0
        · rw [if_pos c3] at hz; exact absurd hz c3
        · rw [if_neg c3] at hz ⊢
          have c4 : (pStp t n s lo (if i = 0 then 0 else h - 1)).f = 0 := Classical.byContradiction c3
          have h2 := (hW.2 (s.S 0 0 - 1) (by omega) (by omega)).2.1
          rw [hh] at h2
          have hb : (if i = 0 then 0 else h - 1) ≤ h - 1 := by split <;> omega
          generalize (if i = 0 then (0 : Int) else h - 1) = mo at *
          have hin : lo ≤ tkN t n s.x ∧ tkN t n s.x ≤ mo := Classical.byContradiction fun hn => by
            rw [pStp_at, if_pos hn] at c4
            exact bad_f (by decide) c4
          have hnf : (pNum t n 0 60 (s.nx t n)).f = 0 := Classical.byContradiction fun hn => by
            rw [pStp_at, if_neg (fun z => z hin), if_pos hn] at c4
            exact hn c4
          have eS : pStp t n s lo mo = ((s.nx t n).nx t n).wS (stS s.S (tkN t n s.x) (tkN t n (s.nx t n).x)) := by rw [pStp_at, if_neg (fun z => z hin), if_neg (fun z => z hnf)]
          rw [eS] at hz ⊢
          obtain ⟨-, -, b1, b2⟩ := pNum_f hnf
          have hx2 : 0 ≤ (s.nx t n).x ∧ (s.nx t n).x ≤ n := ⟨Int.le_trans hx.1 hnx.1, hnx.2⟩
          have hnx2 := nx_bd (t := t) hx2
          obtain ⟨e0, -, e2, e3, -⟩ := stS_at (S := s.S) (a := tkN t n s.x) (b := tkN t n (s.nx t n).x)
          obtain ⟨r1, r2, r3, r4⟩ := ih (i + 1) (tkN t n s.x + 1) (((s.nx t n).nx t n).wS (stS s.S (tkN t n s.x) (tkN t n (s.nx t n).x))) ⟨Int.le_trans hx2.1 hnx2.1, hnx2.2⟩ hf (stS_SW hW h1 (by omega) (by rw [hh]; omega) ⟨b1, b2⟩) (by show 1 ≤ stS s.S (tkN t n s.x) (tkN t n (s.nx t n).x) 0 0; rw [e0]; exact h1) (by
            show stS s.S (tkN t n s.x) (tkN t n (s.nx t n).x) 3 (stS s.S (tkN t n s.x) (tkN t n (s.nx t n).x) 0 0 - 1) = i + 1
            rw [e0, e3, if_pos rfl, hi]) (by
            show stS s.S (tkN t n s.x) (tkN t n (s.nx t n).x) 2 (stS s.S (tkN t n s.x) (tkN t n (s.nx t n).x) 0 0 - 1) = h
            rw [e0, e2, hh]) (by omega) (by omega) hz
          exact ⟨⟨Int.le_trans hnx.1 (Int.le_trans hnx2.1 r1.1), r1.2⟩, r2, r3, r4.trans e0⟩
