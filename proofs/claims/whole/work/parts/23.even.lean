def enc (e : Int × Int × Int) : Int := if e.1 = 0 then 1000000000 else 1000000 * e.2.1 + e.2.2
def rep (σ : Sto) (x : Int) (e : Int × Int × Int) : Prop := σ 47 x = enc e ∧ σ 48 x = (if e.1 = 0 then 1 else e.1)
set_option maxHeartbeats 4000000 in
set_option maxRecDepth 100000 in
theorem span_bd {n m : Int} (h1 : 1 ≤ m) (h2 : m ≤ n) (h3 : n ≤ 80) : m * (n - m + 1) ≤ 1640 := by
  have h4 : 0 ≤ (2 * m - (n + 1)) * (2 * m - (n + 1)) := by
    rcases Int.le_total 0 (2 * m - (n + 1)) with q | q
    · exact Int.mul_nonneg q q
    · exact Int.mul_nonneg_of_nonpos_of_nonpos q q
  have h5 : (n + 1) * (n + 1) ≤ 81 * 81 := Int.mul_le_mul (by omega) (by omega) (by omega) (by omega)
  grind
-- bounds of what is weighed
set_option maxHeartbeats 4000000 in
set_option maxRecDepth 100000 in
theorem eOL_bd {wd rm : Int → Int} {n m : Int} {R w c : Int} {r : Nat} (hw : ∀ k, 0 ≤ k → k < n → 0 ≤ wd k) (hR : ∀ t, rm t ≤ 99) (hR2 : R ≤ 99) (h0 : 0 ≤ w) (hc : 1 ≤ c) (hcn : w + c ≤ n) (h : eCan wd R n w r (evS wd rm n m r) c) : 0 ≤ eO wd R w r (evS wd rm n m r) c ∧ eO wd R w r (evS wd rm n m r) c ≤ r + 1 ∧ 0 ≤ eL wd R w r (evS wd rm n m r) c ∧ eL wd R w r (evS wd rm n m r) c ≤ 9801 * (r + 1) := by
  have hu : 0 ≤ us wd w c := by
    have := us_mono (wd := wd) (s := w) (a := 1) (b := c) (by omega) (by omega) (fun i i0 i1 => hw _ (by omega) (by omega))
    rw [us_1] at this
    have := hw w h0 (by omega)
    omega
  have hf := fsl_bd (wd := wd) (R := R) (w := w) (c := c) (r := r) hR2 hu
  have ho : 0 ≤ fov wd R w c ∧ fov wd R w c ≤ 1 := by unfold fov; split <;> omega
  unfold eO eL
  by_cases hr : r = 0
  · subst hr
    simp only [if_true]
    omega
  · have h6 := h.2
    rw [if_neg hr] at h6
    have ih := evS_bd hw hR r (w + c) (by omega) h6.2
    rw [if_neg hr, if_neg hr]
    omega
set_option maxHeartbeats 4000000 in
set_option maxRecDepth 100000 in
theorem evB_bd {wd rm : Int → Int} {n m : Int} {R w : Int} {r k : Nat} (hw : ∀ k, 0 ≤ k → k < n → 0 ≤ wd k) (hR : ∀ t, rm t ≤ 99) (hR2 : R ≤ 99) (h0 : 0 ≤ w) (hk : w + k ≤ n) (h : ¬ (evB wd R n w r (evS wd rm n m r) k).1 = 0) : 0 < (evB wd R n w r (evS wd rm n m r) k).1 ∧ 0 ≤ (evB wd R n w r (evS wd rm n m r) k).2.1 ∧ (evB wd R n w r (evS wd rm n m r) k).2.1 ≤ r + 1 ∧ 0 ≤ (evB wd R n w r (evS wd rm n m r) k).2.2 ∧ (evB wd R n w r (evS wd rm n m r) k).2.2 ≤ 9801 * (r + 1) := by
  rcases evB_can (wd := wd) (R := R) (n := n) (w := w) (r := r) (nx := evS wd rm n m r) k with q | ⟨q1, q2, q3, q4, q5⟩
  · exact absurd q h
  · have := eOL_bd (rm := rm) (m := m) (c := (evB wd R n w r (evS wd rm n m r) k).1) hw hR hR2 h0 q1 (by omega) q3
    rw [q4, q5]
    exact ⟨by omega, this⟩
set_option maxHeartbeats 4000000 in
set_option maxRecDepth 100000 in
theorem c_weigh {σ : Sto} {j s sp f n m w R : Int} {r : Nat} {G wd rm : Int → Int} (hf : σ 43 5 = f) (hm : σ 43 7 = m) (hj : 0 ≤ j ∧ j < m) (hs : 0 ≤ s ∧ w ≤ G j) (ew : w = j + s) (hn : 0 ≤ f ∧ m ≤ n ∧ f + n ≤ 80) (hsp : sp = n - m + 1) (ewd : ∀ i, 0 ≤ i → i < n → wd i = σ 44 (f + i)) (erm : ∀ t, 0 ≤ t → t < m → rm t = σ 45 t) (eR : R = σ 45 j) (er : (r : Int) = m - j - 1)
    (hwd : ∀ i, 0 ≤ i → i < n → 0 ≤ wd i ∧ wd i ≤ 18) (hrm : ∀ t, rm t ≤ 99) (hR0 : 0 ≤ R) (hG : Grd wd rm n G m) (hnx : j + 1 < m → ∀ s', 0 ≤ s' → j + 1 + s' ≤ G (j + 1) → rep σ ((j + 1) * sp + s') (evS wd rm n m r (j + 1 + s'))) : CtV yX0_weigh cX0_weigh 11 none 0 [mR 43, mI j, mI s, mI sp] σ (fun σ' => Frm [47, 48] σ σ' ∧ (∀ x, x ≠ j * sp + s → σ' 47 x = σ 47 x ∧ σ' 48 x = σ 48 x) ∧ rep σ' (j * sp + s) (evS wd rm n m (r + 1) w)) := by
  refine ct_of rfl [some (mR 43), some (mI j), some (mI s), some (mI sp), none, none, none, none, none, none, none] (Nat.le_of_ble_eq_true rfl) rfl (fun hσ => ?_)
  show Wp cX0_weigh RX0 none 0 0 [some (mR 43), some (mI j), some (mI s), some (mI sp), none, none, none, none, none, none, none] [] _ _
  have hlo := hG.lo j (by omega) (by omega)
  have hhi := hG.hi j (by omega) (by omega)
  have hsb := span_bd (n := n) (m := m) (by omega) (by omega) (by omega)
  rw [← hsp] at hsb
  have hcell : 0 ≤ j * sp ∧ j * sp + sp ≤ m * sp := by
    refine ⟨Int.mul_nonneg (by omega) (by omega), ?_⟩
    have := Int.mul_le_mul_of_nonneg_right (show j + 1 ≤ m by omega) (show 0 ≤ sp by omega)
    rw [Int.add_mul, Int.one_mul] at this
    exact this
  have hcell2 : j + 1 < m → j * sp + sp + sp ≤ m * sp := by
    intro h
    have := Int.mul_le_mul_of_nonneg_right (show j + 1 + 1 ≤ m by omega) (show 0 ≤ sp by omega)
    rw [Int.add_mul, Int.add_mul, Int.one_mul] at this
    exact this
  have hw0 : ∀ k, 0 ≤ k → k < n → 0 ≤ wd k := fun k k0 k1 => (hwd k k0 k1).1
  have hR9 : R ≤ 99 := by rw [eR, ← erm j (by omega) (by omega)]; exact hrm j
  have hrr : rm (m - ((r : Int) + 1)) = R := by rw [show m - ((r : Int) + 1) = j by omega, erm j (by omega) (by omega), eR]
  have e44 : ∀ c, 0 ≤ w + (c - 1) → w + (c - 1) < n → σ 44 (f + j + s + c - 1) = wd (w + (c - 1)) := fun c q0 q1 => by rw [ewd _ q0 q1]; congr 1; omega
  have fin : ∀ (τ : Sto) (a : Int), Frm [47, 48] σ τ → (∀ x, x ≠ j * sp + s → τ 47 x = σ 47 x ∧ τ 48 x = σ 48 x) → 0 ≤ a → w + a ≤ n → rep τ (j * sp + s) (evB wd R n w r (evS wd rm n m r) a.toNat) → (∀ c : Nat, a.toNat ≤ c → ¬ eCan wd R n w r (evS wd rm n m r) ((c : Int) + 1)) → (Frm [47, 48] σ τ ∧ (∀ x, x ≠ j * sp + s → τ 47 x = σ 47 x ∧ τ 48 x = σ 48 x) ∧ rep τ (j * sp + s) (evS wd rm n m (r + 1) w)) := by
    intro τ a hF ho h0 han hr hc
    refine ⟨hF, ho, ?_⟩
    have e : evS wd rm n m (r + 1) w = evB wd R n w r (evS wd rm n m r) a.toNat := by
      show evB wd (rm (m - ((r : Int) + 1))) n w r (evS wd rm n m r) (n - w).toNat = _
      rw [hrr, show (n - w).toNat = a.toNat + ((n - w).toNat - a.toNat) by omega]
      exact evB_stop hc _
    rw [e]
    exact hr
  have lp : ∀ c, c ≤ sp - s + 1 → 1 ≤ c → ∀ (τ : Sto) (l8 l9 l10 : Option MV), Frm [47, 48] σ τ → (∀ x, x ≠ j * sp + s → τ 47 x = σ 47 x ∧ τ 48 x = σ 48 x) → rep τ (j * sp + s) (evB wd R n w r (evS wd rm n m r) (c - 1).toNat) → 0 ≤ us wd w (c - 1) + 1 → us wd w (c - 1) ≤ 19 * (c - 1) → Wp cX0_weigh RX0 none 0 47 [some (mR 43), some (mI j), some (mI s), some (mI sp), some (mI (j * sp + s)), some (mI (if j = m - 1 then 1 else 0)), some (mI (us wd w (c - 1))), some (mI c), l8, l9, l10] [] τ (fun v σ' => v = none ∧ (fun σ' => Frm [47, 48] σ σ' ∧ (∀ x, x ≠ j * sp + s → σ' 47 x = σ 47 x ∧ σ' 48 x = σ 48 x) ∧ rep σ' (j * sp + s) (evS wd rm n m (r + 1) w)) σ') := by
    refine up_ind (sp - s + 1) (fun c hc ih h1 τ l8 l9 l10 hF ho hrep hu0 hu1 => ?_)
    have t43 : τ 43 = σ 43 := hF 43 (by decide)
    have t44 : τ 44 = σ 44 := hF 44 (by decide)
    have t45 : τ 45 = σ 45 := hF 45 (by decide)
    have eus := us_s (wd := wd) (s := w) (c := c - 1) (by omega)
    rw [show c - 1 + 1 = c by omega] at eus
    have ek : (((c - 1).toNat : Nat) : Int) + 1 = c := by omega
    have ek2 : (c + 1 - 1).toNat = (c - 1).toNat + 1 := by omega
    -- when nothing is put in
    have no : ¬ (eCan wd R n w r (evS wd rm n m r) c ∧ eBet (evB wd R n w r (evS wd rm n m r) (c - 1).toNat) (eO wd R w r (evS wd rm n m r) c) (eL wd R w r (evS wd rm n m r) c)) → rep τ (j * sp + s) (evB wd R n w r (evS wd rm n m r) (c + 1 - 1).toNat) := by
      intro h
      rw [ek2, evB_no (by rw [ek]; exact h)]
      exact hrep
    have yes : eCan wd R n w r (evS wd rm n m r) c → eBet (evB wd R n w r (evS wd rm n m r) (c - 1).toNat) (eO wd R w r (evS wd rm n m r) c) (eL wd R w r (evS wd rm n m r) c) → ∀ v, v = 1000000 * eO wd R w r (evS wd rm n m r) c + eL wd R w r (evS wd rm n m r) c → rep (upd2 (upd2 τ 47 (j * sp + s) v) 48 (j * sp + s) c) (j * sp + s) (evB wd R n w r (evS wd rm n m r) (c + 1 - 1).toNat) := by
      intro h h2 v hv
      rw [ek2, evB_yes (by rw [ek]; exact h) (by rw [ek]; exact h2), ek]
      unfold rep enc
      simp only [show ¬ c = 0 by omega, if_false]
      exact ⟨by simp [upd2, hv], by simp [upd2]⟩
    have h169 : ∀ own rest l8, c ≤ sp - s → (c = 1 ∨ us wd w c ≤ R) → own = 1000000 * fov wd R w c + fsl wd R w c r → (if r = 0 then rest = (if w + c = n then 0 else 1000000000) else w + c < n ∧ rest = enc (evS wd rm n m r (w + c))) → okI own → okI rest → 0 ≤ us wd w c + 1 → us wd w c ≤ 19 * c → Wp cX0_weigh RX0 none 0 169 [some (mR 43), some (mI j), some (mI s), some (mI sp), some (mI (j * sp + s)), some (mI (if j = m - 1 then 1 else 0)), some (mI (us wd w c)), some (mI c), l8, some (mI own), some (mI rest)] [] τ (fun v σ' => v = none ∧ (fun σ' => Frm [47, 48] σ σ' ∧ (∀ x, x ≠ j * sp + s → σ' 47 x = σ 47 x ∧ σ' 48 x = σ 48 x) ∧ rep σ' (j * sp + s) (evS wd rm n m (r + 1) w)) σ') := by
      intro own rest l8 hcs hfit hown hrest ok1 ok2 hv0 hv1
      have hcan : rest < 1000000000 ↔ eCan wd R n w r (evS wd rm n m r) c := by
        by_cases hr0 : r = 0
        · rw [if_pos hr0] at hrest
          unfold eCan
          rw [if_pos hr0]
          by_cases hz : w + c = n
          · rw [if_pos hz] at hrest
            exact ⟨fun _ => ⟨hfit, hz⟩, fun _ => by omega⟩
          · rw [if_neg hz] at hrest
            exact ⟨fun h => by omega, fun h => absurd h.2 hz⟩
        · rw [if_neg hr0] at hrest
          unfold eCan
          rw [if_neg hr0]
          by_cases hz : (evS wd rm n m r (w + c)).1 = 0
          · have : rest = 1000000000 := by rw [hrest.2, enc, if_pos hz]
            exact ⟨fun h => by omega, fun h => by omega⟩
          · obtain ⟨r', hr'⟩ : ∃ r', r = r' + 1 := ⟨r - 1, by omega⟩
            have hp : 0 < (evS wd rm n m r (w + c)).1 := by
              rw [hr'] at hz ⊢
              rcases evB_can (wd := wd) (R := rm (m - ((r' : Int) + 1))) (n := n) (w := w + c) (r := r') (nx := evS wd rm n m r') (n - (w + c)).toNat with q | q
              · exact absurd q hz
              · have := q.1
                show 0 < (evB wd (rm (m - ((r' : Int) + 1))) n (w + c) r' (evS wd rm n m r') (n - (w + c)).toNat).1
                omega
            have hb := evS_bd hw0 hrm r (w + c) (by omega) hp
            have hrr2 : rest = 1000000 * (evS wd rm n m r (w + c)).2.1 + (evS wd rm n m r (w + c)).2.2 := by rw [hrest.2, enc, if_neg hz]
            exact ⟨fun _ => ⟨hfit, hrest.1, hp⟩, fun _ => by omega⟩
      have hsum : eCan wd R n w r (evS wd rm n m r) c → own + rest = 1000000 * eO wd R w r (evS wd rm n m r) c + eL wd R w r (evS wd rm n m r) c := by
        intro h
        unfold eO eL
        by_cases hr0 : r = 0
        · rw [if_pos hr0] at hrest
          have h2 := h.2
          rw [if_pos hr0] at h2
          rw [if_pos h2] at hrest
          rw [if_pos hr0, if_pos hr0]
          omega
        · rw [if_neg hr0] at hrest
          have h2 := h.2
          rw [if_neg hr0] at h2
          have : rest = 1000000 * (evS wd rm n m r (w + c)).2.1 + (evS wd rm n m r (w + c)).2.2 := by rw [hrest.2, enc, if_neg (by omega)]
          rw [if_neg hr0, if_neg hr0]
          omega
      have hbet : eCan wd R n w r (evS wd rm n m r) c → (own + rest ≤ τ 47 (j * sp + s) ↔ eBet (evB wd R n w r (evS wd rm n m r) (c - 1).toNat) (eO wd R w r (evS wd rm n m r) c) (eL wd R w r (evS wd rm n m r) c)) := by
        intro h
        have hb := eOL_bd (rm := rm) (m := m) hw0 hrm hR9 (by omega) h1 (by omega) h
        rw [hsum h, hrep.1]
        unfold enc eBet
        by_cases hz : (evB wd R n w r (evS wd rm n m r) (c - 1).toNat).1 = 0
        · rw [if_pos hz]
          exact ⟨fun _ => Or.inl hz, fun _ => by omega⟩
        · rw [if_neg hz]
          have hb2 := evB_bd (rm := rm) (m := m) hw0 hrm hR9 (show 0 ≤ w by omega) (show w + ((c - 1).toNat : Nat) ≤ n by omega) hz
          omega
      have hob : eCan wd R n w r (evS wd rm n m r) c → -2147483648 ≤ own + rest ∧ own + rest < 2147483648 := by
        intro h
        have hb := eOL_bd (rm := rm) (m := m) hw0 hrm hR9 (by omega) h1 (by omega) h
        rw [hsum h]
        omega
      refine wp_iload (pc := 169) dX0_weigh_169 rfl ?_
      refine wp_ldc (pc := 171) (z := 1000000000) dX0_weigh_171 kc_X0_52 (by decide) (by decide) ?_
      refine wp_icmp_ge (pc := 173) 212 dX0_weigh_173 (by decide) (fun c_173 => ?_) (fun c_173 => ?_)
      · refine wp_iinc (pc := 212) dX0_weigh_212 rfl rfl (by omega) ?_
        refine wp_goto (pc := 215) 47 dX0_weigh_215 (by decide) ?_
        have ih2 := fun τ' l8 l9 l10 => ih (by omega) (by omega) τ' l8 l9 l10
        rw [show c + 1 - 1 = c by omega] at ih2
        first
          | exact ih2 _ _ _ _ hF ho (by have hno := no (fun q => absurd (hcan.mpr q.1) (by omega)); rw [show c + 1 - 1 = c by omega] at hno; exact hno) hv0 hv1
          | exact ih2 _ _ _ _ hF ho (by have hno := no (fun q => absurd ((hbet hcn).mpr q.2) (by omega)); rw [show c + 1 - 1 = c by omega] at hno; exact hno) hv0 hv1
          | exact ih2 _ _ _ _ ((hF.up (by decide)).up (by decide)) (fun x hx => by have := ho x hx; simp [upd2, hx, this]) (by have hy := yes hcn ((hbet hcn).mp (by omega)) (own + rest) (hsum hcn); rw [show c + 1 - 1 = c by omega] at hy; exact hy) hv0 hv1
      · have hcn := hcan.mp (by omega)
        refine wp_iload (pc := 176) dX0_weigh_176 rfl ?_
        refine wp_iload (pc := 178) dX0_weigh_178 rfl ?_
        refine wp_iadd (pc := 180) dX0_weigh_180 (by exact hob hcn) ?_
        refine wp_aload_n (pc := 181) dX0_weigh_181 rfl rfl ?_
        refine wp_getR (pc := 182) (q := 47) dX0_weigh_182 fl_X0_21 rfl ?_
        refine wp_iload (pc := 185) dX0_weigh_185 rfl ?_
        refine wp_iald (pc := 187) 1640 dX0_weigh_187 rfl (by omega) ?_
        refine wp_icmp_gt (pc := 188) 212 dX0_weigh_188 (by decide) (fun c_188 => ?_) (fun c_188 => ?_)
        · refine wp_iinc (pc := 212) dX0_weigh_212 rfl rfl (by omega) ?_
          refine wp_goto (pc := 215) 47 dX0_weigh_215 (by decide) ?_
          have ih2 := fun τ' l8 l9 l10 => ih (by omega) (by omega) τ' l8 l9 l10
          rw [show c + 1 - 1 = c by omega] at ih2
          first
            | exact ih2 _ _ _ _ hF ho (by have hno := no (fun q => absurd (hcan.mpr q.1) (by omega)); rw [show c + 1 - 1 = c by omega] at hno; exact hno) hv0 hv1
            | exact ih2 _ _ _ _ hF ho (by have hno := no (fun q => absurd ((hbet hcn).mpr q.2) (by omega)); rw [show c + 1 - 1 = c by omega] at hno; exact hno) hv0 hv1
            | exact ih2 _ _ _ _ ((hF.up (by decide)).up (by decide)) (fun x hx => by have := ho x hx; simp [upd2, hx, this]) (by have hy := yes hcn ((hbet hcn).mp (by omega)) (own + rest) (hsum hcn); rw [show c + 1 - 1 = c by omega] at hy; exact hy) hv0 hv1
        · refine wp_aload_n (pc := 191) dX0_weigh_191 rfl rfl ?_
          refine wp_getR (pc := 192) (q := 47) dX0_weigh_192 fl_X0_21 rfl ?_
          refine wp_iload (pc := 195) dX0_weigh_195 rfl ?_
          refine wp_iload (pc := 197) dX0_weigh_197 rfl ?_
          refine wp_iload (pc := 199) dX0_weigh_199 rfl ?_
          refine wp_iadd (pc := 201) dX0_weigh_201 (by exact hob hcn) ?_
          refine wp_iast (pc := 202) 1640 dX0_weigh_202 rfl (by omega) ?_
          refine wp_aload_n (pc := 203) dX0_weigh_203 rfl rfl ?_
          refine wp_getR (pc := 204) (q := 48) dX0_weigh_204 fl_X0_24 rfl ?_
          refine wp_iload (pc := 207) dX0_weigh_207 rfl ?_
          refine wp_iload (pc := 209) dX0_weigh_209 rfl ?_
          refine wp_iast (pc := 211) 1640 dX0_weigh_211 rfl (by omega) ?_
          refine wp_iinc (pc := 212) dX0_weigh_212 rfl rfl (by omega) ?_
          refine wp_goto (pc := 215) 47 dX0_weigh_215 (by decide) ?_
          have ih2 := fun τ' l8 l9 l10 => ih (by omega) (by omega) τ' l8 l9 l10
          rw [show c + 1 - 1 = c by omega] at ih2
          first
            | exact ih2 _ _ _ _ hF ho (by have hno := no (fun q => absurd (hcan.mpr q.1) (by omega)); rw [show c + 1 - 1 = c by omega] at hno; exact hno) hv0 hv1
            | exact ih2 _ _ _ _ hF ho (by have hno := no (fun q => absurd ((hbet hcn).mpr q.2) (by omega)); rw [show c + 1 - 1 = c by omega] at hno; exact hno) hv0 hv1
            | exact ih2 _ _ _ _ ((hF.up (by decide)).up (by decide)) (fun x hx => by have := ho x hx; simp [upd2, hx, this]) (by have hy := yes hcn ((hbet hcn).mp (by omega)) (own + rest) (hsum hcn); rw [show c + 1 - 1 = c by omega] at hy; exact hy) hv0 hv1
    have h131 : ∀ own l8 l10, c ≤ sp - s → (c = 1 ∨ us wd w c ≤ R) → own = 1000000 * fov wd R w c + fsl wd R w c r → okI own → 0 ≤ us wd w c + 1 → us wd w c ≤ 19 * c → Wp cX0_weigh RX0 none 0 131 [some (mR 43), some (mI j), some (mI s), some (mI sp), some (mI (j * sp + s)), some (mI (if j = m - 1 then 1 else 0)), some (mI (us wd w c)), some (mI c), l8, some (mI own), l10] [] τ (fun v σ' => v = none ∧ (fun σ' => Frm [47, 48] σ σ' ∧ (∀ x, x ≠ j * sp + s → σ' 47 x = σ 47 x ∧ σ' 48 x = σ 48 x) ∧ rep σ' (j * sp + s) (evS wd rm n m (r + 1) w)) σ') := by
      intro own l8 l10 hcs hfit hown ok1 hv0 hv1
      by_cases hlast : j = m - 1
      · rw [if_pos hlast]
        refine wp_iload (pc := 131) dX0_weigh_131 rfl ?_
        refine wp_if_eq (pc := 133) 153 dX0_weigh_133 (by decide) (fun c_133 => ?_) (fun c_133 => ?_)
        · omega
        · refine wp_iload_n (pc := 136) dX0_weigh_136 rfl rfl ?_
          refine wp_iload (pc := 137) dX0_weigh_137 rfl ?_
          refine wp_iadd (pc := 139) dX0_weigh_139 (by omega) ?_
          refine wp_iload_n (pc := 140) dX0_weigh_140 rfl rfl ?_
          refine wp_icmp_ne (pc := 141) 148 dX0_weigh_141 (by decide) (fun c_141 => ?_) (fun c_141 => ?_)
          · refine wp_ldc (pc := 148) (z := 1000000000) dX0_weigh_148 kc_X0_52 (by decide) (by decide) ?_
            refine wp_goto (pc := 150) 167 dX0_weigh_150 (by decide) ?_
            refine wp_istore (pc := 167) dX0_weigh_167 (Nat.le_of_ble_eq_true rfl) rfl ?_
            have h9 := h169 own
            rw [if_pos hlast] at h9
            first
              | exact h9 0 _ hcs hfit hown (by rw [if_pos (show r = 0 by omega), if_pos (by omega)]) ok1 (by decide) hv0 hv1
              | exact h9 1000000000 _ hcs hfit hown (by rw [if_pos (show r = 0 by omega), if_neg (by omega)]) ok1 (by decide) hv0 hv1
          · refine wp_iconst (pc := 144) dX0_weigh_144 (by decide) ?_
            refine wp_goto (pc := 145) 167 dX0_weigh_145 (by decide) ?_
            refine wp_istore (pc := 167) dX0_weigh_167 (Nat.le_of_ble_eq_true rfl) rfl ?_
            have h9 := h169 own
            rw [if_pos hlast] at h9
            first
              | exact h9 0 _ hcs hfit hown (by rw [if_pos (show r = 0 by omega), if_pos (by omega)]) ok1 (by decide) hv0 hv1
              | exact h9 1000000000 _ hcs hfit hown (by rw [if_pos (show r = 0 by omega), if_neg (by omega)]) ok1 (by decide) hv0 hv1
      · rw [if_neg hlast]
        have hfar := hG.far hw0 (t := j) (w := w) (c := c) (by omega) (by omega) (by omega) hs.2 h1 (by omega) (by rw [erm j (by omega) (by omega), ← eR]; exact hfit)
        have hidx : j * sp + s + sp + c - 1 = (j + 1) * sp + (s + c - 1) := by rw [Int.add_mul, Int.one_mul]; omega
        have hc2 := hcell2 (by omega)
        have hrp := hnx (by omega) (s + c - 1) (by omega) (by omega)
        rw [← hidx, show j + 1 + (s + c - 1) = w + c by omega] at hrp
        have hne := ho (j * sp + s + sp + c - 1) (by omega)
        refine wp_iload (pc := 131) dX0_weigh_131 rfl ?_
        refine wp_if_eq (pc := 133) 153 dX0_weigh_133 (by decide) (fun c_133 => ?_) (fun c_133 => ?_)
        · refine wp_aload_n (pc := 153) dX0_weigh_153 rfl rfl ?_
          refine wp_getR (pc := 154) (q := 47) dX0_weigh_154 fl_X0_21 rfl ?_
          refine wp_iload (pc := 157) dX0_weigh_157 rfl ?_
          refine wp_iload_n (pc := 159) dX0_weigh_159 rfl rfl ?_
          refine wp_iadd (pc := 160) dX0_weigh_160 (by omega) ?_
          refine wp_iload (pc := 161) dX0_weigh_161 rfl ?_
          refine wp_iadd (pc := 163) dX0_weigh_163 (by omega) ?_
          refine wp_iconst (pc := 164) dX0_weigh_164 (by decide) ?_
          refine wp_isub (pc := 165) dX0_weigh_165 (by omega) ?_
          refine wp_iald (pc := 166) 1640 dX0_weigh_166 rfl (by omega) ?_
          refine wp_istore (pc := 167) dX0_weigh_167 (Nat.le_of_ble_eq_true rfl) rfl ?_
          have h9 := h169 own
          rw [if_neg hlast] at h9
          refine wp_ok (fun hok => ?_)
          exact h9 _ _ hcs hfit hown (by rw [if_neg (show ¬ r = 0 by omega)]; exact ⟨by omega, by rw [hne.1]; exact hrp.1⟩) ok1 (hok _ _) hv0 hv1
        · omega
    refine wp_iload_n (pc := 47) dX0_weigh_47 rfl rfl ?_
    refine wp_iload (pc := 48) dX0_weigh_48 rfl ?_
    refine wp_iadd (pc := 50) dX0_weigh_50 (by omega) ?_
    refine wp_iload_n (pc := 51) dX0_weigh_51 rfl rfl ?_
    refine wp_icmp_gt (pc := 52) 218 dX0_weigh_52 (by decide) (fun c_52 => ?_) (fun c_52 => ?_)
    · refine wp_return (pc := 218) dX0_weigh_218 rfl ?_
      refine ⟨rfl, fin τ (c - 1) hF ho (by omega) (by omega) hrep (fun c' hc' hcan => ?_)⟩
      have hle : w + ((c' : Int) + 1) ≤ n := by
        have h3 := hcan.2
        by_cases hr0 : r = 0
        · rw [if_pos hr0] at h3; omega
        · rw [if_neg hr0] at h3; omega
      have hm2 := us_mono (wd := wd) (s := w) (a := c) (b := (c' : Int) + 1) (by omega) (by omega) (fun i i0 i1 => hw0 _ (by omega) (by omega))
      have h2 := hcan.1
      have h3 := hcan.2
      by_cases hr0 : r = 0
      · rw [if_pos hr0] at h3
        omega
      · rw [if_neg hr0] at h3
        have h4 := evS_rem r _ h3.2
        omega
    · have hwc := hwd (w + (c - 1)) (by omega) (by omega)
      refine wp_iload (pc := 55) dX0_weigh_55 rfl ?_
      refine wp_iconst (pc := 57) dX0_weigh_57 (by decide) ?_
      refine wp_aload_n (pc := 58) dX0_weigh_58 rfl rfl ?_
      refine wp_getR (pc := 59) (q := 44) dX0_weigh_59 fl_X0_9 rfl ?_
      refine wp_aload_n (pc := 62) dX0_weigh_62 rfl rfl ?_
      refine wp_getI (pc := 63) 5 dX0_weigh_63 fl_X0_40 rfl rfl ?_
      rw [t43, hf]
      refine wp_iload_n (pc := 66) dX0_weigh_66 rfl rfl ?_
      refine wp_iadd (pc := 67) dX0_weigh_67 (by omega) ?_
      refine wp_iload_n (pc := 68) dX0_weigh_68 rfl rfl ?_
      refine wp_iadd (pc := 69) dX0_weigh_69 (by omega) ?_
      refine wp_iload (pc := 70) dX0_weigh_70 rfl ?_
      refine wp_iadd (pc := 72) dX0_weigh_72 (by omega) ?_
      refine wp_iconst (pc := 73) dX0_weigh_73 (by decide) ?_
      refine wp_isub (pc := 74) dX0_weigh_74 (by omega) ?_
      refine wp_iald (pc := 75) 80 dX0_weigh_75 rfl (by omega) ?_
      rw [t44, e44 c (by omega) (by omega)]
      refine wp_iadd (pc := 76) dX0_weigh_76 (by omega) ?_
      refine wp_iadd (pc := 77) dX0_weigh_77 (by omega) ?_
      rw [show us wd w (c - 1) + (1 + wd (w + (c - 1))) = us wd w c by omega]
      refine wp_istore (pc := 78) dX0_weigh_78 (Nat.le_of_ble_eq_true rfl) rfl ?_
      refine wp_aload_n (pc := 80) dX0_weigh_80 rfl rfl ?_
      refine wp_getR (pc := 81) (q := 45) dX0_weigh_81 fl_X0_15 rfl ?_
      refine wp_iload_n (pc := 84) dX0_weigh_84 rfl rfl ?_
      refine wp_iald (pc := 85) 80 dX0_weigh_85 rfl (by omega) ?_
      rw [t45, ← eR]
      refine wp_iload (pc := 86) dX0_weigh_86 rfl ?_
      refine wp_isub (pc := 88) dX0_weigh_88 (by omega) ?_
      refine wp_istore (pc := 89) dX0_weigh_89 (Nat.le_of_ble_eq_true rfl) rfl ?_
      refine wp_iload (pc := 91) dX0_weigh_91 rfl ?_
      refine wp_if_ge (pc := 93) 105 dX0_weigh_93 (by decide) (fun c_93 => ?_) (fun c_93 => ?_)
      · refine wp_iload (pc := 105) dX0_weigh_105 rfl ?_
        refine wp_if_ge (pc := 107) 115 dX0_weigh_107 (by decide) (fun c_107 => ?_) (fun c_107 => ?_)
        · refine wp_iload (pc := 115) dX0_weigh_115 rfl ?_
          refine wp_if_eq (pc := 117) 124 dX0_weigh_117 (by decide) (fun c_117 => ?_) (fun c_117 => ?_)
          · refine wp_iload (pc := 124) dX0_weigh_124 rfl ?_
            refine wp_iload (pc := 126) dX0_weigh_126 rfl ?_
            refine wp_imul (pc := 128) dX0_weigh_128 (by have := mulb (a := R - us wd w c) (b := R - us wd w c) (A := 100) (B := 100) (by omega) (by omega) (by omega) (by omega) ; omega) ?_
            refine wp_istore (pc := 129) dX0_weigh_129 (Nat.le_of_ble_eq_true rfl) rfl ?_
            first
              | exact h131 _ _ _ (by omega) (by omega) (by unfold fov fsl; rw [if_neg (by omega), if_pos (by omega)]; omega) (by decide) (by omega) (by omega)
              | exact h131 _ _ _ (by omega) (by omega) (by unfold fov fsl; rw [if_pos (by omega), if_pos (by omega)]; omega) (by decide) (by omega) (by omega)
              | exact h131 _ _ _ (by omega) (by omega) (by unfold fov fsl; rw [if_pos (by omega), if_neg (by omega)]; omega) (by have := mulb (a := R - us wd w c) (b := R - us wd w c) (A := 100) (B := 100) (by omega) (by omega) (by omega) (by omega); omega) (by omega) (by omega)
          · refine wp_iconst (pc := 120) dX0_weigh_120 (by decide) ?_
            refine wp_goto (pc := 121) 129 dX0_weigh_121 (by decide) ?_
            refine wp_istore (pc := 129) dX0_weigh_129 (Nat.le_of_ble_eq_true rfl) rfl ?_
            first
              | exact h131 _ _ _ (by omega) (by omega) (by unfold fov fsl; rw [if_neg (by omega), if_pos (by omega)]; omega) (by decide) (by omega) (by omega)
              | exact h131 _ _ _ (by omega) (by omega) (by unfold fov fsl; rw [if_pos (by omega), if_pos (by omega)]; omega) (by decide) (by omega) (by omega)
              | exact h131 _ _ _ (by omega) (by omega) (by unfold fov fsl; rw [if_pos (by omega), if_neg (by omega)]; omega) (by have := mulb (a := R - us wd w c) (b := R - us wd w c) (A := 100) (B := 100) (by omega) (by omega) (by omega) (by omega); omega) (by omega) (by omega)
        · refine wp_ldc (pc := 110) (z := 1000000) dX0_weigh_110 kc_X0_53 (by decide) (by decide) ?_
          refine wp_goto (pc := 112) 129 dX0_weigh_112 (by decide) ?_
          refine wp_istore (pc := 129) dX0_weigh_129 (Nat.le_of_ble_eq_true rfl) rfl ?_
          first
            | exact h131 _ _ _ (by omega) (by omega) (by unfold fov fsl; rw [if_neg (by omega), if_pos (by omega)]; omega) (by decide) (by omega) (by omega)
            | exact h131 _ _ _ (by omega) (by omega) (by unfold fov fsl; rw [if_pos (by omega), if_pos (by omega)]; omega) (by decide) (by omega) (by omega)
            | exact h131 _ _ _ (by omega) (by omega) (by unfold fov fsl; rw [if_pos (by omega), if_neg (by omega)]; omega) (by have := mulb (a := R - us wd w c) (b := R - us wd w c) (A := 100) (B := 100) (by omega) (by omega) (by omega) (by omega); omega) (by omega) (by omega)
      · refine wp_iload (pc := 96) dX0_weigh_96 rfl ?_
        refine wp_iconst (pc := 98) dX0_weigh_98 (by decide) ?_
        refine wp_icmp_le (pc := 99) 105 dX0_weigh_99 (by decide) (fun c_99 => ?_) (fun c_99 => ?_)
        · refine wp_iload (pc := 105) dX0_weigh_105 rfl ?_
          refine wp_if_ge (pc := 107) 115 dX0_weigh_107 (by decide) (fun c_107 => ?_) (fun c_107 => ?_)
          · refine wp_iload (pc := 115) dX0_weigh_115 rfl ?_
            refine wp_if_eq (pc := 117) 124 dX0_weigh_117 (by decide) (fun c_117 => ?_) (fun c_117 => ?_)
            · refine wp_iload (pc := 124) dX0_weigh_124 rfl ?_
              refine wp_iload (pc := 126) dX0_weigh_126 rfl ?_
              refine wp_imul (pc := 128) dX0_weigh_128 (by have := mulb (a := R - us wd w c) (b := R - us wd w c) (A := 100) (B := 100) (by omega) (by omega) (by omega) (by omega) ; omega) ?_
              refine wp_istore (pc := 129) dX0_weigh_129 (Nat.le_of_ble_eq_true rfl) rfl ?_
              first
                | exact h131 _ _ _ (by omega) (by omega) (by unfold fov fsl; rw [if_neg (by omega), if_pos (by omega)]; omega) (by decide) (by omega) (by omega)
                | exact h131 _ _ _ (by omega) (by omega) (by unfold fov fsl; rw [if_pos (by omega), if_pos (by omega)]; omega) (by decide) (by omega) (by omega)
                | exact h131 _ _ _ (by omega) (by omega) (by unfold fov fsl; rw [if_pos (by omega), if_neg (by omega)]; omega) (by have := mulb (a := R - us wd w c) (b := R - us wd w c) (A := 100) (B := 100) (by omega) (by omega) (by omega) (by omega); omega) (by omega) (by omega)
            · refine wp_iconst (pc := 120) dX0_weigh_120 (by decide) ?_
              refine wp_goto (pc := 121) 129 dX0_weigh_121 (by decide) ?_
              refine wp_istore (pc := 129) dX0_weigh_129 (Nat.le_of_ble_eq_true rfl) rfl ?_
              first
                | exact h131 _ _ _ (by omega) (by omega) (by unfold fov fsl; rw [if_neg (by omega), if_pos (by omega)]; omega) (by decide) (by omega) (by omega)
                | exact h131 _ _ _ (by omega) (by omega) (by unfold fov fsl; rw [if_pos (by omega), if_pos (by omega)]; omega) (by decide) (by omega) (by omega)
                | exact h131 _ _ _ (by omega) (by omega) (by unfold fov fsl; rw [if_pos (by omega), if_neg (by omega)]; omega) (by have := mulb (a := R - us wd w c) (b := R - us wd w c) (A := 100) (B := 100) (by omega) (by omega) (by omega) (by omega); omega) (by omega) (by omega)
          · refine wp_ldc (pc := 110) (z := 1000000) dX0_weigh_110 kc_X0_53 (by decide) (by decide) ?_
            refine wp_goto (pc := 112) 129 dX0_weigh_112 (by decide) ?_
            refine wp_istore (pc := 129) dX0_weigh_129 (Nat.le_of_ble_eq_true rfl) rfl ?_
            first
              | exact h131 _ _ _ (by omega) (by omega) (by unfold fov fsl; rw [if_neg (by omega), if_pos (by omega)]; omega) (by decide) (by omega) (by omega)
              | exact h131 _ _ _ (by omega) (by omega) (by unfold fov fsl; rw [if_pos (by omega), if_pos (by omega)]; omega) (by decide) (by omega) (by omega)
              | exact h131 _ _ _ (by omega) (by omega) (by unfold fov fsl; rw [if_pos (by omega), if_neg (by omega)]; omega) (by have := mulb (a := R - us wd w c) (b := R - us wd w c) (A := 100) (B := 100) (by omega) (by omega) (by omega) (by omega); omega) (by omega) (by omega)
        · refine wp_goto (pc := 102) 218 dX0_weigh_102 (by decide) ?_
          refine wp_return (pc := 218) dX0_weigh_218 rfl ?_
          refine ⟨rfl, fin τ (c - 1) hF ho (by omega) (by omega) hrep (fun c' hc' hcan => ?_)⟩
          have hle : w + ((c' : Int) + 1) ≤ n := by
            have h3 := hcan.2
            by_cases hr0 : r = 0
            · rw [if_pos hr0] at h3; omega
            · rw [if_neg hr0] at h3; omega
          have hm2 := us_mono (wd := wd) (s := w) (a := c) (b := (c' : Int) + 1) (by omega) (by omega) (fun i i0 i1 => hw0 _ (by omega) (by omega))
          have h2 := hcan.1
          have h3 := hcan.2
          by_cases hr0 : r = 0
          · rw [if_pos hr0] at h3
            omega
          · rw [if_neg hr0] at h3
            have h4 := evS_rem r _ h3.2
            omega
  have e0 : us wd w (1 - 1) = -1 := by
    unfold us
    rw [show (1 : Int) - 1 = 0 from rfl, sumI_0]
    rfl
  refine wp_iload_n (pc := 0) dX0_weigh_0 rfl rfl ?_
  refine wp_iload_n (pc := 1) dX0_weigh_1 rfl rfl ?_
  refine wp_imul (pc := 2) dX0_weigh_2 (by omega) ?_
  refine wp_iload_n (pc := 3) dX0_weigh_3 rfl rfl ?_
  refine wp_iadd (pc := 4) dX0_weigh_4 (by omega) ?_
  refine wp_istore (pc := 5) dX0_weigh_5 (Nat.le_of_ble_eq_true rfl) rfl ?_
  refine wp_iload_n (pc := 7) dX0_weigh_7 rfl rfl ?_
  refine wp_aload_n (pc := 8) dX0_weigh_8 rfl rfl ?_
  refine wp_getI (pc := 9) 7 dX0_weigh_9 fl_X0_45 rfl rfl ?_
  refine wp_iconst (pc := 12) dX0_weigh_12 (by decide) ?_
  rw [hm]
  refine wp_isub (pc := 13) dX0_weigh_13 (by omega) ?_
  refine wp_icmp_ne (pc := 14) 21 dX0_weigh_14 (by decide) (fun c_14 => ?_) (fun c_14 => ?_)
  · refine wp_iconst (pc := 21) dX0_weigh_21 (by decide) ?_
    refine wp_istore (pc := 22) dX0_weigh_22 (Nat.le_of_ble_eq_true rfl) rfl ?_
    refine wp_iconst (pc := 24) dX0_weigh_24 (by decide) ?_
    refine wp_istore (pc := 25) dX0_weigh_25 (Nat.le_of_ble_eq_true rfl) rfl ?_
    refine wp_aload_n (pc := 27) dX0_weigh_27 rfl rfl ?_
    refine wp_getR (pc := 28) (q := 47) dX0_weigh_28 fl_X0_21 rfl ?_
    refine wp_iload (pc := 31) dX0_weigh_31 rfl ?_
    refine wp_ldc (pc := 33) (z := 1000000000) dX0_weigh_33 kc_X0_52 (by decide) (by decide) ?_
    refine wp_iast (pc := 35) 1640 dX0_weigh_35 rfl (by omega) ?_
    refine wp_aload_n (pc := 36) dX0_weigh_36 rfl rfl ?_
    refine wp_getR (pc := 37) (q := 48) dX0_weigh_37 fl_X0_24 rfl ?_
    refine wp_iload (pc := 40) dX0_weigh_40 rfl ?_
    refine wp_iconst (pc := 42) dX0_weigh_42 (by decide) ?_
    refine wp_iast (pc := 43) 1640 dX0_weigh_43 rfl (by omega) ?_
    refine wp_iconst (pc := 44) dX0_weigh_44 (by decide) ?_
    refine wp_istore (pc := 45) dX0_weigh_45 (Nat.le_of_ble_eq_true rfl) rfl ?_
    have l := lp 1 (by omega) (by omega) (upd2 (upd2 σ 47 (j * sp + s) 1000000000) 48 (j * sp + s) 1) none none none ((Frm.rf.up (by decide)).up (by decide)) (fun x hx => by simp [upd2, hx]) ⟨by simp [upd2, evB, enc], by simp [upd2, evB]⟩ (by omega) (by omega)
    rw [e0] at l
    first | rw [if_pos (by omega)] at l | rw [if_neg (by omega)] at l
    exact l
  · refine wp_iconst (pc := 17) dX0_weigh_17 (by decide) ?_
    refine wp_goto (pc := 18) 22 dX0_weigh_18 (by decide) ?_
    refine wp_istore (pc := 22) dX0_weigh_22 (Nat.le_of_ble_eq_true rfl) rfl ?_
    refine wp_iconst (pc := 24) dX0_weigh_24 (by decide) ?_
    refine wp_istore (pc := 25) dX0_weigh_25 (Nat.le_of_ble_eq_true rfl) rfl ?_
    refine wp_aload_n (pc := 27) dX0_weigh_27 rfl rfl ?_
    refine wp_getR (pc := 28) (q := 47) dX0_weigh_28 fl_X0_21 rfl ?_
    refine wp_iload (pc := 31) dX0_weigh_31 rfl ?_
    refine wp_ldc (pc := 33) (z := 1000000000) dX0_weigh_33 kc_X0_52 (by decide) (by decide) ?_
    refine wp_iast (pc := 35) 1640 dX0_weigh_35 rfl (by omega) ?_
    refine wp_aload_n (pc := 36) dX0_weigh_36 rfl rfl ?_
    refine wp_getR (pc := 37) (q := 48) dX0_weigh_37 fl_X0_24 rfl ?_
    refine wp_iload (pc := 40) dX0_weigh_40 rfl ?_
    refine wp_iconst (pc := 42) dX0_weigh_42 (by decide) ?_
    refine wp_iast (pc := 43) 1640 dX0_weigh_43 rfl (by omega) ?_
    refine wp_iconst (pc := 44) dX0_weigh_44 (by decide) ?_
    refine wp_istore (pc := 45) dX0_weigh_45 (Nat.le_of_ble_eq_true rfl) rfl ?_
    have l := lp 1 (by omega) (by omega) (upd2 (upd2 σ 47 (j * sp + s) 1000000000) 48 (j * sp + s) 1) none none none ((Frm.rf.up (by decide)).up (by decide)) (fun x hx => by simp [upd2, hx]) ⟨by simp [upd2, evB, enc], by simp [upd2, evB]⟩ (by omega) (by omega)
    rw [e0] at l
    first | rw [if_pos (by omega)] at l | rw [if_neg (by omega)] at l
    exact l
set_option maxHeartbeats 4000000 in
set_option maxRecDepth 100000 in
theorem Grd_cong {wd rm wd' rm' : Int → Int} {n m : Int} {G : Int → Int} (h1 : ∀ i, 0 ≤ i → i < n → wd i = wd' i) (h2 : ∀ t, 0 ≤ t → t < m → rm t = rm' t) (h : Grd wd rm n G m) : Grd wd' rm' n G m := by
  refine ⟨h.1, h.2.1, h.2.2.1, fun t t0 t1 => ?_⟩
  obtain ⟨a1, a2, a3, a4⟩ := h.2.2.2 t t0 t1
  have hlo := h.lo t (by omega) t0
  have e1 : ∀ c, G t + c ≤ n → us wd (G t) c = us wd' (G t) c := by
    intro c hc
    unfold us
    rw [sumI_cong (g := fun k => wd' (G t + k)) (fun k k0 k1 => h1 _ (by omega) (by omega))]
  rw [← h2 t t0 t1]
  refine ⟨a1, a2, ?_, fun hl => ?_⟩
  · rw [← e1 _ (by omega)]; exact a3
  · rw [← e1 _ (by omega)]; exact a4 hl
noncomputable def evK (wd rm : Int → Int) (n m t : Int) : Int := (evS wd rm n m (m.toNat - t.toNat) (evP wd rm n m t.toNat)).1
set_option maxHeartbeats 4000000 in
set_option maxRecDepth 100000 in
theorem c_breakEvenly {σ : Sto} {f n m sp : Int} {wd rm : Int → Int} (hf : σ 43 5 = f) (hn6 : σ 43 6 = n) (hm : σ 43 7 = m) (hn : 0 ≤ f ∧ 1 ≤ m ∧ m ≤ n ∧ f + n ≤ 80) (hsp : sp = n - m + 1) (ewd : ∀ i, 0 ≤ i → i < n → wd i = σ 44 (f + i)) (erm : ∀ t, 0 ≤ t → t < m → rm t = σ 45 t)
    (hwd : ∀ i, 0 ≤ i → i < n → 0 ≤ wd i ∧ wd i ≤ 18) (hrm : ∀ t, 0 ≤ rm t ∧ rm t ≤ 99) (hG : Grd wd rm n (sumI (σ 46)) m) (hC : ∀ t, 0 ≤ t → t < m → 1 ≤ σ 46 t) : CtV yX0_breakEvenly cX0_breakEvenly 5 none 1 [mR 43] σ (fun σ' => Frm [46, 47, 48] σ σ' ∧ ∀ t, 0 ≤ t → t < m → σ' 46 t = evK wd rm n m t) := by
  refine ct_of rfl [some (mR 43), none, none, none, none] (Nat.le_of_ble_eq_true rfl) rfl (fun hσ => ?_)
  show Wp cX0_breakEvenly RX0 none 1 0 [some (mR 43), none, none, none, none] [] _ _
  have hsb := span_bd (n := n) (m := m) (by omega) (by omega) (by omega)
  rw [← hsp] at hsb
  have hw0 : ∀ k, 0 ≤ k → k < n → 0 ≤ wd k := fun k k0 k1 => (hwd k k0 k1).1
  have hcell : ∀ j, 0 ≤ j → j < m → 0 ≤ j * sp ∧ j * sp + sp ≤ m * sp := by
    intro j j0 j1
    refine ⟨Int.mul_nonneg (by omega) (by omega), ?_⟩
    have := Int.mul_le_mul_of_nonneg_right (show j + 1 ≤ m by omega) (show 0 ≤ sp by omega)
    rw [Int.add_mul, Int.one_mul] at this
    exact this
  have hsep : ∀ j j', 0 ≤ j → j < j' → j * sp + sp ≤ j' * sp := by
    intro j j' j0 j1
    have := Int.mul_le_mul_of_nonneg_right (show j + 1 ≤ j' by omega) (show 0 ≤ sp by omega)
    rw [Int.add_mul, Int.one_mul] at this
    exact this
  have hGm : sumI (σ 46) m = n := hG.2.2.1
  have hhi := fun t t0 t1 => hG.hi t t1 t0
  have hlo := fun t t0 t1 => hG.lo t t1 t0
  -- the last loop: the way that is chosen
  have lp3 : ∀ j, j ≤ m → 0 ≤ j → ∀ (τ : Sto), Frm [46, 47, 48] σ τ → (∀ j' s', 0 ≤ j' → j' < m → 0 ≤ s' → j' + s' ≤ sumI (σ 46) j' → rep τ (j' * sp + s') (evS wd rm n m (m - j').toNat (j' + s'))) → (∀ t, 0 ≤ t → t < j → τ 46 t = evK wd rm n m t) → ∀ l2 : Int, Wp cX0_breakEvenly RX0 none 1 90 [some (mR 43), some (mI sp), some (mI l2), some (mI (evP wd rm n m j.toNat - j)), some (mI j)] [] τ (fun v σ' => v = none ∧ (fun σ' => Frm [46, 47, 48] σ σ' ∧ ∀ t, 0 ≤ t → t < m → σ' 46 t = evK wd rm n m t) σ') := by
    refine up_ind m (fun j hj ih h0 τ hF htab hk l2 => ?_)
    have t43 : τ 43 = σ 43 := hF 43 (by decide)
    have hp := evP_ok hw0 hG j.toNat (by omega)
    rw [show ((j.toNat : Nat) : Int) = j by omega] at hp
    have hh := hhi j h0 hj
    refine wp_iload (pc := 90) dX0_breakEvenly_90 rfl ?_
    refine wp_aload_n (pc := 92) dX0_breakEvenly_92 rfl rfl ?_
    refine wp_getI (pc := 93) 7 dX0_breakEvenly_93 fl_X0_45 rfl rfl ?_
    rw [t43, hm]
    refine wp_icmp_ge (pc := 96) 140 dX0_breakEvenly_96 (by decide) (fun c_96 => ?_) (fun c_96 => ?_)
    · refine wp_return (pc := 140) dX0_breakEvenly_140 rfl ?_
      exact ⟨rfl, hF, fun t t0 t1 => hk t t0 (by omega)⟩
    · refine wp_iload_n (pc := 99) dX0_breakEvenly_99 rfl rfl ?_
      refine wp_iload_n (pc := 100) dX0_breakEvenly_100 rfl rfl ?_
      refine wp_icmp_ge (pc := 101) 140 dX0_breakEvenly_101 (by decide) (fun c_101 => ?_) (fun c_101 => ?_)
      · omega
      · have hcl := hcell j h0 (by omega)
        have hch := hp.2.2.2.1 (by omega)
        have hr := htab j (evP wd rm n m j.toNat - j) h0 (by omega) (by omega) (by omega)
        rw [show j + (evP wd rm n m j.toNat - j) = evP wd rm n m j.toNat by omega, show (m - j).toNat = m.toNat - j.toNat by omega] at hr
        have hr2 : τ 48 (j * sp + (evP wd rm n m j.toNat - j)) = evK wd rm n m j := by rw [hr.2, if_neg (by omega)]; rfl
        have hek : 1 ≤ evK wd rm n m j := by unfold evK; omega
        have hnext := evP_ok hw0 hG (j.toNat + 1) (by omega)
        have hh1 := hhi (j + 1) (by omega) (by omega)
        rw [show ((j.toNat + 1 : Nat) : Int) = j + 1 by omega] at hnext
        have hpe : evP wd rm n m (j.toNat + 1) = evP wd rm n m j.toNat + evK wd rm n m j := rfl
        refine wp_aload_n (pc := 104) dX0_breakEvenly_104 rfl rfl ?_
        refine wp_getR (pc := 105) (q := 46) dX0_breakEvenly_105 fl_X0_18 rfl ?_
        refine wp_iload (pc := 108) dX0_breakEvenly_108 rfl ?_
        refine wp_aload_n (pc := 110) dX0_breakEvenly_110 rfl rfl ?_
        refine wp_getR (pc := 111) (q := 48) dX0_breakEvenly_111 fl_X0_24 rfl ?_
        refine wp_iload (pc := 114) dX0_breakEvenly_114 rfl ?_
        refine wp_iload_n (pc := 116) dX0_breakEvenly_116 rfl rfl ?_
        refine wp_imul (pc := 117) dX0_breakEvenly_117 (by omega) ?_
        refine wp_iload_n (pc := 118) dX0_breakEvenly_118 rfl rfl ?_
        refine wp_iadd (pc := 119) dX0_breakEvenly_119 (by omega) ?_
        refine wp_iald (pc := 120) 1640 dX0_breakEvenly_120 rfl (by omega) ?_
        rw [hr2]
        refine wp_iast (pc := 121) 80 dX0_breakEvenly_121 rfl (by omega) ?_
        refine wp_iload_n (pc := 122) dX0_breakEvenly_122 rfl rfl ?_
        refine wp_aload_n (pc := 123) dX0_breakEvenly_123 rfl rfl ?_
        refine wp_getR (pc := 124) (q := 46) dX0_breakEvenly_124 fl_X0_18 rfl ?_
        refine wp_iload (pc := 127) dX0_breakEvenly_127 rfl ?_
        refine wp_iald (pc := 129) 80 dX0_breakEvenly_129 rfl (by omega) ?_
        rw [upd2_eq]
        refine wp_iconst (pc := 130) dX0_breakEvenly_130 (by decide) ?_
        refine wp_isub (pc := 131) dX0_breakEvenly_131 (by omega) ?_
        refine wp_iadd (pc := 132) dX0_breakEvenly_132 (by omega) ?_
        refine wp_istore_n (pc := 133) dX0_breakEvenly_133 rfl (Nat.le_of_ble_eq_true rfl) rfl ?_
        refine wp_iinc (pc := 134) dX0_breakEvenly_134 rfl rfl (by omega) ?_
        refine wp_goto (pc := 137) 90 dX0_breakEvenly_137 (by decide) ?_
        have ih2 := ih (by omega) (by omega) _ (hF.up (r := 46) (k := j) (v := evK wd rm n m j) (by decide)) (fun j' s' a b c d => by have := htab j' s' a b c d; exact ⟨by rw [upd2_r (by decide)]; exact this.1, by rw [upd2_r (by decide)]; exact this.2⟩) (fun t t0 t1 => by
            by_cases e : t = j
            · subst e; exact upd2_eq
            · rw [upd2_k e]; exact hk t t0 (by omega)) l2
        rw [show (j + 1).toNat = j.toNat + 1 by omega, hpe, show evP wd rm n m j.toNat + evK wd rm n m j - (j + 1) = evP wd rm n m j.toNat - j + (evK wd rm n m j - 1) by omega] at ih2
        exact ih2
  have lp1 : ∀ j, -1 ≤ j → j < m → ∀ (τ : Sto) (l4 : Option MV), Frm [47, 48] σ τ → (∀ j' s', j < j' → j' < m → 0 ≤ s' → j' + s' ≤ sumI (σ 46) j' → rep τ (j' * sp + s') (evS wd rm n m (m - j').toNat (j' + s'))) → Wp cX0_breakEvenly RX0 none 1 41 [some (mR 43), some (mI sp), some (mI (sumI (σ 46) (j + 1) - (j + 1))), some (mI j), l4] [] τ (fun v σ' => v = none ∧ (fun σ' => Frm [46, 47, 48] σ σ' ∧ ∀ t, 0 ≤ t → t < m → σ' 46 t = evK wd rm n m t) σ') := by
    refine down_ind (-1) (fun j hj ih hjm τ l4 hF htab => ?_)
    have t46 : τ 46 = σ 46 := hF 46 (by decide)
    -- the inner loop
    have lp2 : 0 ≤ j → ∀ s, s ≤ sumI (σ 46) j - j + 1 → 0 ≤ s → ∀ (τ : Sto), Frm [47, 48] σ τ → (∀ j' s', j < j' → j' < m → 0 ≤ s' → j' + s' ≤ sumI (σ 46) j' → rep τ (j' * sp + s') (evS wd rm n m (m - j').toNat (j' + s'))) → (∀ s', 0 ≤ s' → s' < s → rep τ (j * sp + s') (evS wd rm n m (m - j).toNat (j + s'))) → Wp cX0_breakEvenly RX0 none 1 59 [some (mR 43), some (mI sp), some (mI (sumI (σ 46) j - j)), some (mI j), some (mI s)] [] τ (fun v σ' => v = none ∧ (fun σ' => Frm [46, 47, 48] σ σ' ∧ ∀ t, 0 ≤ t → t < m → σ' 46 t = evK wd rm n m t) σ') := by
      intro hj0
      have hl := hlo j hj0 (by omega)
      have hh := hhi j hj0 (by omega)
      have hcl := hcell j hj0 (by omega)
      refine up_ind _ (fun s hs ih2 s0 τ hF htab hrow => ?_)
      refine wp_iload (pc := 59) dX0_breakEvenly_59 rfl ?_
      refine wp_iload_n (pc := 61) dX0_breakEvenly_61 rfl rfl ?_
      refine wp_icmp_gt (pc := 62) 79 dX0_breakEvenly_62 (by decide) (fun c_62 => ?_) (fun c_62 => ?_)
      · refine wp_iinc (pc := 79) dX0_breakEvenly_79 rfl rfl (by omega) ?_
        refine wp_goto (pc := 82) 41 dX0_breakEvenly_82 (by decide) ?_
        have ih3 := ih (by omega) (by omega) τ (some (mI s)) hF (fun j' s' a b c d => by
            by_cases e : j' = j
            · subst e; exact hrow s' c (by omega)
            · exact htab j' s' (by omega) b c d)
        rw [show j - 1 + 1 = j by omega] at ih3
        exact ih3
      · refine wp_aload_n (pc := 65) dX0_breakEvenly_65 rfl rfl ?_
        refine wp_iload_n (pc := 66) dX0_breakEvenly_66 rfl rfl ?_
        refine wp_iload (pc := 67) dX0_breakEvenly_67 rfl ?_
        refine wp_iload_n (pc := 69) dX0_breakEvenly_69 rfl rfl ?_
        refine wp_cvV3 (pc := 70) dX0_breakEvenly_70 mv_X0_48 (c_weigh (f := f) (n := n) (m := m) (w := j + s) (R := τ 45 j) (r := (m - j - 1).toNat) (G := sumI (σ 46)) (wd := wd) (rm := rm) (by rw [hF 43 (by decide)]; exact hf) (by rw [hF 43 (by decide)]; exact hm) (by omega) ⟨s0, by omega⟩ rfl (by omega) hsp (by rw [hF 44 (by decide)]; exact ewd) (by rw [hF 45 (by decide)]; exact erm) rfl (by omega) hwd (fun t => (hrm t).2) (by rw [hF 45 (by decide), ← erm j (by omega) (by omega)]; exact (hrm j).1) hG (fun h s' a b => by have := htab (j + 1) s' (by omega) h a b; rw [show (m - (j + 1)).toNat = (m - j - 1).toNat by omega] at this; exact this)) (Nat.le_of_ble_eq_true rfl) rfl (Nat.le_of_ble_eq_true rfl) (fun σ_70 h_70 => ?_)
        obtain ⟨hF7, ho7, hr7⟩ := h_70
        rw [show (m - j - 1).toNat + 1 = (m - j).toNat by omega] at hr7
        refine wp_iinc (pc := 73) dX0_breakEvenly_73 rfl rfl (by omega) ?_
        refine wp_goto (pc := 76) 59 dX0_breakEvenly_76 (by decide) ?_
        refine ih2 (by omega) (by omega) σ_70 (hF.tr hF7) (fun j' s' a b c d => ?_) (fun s' a b => ?_)
        · have h1 := hsep j j' hj0 a
          have h2 := htab j' s' a b c d
          have h3 := ho7 (j' * sp + s') (by omega)
          exact ⟨by rw [h3.1]; exact h2.1, by rw [h3.2]; exact h2.2⟩
        · by_cases e : s' = s
          · subst e; exact hr7
          · have h2 := hrow s' a (by omega)
            have h3 := ho7 (j * sp + s') (by omega)
            exact ⟨by rw [h3.1]; exact h2.1, by rw [h3.2]; exact h2.2⟩
    refine wp_iload_n (pc := 41) dX0_breakEvenly_41 rfl rfl ?_
    refine wp_if_lt (pc := 42) 85 dX0_breakEvenly_42 (by decide) (fun c_42 => ?_) (fun c_42 => ?_)
    · refine wp_iconst (pc := 85) dX0_breakEvenly_85 (by decide) ?_
      refine wp_istore_n (pc := 86) dX0_breakEvenly_86 rfl (Nat.le_of_ble_eq_true rfl) rfl ?_
      refine wp_iconst (pc := 87) dX0_breakEvenly_87 (by decide) ?_
      refine wp_istore (pc := 88) dX0_breakEvenly_88 (Nat.le_of_ble_eq_true rfl) rfl ?_
      have e : j = -1 := by omega
      subst e
      exact lp3 0 (by omega) (by omega) τ (hF.mono (by decide)) (fun j' s' a b c d => htab j' s' (by omega) b c d) (fun t t0 t1 => absurd t1 (by omega)) _
    · have hcj := hC j (by omega) (by omega)
      have hs1 := sumI_s (f := σ 46) (n := j) (by omega)
      have hl := hlo j (by omega) (by omega)
      have hh := hhi j (by omega) (by omega)
      have hh1 := hhi (j + 1) (by omega) (by omega)
      refine wp_iload_n (pc := 45) dX0_breakEvenly_45 rfl rfl ?_
      refine wp_aload_n (pc := 46) dX0_breakEvenly_46 rfl rfl ?_
      refine wp_getR (pc := 47) (q := 46) dX0_breakEvenly_47 fl_X0_18 rfl ?_
      refine wp_iload_n (pc := 50) dX0_breakEvenly_50 rfl rfl ?_
      refine wp_iald (pc := 51) 80 dX0_breakEvenly_51 rfl (by omega) ?_
      rw [t46]
      refine wp_iconst (pc := 52) dX0_breakEvenly_52 (by decide) ?_
      refine wp_isub (pc := 53) dX0_breakEvenly_53 (by omega) ?_
      refine wp_isub (pc := 54) dX0_breakEvenly_54 (by omega) ?_
      refine wp_istore_n (pc := 55) dX0_breakEvenly_55 rfl (Nat.le_of_ble_eq_true rfl) rfl ?_
      refine wp_iconst (pc := 56) dX0_breakEvenly_56 (by decide) ?_
      refine wp_istore (pc := 57) dX0_breakEvenly_57 (Nat.le_of_ble_eq_true rfl) rfl ?_
      have l := lp2 (by omega) 0 (by omega) (by omega) τ hF htab (fun s' a b => absurd b (by omega))
      rw [show sumI (σ 46) j - j = sumI (σ 46) (j + 1) - (j + 1) - (σ 46 j - 1) by omega] at l
      exact l
  refine wp_aload_n (pc := 0) dX0_breakEvenly_0 rfl rfl ?_
  refine wp_getI (pc := 1) 6 dX0_breakEvenly_1 fl_X0_43 rfl rfl ?_
  rw [hn6]
  refine wp_aload_n (pc := 4) dX0_breakEvenly_4 rfl rfl ?_
  refine wp_getI (pc := 5) 7 dX0_breakEvenly_5 fl_X0_45 rfl rfl ?_
  rw [hm]
  refine wp_isub (pc := 8) dX0_breakEvenly_8 (by omega) ?_
  refine wp_iconst (pc := 9) dX0_breakEvenly_9 (by decide) ?_
  refine wp_iadd (pc := 10) dX0_breakEvenly_10 (by omega) ?_
  refine wp_istore_n (pc := 11) dX0_breakEvenly_11 rfl (Nat.le_of_ble_eq_true rfl) rfl ?_
  rw [← hsp]
  refine wp_iload_n (pc := 12) dX0_breakEvenly_12 rfl rfl ?_
  refine wp_iconst (pc := 13) dX0_breakEvenly_13 (by decide) ?_
  refine wp_icmp_lt (pc := 14) 29 dX0_breakEvenly_14 (by decide) (fun c_14 => ?_) (fun c_14 => ?_)
  · omega
  · refine wp_aload_n (pc := 17) dX0_breakEvenly_17 rfl rfl ?_
    refine wp_getI (pc := 18) 7 dX0_breakEvenly_18 fl_X0_45 rfl rfl ?_
    rw [hm]
    refine wp_iload_n (pc := 21) dX0_breakEvenly_21 rfl rfl ?_
    refine wp_imul (pc := 22) dX0_breakEvenly_22 (by have := hcell (m - 1) (by omega) (by omega) ; exact ⟨by omega, by omega⟩) ?_
    refine wp_sipush (pc := 23) dX0_breakEvenly_23 (by decide) (by decide) ?_
    refine wp_icmp_le (pc := 26) 30 dX0_breakEvenly_26 (by decide) (fun c_26 => ?_) (fun c_26 => ?_)
    · refine wp_iload_n (pc := 30) dX0_breakEvenly_30 rfl rfl ?_
      refine wp_iconst (pc := 31) dX0_breakEvenly_31 (by decide) ?_
      refine wp_isub (pc := 32) dX0_breakEvenly_32 (by omega) ?_
      refine wp_istore_n (pc := 33) dX0_breakEvenly_33 rfl (Nat.le_of_ble_eq_true rfl) rfl ?_
      refine wp_aload_n (pc := 34) dX0_breakEvenly_34 rfl rfl ?_
      refine wp_getI (pc := 35) 7 dX0_breakEvenly_35 fl_X0_45 rfl rfl ?_
      rw [hm]
      refine wp_iconst (pc := 38) dX0_breakEvenly_38 (by decide) ?_
      refine wp_isub (pc := 39) dX0_breakEvenly_39 (by omega) ?_
      refine wp_istore_n (pc := 40) dX0_breakEvenly_40 rfl (Nat.le_of_ble_eq_true rfl) rfl ?_
      have l := lp1 (m - 1) (by omega) (by omega) σ none Frm.rf (fun j' s' a b c d => absurd a (by omega))
      rw [show m - 1 + 1 = m by omega, hGm, show n - m = sp - 1 by omega] at l
      exact l
    · omega
