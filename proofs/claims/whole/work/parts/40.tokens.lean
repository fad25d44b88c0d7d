def rnN (t : Int → Int) (lo hi : Int) : Nat → Int → Int
  | 0, x => x
  | k + 1, x => if lo ≤ t x ∧ t x ≤ hi then rnN t lo hi k (x + 1) else x
def rn (t : Int → Int) (lo hi n x : Int) : Int := rnN t lo hi (n - x).toNat x
set_option maxHeartbeats 4000000 in
set_option maxRecDepth 100000 in
theorem rn_stop {t : Int → Int} {lo hi n x : Int} (h : n ≤ x ∨ ¬ (lo ≤ t x ∧ t x ≤ hi)) : rn t lo hi n x = x := by
  unfold rn
  generalize hk : (n - x).toNat = k
  cases k with
  | zero => rfl
  | succ k =>
    rw [rnN, if_neg (by omega)]
set_option maxHeartbeats 4000000 in
set_option maxRecDepth 100000 in
theorem rn_go {t : Int → Int} {lo hi n x : Int} (h : x < n) (h1 : lo ≤ t x) (h2 : t x ≤ hi) : rn t lo hi n x = rn t lo hi n (x + 1) := by
  unfold rn
  rw [show (n - x).toNat = (n - (x + 1)).toNat + 1 by omega, rnN, if_pos ⟨h1, h2⟩]
set_option maxHeartbeats 4000000 in
set_option maxRecDepth 100000 in
theorem rn_bd {t : Int → Int} {lo hi n : Int} : ∀ x, x ≤ n → x ≤ rn t lo hi n x ∧ rn t lo hi n x ≤ n := by
  refine up_ind n (fun x hx ih => ?_)
  by_cases h : x < n ∧ lo ≤ t x ∧ t x ≤ hi
  · rw [rn_go h.1 h.2.1 h.2.2]
    have := ih h.1
    omega
  · rw [rn_stop (by omega)]
    omega
set_option maxHeartbeats 4000000 in
set_option maxRecDepth 100000 in
theorem rn_at {t : Int → Int} {lo hi n : Int} : ∀ x, x ≤ n → rn t lo hi n x < n → ¬ (lo ≤ t (rn t lo hi n x) ∧ t (rn t lo hi n x) ≤ hi) := by
  refine up_ind n (fun x hx ih => ?_)
  by_cases h : x < n ∧ lo ≤ t x ∧ t x ≤ hi
  · rw [rn_go h.1 h.2.1 h.2.2]
    exact ih h.1
  · rw [rn_stop (by omega)]
    intro hn
    omega
set_option maxHeartbeats 4000000 in
set_option maxRecDepth 100000 in
theorem rn_in {t : Int → Int} {lo hi n : Int} : ∀ x, x ≤ n → ∀ y, x ≤ y → y < rn t lo hi n x → lo ≤ t y ∧ t y ≤ hi := by
  refine up_ind n (fun x hx ih => ?_)
  by_cases h : x < n ∧ lo ≤ t x ∧ t x ≤ hi
  · rw [rn_go h.1 h.2.1 h.2.2]
    intro y y0 y1
    by_cases e : y = x
    · rw [e]; exact h.2
    · exact ih h.1 y (by omega) y1
  · rw [rn_stop (by omega)]
    intro y y0 y1
    omega
set_option maxHeartbeats 4000000 in
set_option maxRecDepth 100000 in
theorem rn_cong {t u : Int → Int} {lo hi n : Int} : ∀ x, x ≤ n → 0 ≤ x → (∀ k, 0 ≤ k → k < n → t k = u k) → rn t lo hi n x = rn u lo hi n x := by
  refine up_ind n (fun x hx ih x0 he => ?_)
  by_cases h : x < n ∧ lo ≤ t x ∧ t x ≤ hi
  · rw [rn_go h.1 h.2.1 h.2.2, rn_go h.1 (by rw [← he x x0 h.1]; exact h.2.1) (by rw [← he x x0 h.1]; exact h.2.2)]
    exact ih h.1 (by omega) he
  · rw [rn_stop (by omega)]
    by_cases hn : x < n
    · have := he x x0 hn
      rw [rn_stop (by omega)]
    · rw [rn_stop (by omega)]
-- a token: where it begins, where it ends, what it is, what a number says
def tkS (t : Int → Int) (n x : Int) : Int := rn t 32 32 n x
def tkE (t : Int → Int) (n x : Int) : Int := if n ≤ tkS t n x then tkS t n x else if 97 ≤ t (tkS t n x) ∧ t (tkS t n x) ≤ 122 then rn t 97 122 n (tkS t n x) else if 48 ≤ t (tkS t n x) ∧ t (tkS t n x) ≤ 57 then rn t 48 57 n (tkS t n x) else tkS t n x + 1
def fig (t : Int → Int) (s m : Int) : Int := if m = 0 then 0 else if m = 1 then t s - 48 else (t s - 48) * 10 + t (s + 1) - 48
def tkK (t : Int → Int) (n x : Int) : Int := if n ≤ tkS t n x then 5 else if 97 ≤ t (tkS t n x) ∧ t (tkS t n x) ≤ 122 then 1 else if 48 ≤ t (tkS t n x) ∧ t (tkS t n x) ≤ 57 then (if 2 < tkE t n x - tkS t n x then 0 else 2) else if t (tkS t n x) = 58 then 3 else if t (tkS t n x) = 59 then 4 else 0
def tkN (t : Int → Int) (n x : Int) : Int := if n ≤ tkS t n x then 0 else if 97 ≤ t (tkS t n x) ∧ t (tkS t n x) ≤ 122 then 0 else if 48 ≤ t (tkS t n x) ∧ t (tkS t n x) ≤ 57 then fig t (tkS t n x) (tkE t n x - tkS t n x) else 0
-- the reader: its place lies on the tape
def RdI (σ : Sto) : Prop := (0 ≤ σ 38 3 ∧ σ 38 3 ≤ 400) ∧ (0 ≤ σ 38 4 ∧ σ 38 4 ≤ σ 38 3) ∧ ∀ k, 0 ≤ k → k < σ 38 3 → 0 ≤ σ 1 k ∧ σ 1 k ≤ 127
set_option maxHeartbeats 4000000 in
set_option maxRecDepth 100000 in
theorem c_faultKind {σ : Sto} : CtI yX4_faultKind cX4_faultKind 1 (some .int) 0 [mR 38] σ (fun z σ' => z = σ 38 10 ∧ σ' = σ) := by
  refine ct_of rfl [some (mR 38)] (Nat.le_of_ble_eq_true rfl) rfl (fun hσ => ?_)
  show Wp cX4_faultKind RX4 (some .int) 0 0 [some (mR 38)] [] _ _
  refine wp_aload_n (pc := 0) dX4_faultKind_0 rfl rfl ?_
  refine wp_getI (pc := 1) 10 dX4_faultKind_1 fl_X4_23 rfl rfl ?_
  refine wp_ireturn (pc := 4) dX4_faultKind_4 rfl ?_
  exact ⟨_, rfl, rfl, rfl⟩
set_option maxHeartbeats 4000000 in
set_option maxRecDepth 100000 in
theorem c_refuse {σ : Sto} {w : Int} : CtI yX4_refuse cX4_refuse 2 (some .boolean) 0 [mR 38, mI w] σ (fun z σ' => z = 0 ∧ σ' = upd2 σ 38 10 (if σ 38 5 = 0 then 1 else w)) := by
  refine ct_of rfl [some (mR 38), some (mI w)] (Nat.le_of_ble_eq_true rfl) rfl (fun hσ => ?_)
  show Wp cX4_refuse RX4 (some .boolean) 0 0 [some (mR 38), some (mI w)] [] _ _
  refine wp_aload_n (pc := 0) dX4_refuse_0 rfl rfl ?_
  refine wp_aload_n (pc := 1) dX4_refuse_1 rfl rfl ?_
  refine wp_getI (pc := 2) 5 dX4_refuse_2 fl_X4_55 rfl rfl ?_
  refine wp_if_ne (pc := 5) 12 dX4_refuse_5 (by decide) (fun c_5 => ?_) (fun c_5 => ?_)
  · refine wp_iload_n (pc := 12) dX4_refuse_12 rfl rfl ?_
    refine wp_putI (pc := 13) 10 dX4_refuse_13 fl_X4_23 ⟨rfl, rfl⟩ rfl rfl ?_
    refine wp_iconst (pc := 16) dX4_refuse_16 (by decide) ?_
    refine wp_zreturn (pc := 17) dX4_refuse_17 rfl (by omega) ?_
    first
      | exact ⟨_, rfl, rfl, by rw [if_pos (by omega)]⟩
      | exact ⟨_, rfl, rfl, by rw [if_neg (by omega)]⟩
  · refine wp_iconst (pc := 8) dX4_refuse_8 (by decide) ?_
    refine wp_goto (pc := 9) 13 dX4_refuse_9 (by decide) ?_
    refine wp_putI (pc := 13) 10 dX4_refuse_13 fl_X4_23 ⟨rfl, rfl⟩ rfl rfl ?_
    refine wp_iconst (pc := 16) dX4_refuse_16 (by decide) ?_
    refine wp_zreturn (pc := 17) dX4_refuse_17 rfl (by omega) ?_
    first
      | exact ⟨_, rfl, rfl, by rw [if_pos (by omega)]⟩
      | exact ⟨_, rfl, rfl, by rw [if_neg (by omega)]⟩
set_option maxHeartbeats 4000000 in
set_option maxRecDepth 100000 in
theorem c_isLetter {σ : Sto} {a : Int} (ha : 0 ≤ a ∧ a < 400) : CtI yX4_isLetter cX4_isLetter 2 (some .boolean) 0 [mR 38, mI a] σ (fun z σ' => z = (if 97 ≤ σ 1 a ∧ σ 1 a ≤ 122 then 1 else 0) ∧ σ' = σ) := by
  refine ct_of rfl [some (mR 38), some (mI a)] (Nat.le_of_ble_eq_true rfl) rfl (fun hσ => ?_)
  show Wp cX4_isLetter RX4 (some .boolean) 0 0 [some (mR 38), some (mI a)] [] _ _
  refine wp_aload_n (pc := 0) dX4_isLetter_0 rfl rfl ?_
  refine wp_getR (pc := 1) (q := 1) dX4_isLetter_1 fl_X4_9 rfl ?_
  refine wp_iload_n (pc := 4) dX4_isLetter_4 rfl rfl ?_
  refine wp_bald (pc := 5) 400 dX4_isLetter_5 rfl (by omega) ?_
  refine wp_bipush (pc := 6) dX4_isLetter_6 (by decide) (by decide) ?_
  refine wp_icmp_lt (pc := 8) 26 dX4_isLetter_8 (by decide) (fun c_8 => ?_) (fun c_8 => ?_)
  · refine wp_iconst (pc := 26) dX4_isLetter_26 (by decide) ?_
    refine wp_zreturn (pc := 27) dX4_isLetter_27 rfl (by omega) ?_
    exact ⟨_, rfl, by split <;> omega, rfl⟩
  · refine wp_aload_n (pc := 11) dX4_isLetter_11 rfl rfl ?_
    refine wp_getR (pc := 12) (q := 1) dX4_isLetter_12 fl_X4_9 rfl ?_
    refine wp_iload_n (pc := 15) dX4_isLetter_15 rfl rfl ?_
    refine wp_bald (pc := 16) 400 dX4_isLetter_16 rfl (by omega) ?_
    refine wp_bipush (pc := 17) dX4_isLetter_17 (by decide) (by decide) ?_
    refine wp_icmp_gt (pc := 19) 26 dX4_isLetter_19 (by decide) (fun c_19 => ?_) (fun c_19 => ?_)
    · refine wp_iconst (pc := 26) dX4_isLetter_26 (by decide) ?_
      refine wp_zreturn (pc := 27) dX4_isLetter_27 rfl (by omega) ?_
      exact ⟨_, rfl, by split <;> omega, rfl⟩
    · refine wp_iconst (pc := 22) dX4_isLetter_22 (by decide) ?_
      refine wp_goto (pc := 23) 27 dX4_isLetter_23 (by decide) ?_
      refine wp_zreturn (pc := 27) dX4_isLetter_27 rfl (by omega) ?_
      exact ⟨_, rfl, by split <;> omega, rfl⟩
set_option maxHeartbeats 4000000 in
set_option maxRecDepth 100000 in
theorem c_letterAt {σ : Sto} {a : Int} (hl : 0 ≤ σ 38 3 ∧ σ 38 3 ≤ 400) (ha : 0 ≤ a ∧ a < σ 38 3) (hb : 0 ≤ σ 1 a ∧ σ 1 a ≤ 127) : CtI yX4_letterAt cX4_letterAt 2 (some .int) 0 [mR 38, mI a] σ (fun z σ' => z = σ 1 a - 96 ∧ σ' = σ) := by
  refine ct_of rfl [some (mR 38), some (mI a)] (Nat.le_of_ble_eq_true rfl) rfl (fun hσ => ?_)
  show Wp cX4_letterAt RX4 (some .int) 0 0 [some (mR 38), some (mI a)] [] _ _
  refine wp_iload_n (pc := 0) dX4_letterAt_0 rfl rfl ?_
  refine wp_if_lt (pc := 1) 26 dX4_letterAt_1 (by decide) (fun c_1 => ?_) (fun c_1 => ?_)
  · omega
  · refine wp_iload_n (pc := 4) dX4_letterAt_4 rfl rfl ?_
    refine wp_aload_n (pc := 5) dX4_letterAt_5 rfl rfl ?_
    refine wp_getI (pc := 6) 3 dX4_letterAt_6 fl_X4_33 rfl rfl ?_
    refine wp_icmp_ge (pc := 9) 26 dX4_letterAt_9 (by decide) (fun c_9 => ?_) (fun c_9 => ?_)
    · omega
    · refine wp_aload_n (pc := 12) dX4_letterAt_12 rfl rfl ?_
      refine wp_getR (pc := 13) (q := 1) dX4_letterAt_13 fl_X4_9 rfl ?_
      refine wp_iload_n (pc := 16) dX4_letterAt_16 rfl rfl ?_
      refine wp_bald (pc := 17) 400 dX4_letterAt_17 rfl (by omega) ?_
      refine wp_bipush (pc := 18) dX4_letterAt_18 (by decide) (by decide) ?_
      refine wp_isub (pc := 20) dX4_letterAt_20 (by omega) ?_
      refine wp_iconst (pc := 21) dX4_letterAt_21 (by decide) ?_
      refine wp_iadd (pc := 22) dX4_letterAt_22 (by omega) ?_
      refine wp_goto (pc := 23) 27 dX4_letterAt_23 (by decide) ?_
      refine wp_ireturn (pc := 27) dX4_letterAt_27 rfl ?_
      exact ⟨_, rfl, by omega, rfl⟩
