
/-! how all lines lie: the words of the document -/
def fstS (D : Sto) (p : Int) : Int := sumI (D 1) p
def wdS (D : Sto) (p : Int) : Int → Int := fun i => wid (D 4 (fstS D p + i))
def rAh (D S : Sto) (Bg : Int → Int) (p l : Int) : Int := mxI (fun q => rch D S q (l - Bg q)) p
def indS (D S : Sto) (Bg : Int → Int) (p l : Int) : Int := if 0 ≤ D 2 p then rch D S p (l - Bg p) else if D 5 5 = 2 then rAh D S Bg p l else 0
def roomS (D S : Sto) (Bg : Int → Int) (p l : Int) : Int := max 0 (D 5 0 - indS D S Bg p l)
def pshJ (D S : Sto) (Bg : Int → Int) (q j : Int) : Int := if 0 < rch D S q j then Bg q + j + 1 else 0
def pushS (D S : Sto) (Bg : Int → Int) (p : Int) : Int := mxI (fun q => mxI (pshJ D S Bg q) 9) p
def bgnS (D S : Sto) (Bg : Int → Int) (p prev : Int) : Int := if D 5 5 = 1 ∨ (D 5 5 = 2 ∧ 0 ≤ D 2 p) then max prev (pushS D S Bg p) else prev
def clsS (D S : Sto) (Bg : Int → Int) (p l : Int) : Int := if D 5 5 = 0 ∧ 0 < rAh D S Bg p l then 1 else 0
noncomputable def gPr (wd rm : Int → Int) (n : Int) : (Int → Int) × Int := Classical.epsilon (fun x : (Int → Int) × Int => Grd wd rm n x.1 x.2)
theorem gPr_eq {wd rm : Int → Int} {n : Int} {G : Int → Int} {m : Int} (hw : ∀ k, 0 ≤ k → k < n → 0 ≤ wd k) (h : Grd wd rm n G m) : (gPr wd rm n).2 = m ∧ ∀ t, 0 ≤ t → t ≤ m → (gPr wd rm n).1 t = G t := by
  have h1 : Grd wd rm n (gPr wd rm n).1 (gPr wd rm n).2 := Classical.epsilon_spec (p := fun x : (Int → Int) × Int => Grd wd rm n x.1 x.2) ⟨(G, m), h⟩
  have h2 := Grd.uniq hw h h1
  exact ⟨h2.1.symm, fun t t0 t1 => (h2.2 t t0 t1).symm⟩
noncomputable def LBE (D S : Sto) : Nat → (Int → Int) × (Int → Int)
  | 0 => (fun _ => 0, fun _ => 0)
  | k + 1 =>
    (fun q => if q = (k : Int) then bgnS D S (LBE D S k).1 (k : Int) (if k = 0 then 0 else (LBE D S k).2 ((k : Int) - 1)) else (LBE D S k).1 q,
     fun q => if q = (k : Int) then bgnS D S (LBE D S k).1 (k : Int) (if k = 0 then 0 else (LBE D S k).2 ((k : Int) - 1)) + (gPr (wdS D (k : Int)) (fun t => roomS D S (fun q => if q = (k : Int) then bgnS D S (LBE D S k).1 (k : Int) (if k = 0 then 0 else (LBE D S k).2 ((k : Int) - 1)) else (LBE D S k).1 q) (k : Int) (bgnS D S (LBE D S k).1 (k : Int) (if k = 0 then 0 else (LBE D S k).2 ((k : Int) - 1)) + t)) (D 1 (k : Int))).2 else (LBE D S k).2 q)
noncomputable def LB (D S : Sto) (p : Int) : Int := (LBE D S (p.toNat + 1)).1 p
noncomputable def LE (D S : Sto) (p : Int) : Int := (LBE D S (p.toNat + 1)).2 p
/-- where the lines of the paragraphs ahead end -/
noncomputable def LL (D S : Sto) (p : Int) : Int := if p = 0 then 0 else LE D S (p - 1)
noncomputable def rmS (D S : Sto) (p : Int) : Int → Int := fun t => roomS D S (LB D S) p (LB D S p + t)
noncomputable def LM (D S : Sto) (p : Int) : Int := (gPr (wdS D p) (rmS D S p) (D 1 p)).2
noncomputable def LC (D S : Sto) (p t : Int) : Int := if D 5 4 = 1 then evK (wdS D p) (rmS D S p) (D 1 p) (LM D S p) t else (gPr (wdS D p) (rmS D S p) (D 1 p)).1 (t + 1) - (gPr (wdS D p) (rmS D S p) (D 1 p)).1 t
theorem LBE_at (D S : Sto) : ∀ (d k : Nat), (LBE D S (k + 1 + d)).1 (k : Int) = LB D S k ∧ (LBE D S (k + 1 + d)).2 (k : Int) = LE D S k
  | 0, k => by
    have e : ((k : Int)).toNat = k := by omega
    unfold LB LE
    rw [e]
    exact ⟨rfl, rfl⟩
  | d + 1, k => by
    have ih := LBE_at D S d k
    have hne : ¬ (k : Int) = ((k + 1 + d : Nat) : Int) := by omega
    constructor
    · show (if (k : Int) = ((k + 1 + d : Nat) : Int) then _ else (LBE D S (k + 1 + d)).1 (k : Int)) = _
      rw [if_neg hne]
      exact ih.1
    · show (if (k : Int) = ((k + 1 + d : Nat) : Int) then _ else (LBE D S (k + 1 + d)).2 (k : Int)) = _
      rw [if_neg hne]
      exact ih.2
theorem LBE_lt (D S : Sto) {k : Nat} {q : Int} (h0 : 0 ≤ q) (h : q < k) : (LBE D S k).1 q = LB D S q ∧ (LBE D S k).2 q = LE D S q := by
  have := LBE_at D S (k - (q.toNat + 1)) q.toNat
  rw [show q.toNat + 1 + (k - (q.toNat + 1)) = k by omega, show ((q.toNat : Nat) : Int) = q by omega] at this
  exact this
theorem rAh_cong {D S : Sto} {B B' : Int → Int} {p l : Int} (h : ∀ q, 0 ≤ q → q < p → B q = B' q) : rAh D S B p l = rAh D S B' p l := mxI_cong (fun q q0 q1 => by rw [h q q0 q1])
theorem pushS_cong {D S : Sto} {B B' : Int → Int} {p : Int} (h : ∀ q, 0 ≤ q → q < p → B q = B' q) : pushS D S B p = pushS D S B' p := mxI_cong (fun q q0 q1 => by unfold pshJ; rw [h q q0 q1])
theorem bgnS_cong {D S : Sto} {B B' : Int → Int} {p prev : Int} (h : ∀ q, 0 ≤ q → q < p → B q = B' q) : bgnS D S B p prev = bgnS D S B' p prev := by unfold bgnS; rw [pushS_cong h]
theorem indS_cong {D S : Sto} {B B' : Int → Int} {p l : Int} (h : ∀ q, 0 ≤ q → q ≤ p → B q = B' q) (hp : 0 ≤ p) : indS D S B p l = indS D S B' p l := by
  unfold indS
  rw [h p hp (by omega), rAh_cong (fun q q0 q1 => h q q0 (by omega))]
theorem roomS_cong {D S : Sto} {B B' : Int → Int} {p l : Int} (h : ∀ q, 0 ≤ q → q ≤ p → B q = B' q) (hp : 0 ≤ p) : roomS D S B p l = roomS D S B' p l := by unfold roomS; rw [indS_cong h hp]
theorem clsS_cong {D S : Sto} {B B' : Int → Int} {p l : Int} (h : ∀ q, 0 ≤ q → q < p → B q = B' q) : clsS D S B p l = clsS D S B' p l := by unfold clsS; rw [rAh_cong h]
theorem LB_eq (D S : Sto) {p : Int} (h0 : 0 ≤ p) : LB D S p = bgnS D S (LB D S) p (LL D S p) := by
  have e2 : ((p.toNat : Nat) : Int) = p := by omega
  have e1 : LB D S p = bgnS D S (LBE D S p.toNat).1 p (if p.toNat = 0 then 0 else (LBE D S p.toNat).2 (p - 1)) := by
    show (if p = ((p.toNat : Nat) : Int) then bgnS D S (LBE D S p.toNat).1 ((p.toNat : Nat) : Int) (if p.toNat = 0 then 0 else (LBE D S p.toNat).2 (((p.toNat : Nat) : Int) - 1)) else _) = _
    rw [e2, if_pos rfl]
  rw [e1, bgnS_cong (B' := LB D S) (fun q q0 q1 => (LBE_lt D S q0 (by omega)).1)]
  congr 1
  unfold LL
  by_cases hp : p = 0
  · subst hp; rfl
  · rw [if_neg hp, if_neg (by omega)]
    exact (LBE_lt D S (by omega) (by omega)).2
theorem LE_eq (D S : Sto) {p : Int} (h0 : 0 ≤ p) : LE D S p = LB D S p + LM D S p := by
  have e2 : ((p.toNat : Nat) : Int) = p := by omega
  have eb : LB D S p = bgnS D S (LBE D S p.toNat).1 p (if p.toNat = 0 then 0 else (LBE D S p.toNat).2 (p - 1)) := by
    show (if p = ((p.toNat : Nat) : Int) then bgnS D S (LBE D S p.toNat).1 ((p.toNat : Nat) : Int) (if p.toNat = 0 then 0 else (LBE D S p.toNat).2 (((p.toNat : Nat) : Int) - 1)) else _) = _
    rw [e2, if_pos rfl]
  have e1 : LE D S p = LB D S p + (gPr (wdS D p) (fun t => roomS D S (fun q => if q = p then LB D S p else (LBE D S p.toNat).1 q) p (LB D S p + t)) (D 1 p)).2 := by
    rw [eb]
    show (if p = ((p.toNat : Nat) : Int) then _ else _) = _
    rw [e2, if_pos rfl]
  rw [e1]
  unfold LM rmS
  congr 4
  funext t
  refine roomS_cong (fun q q0 q1 => ?_) h0
  by_cases hq : q = p
  · rw [if_pos hq, hq]
  · rw [if_neg hq]
    exact (LBE_lt D S q0 (by omega)).1
theorem LL_s (D S : Sto) {p : Int} (h0 : 0 ≤ p) : LL D S (p + 1) = LE D S p := by
  unfold LL
  rw [if_neg (by omega), show p + 1 - 1 = p by omega]
theorem wdS_bd (D : Sto) (p i : Int) : 0 ≤ wdS D p i ∧ wdS D p i ≤ 18 := wid_bd _
theorem rAh_bd {D S : Sto} (h : OKD D S) (hS : OKS S) (Bg : Int → Int) {p : Int} (l : Int) (hp : p ≤ D 0 0) : 0 ≤ rAh D S Bg p l ∧ rAh D S Bg p l ≤ 6069 := mxI_bd (by decide) (fun q q0 q1 => (rch_bd h hS _ q0 (by omega)).2)
theorem indS_bd {D S : Sto} (h : OKD D S) (hS : OKS S) (Bg : Int → Int) {p : Int} (l : Int) (h0 : 0 ≤ p) (hp : p < D 0 0) : 0 ≤ indS D S Bg p l ∧ indS D S Bg p l ≤ 6069 := by
  unfold indS
  split
  · exact rch_bd h hS _ h0 hp
  · split
    · exact rAh_bd h hS Bg l (by omega)
    · omega
theorem roomS_bd {D S : Sto} (h : OKD D S) (hS : OKS S) (Bg : Int → Int) {p : Int} (l : Int) (h0 : 0 ≤ p) (hp : p < D 0 0) : 0 ≤ roomS D S Bg p l ∧ roomS D S Bg p l ≤ 99 := by
  have := indS_bd h hS Bg l h0 hp
  have h6 := h.2.2.2.2.2.1
  unfold roomS
  omega
theorem pushS_bd {D S : Sto} {Bg : Int → Int} {p c : Int} (hc : 0 ≤ c) (h : ∀ q, 0 ≤ q → q < p → Bg q + 9 ≤ c) : 0 ≤ pushS D S Bg p ∧ pushS D S Bg p ≤ c := by
  refine mxI_bd hc (fun q q0 q1 => (mxI_bd hc (fun j j0 j1 => ?_)).2)
  have := h q q0 q1
  unfold pshJ
  split <;> omega
theorem BF_ex (wd rm : Int → Int) : ∀ i : Nat, ∃ (u m : Int) (C : Int → Int), BF wd rm (i : Int) u m C
  | 0 => ⟨0, 0, fun _ => 0, Or.inl ⟨rfl, rfl, rfl⟩⟩
  | i + 1 => by
    obtain ⟨u, m, C, h⟩ := BF_ex wd rm i
    have e : ((i + 1 : Nat) : Int) = (i : Int) + 1 := by omega
    rw [e]
    by_cases hc : 0 < m ∧ u + 1 + wd (i : Int) ≤ rm (m - 1)
    · exact ⟨_, m, fun k => if k = m - 1 then C (m - 1) + 1 else C k, BF_ext h hc.1 hc.2 (if_pos rfl) (fun k hk => if_neg hk)⟩
    · exact ⟨_, m + 1, fun k => if k = m then 1 else C k, BF_new h (by omega) (by omega) (if_pos rfl) (fun k hk => if_neg hk)⟩
theorem Grd_ex (wd rm : Int → Int) {n : Int} (hn : 1 ≤ n) : ∃ (G : Int → Int) (m : Int), Grd wd rm n G m ∧ 1 ≤ m ∧ m ≤ n := by
  obtain ⟨u, m, C, h⟩ := BF_ex wd rm n.toNat
  rw [show ((n.toNat : Nat) : Int) = n by omega] at h
  have := BF_fin h hn
  exact ⟨_, _, this.1, this.2.1, this.2.2.1⟩
noncomputable def LG (D S : Sto) (p : Int) : Int → Int := (gPr (wdS D p) (rmS D S p) (D 1 p)).1
theorem LG_ok (D S : Sto) {p : Int} (hn : 1 ≤ D 1 p) : Grd (wdS D p) (rmS D S p) (D 1 p) (LG D S p) (LM D S p) ∧ 1 ≤ LM D S p ∧ LM D S p ≤ D 1 p := by
  obtain ⟨G, m, h, h1, h2⟩ := Grd_ex (wdS D p) (rmS D S p) hn
  have h3 : Grd (wdS D p) (rmS D S p) (D 1 p) (LG D S p) (LM D S p) := Classical.epsilon_spec (p := fun x : (Int → Int) × Int => Grd (wdS D p) (rmS D S p) (D 1 p) x.1 x.2) ⟨(G, m), h⟩
  have h4 := gPr_eq (fun k _ _ => (wdS_bd D p k).1) h
  refine ⟨h3, ?_, ?_⟩
  · show 1 ≤ (gPr (wdS D p) (rmS D S p) (D 1 p)).2
    omega
  · show (gPr (wdS D p) (rmS D S p) (D 1 p)).2 ≤ D 1 p
    omega
theorem fst_bd {D S : Sto} (h : OKD D S) {p : Int} (h0 : 0 ≤ p) (hp : p ≤ D 0 0) : 0 ≤ fstS D p ∧ fstS D p ≤ tot D := by
  have h1 := sumI_mono (f := D 1) (m := 0) (n := p) (by omega) h0 (fun k k0 k1 => by have := h.2.1 k k0 (by omega); omega)
  have h2 := sumI_mono (f := D 1) (m := p) (n := D 0 0) h0 hp (fun k k0 k1 => by have := h.2.1 k k0 (by omega); omega)
  rw [sumI_0] at h1
  exact ⟨h1, h2⟩
theorem fst_s (D : Sto) {p : Int} (h0 : 0 ≤ p) : fstS D (p + 1) = fstS D p + D 1 p := sumI_s h0
theorem LB_bd {D S : Sto} (h : OKD D S) : ∀ p : Nat, (p : Int) < D 0 0 → 0 ≤ LL D S p ∧ LL D S p ≤ LB D S p ∧ LB D S p ≤ fstS D p + 9 * p ∧ LB D S p < LE D S p ∧ LE D S p ≤ fstS D (p + 1) + 9 * p := by
  intro p
  induction p using Nat.strongRecOn with
  | ind p ih =>
    intro hp
    have hn := h.2.1 (p : Int) (by omega) hp
    have hm := (LG_ok D S (p := (p : Int)) hn).2
    have e1 := LB_eq D S (p := (p : Int)) (by omega)
    have e2 := LE_eq D S (p := (p : Int)) (by omega)
    have e3 := fst_s D (p := (p : Int)) (by omega)
    have hb : ∀ q, 0 ≤ q → q < (p : Int) → LB D S q + 9 ≤ fstS D p + 9 * p := by
      intro q q0 q1
      have := ih q.toNat (by omega) (by omega)
      rw [show ((q.toNat : Nat) : Int) = q by omega] at this
      have h5 := sumI_mono (f := D 1) (m := q) (n := p) q0 (by omega) (fun k k0 k1 => by have := h.2.1 k k0 (by omega); omega)
      have h6 : fstS D q ≤ fstS D p := h5
      omega
    have hf := fst_bd h (p := (p : Int)) (by omega) (by omega)
    have hpu := pushS_bd (D := D) (S := S) (Bg := LB D S) (p := (p : Int)) (c := fstS D p + 9 * p) (by omega) hb
    have hl : 0 ≤ LL D S p ∧ LL D S p ≤ fstS D p + 9 * p := by
      unfold LL
      by_cases hp0 : (p : Int) = 0
      · rw [if_pos hp0]; omega
      · rw [if_neg hp0]
        have := ih (p - 1) (by omega) (by omega)
        rw [show ((p - 1 : Nat) : Int) = (p : Int) - 1 by omega, show (p : Int) - 1 + 1 = p by omega] at this
        omega
    have hbg : LL D S p ≤ LB D S p ∧ LB D S p ≤ fstS D p + 9 * p := by
      rw [e1]
      unfold bgnS
      split <;> omega
    omega
theorem LBb {D S : Sto} (h : OKD D S) {p : Int} (h0 : 0 ≤ p) (hp : p < D 0 0) : 0 ≤ LL D S p ∧ LL D S p ≤ LB D S p ∧ LB D S p + D 1 p ≤ 143 ∧ LB D S p < LE D S p ∧ LE D S p ≤ 143 := by
  have := LB_bd h p.toNat (by omega)
  rw [show ((p.toNat : Nat) : Int) = p by omega] at this
  have h1 := fst_bd h (p := p + 1) (by omega) (by omega)
  have h2 := h.2.2.1
  have h3 := h.1.2
  have h4 := fst_s D h0
  omega
theorem LLb {D S : Sto} (h : OKD D S) {p : Int} (h0 : 0 ≤ p) (hp : p ≤ D 0 0) : 0 ≤ LL D S p ∧ LL D S p ≤ 143 := by
  by_cases hz : p = 0
  · subst hz; unfold LL; rw [if_pos rfl]; omega
  · have := LBb h (p := p - 1) (by omega) (by omega)
    unfold LL
    rw [if_neg hz]
    omega
/-- later paragraphs begin behind earlier ones -/
theorem LE_LB {D S : Sto} (h : OKD D S) {q p : Int} (q0 : 0 ≤ q) (hq : q < p) (hp : p < D 0 0) : LE D S q ≤ LL D S p := by
  have key : ∀ d : Nat, q + 1 + d ≤ p → LE D S q ≤ LL D S (q + 1 + d) := by
    intro d
    induction d with
    | zero => intro _; simp; rw [LL_s D S q0]; omega
    | succ d ih =>
      intro hd
      have h1 := ih (by omega)
      have h2 := LBb h (p := q + 1 + d) (by omega) (by omega)
      have e : q + 1 + ((d + 1 : Nat) : Int) = (q + 1 + d) + 1 := by omega
      rw [e, LL_s D S (by omega)]
      omega
  have := key (p - (q + 1)).toNat (by omega)
  rw [show q + 1 + (((p - (q + 1)).toNat : Nat) : Int) = p by omega] at this
  exact this
/-- the number of words in a line -/
theorem LC_ok {D S : Sto} (h : OKD D S) (hS : OKS S) {p : Int} (h0 : 0 ≤ p) (hp : p < D 0 0) : (∀ t, 0 ≤ t → t < LM D S p → 1 ≤ LC D S p t) ∧ sumI (LC D S p) (LM D S p) = D 1 p ∧ (∀ t, 0 ≤ t → t ≤ LM D S p → 0 ≤ sumI (LC D S p) t ∧ sumI (LC D S p) t ≤ D 1 p) := by
  have hn := h.2.1 p h0 hp
  obtain ⟨hG, h1, h2⟩ := LG_ok D S hn
  have hw : ∀ k, 0 ≤ k → k < D 1 p → 0 ≤ wdS D p k := fun k _ _ => (wdS_bd D p k).1
  have key : (∀ t, 0 ≤ t → t < LM D S p → 1 ≤ LC D S p t) ∧ sumI (LC D S p) (LM D S p) = D 1 p := by
    by_cases hm : D 5 4 = 1
    · have eP : ∀ t : Nat, (t : Int) ≤ LM D S p → sumI (LC D S p) t = evP (wdS D p) (rmS D S p) (D 1 p) (LM D S p) t := by
        intro t
        induction t with
        | zero => intro _; rfl
        | succ t ih =>
          intro ht
          rw [show ((t + 1 : Nat) : Int) = (t : Int) + 1 by omega, sumI_s (by omega), ih (by omega)]
          unfold LC
          rw [if_pos hm]
          rfl
      refine ⟨fun t t0 t1 => ?_, ?_⟩
      · have hp2 := evP_ok hw hG t.toNat (by omega)
        have := hp2.2.2.2.1 (by omega)
        unfold LC
        rw [if_pos hm]
        unfold evK
        omega
      · have hp2 := evP_ok hw hG (LM D S p).toNat (by omega)
        have e := eP (LM D S p).toNat (by omega)
        rw [show (((LM D S p).toNat : Nat) : Int) = LM D S p by omega] at e hp2
        rw [e]
        exact hp2.2.2.2.2 rfl
    · have e1 : ∀ t, LC D S p t = LG D S p (t + 1) - LG D S p t := fun t => by unfold LC; rw [if_neg hm]; rfl
      have eP : ∀ t : Nat, (t : Int) ≤ LM D S p → sumI (LC D S p) t = LG D S p t := by
        intro t
        induction t with
        | zero => intro _; show (0 : Int) = LG D S p 0; exact hG.2.1.symm
        | succ t ih =>
          intro ht
          rw [show ((t + 1 : Nat) : Int) = (t : Int) + 1 by omega, sumI_s (by omega), ih (by omega), e1]
          omega
      refine ⟨fun t t0 t1 => ?_, ?_⟩
      · rw [e1]
        have := (hG.2.2.2 t t0 t1).1
        omega
      · have e := eP (LM D S p).toNat (by omega)
        rw [show (((LM D S p).toNat : Nat) : Int) = LM D S p by omega] at e
        rw [e]
        exact hG.2.2.1
  refine ⟨key.1, key.2, fun t t0 t1 => ?_⟩
  have h3 := sumI_mono (f := LC D S p) (m := 0) (n := t) (by omega) t0 (fun k k0 k1 => by have := key.1 k k0 (by omega); omega)
  have h4 := sumI_mono (f := LC D S p) (m := t) (n := LM D S p) t0 t1 (fun k k0 k1 => by have := key.1 k k0 k1; omega)
  rw [sumI_0] at h3
  omega
