-- THE PURE PARSER: place, fault, where it broke, settings told, pages, shapes
abbrev PS : Type := Int × Int × Int × (Int → Int) × Sto × Sto
abbrev PS.x (s : PS) : Int := s.1
abbrev PS.f (s : PS) : Int := s.2.1
abbrev PS.b (s : PS) : Int := s.2.2.1
abbrev PS.T (s : PS) : Int → Int := s.2.2.2.1
abbrev PS.D (s : PS) : Sto := s.2.2.2.2.1
abbrev PS.S (s : PS) : Sto := s.2.2.2.2.2
def PS.bad (t : Int → Int) (n : Int) (s : PS) (why : Int) : PS := (s.x, if tkK t n s.x = 0 then 1 else why, tkS t n s.x, s.T, s.D, s.S)
def PS.nx (t : Int → Int) (n : Int) (s : PS) : PS := (tkE t n s.x, s.f, s.b, s.T, s.D, s.S)
def PS.wD (s : PS) (D : Sto) : PS := (s.x, s.f, s.b, s.T, D, s.S)
def PS.wS (s : PS) (S : Sto) : PS := (s.x, s.f, s.b, s.T, s.D, S)
def PS.wT (s : PS) (T : Int → Int) : PS := (s.x, s.f, s.b, T, s.D, s.S)
def pNum (t : Int → Int) (n lo hi : Int) (s : PS) : PS := if tkK t n s.x = 2 ∧ lo ≤ tkN t n s.x ∧ tkN t n s.x ≤ hi then s.nx t n else s.bad t n (if tkK t n s.x = 2 then 3 else 2)
def nmT (t : Int → Int) (s m : Int) (k : Nat) : Prop := m = ((strLn.getD k 0 : Nat) : Int) ∧ ∀ x, 0 ≤ x → x < m → t (s + x) = strC k x
set_option maxHeartbeats 4000000 in
set_option maxRecDepth 100000 in
theorem nmd_eq (σ : Sto) (k : Nat) : nmd σ k = nmT (σ 1) (σ 38 6) (σ 38 7) k := rfl
noncomputable def cif (p : Prop) (a b : Int) : Int := @ite Int p (Classical.propDecidable p) a b
set_option maxHeartbeats 4000000 in
set_option maxRecDepth 100000 in
theorem cif_pos {p : Prop} {a b : Int} (h : p) : cif p a b = a := by unfold cif; exact @if_pos p (Classical.propDecidable p) h Int a b
set_option maxHeartbeats 4000000 in
set_option maxRecDepth 100000 in
theorem cif_neg {p : Prop} {a b : Int} (h : ¬ p) : cif p a b = b := by unfold cif; exact @if_neg p (Classical.propDecidable p) h Int a b
noncomputable def nm6 (P : Nat → Prop) : Int := cif (P 3) 0 (cif (P 4) 1 (cif (P 5) 2 (cif (P 6) 3 (cif (P 7) 4 (cif (P 8) 5 (-4))))))
noncomputable def nm3 (P : Nat → Prop) : Int := cif (P 0) 0 (cif (P 1) 1 (cif (P 2) 2 (-4)))
-- the name at hand
abbrev PS.nm (t : Int → Int) (n : Int) (s : PS) : Nat → Prop := nmT t (tkS t n s.x) (tkE t n s.x - tkS t n s.x)
def upf (f : Int → Int) (k v : Int) : Int → Int := fun i => if i = k then v else f i
def updD (D : Sto) (r : Nat) (k v : Int) : Sto := fun r' k' => if r' = r ∧ k' = k then v else D r' k'
-- a setting, behind 'set', with its end
noncomputable def pSet (t : Int → Int) (n : Int) (s : PS) : PS :=
  if ¬ tkK t n s.x = 1 ∨ nm6 (s.nm t n) < 0 then s.bad t n 2
  else if ¬ s.T (nm6 (s.nm t n)) = 0 then s.bad t n 4
  else if ¬ (pNum t n (stV 0 (nm6 (s.nm t n))) (stV 1 (nm6 (s.nm t n))) (s.nx t n)).f = 0 then pNum t n (stV 0 (nm6 (s.nm t n))) (stV 1 (nm6 (s.nm t n))) (s.nx t n)
  else (fun q : PS => if tkK t n q.x = 4 then q.nx t n else q.bad t n 2) ((((s.nx t n).nx t n).wT (upf s.T (nm6 (s.nm t n)) 1)).wD (setSt s.D (nm6 (s.nm t n)) (tkN t n (s.nx t n).x)))
-- the steps of a shape: i are read, the least next depth is lo
def pStp (t : Int → Int) (n : Int) (s : PS) (lo hi : Int) : PS :=
  if ¬ (lo ≤ tkN t n s.x ∧ tkN t n s.x ≤ hi) then s.bad t n 3
  else if ¬ (pNum t n 0 60 (s.nx t n)).f = 0 then pNum t n 0 60 (s.nx t n)
  else ((s.nx t n).nx t n).wS (updD (updD (updD s.S 4 ((s.S 0 0 - 1) * 8 + s.S 3 (s.S 0 0 - 1)) (tkN t n s.x)) 5 ((s.S 0 0 - 1) * 8 + s.S 3 (s.S 0 0 - 1)) (tkN t n (s.nx t n).x)) 3 (s.S 0 0 - 1) (s.S 3 (s.S 0 0 - 1) + 1))
def pStps (t : Int → Int) (n h : Int) : Nat → Int → Int → PS → PS
  | 0, _, _, s => s.bad t n 2
  | k + 1, i, lo, s => if tkK t n s.x = 4 ∧ 0 < i then s.nx t n else if ¬ tkK t n s.x = 2 ∨ i = 8 then s.bad t n 2 else if ¬ (pStp t n s lo (if i = 0 then 0 else h - 1)).f = 0 then pStp t n s lo (if i = 0 then 0 else h - 1) else pStps t n h k (i + 1) (tkN t n s.x + 1) (pStp t n s lo (if i = 0 then 0 else h - 1))
def adS (S : Sto) (g h : Int) : Sto := fun r i => if r = 0 then S 0 0 + 1 else if r = 1 ∧ i = S 0 0 then g else if r = 2 ∧ i = S 0 0 then h else if r = 3 ∧ i = S 0 0 then 0 else S r i
-- a shape, behind 'shape', with its end
def pShp (t : Int → Int) (n : Int) (s : PS) : PS :=
  if ¬ (tkK t n s.x = 1 ∧ tkE t n s.x - tkS t n s.x = 1) then s.bad t n 2
  else if 0 ≤ fnd (s.S 1) (s.S 0 0) (t (tkS t n s.x) - 96) then s.bad t n 4
  else if ¬ (pNum t n 1 60 (s.nx t n)).f = 0 then pNum t n 1 60 (s.nx t n)
  else pStps t n (tkN t n (s.nx t n).x) 9 0 0 (((s.nx t n).nx t n).wS (adS s.S (t (tkS t n s.x) - 96) (tkN t n (s.nx t n).x)))
def adW (D : Sto) (c : Int) : Sto := updD (updD D 4 (tot D) c) 1 (D 0 0 - 1) (D 1 (D 0 0 - 1) + 1)
def adP (D : Sto) (g m : Int) : Sto := fun r i => if r = 0 then D 0 0 + 1 else if r = 1 ∧ i = D 0 0 then 0 else if r = 2 ∧ i = D 0 0 then g else if r = 3 ∧ i = D 0 0 then m else D r i
-- words up to the end of a paragraph: i are read
def pWds (t : Int → Int) (n : Int) : Nat → Int → PS → PS
  | 0, _, s => s.bad t n 5
  | k + 1, i, s => if tkK t n s.x = 4 ∧ 0 < i then s.nx t n else if ¬ tkK t n s.x = 1 then s.bad t n 2 else if 6 < tkE t n s.x - tkS t n s.x then s.bad t n 3 else if 80 ≤ tot s.D then s.bad t n 5 else pWds t n k (i + 1) ((s.nx t n).wD (adW s.D (wcd t (tkS t n s.x) (tkE t n s.x - tkS t n s.x))))
def pBdy (t : Int → Int) (n g m : Int) (s : PS) : PS := if ¬ tkK t n s.x = 3 then s.bad t n 2 else pWds t n 81 0 ((s.nx t n).wD (adP s.D g m))
-- a paragraph, behind 'par', with its end
def pPar (t : Int → Int) (n : Int) (s : PS) : PS :=
  if ¬ tkK t n s.x = 1 then pBdy t n (-4) 0 s
  else if ¬ tkE t n s.x - tkS t n s.x = 1 ∨ fnd (s.S 1) (s.S 0 0) (t (tkS t n s.x) - 96) < 0 then s.bad t n 2
  else if ¬ (pNum t n 2 5 (s.nx t n)).f = 0 then pNum t n 2 5 (s.nx t n)
  else pBdy t n (fnd (s.S 1) (s.S 0 0) (t (tkS t n s.x) - 96)) (tkN t n (s.nx t n).x) ((s.nx t n).nx t n)
noncomputable def pLin (t : Int → Int) (n : Int) (s : PS) : PS :=
  if ¬ tkK t n s.x = 1 ∨ nm3 (s.nm t n) < 0 then s.bad t n 2
  else if nm3 (s.nm t n) = 0 then pSet t n (s.nx t n)
  else if nm3 (s.nm t n) = 1 then (if 6 ≤ s.S 0 0 then s.bad t n 5 else pShp t n (s.nx t n))
  else (if 8 ≤ s.D 0 0 then s.bad t n 5 else pPar t n (s.nx t n))
-- all lines: the state at the end, and how many
noncomputable def pAll (t : Int → Int) (n : Int) : Nat → Int → PS → PS × Int
  | 0, l, s => (s, l)
  | k + 1, l, s => if tkK t n s.x = 5 then (s, l) else if ¬ (pLin t n s).f = 0 then (pLin t n s, l) else pAll t n k (l + 1) (pLin t n s)
