
theorem oI_nI {a : Int} (h : 0 ≤ a) : Int32.ofInt a = nI a.toNat := by
  obtain ⟨n, rfl⟩ := Int.eq_ofNat_of_zero_le h
  rfl
theorem bt_and (a b : Nat) : nI a &&& nI b = nI (a &&& b) := by
  apply Int32.toBitVec_inj.1
  show BitVec.ofNat 32 a &&& BitVec.ofNat 32 b = BitVec.ofNat 32 (a &&& b)
  apply BitVec.eq_of_getLsbD_eq
  intro i hi
  simp [hi]
theorem bt_or (a b : Nat) : nI a ||| nI b = nI (a ||| b) := by
  apply Int32.toBitVec_inj.1
  show BitVec.ofNat 32 a ||| BitVec.ofNat 32 b = BitVec.ofNat 32 (a ||| b)
  apply BitVec.eq_of_getLsbD_eq
  intro i hi
  simp [hi]
theorem bt_sh : ∀ n : Nat, n < 32 → ((nI n &&& 31).toBitVec.smod 32).toNat = n := by decide +kernel
theorem bt_and31 (a : Int) : Int32.ofInt a &&& 31 = Int32.ofInt (a % 32) := by
  have e : (31 : Int32).toBitVec.toNat = 2 ^ 5 - 1 := by decide
  rw [pk_and _ 5 e, oI_nI (a := a % 32) (by omega)]
  congr 1
  show (BitVec.ofInt 32 a).toNat % 2 ^ 5 = (a % 32).toNat
  rw [BitVec.toNat_ofInt]
  omega
section BITR
variable {cc : ByteArray} {own : String} {rt : Option FieldType} {d pc : Nat} {loc : List (Option MV)} {st : List MV} {σ : Sto} {Q : Option MV → Sto → Prop}
theorem wp_iand31 {a : Int} (hd : decode cc pc = .ok (.iand, 1)) (h0 : True) (k : Wp cc own rt d (pc + 1) loc (mI (a % 32) :: st) σ Q) : Wp cc own rt d pc loc (mI 31 :: mI a :: st) σ Q := by
  intro g p l e s m args below meth c H locs ls C hP hS hσ hl hst
  refine lv_iand C.1 C.2.1 hd ?_
  have e1 : Int32.ofInt a &&& Int32.ofInt 31 = Int32.ofInt (a % 32) := bt_and31 a
  rw [e1]
  exact k g p l e s m args below meth c H locs ls C hP hS hσ hl ⟨⟨by omega, by omega⟩, hst.2.2⟩
theorem wp_ishr {a s : Int} (hd : decode cc pc = .ok (.ishr, 1)) (h0 : 0 ≤ a ∧ 0 ≤ s ∧ s < 32) (k : Wp cc own rt d (pc + 1) loc (mI (a / 2 ^ s.toNat) :: st) σ Q) : Wp cc own rt d pc loc (mI s :: mI a :: st) σ Q := by
  intro g p l e s' m args below meth c H locs ls C hP hS hσ hl hst
  have oa : okI a := hst.2.1
  have e1 : Int32.ofInt a >>> (Int32.ofInt s &&& 31) = Int32.ofInt (a / 2 ^ s.toNat) := by
    rw [oI_nI h0.1, oI_nI h0.2.1, pk_shrN (by have := oa.2; omega) _ s.toNat (bt_sh _ (by omega)), oI_nI (Int.ediv_nonneg h0.1 (Int.pow_nonneg (by decide)))]
    congr 1
    obtain ⟨n, rfl⟩ := Int.eq_ofNat_of_zero_le h0.1
    have e3 : ((n : Int) / 2 ^ s.toNat) = ((n / 2 ^ s.toNat : Nat) : Int) := by rw [Int.natCast_ediv, Int.natCast_pow]; rfl
    rw [e3, Int.toNat_natCast, Int.toNat_natCast]
  have h1 : 0 ≤ a / 2 ^ s.toNat := Int.ediv_nonneg h0.1 (Int.pow_nonneg (by decide))
  have h2 : a / 2 ^ s.toNat ≤ a := Int.ediv_le_self _ h0.1
  refine lv_ishr C.1 C.2.1 hd ?_
  rw [e1]
  exact k g p l e s' m args below meth c H locs ls C hP hS hσ hl ⟨⟨by omega, by have := oa.2; omega⟩, hst.2.2⟩
theorem wp_ishl {a s : Int} (hd : decode cc pc = .ok (.ishl, 1)) (h0 : 0 ≤ a ∧ 0 ≤ s ∧ s < 32 ∧ a * 2 ^ s.toNat < 2147483648) (k : Wp cc own rt d (pc + 1) loc (mI (a * 2 ^ s.toNat) :: st) σ Q) : Wp cc own rt d pc loc (mI s :: mI a :: st) σ Q := by
  intro g p l e s' m args below meth c H locs ls C hP hS hσ hl hst
  have hnn : 0 ≤ a * 2 ^ s.toNat := Int.mul_nonneg h0.1 (Int.pow_nonneg (by decide))
  have e2 : (a * 2 ^ s.toNat).toNat = a.toNat * 2 ^ s.toNat := by
    obtain ⟨n, rfl⟩ := Int.eq_ofNat_of_zero_le h0.1
    have e3 : ((n : Int) * 2 ^ s.toNat) = ((n * 2 ^ s.toNat : Nat) : Int) := by rw [Int.natCast_mul, Int.natCast_pow]; rfl
    rw [e3, Int.toNat_natCast, Int.toNat_natCast]
  have e1 : Int32.ofInt a <<< (Int32.ofInt s &&& 31) = Int32.ofInt (a * 2 ^ s.toNat) := by
    rw [oI_nI h0.1, oI_nI h0.2.1, pk_shlN _ s.toNat (bt_sh _ (by omega)) (by rw [← e2]; omega), oI_nI hnn, e2]
  refine lv_ishl C.1 C.2.1 hd ?_
  rw [e1]
  exact k g p l e s' m args below meth c H locs ls C hP hS hσ hl ⟨⟨by omega, h0.2.2.2⟩, hst.2.2⟩
theorem wp_iand {a b : Int} (hd : decode cc pc = .ok (.iand, 1)) (h0 : 0 ≤ a ∧ 0 ≤ b) (k : Wp cc own rt d (pc + 1) loc (mI ((a.toNat &&& b.toNat : Nat) : Int) :: st) σ Q) : Wp cc own rt d pc loc (mI b :: mI a :: st) σ Q := by
  intro g p l e s m args below meth c H locs ls C hP hS hσ hl hst
  have oa : okI a := hst.2.1
  have e1 : Int32.ofInt a &&& Int32.ofInt b = Int32.ofInt ((a.toNat &&& b.toNat : Nat) : Int) := by
    rw [oI_nI h0.1, oI_nI h0.2, bt_and]
    rfl
  refine lv_iand C.1 C.2.1 hd ?_
  rw [e1]
  have : a.toNat &&& b.toNat ≤ a.toNat := Nat.and_le_left
  exact k g p l e s m args below meth c H locs ls C hP hS hσ hl ⟨⟨by omega, by have := oa.2; omega⟩, hst.2.2⟩
theorem wp_ior {a b : Int} (hd : decode cc pc = .ok (.ior, 1)) (h0 : 0 ≤ a ∧ 0 ≤ b) (k : Wp cc own rt d (pc + 1) loc (mI ((a.toNat ||| b.toNat : Nat) : Int) :: st) σ Q) : Wp cc own rt d pc loc (mI b :: mI a :: st) σ Q := by
  intro g p l e s m args below meth c H locs ls C hP hS hσ hl hst
  have oa : okI a := hst.2.1
  have ob : okI b := hst.1
  have e1 : Int32.ofInt a ||| Int32.ofInt b = Int32.ofInt ((a.toNat ||| b.toNat : Nat) : Int) := by
    rw [oI_nI h0.1, oI_nI h0.2, bt_or]
    rfl
  refine lv_ior C.1 C.2.1 hd ?_
  rw [e1]
  have : a.toNat ||| b.toNat < 2 ^ 31 := Nat.or_lt_two_pow (by have := oa.2; omega) (by have := ob.2; omega)
  exact k g p l e s m args below meth c H locs ls C hP hS hσ hl ⟨⟨by omega, by omega⟩, hst.2.2⟩
end BITR
/-- letters of a word -/
def ltr (c k : Int) : Int := c / 2 ^ (5 * k).toNat % 32
def lwd (l : Int) : Int := if l = 0 then 0 else if l = 9 ∨ l = 10 ∨ l = 12 ∨ l = 20 then 1 else if l = 13 ∨ l = 23 then 3 else 2
def nlt (c : Int) : Int := sumI (fun k => if ltr c k = 0 then 0 else 1) 6
def wid (c : Int) : Int := sumI (fun k => lwd (ltr c k)) 6
theorem ltr_bd (c k : Int) : 0 ≤ ltr c k ∧ ltr c k < 32 := by unfold ltr; omega
theorem lwd_bd (l : Int) : 0 ≤ lwd l ∧ lwd l ≤ 3 := by
  unfold lwd
  split
  · omega
  · split
    · omega
    · split <;> omega
