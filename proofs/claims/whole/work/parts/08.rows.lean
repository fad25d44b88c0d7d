theorem oL_toInt {z : Int} (h : okL z) : (Int64.ofInt z).toInt = z := Int64.toInt_ofInt_of_le h.1 h.2
theorem oL_cmp {a b : Int} (ha : okL a) (hb : okL b) : lg_cmp (Int64.ofInt a) (Int64.ofInt b) = if b < a then 1 else if a = b then 0 else -1 := by
  unfold lg_cmp
  simp only [gt_iff_lt, Int64.lt_iff_toInt_lt, ← Int64.toInt_inj, oL_toInt ha, oL_toInt hb]
theorem i8_id {a : Int} (h0 : -128 ≤ a) (h1 : a < 128) : (Int32.ofInt a).toInt8.toInt32 = Int32.ofInt a := by
  apply Int32.toInt_inj.mp
  have ho : okI a := ⟨by omega, by omega⟩
  rw [Int8.toInt_toInt32, Int32.toInt_toInt8, oI_toInt ho, Int.bmod_def]
  split <;> omega
theorem tv_cat1 {g : GG} {v : MV} (h : ∀ z, v ≠ mL z) : (tv g v).category = 1 := by
  rcases v with z | z | z
  · rfl
  · exact absurd rfl (h z)
  · rfl
section ROWS
variable {cc : ByteArray} {own : String} {rt : Option FieldType} {d pc : Nat} {loc : List (Option MV)} {st : List MV} {σ : Sto} {Q : Option MV → Sto → Prop}
theorem wp_iconst {n : Int} (hd : decode cc pc = .ok (.iconst n, 1)) (hn : okI n) (k : Wp cc own rt d (pc + 1) loc (mI n :: st) σ Q) : Wp cc own rt d pc loc st σ Q := by
  intro g p l e s m args below meth c H locs ls C hP hS hσ hl hst
  exact lv_iconst C.1 C.2.1 hd rfl (k g p l e s m args below meth c H locs ls C hP hS hσ hl ⟨hn, hst⟩)
theorem wp_bipush {n : Int} (hd : decode cc pc = .ok (.bipush n, 2)) (hn : (Int8.ofInt n).toInt32 = Int32.ofInt n) (ho : okI n) (k : Wp cc own rt d (pc + 2) loc (mI n :: st) σ Q) : Wp cc own rt d pc loc st σ Q := by
  intro g p l e s m args below meth c H locs ls C hP hS hσ hl hst
  exact lv_bipush C.1 C.2.1 hd hn (k g p l e s m args below meth c H locs ls C hP hS hσ hl ⟨ho, hst⟩)
theorem wp_sipush {n : Int} (hd : decode cc pc = .ok (.sipush n, 3)) (hn : (Int16.ofInt n).toInt32 = Int32.ofInt n) (ho : okI n) (k : Wp cc own rt d (pc + 3) loc (mI n :: st) σ Q) : Wp cc own rt d pc loc st σ Q := by
  intro g p l e s m args below meth c H locs ls C hP hS hσ hl hst
  exact lv_sipush C.1 C.2.1 hd hn (k g p l e s m args below meth c H locs ls C hP hS hσ hl ⟨ho, hst⟩)
theorem wp_lconst {n : Fin 2} {z : Int} (hd : decode cc pc = .ok (.lconst n, 1)) (hn : Int64.ofNat (n : Nat) = Int64.ofInt z) (ho : okL z) (k : Wp cc own rt d (pc + 1) loc (mL z :: st) σ Q) : Wp cc own rt d pc loc st σ Q := by
  intro g p l e s m args below meth c H locs ls C hP hS hσ hl hst
  exact lv_lconst C.1 C.2.1 hd hn (k g p l e s m args below meth c H locs ls C hP hS hσ hl ⟨ho, hst⟩)
theorem wp_ldc {i : Nat} {v : Int32} {z : Int} (hd : decode cc pc = .ok (.ldc i, 2)) (hc : Cond.constant own i v ∈ gtb) (hv : Int32.ofInt z = v) (ho : okI z) (k : Wp cc own rt d (pc + 2) loc (mI z :: st) σ Q) : Wp cc own rt d pc loc st σ Q := by
  intro g p l e s m args below meth c H locs ls C hP hS hσ hl hst
  refine lv_ldc C.1 C.2.1 C.2.2.2.2.1 (C.2.2.2.2.2.1 _ hc) hd ?_
  rw [← hv]
  exact k g p l e s m args below meth c H locs ls C hP hS hσ hl ⟨ho, hst⟩
theorem wp_ldc_w {i : Nat} {v : Int32} {z : Int} (hd : decode cc pc = .ok (.ldc_w i, 3)) (hc : Cond.constant own i v ∈ gtb) (hv : Int32.ofInt z = v) (ho : okI z) (k : Wp cc own rt d (pc + 3) loc (mI z :: st) σ Q) : Wp cc own rt d pc loc st σ Q := by
  intro g p l e s m args below meth c H locs ls C hP hS hσ hl hst
  refine lv_ldcw C.1 C.2.1 C.2.2.2.2.1 (C.2.2.2.2.2.1 _ hc) hd ?_
  rw [← hv]
  exact k g p l e s m args below meth c H locs ls C hP hS hσ hl ⟨ho, hst⟩
theorem wp_ldc2 {i : Nat} {v : Int64} {z : Int} (hd : decode cc pc = .ok (.ldc2_w i, 3)) (hc : Cond.constantLong own i v ∈ gtb) (hv : Int64.ofInt z = v) (ho : okL z) (k : Wp cc own rt d (pc + 3) loc (mL z :: st) σ Q) : Wp cc own rt d pc loc st σ Q := by
  intro g p l e s m args below meth c H locs ls C hP hS hσ hl hst
  refine lv_ldc2 C.1 C.2.1 C.2.2.2.2.1 (C.2.2.2.2.2.1 _ hc) hd ?_
  rw [← hv]
  exact k g p l e s m args below meth c H locs ls C hP hS hσ hl ⟨ho, hst⟩
theorem wp_iload_n {k : Fin 4} {i : Nat} {z : Int} (hd : decode cc pc = .ok (.iload_n k, 1)) (hi : (k : Nat) = i) (hk : loc[i]? = some (some (mI z))) (k : Wp cc own rt d (pc + 1) loc (mI z :: st) σ Q) : Wp cc own rt d pc loc st σ Q := by
  intro g p l e s m args below meth c H locs ls C hP hS hσ hl hst
  exact lv_iload_n C.1 C.2.1 hd hi (lok_at hl hk).1 (k g p l e s m args below meth c H locs ls C hP hS hσ hl ⟨(lok_at hl hk).2, hst⟩)
theorem wp_iload {i : Nat} {z : Int} (hd : decode cc pc = .ok (.iload i, 2)) (hk : loc[i]? = some (some (mI z))) (k : Wp cc own rt d (pc + 2) loc (mI z :: st) σ Q) : Wp cc own rt d pc loc st σ Q := by
  intro g p l e s m args below meth c H locs ls C hP hS hσ hl hst
  exact lv_iload C.1 C.2.1 hd (lok_at hl hk).1 (k g p l e s m args below meth c H locs ls C hP hS hσ hl ⟨(lok_at hl hk).2, hst⟩)
theorem wp_lload_n {k : Fin 4} {i : Nat} {z : Int} (hd : decode cc pc = .ok (.lload_n k, 1)) (hi : (k : Nat) = i) (hk : loc[i]? = some (some (mL z))) (k : Wp cc own rt d (pc + 1) loc (mL z :: st) σ Q) : Wp cc own rt d pc loc st σ Q := by
  intro g p l e s m args below meth c H locs ls C hP hS hσ hl hst
  exact lv_lload_n C.1 C.2.1 hd hi (lok_at hl hk).1 (k g p l e s m args below meth c H locs ls C hP hS hσ hl ⟨(lok_at hl hk).2, hst⟩)
theorem wp_lload {i : Nat} {z : Int} (hd : decode cc pc = .ok (.lload i, 2)) (hk : loc[i]? = some (some (mL z))) (k : Wp cc own rt d (pc + 2) loc (mL z :: st) σ Q) : Wp cc own rt d pc loc st σ Q := by
  intro g p l e s m args below meth c H locs ls C hP hS hσ hl hst
  exact lv_lload C.1 C.2.1 hd (lok_at hl hk).1 (k g p l e s m args below meth c H locs ls C hP hS hσ hl ⟨(lok_at hl hk).2, hst⟩)
theorem wp_aload_n {k : Fin 4} {i : Nat} {z : Nat} (hd : decode cc pc = .ok (.aload_n k, 1)) (hi : (k : Nat) = i) (hk : loc[i]? = some (some (mR z))) (k : Wp cc own rt d (pc + 1) loc (mR z :: st) σ Q) : Wp cc own rt d pc loc st σ Q := by
  intro g p l e s m args below meth c H locs ls C hP hS hσ hl hst
  exact lv_aload_n C.1 C.2.1 hd hi (lok_at hl hk).1 (k g p l e s m args below meth c H locs ls C hP hS hσ hl ⟨(lok_at hl hk).2, hst⟩)
theorem wp_aload {i : Nat} {z : Nat} (hd : decode cc pc = .ok (.aload i, 2)) (hk : loc[i]? = some (some (mR z))) (k : Wp cc own rt d (pc + 2) loc (mR z :: st) σ Q) : Wp cc own rt d pc loc st σ Q := by
  intro g p l e s m args below meth c H locs ls C hP hS hσ hl hst
  exact lv_aload C.1 C.2.1 hd (lok_at hl hk).1 (k g p l e s m args below meth c H locs ls C hP hS hσ hl ⟨(lok_at hl hk).2, hst⟩)
theorem wp_istore_n {k : Fin 4} {i : Nat} {z : Int} (hd : decode cc pc = .ok (.istore_n k, 1)) (hi : (k : Nat) = i) (hlt : i < loc.length) (hn : noL loc i = true) (k : Wp cc own rt d (pc + 1) (loc.set i (some (mI z))) st σ Q) : Wp cc own rt d pc loc (mI z :: st) σ Q := by
  intro g p l e s m args below meth c H locs ls C hP hS hσ hl hst
  exact lv_istore_n C.1 C.2.1 hd hi hl.1 hlt rfl (fun ls2 h2 => k g p l e s m args below meth c H locs ls2 (by rw [List.length_set]; exact C) hP hS hσ (lok_set h2 hn hl.2 hst.1) hst.2)
theorem wp_istore {i : Nat} {z : Int} (hd : decode cc pc = .ok (.istore i, 2)) (hlt : i < loc.length) (hn : noL loc i = true) (k : Wp cc own rt d (pc + 2) (loc.set i (some (mI z))) st σ Q) : Wp cc own rt d pc loc (mI z :: st) σ Q := by
  intro g p l e s m args below meth c H locs ls C hP hS hσ hl hst
  exact lv_istore C.1 C.2.1 hd hl.1 hlt rfl (fun ls2 h2 => k g p l e s m args below meth c H locs ls2 (by rw [List.length_set]; exact C) hP hS hσ (lok_set h2 hn hl.2 hst.1) hst.2)
theorem wp_astore_n {k : Fin 4} {i : Nat} {z : Nat} (hd : decode cc pc = .ok (.astore_n k, 1)) (hi : (k : Nat) = i) (hlt : i < loc.length) (hn : noL loc i = true) (k : Wp cc own rt d (pc + 1) (loc.set i (some (mR z))) st σ Q) : Wp cc own rt d pc loc (mR z :: st) σ Q := by
  intro g p l e s m args below meth c H locs ls C hP hS hσ hl hst
  exact lv_astore_n C.1 C.2.1 hd hi hl.1 hlt rfl (fun ls2 h2 => k g p l e s m args below meth c H locs ls2 (by rw [List.length_set]; exact C) hP hS hσ (lok_set h2 hn hl.2 hst.1) hst.2)
theorem wp_astore {i : Nat} {z : Nat} (hd : decode cc pc = .ok (.astore i, 2)) (hlt : i < loc.length) (hn : noL loc i = true) (k : Wp cc own rt d (pc + 2) (loc.set i (some (mR z))) st σ Q) : Wp cc own rt d pc loc (mR z :: st) σ Q := by
  intro g p l e s m args below meth c H locs ls C hP hS hσ hl hst
  exact lv_astore C.1 C.2.1 hd hl.1 hlt rfl (fun ls2 h2 => k g p l e s m args below meth c H locs ls2 (by rw [List.length_set]; exact C) hP hS hσ (lok_set h2 hn hl.2 hst.1) hst.2)
theorem wp_iinc {i : Nat} {n z : Int} (hd : decode cc pc = .ok (.iinc i n, 3)) (hk : loc[i]? = some (some (mI z))) (hn : noL loc i = true) (ho : okI (z + n)) (k : Wp cc own rt d (pc + 3) (loc.set i (some (mI (z + n)))) st σ Q) : Wp cc own rt d pc loc st σ Q := by
  intro g p l e s m args below meth c H locs ls C hP hS hσ hl hst
  have hm := als_mem (g := g) loc 0 i hk
  rw [Nat.zero_add] at hm
  obtain ⟨kk, hkk⟩ := List.getElem?_of_mem hm
  have hlt : i < loc.length := (List.getElem?_eq_some_iff.mp hk).1
  exact lv_iinc (v := Int32.ofInt (z + n)) C.1 C.2.1 hd hl.1 hkk (oI_add z n) hlt rfl (fun ls2 h2 => k g p l e s m args below meth c H locs ls2 (by rw [List.length_set]; exact C) hP hS hσ (lok_set (v := mI (z + n)) h2 hn hl.2 ho) hst)
theorem wp_iadd {a b : Int} (hd : decode cc pc = .ok (.iadd, 1)) (ho : okI (a + b)) (k : Wp cc own rt d (pc + 1) loc (mI (a + b) :: st) σ Q) : Wp cc own rt d pc loc (mI b :: mI a :: st) σ Q := by
  intro g p l e s m args below meth c H locs ls C hP hS hσ hl hst
  refine lv_iadd C.1 C.2.1 hd ?_
  rw [oI_add]
  exact k g p l e s m args below meth c H locs ls C hP hS hσ hl ⟨ho, hst.2.2⟩
theorem wp_isub {a b : Int} (hd : decode cc pc = .ok (.isub, 1)) (ho : okI (a - b)) (k : Wp cc own rt d (pc + 1) loc (mI (a - b) :: st) σ Q) : Wp cc own rt d pc loc (mI b :: mI a :: st) σ Q := by
  intro g p l e s m args below meth c H locs ls C hP hS hσ hl hst
  refine lv_isub C.1 C.2.1 hd ?_
  rw [oI_sub]
  exact k g p l e s m args below meth c H locs ls C hP hS hσ hl ⟨ho, hst.2.2⟩
theorem wp_imul {a b : Int} (hd : decode cc pc = .ok (.imul, 1)) (ho : okI (a * b)) (k : Wp cc own rt d (pc + 1) loc (mI (a * b) :: st) σ Q) : Wp cc own rt d pc loc (mI b :: mI a :: st) σ Q := by
  intro g p l e s m args below meth c H locs ls C hP hS hσ hl hst
  refine lv_imul C.1 C.2.1 hd ?_
  rw [oI_mul]
  exact k g p l e s m args below meth c H locs ls C hP hS hσ hl ⟨ho, hst.2.2⟩
theorem wp_idiv {a b : Int} (hd : decode cc pc = .ok (.idiv, 1)) (h0 : 0 ≤ a) (hb : 0 < b) (k : Wp cc own rt d (pc + 1) loc (mI (a / b) :: st) σ Q) : Wp cc own rt d pc loc (mI b :: mI a :: st) σ Q := by
  intro g p l e s m args below meth c H locs ls C hP hS hσ hl hst
  have ha : okI a := hst.2.1
  have hb2 : okI b := hst.1
  have e9 : a.tdiv b = a / b := Int.tdiv_eq_ediv_of_nonneg h0
  have h1 : 0 ≤ a / b := Int.ediv_nonneg h0 (by omega)
  have h2 : a / b ≤ a := Int.ediv_le_self b h0
  have ho : okI (a / b) := ⟨by omega, by have := ha.2; omega⟩
  refine lv_idiv C.1 C.2.1 hd ?_ ?_
  · rw [← oI_0, oI_eq hb2 ok0]; omega
  · rw [oI_div ha hb2 (by rw [e9]; exact ho), e9]
    exact k g p l e s m args below meth c H locs ls C hP hS hσ hl ⟨ho, hst.2.2⟩
theorem wp_ladd {a b : Int} (hd : decode cc pc = .ok (.ladd, 1)) (ho : okL (a + b)) (k : Wp cc own rt d (pc + 1) loc (mL (a + b) :: st) σ Q) : Wp cc own rt d pc loc (mL b :: mL a :: st) σ Q := by
  intro g p l e s m args below meth c H locs ls C hP hS hσ hl hst
  refine lv_ladd C.1 C.2.1 hd ?_
  rw [← Int64.ofInt_add]
  exact k g p l e s m args below meth c H locs ls C hP hS hσ hl ⟨ho, hst.2.2⟩
theorem wp_lmul {a b : Int} (hd : decode cc pc = .ok (.lmul, 1)) (ho : okL (a * b)) (k : Wp cc own rt d (pc + 1) loc (mL (a * b) :: st) σ Q) : Wp cc own rt d pc loc (mL b :: mL a :: st) σ Q := by
  intro g p l e s m args below meth c H locs ls C hP hS hσ hl hst
  refine lv_lmul C.1 C.2.1 hd ?_
  rw [← Int64.ofInt_mul]
  exact k g p l e s m args below meth c H locs ls C hP hS hσ hl ⟨ho, hst.2.2⟩
theorem wp_i2l {a : Int} (hd : decode cc pc = .ok (.i2l, 1)) (k : Wp cc own rt d (pc + 1) loc (mL a :: st) σ Q) : Wp cc own rt d pc loc (mI a :: st) σ Q := by
  intro g p l e s m args below meth c H locs ls C hP hS hσ hl hst
  have ha : okI a := hst.1
  have ho : okL a := ⟨by have := ha.1; omega, by have := ha.2; omega⟩
  refine lv_i2l C.1 C.2.1 hd (v := Int64.ofInt a) ?_ (k g p l e s m args below meth c H locs ls C hP hS hσ hl ⟨ho, hst.2⟩)
  apply Int64.toInt_inj.mp
  rw [Int32.toInt_toInt64, oI_toInt ha, oL_toInt ho]
theorem wp_i2b {a : Int} (hd : decode cc pc = .ok (.i2b, 1)) (h0 : -128 ≤ a) (h1 : a < 128) (k : Wp cc own rt d (pc + 1) loc (mI a :: st) σ Q) : Wp cc own rt d pc loc (mI a :: st) σ Q := by
  intro g p l e s m args below meth c H locs ls C hP hS hσ hl hst
  refine lv_i2b C.1 C.2.1 hd (v := Int32.ofInt a) (i8_id h0 h1) (k g p l e s m args below meth c H locs ls C hP hS hσ hl hst)
theorem lc_lt (a b : Int) : ((if b < a then (1 : Int32) else if a = b then 0 else -1) < 0) ↔ (a < b) := by
  rcases Int.lt_trichotomy a b with q | q | q
  · rw [if_neg (by omega), if_neg (by omega)]
    first | exact iff_of_true (by decide) (by omega) | exact iff_of_false (by decide) (by omega)
  · rw [if_neg (by omega), if_pos q]
    first | exact iff_of_true (by decide) (by omega) | exact iff_of_false (by decide) (by omega)
  · rw [if_pos q]
    first | exact iff_of_true (by decide) (by omega) | exact iff_of_false (by decide) (by omega)
theorem wp_lcmp_lt {a b off : Int} (tgt : Nat) (hd : decode cc pc = .ok (.lcmp, 1)) (hd2 : decode cc (pc + 1) = .ok (.ifCond .lt off, 3)) (ht : ((pc + 1 : Nat) : Int) + off = (tgt : Int)) (kt : a < b → Wp cc own rt d tgt loc st σ Q) (kf : ¬ (a < b) → Wp cc own rt d (pc + 4) loc st σ Q) : Wp cc own rt d pc loc (mL b :: mL a :: st) σ Q := by
  intro g p l e s m args below meth c H locs ls C hP hS hσ hl hst
  have ha : okL a := hst.2.1
  have hb : okL b := hst.1
  refine W.lcmp C.1 C.2.1 hd ?_
  rw [oL_cmp ha hb]
  refine lv_if_lt (tgt := tgt) C.1 C.2.1 hd2 ht (fun h => ?_) (fun h => ?_)
  · exact kt ((lc_lt a b).mp h) g p l e s m args below meth c H locs ls C hP hS hσ hl hst.2.2
  · exact kf (fun q => h ((lc_lt a b).mpr q)) g p l e s m args below meth c H locs ls C hP hS hσ hl hst.2.2
theorem lc_ge (a b : Int) : (0 ≤ (if b < a then (1 : Int32) else if a = b then 0 else -1)) ↔ (b ≤ a) := by
  rcases Int.lt_trichotomy a b with q | q | q
  · rw [if_neg (by omega), if_neg (by omega)]
    first | exact iff_of_true (by decide) (by omega) | exact iff_of_false (by decide) (by omega)
  · rw [if_neg (by omega), if_pos q]
    first | exact iff_of_true (by decide) (by omega) | exact iff_of_false (by decide) (by omega)
  · rw [if_pos q]
    first | exact iff_of_true (by decide) (by omega) | exact iff_of_false (by decide) (by omega)
theorem wp_lcmp_ge {a b off : Int} (tgt : Nat) (hd : decode cc pc = .ok (.lcmp, 1)) (hd2 : decode cc (pc + 1) = .ok (.ifCond .ge off, 3)) (ht : ((pc + 1 : Nat) : Int) + off = (tgt : Int)) (kt : b ≤ a → Wp cc own rt d tgt loc st σ Q) (kf : ¬ (b ≤ a) → Wp cc own rt d (pc + 4) loc st σ Q) : Wp cc own rt d pc loc (mL b :: mL a :: st) σ Q := by
  intro g p l e s m args below meth c H locs ls C hP hS hσ hl hst
  have ha : okL a := hst.2.1
  have hb : okL b := hst.1
  refine W.lcmp C.1 C.2.1 hd ?_
  rw [oL_cmp ha hb]
  refine lv_if_ge (tgt := tgt) C.1 C.2.1 hd2 ht (fun h => ?_) (fun h => ?_)
  · exact kt ((lc_ge a b).mp h) g p l e s m args below meth c H locs ls C hP hS hσ hl hst.2.2
  · exact kf (fun q => h ((lc_ge a b).mpr q)) g p l e s m args below meth c H locs ls C hP hS hσ hl hst.2.2
theorem lc_gt (a b : Int) : (0 < (if b < a then (1 : Int32) else if a = b then 0 else -1)) ↔ (b < a) := by
  rcases Int.lt_trichotomy a b with q | q | q
  · rw [if_neg (by omega), if_neg (by omega)]
    first | exact iff_of_true (by decide) (by omega) | exact iff_of_false (by decide) (by omega)
  · rw [if_neg (by omega), if_pos q]
    first | exact iff_of_true (by decide) (by omega) | exact iff_of_false (by decide) (by omega)
  · rw [if_pos q]
    first | exact iff_of_true (by decide) (by omega) | exact iff_of_false (by decide) (by omega)
theorem wp_lcmp_gt {a b off : Int} (tgt : Nat) (hd : decode cc pc = .ok (.lcmp, 1)) (hd2 : decode cc (pc + 1) = .ok (.ifCond .gt off, 3)) (ht : ((pc + 1 : Nat) : Int) + off = (tgt : Int)) (kt : b < a → Wp cc own rt d tgt loc st σ Q) (kf : ¬ (b < a) → Wp cc own rt d (pc + 4) loc st σ Q) : Wp cc own rt d pc loc (mL b :: mL a :: st) σ Q := by
  intro g p l e s m args below meth c H locs ls C hP hS hσ hl hst
  have ha : okL a := hst.2.1
  have hb : okL b := hst.1
  refine W.lcmp C.1 C.2.1 hd ?_
  rw [oL_cmp ha hb]
  refine lv_if_gt (tgt := tgt) C.1 C.2.1 hd2 ht (fun h => ?_) (fun h => ?_)
  · exact kt ((lc_gt a b).mp h) g p l e s m args below meth c H locs ls C hP hS hσ hl hst.2.2
  · exact kf (fun q => h ((lc_gt a b).mpr q)) g p l e s m args below meth c H locs ls C hP hS hσ hl hst.2.2
theorem lc_le (a b : Int) : ((if b < a then (1 : Int32) else if a = b then 0 else -1) ≤ 0) ↔ (a ≤ b) := by
  rcases Int.lt_trichotomy a b with q | q | q
  · rw [if_neg (by omega), if_neg (by omega)]
    first | exact iff_of_true (by decide) (by omega) | exact iff_of_false (by decide) (by omega)
  · rw [if_neg (by omega), if_pos q]
    first | exact iff_of_true (by decide) (by omega) | exact iff_of_false (by decide) (by omega)
  · rw [if_pos q]
    first | exact iff_of_true (by decide) (by omega) | exact iff_of_false (by decide) (by omega)
theorem wp_lcmp_le {a b off : Int} (tgt : Nat) (hd : decode cc pc = .ok (.lcmp, 1)) (hd2 : decode cc (pc + 1) = .ok (.ifCond .le off, 3)) (ht : ((pc + 1 : Nat) : Int) + off = (tgt : Int)) (kt : a ≤ b → Wp cc own rt d tgt loc st σ Q) (kf : ¬ (a ≤ b) → Wp cc own rt d (pc + 4) loc st σ Q) : Wp cc own rt d pc loc (mL b :: mL a :: st) σ Q := by
  intro g p l e s m args below meth c H locs ls C hP hS hσ hl hst
  have ha : okL a := hst.2.1
  have hb : okL b := hst.1
  refine W.lcmp C.1 C.2.1 hd ?_
  rw [oL_cmp ha hb]
  refine lv_if_le (tgt := tgt) C.1 C.2.1 hd2 ht (fun h => ?_) (fun h => ?_)
  · exact kt ((lc_le a b).mp h) g p l e s m args below meth c H locs ls C hP hS hσ hl hst.2.2
  · exact kf (fun q => h ((lc_le a b).mpr q)) g p l e s m args below meth c H locs ls C hP hS hσ hl hst.2.2
theorem lc_eq (a b : Int) : ((if b < a then (1 : Int32) else if a = b then 0 else -1) = 0) ↔ (a = b) := by
  rcases Int.lt_trichotomy a b with q | q | q
  · rw [if_neg (by omega), if_neg (by omega)]
    first | exact iff_of_true (by decide) (by omega) | exact iff_of_false (by decide) (by omega)
  · rw [if_neg (by omega), if_pos q]
    first | exact iff_of_true (by decide) (by omega) | exact iff_of_false (by decide) (by omega)
  · rw [if_pos q]
    first | exact iff_of_true (by decide) (by omega) | exact iff_of_false (by decide) (by omega)
theorem wp_lcmp_eq {a b off : Int} (tgt : Nat) (hd : decode cc pc = .ok (.lcmp, 1)) (hd2 : decode cc (pc + 1) = .ok (.ifCond .eq off, 3)) (ht : ((pc + 1 : Nat) : Int) + off = (tgt : Int)) (kt : a = b → Wp cc own rt d tgt loc st σ Q) (kf : ¬ (a = b) → Wp cc own rt d (pc + 4) loc st σ Q) : Wp cc own rt d pc loc (mL b :: mL a :: st) σ Q := by
  intro g p l e s m args below meth c H locs ls C hP hS hσ hl hst
  have ha : okL a := hst.2.1
  have hb : okL b := hst.1
  refine W.lcmp C.1 C.2.1 hd ?_
  rw [oL_cmp ha hb]
  refine lv_if_eq (tgt := tgt) C.1 C.2.1 hd2 ht (fun h => ?_) (fun h => ?_)
  · exact kt ((lc_eq a b).mp h) g p l e s m args below meth c H locs ls C hP hS hσ hl hst.2.2
  · exact kf (fun q => h ((lc_eq a b).mpr q)) g p l e s m args below meth c H locs ls C hP hS hσ hl hst.2.2
theorem lc_ne (a b : Int) : (¬ (if b < a then (1 : Int32) else if a = b then 0 else -1) = 0) ↔ (¬ a = b) := by
  rcases Int.lt_trichotomy a b with q | q | q
  · rw [if_neg (by omega), if_neg (by omega)]
    first | exact iff_of_true (by decide) (by omega) | exact iff_of_false (by decide) (by omega)
  · rw [if_neg (by omega), if_pos q]
    first | exact iff_of_true (by decide) (by omega) | exact iff_of_false (by decide) (by omega)
  · rw [if_pos q]
    first | exact iff_of_true (by decide) (by omega) | exact iff_of_false (by decide) (by omega)
theorem wp_lcmp_ne {a b off : Int} (tgt : Nat) (hd : decode cc pc = .ok (.lcmp, 1)) (hd2 : decode cc (pc + 1) = .ok (.ifCond .ne off, 3)) (ht : ((pc + 1 : Nat) : Int) + off = (tgt : Int)) (kt : ¬ a = b → Wp cc own rt d tgt loc st σ Q) (kf : a = b → Wp cc own rt d (pc + 4) loc st σ Q) : Wp cc own rt d pc loc (mL b :: mL a :: st) σ Q := by
  intro g p l e s m args below meth c H locs ls C hP hS hσ hl hst
  have ha : okL a := hst.2.1
  have hb : okL b := hst.1
  refine W.lcmp C.1 C.2.1 hd ?_
  rw [oL_cmp ha hb]
  refine lv_if_ne (tgt := tgt) C.1 C.2.1 hd2 ht (fun h => ?_) (fun h => ?_)
  · exact kt ((lc_ne a b).mp h) g p l e s m args below meth c H locs ls C hP hS hσ hl hst.2.2
  · exact kf (Classical.byContradiction (fun q => (lc_ne a b).mpr q h)) g p l e s m args below meth c H locs ls C hP hS hσ hl hst.2.2
theorem wp_if_eq {z off : Int} (tgt : Nat) (hd : decode cc pc = .ok (.ifCond .eq off, 3)) (ht : (pc : Int) + off = (tgt : Int)) (kt : z = 0 → Wp cc own rt d tgt loc st σ Q) (kf : ¬ (z = 0) → Wp cc own rt d (pc + 3) loc st σ Q) : Wp cc own rt d pc loc (mI z :: st) σ Q := by
  intro g p l e s m args below meth c H locs ls C hP hS hσ hl hst
  have hz : okI z := hst.1
  exact lv_if_eq (tgt := tgt) C.1 C.2.1 hd ht (fun h => kt (by rw [← oI_0] at h; rwa [oI_eq hz ok0] at h) g p l e s m args below meth c H locs ls C hP hS hσ hl hst.2) (fun h => kf (by rw [← oI_0] at h; rwa [oI_eq hz ok0] at h) g p l e s m args below meth c H locs ls C hP hS hσ hl hst.2)
theorem wp_if_ne {z off : Int} (tgt : Nat) (hd : decode cc pc = .ok (.ifCond .ne off, 3)) (ht : (pc : Int) + off = (tgt : Int)) (kt : ¬ z = 0 → Wp cc own rt d tgt loc st σ Q) (kf : z = 0 → Wp cc own rt d (pc + 3) loc st σ Q) : Wp cc own rt d pc loc (mI z :: st) σ Q := by
  intro g p l e s m args below meth c H locs ls C hP hS hσ hl hst
  have hz : okI z := hst.1
  exact lv_if_ne (tgt := tgt) C.1 C.2.1 hd ht (fun h => kt (by rw [← oI_0] at h; rwa [oI_eq hz ok0] at h) g p l e s m args below meth c H locs ls C hP hS hσ hl hst.2) (fun h => kf (by rw [← oI_0] at h; rwa [oI_eq hz ok0] at h) g p l e s m args below meth c H locs ls C hP hS hσ hl hst.2)
theorem wp_if_lt {z off : Int} (tgt : Nat) (hd : decode cc pc = .ok (.ifCond .lt off, 3)) (ht : (pc : Int) + off = (tgt : Int)) (kt : z < 0 → Wp cc own rt d tgt loc st σ Q) (kf : ¬ (z < 0) → Wp cc own rt d (pc + 3) loc st σ Q) : Wp cc own rt d pc loc (mI z :: st) σ Q := by
  intro g p l e s m args below meth c H locs ls C hP hS hσ hl hst
  have hz : okI z := hst.1
  exact lv_if_lt (tgt := tgt) C.1 C.2.1 hd ht (fun h => kt (by rw [← oI_0] at h; rwa [oI_lt hz ok0] at h) g p l e s m args below meth c H locs ls C hP hS hσ hl hst.2) (fun h => kf (by rw [← oI_0] at h; rwa [oI_lt hz ok0] at h) g p l e s m args below meth c H locs ls C hP hS hσ hl hst.2)
theorem wp_if_ge {z off : Int} (tgt : Nat) (hd : decode cc pc = .ok (.ifCond .ge off, 3)) (ht : (pc : Int) + off = (tgt : Int)) (kt : 0 ≤ z → Wp cc own rt d tgt loc st σ Q) (kf : ¬ (0 ≤ z) → Wp cc own rt d (pc + 3) loc st σ Q) : Wp cc own rt d pc loc (mI z :: st) σ Q := by
  intro g p l e s m args below meth c H locs ls C hP hS hσ hl hst
  have hz : okI z := hst.1
  exact lv_if_ge (tgt := tgt) C.1 C.2.1 hd ht (fun h => kt (by rw [← oI_0] at h; rwa [oI_le ok0 hz] at h) g p l e s m args below meth c H locs ls C hP hS hσ hl hst.2) (fun h => kf (by rw [← oI_0] at h; rwa [oI_le ok0 hz] at h) g p l e s m args below meth c H locs ls C hP hS hσ hl hst.2)
theorem wp_if_gt {z off : Int} (tgt : Nat) (hd : decode cc pc = .ok (.ifCond .gt off, 3)) (ht : (pc : Int) + off = (tgt : Int)) (kt : 0 < z → Wp cc own rt d tgt loc st σ Q) (kf : ¬ (0 < z) → Wp cc own rt d (pc + 3) loc st σ Q) : Wp cc own rt d pc loc (mI z :: st) σ Q := by
  intro g p l e s m args below meth c H locs ls C hP hS hσ hl hst
  have hz : okI z := hst.1
  exact lv_if_gt (tgt := tgt) C.1 C.2.1 hd ht (fun h => kt (by rw [← oI_0] at h; rwa [oI_lt ok0 hz] at h) g p l e s m args below meth c H locs ls C hP hS hσ hl hst.2) (fun h => kf (by rw [← oI_0] at h; rwa [oI_lt ok0 hz] at h) g p l e s m args below meth c H locs ls C hP hS hσ hl hst.2)
theorem wp_if_le {z off : Int} (tgt : Nat) (hd : decode cc pc = .ok (.ifCond .le off, 3)) (ht : (pc : Int) + off = (tgt : Int)) (kt : z ≤ 0 → Wp cc own rt d tgt loc st σ Q) (kf : ¬ (z ≤ 0) → Wp cc own rt d (pc + 3) loc st σ Q) : Wp cc own rt d pc loc (mI z :: st) σ Q := by
  intro g p l e s m args below meth c H locs ls C hP hS hσ hl hst
  have hz : okI z := hst.1
  exact lv_if_le (tgt := tgt) C.1 C.2.1 hd ht (fun h => kt (by rw [← oI_0] at h; rwa [oI_le hz ok0] at h) g p l e s m args below meth c H locs ls C hP hS hσ hl hst.2) (fun h => kf (by rw [← oI_0] at h; rwa [oI_le hz ok0] at h) g p l e s m args below meth c H locs ls C hP hS hσ hl hst.2)
theorem wp_icmp_eq {a b off : Int} (tgt : Nat) (hd : decode cc pc = .ok (.if_icmp .eq off, 3)) (ht : (pc : Int) + off = (tgt : Int)) (kt : a = b → Wp cc own rt d tgt loc st σ Q) (kf : ¬ (a = b) → Wp cc own rt d (pc + 3) loc st σ Q) : Wp cc own rt d pc loc (mI b :: mI a :: st) σ Q := by
  intro g p l e s m args below meth c H locs ls C hP hS hσ hl hst
  have ha : okI a := hst.2.1
  have hb : okI b := hst.1
  exact lv_icmp_eq (tgt := tgt) C.1 C.2.1 hd ht (fun h => kt (by rwa [oI_eq ha hb] at h) g p l e s m args below meth c H locs ls C hP hS hσ hl hst.2.2) (fun h => kf (by rwa [oI_eq ha hb] at h) g p l e s m args below meth c H locs ls C hP hS hσ hl hst.2.2)
theorem wp_icmp_ne {a b off : Int} (tgt : Nat) (hd : decode cc pc = .ok (.if_icmp .ne off, 3)) (ht : (pc : Int) + off = (tgt : Int)) (kt : ¬ a = b → Wp cc own rt d tgt loc st σ Q) (kf : a = b → Wp cc own rt d (pc + 3) loc st σ Q) : Wp cc own rt d pc loc (mI b :: mI a :: st) σ Q := by
  intro g p l e s m args below meth c H locs ls C hP hS hσ hl hst
  have ha : okI a := hst.2.1
  have hb : okI b := hst.1
  exact lv_icmp_ne (tgt := tgt) C.1 C.2.1 hd ht (fun h => kt (by rwa [oI_eq ha hb] at h) g p l e s m args below meth c H locs ls C hP hS hσ hl hst.2.2) (fun h => kf (by rwa [oI_eq ha hb] at h) g p l e s m args below meth c H locs ls C hP hS hσ hl hst.2.2)
theorem wp_icmp_lt {a b off : Int} (tgt : Nat) (hd : decode cc pc = .ok (.if_icmp .lt off, 3)) (ht : (pc : Int) + off = (tgt : Int)) (kt : a < b → Wp cc own rt d tgt loc st σ Q) (kf : ¬ (a < b) → Wp cc own rt d (pc + 3) loc st σ Q) : Wp cc own rt d pc loc (mI b :: mI a :: st) σ Q := by
  intro g p l e s m args below meth c H locs ls C hP hS hσ hl hst
  have ha : okI a := hst.2.1
  have hb : okI b := hst.1
  exact lv_icmp_lt (tgt := tgt) C.1 C.2.1 hd ht (fun h => kt (by rwa [oI_lt ha hb] at h) g p l e s m args below meth c H locs ls C hP hS hσ hl hst.2.2) (fun h => kf (by rwa [oI_lt ha hb] at h) g p l e s m args below meth c H locs ls C hP hS hσ hl hst.2.2)
theorem wp_icmp_ge {a b off : Int} (tgt : Nat) (hd : decode cc pc = .ok (.if_icmp .ge off, 3)) (ht : (pc : Int) + off = (tgt : Int)) (kt : b ≤ a → Wp cc own rt d tgt loc st σ Q) (kf : ¬ (b ≤ a) → Wp cc own rt d (pc + 3) loc st σ Q) : Wp cc own rt d pc loc (mI b :: mI a :: st) σ Q := by
  intro g p l e s m args below meth c H locs ls C hP hS hσ hl hst
  have ha : okI a := hst.2.1
  have hb : okI b := hst.1
  exact lv_icmp_ge (tgt := tgt) C.1 C.2.1 hd ht (fun h => kt (by rwa [oI_le hb ha] at h) g p l e s m args below meth c H locs ls C hP hS hσ hl hst.2.2) (fun h => kf (by rwa [oI_le hb ha] at h) g p l e s m args below meth c H locs ls C hP hS hσ hl hst.2.2)
theorem wp_icmp_gt {a b off : Int} (tgt : Nat) (hd : decode cc pc = .ok (.if_icmp .gt off, 3)) (ht : (pc : Int) + off = (tgt : Int)) (kt : b < a → Wp cc own rt d tgt loc st σ Q) (kf : ¬ (b < a) → Wp cc own rt d (pc + 3) loc st σ Q) : Wp cc own rt d pc loc (mI b :: mI a :: st) σ Q := by
  intro g p l e s m args below meth c H locs ls C hP hS hσ hl hst
  have ha : okI a := hst.2.1
  have hb : okI b := hst.1
  exact lv_icmp_gt (tgt := tgt) C.1 C.2.1 hd ht (fun h => kt (by rwa [oI_lt hb ha] at h) g p l e s m args below meth c H locs ls C hP hS hσ hl hst.2.2) (fun h => kf (by rwa [oI_lt hb ha] at h) g p l e s m args below meth c H locs ls C hP hS hσ hl hst.2.2)
theorem wp_icmp_le {a b off : Int} (tgt : Nat) (hd : decode cc pc = .ok (.if_icmp .le off, 3)) (ht : (pc : Int) + off = (tgt : Int)) (kt : a ≤ b → Wp cc own rt d tgt loc st σ Q) (kf : ¬ (a ≤ b) → Wp cc own rt d (pc + 3) loc st σ Q) : Wp cc own rt d pc loc (mI b :: mI a :: st) σ Q := by
  intro g p l e s m args below meth c H locs ls C hP hS hσ hl hst
  have ha : okI a := hst.2.1
  have hb : okI b := hst.1
  exact lv_icmp_le (tgt := tgt) C.1 C.2.1 hd ht (fun h => kt (by rwa [oI_le ha hb] at h) g p l e s m args below meth c H locs ls C hP hS hσ hl hst.2.2) (fun h => kf (by rwa [oI_le ha hb] at h) g p l e s m args below meth c H locs ls C hP hS hσ hl hst.2.2)
theorem wp_goto {off : Int} (tgt : Nat) (hd : decode cc pc = .ok (.goto off, 3)) (ht : (pc : Int) + off = (tgt : Int)) (k : Wp cc own rt d tgt loc st σ Q) : Wp cc own rt d pc loc st σ Q := by
  intro g p l e s m args below meth c H locs ls C hP hS hσ hl hst
  exact lv_goto (tgt := tgt) C.1 C.2.1 hd ht (k g p l e s m args below meth c H locs ls C hP hS hσ hl hst)
theorem wp_pop {v : MV} (hd : decode cc pc = .ok (.pop, 1)) (hv : ∀ z, v ≠ mL z) (k : Wp cc own rt d (pc + 1) loc st σ Q) : Wp cc own rt d pc loc (v :: st) σ Q := by
  intro g p l e s m args below meth c H locs ls C hP hS hσ hl hst
  exact lv_pop C.1 C.2.1 hd (tv_cat1 hv) (k g p l e s m args below meth c H locs ls C hP hS hσ hl hst.2)
theorem wp_dup {v : MV} (hd : decode cc pc = .ok (.dup, 1)) (hv : ∀ z, v ≠ mL z) (k : Wp cc own rt d (pc + 1) loc (v :: v :: st) σ Q) : Wp cc own rt d pc loc (v :: st) σ Q := by
  intro g p l e s m args below meth c H locs ls C hP hS hσ hl hst
  exact lv_dup C.1 C.2.1 hd (tv_cat1 hv) (k g p l e s m args below meth c H locs ls C hP hS hσ hl ⟨hst.1, hst⟩)
theorem wp_dup2 {v u : MV} (hd : decode cc pc = .ok (.dup2, 1)) (hv : ∀ z, v ≠ mL z) (hu : ∀ z, u ≠ mL z) (k : Wp cc own rt d (pc + 1) loc (v :: u :: v :: u :: st) σ Q) : Wp cc own rt d pc loc (v :: u :: st) σ Q := by
  intro g p l e s m args below meth c H locs ls C hP hS hσ hl hst
  exact lv_dup2_11 C.1 C.2.1 hd (tv_cat1 hv) (tv_cat1 hu) (k g p l e s m args below meth c H locs ls C hP hS hσ hl ⟨hst.1, hst.2.1, hst⟩)
theorem wp_ireturn {z : Int} (hd : decode cc pc = .ok (.ireturn, 1)) (hr : rt = some .int) (hq : Q (some (mI z)) σ) : Wp cc own rt d pc loc [mI z] σ Q := by
  intro g p l e s m args below meth c H locs ls C hP hS hσ hl hst
  exact W.iret C.1 C.2.1 (by rw [C.2.2.1, hr]) (fun t ht hW => ⟨⟨some (mI z), σ, rfl, hq, hσ, fun v hv => by cases hv; exact hst.1, by rw [ht]; exact hP⟩, hS.F ht⟩) hS.2.2 hd C.2.2.2.2.2.2.1
theorem wp_zreturn {z : Int} (hd : decode cc pc = .ok (.ireturn, 1)) (hr : rt = some .boolean) (hz : z = 0 ∨ z = 1) (hq : Q (some (mI z)) σ) : Wp cc own rt d pc loc [mI z] σ Q := by
  intro g p l e s m args below meth c H locs ls C hP hS hσ hl hst
  exact W.zret C.1 C.2.1 (ty := .boolean) (by rw [C.2.2.1, hr]) (by rcases hz with rfl | rfl <;> rfl) (fun t ht hW => ⟨⟨some (mI z), σ, rfl, hq, hσ, fun v hv => by cases hv; exact hst.1, by rw [ht]; exact hP⟩, hS.F ht⟩) hS.2.2 hd C.2.2.2.2.2.2.1
theorem wp_return  (hd : decode cc pc = .ok (.return_, 1)) (hr : rt = none) (hq : Q none σ) : Wp cc own rt d pc loc [] σ Q := by
  intro g p l e s m args below meth c H locs ls C hP hS hσ hl hst
  exact W.vret C.1 C.2.1 (by rw [C.2.2.1, hr]) (fun t ht hW => ⟨⟨none, σ, rfl, hq, hσ, (fun v hv => by cases hv), by rw [ht]; exact hP⟩, hS.F ht⟩) hS.2.2 hd C.2.2.2.2.2.2.1
theorem wp_areturn {z : Nat} {n : String} (hd : decode cc pc = .ok (.areturn, 1)) (hr : rt = some (.object n)) (hq : Q (some (mR z)) σ) : Wp cc own rt d pc loc [mR z] σ Q := by
  intro g p l e s m args below meth c H locs ls C hP hS hσ hl hst
  exact W.aret C.1 C.2.1 (by rw [C.2.2.1, hr]) (Or.inl ⟨n, rfl⟩) (Or.inr ⟨_, rfl⟩) (fun t ht hW => ⟨⟨some (mR z), σ, rfl, hq, hσ, fun v hv => by cases hv; exact hst.1, by rw [ht]; exact hP⟩, hS.F ht⟩) hS.2.2 hd C.2.2.2.2.2.2.1
end ROWS
