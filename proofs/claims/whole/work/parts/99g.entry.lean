abbrev en_FL : List Cond := flatC (Jvm.Cond.and given_1 narrow_1)
set_option maxHeartbeats 4000000 in
set_option maxRecDepth 100000 in
theorem en_arr {s : State} {args : Array Value} {ty : FieldType} (hp : ∀ C, ty ≠ .object C) (h : (Cond.arrayClass ty).before args s = true) : ∃ cA : ClassId, ArrOfT s cA ty ∧ va_RA s cA ty := by
  obtain ⟨c, k, comp, h1, h2, h3⟩ := Cond.arrayClass_spec h
  refine ⟨c, fun N z => ⟨(fun k h => by cases h), k, h2, comp, h3⟩, ?_⟩
  cases ty <;> first | exact absurd rfl (hp _) | exact h1
set_option maxHeartbeats 4000000 in
set_option maxRecDepth 100000 in
theorem en_K {s : State} {args : Array Value} (hg : ∀ w ∈ gtb, w.before args s = true) : ∃ (d1 : Nat → ClassId) (d2 : Nat → Nat → Nat) (cI cB cZ : ClassId), va_K (d1, d2) vwCl [(cI, .int), (cB, .byte), (cZ, .boolean)] s := by
  obtain ⟨cI, hI⟩ := en_arr (ty := .int) (fun _ h => by cases h) (hg (.arrayClass .int) (gtb_of (tb_m1 (i := 59) rfl) rfl))
  obtain ⟨cB, hB⟩ := en_arr (ty := .byte) (fun _ h => by cases h) (hg (.arrayClass .byte) (gtb_of (tb_m1 (i := 58) rfl) rfl))
  obtain ⟨cZ, hZ⟩ := en_arr (ty := .boolean) (fun _ h => by cases h) (hg (.arrayClass .boolean) (gtb_of (tb_m2 (i := 40) rfl) rfl))
  obtain ⟨d0, i0, k0⟩ := u_known hg cl_0.2.1 (hg (.instantiable RX0 8) (gtb_of (tb_m1 (i := 188) rfl) rfl))
  obtain ⟨d1, i1, k1⟩ := u_known hg cl_1.2.1 (hg (.instantiable RX1 7) (gtb_of (tb_m1 (i := 155) rfl) rfl))
  obtain ⟨d2, i2, k2⟩ := u_known hg cl_2.2.1 (hg (.instantiable RX2 14) (gtb_of (tb_m1 (i := 222) rfl) rfl))
  obtain ⟨d3, i3, k3⟩ := u_known hg cl_3.2.1 (hg (.instantiable RX3 7) (gtb_of (tb_m1 (i := 61) rfl) rfl))
  obtain ⟨d4, i4, k4⟩ := u_known hg cl_4.2.1 (hg (.instantiable RX4 11) (gtb_of (tb_m1 (i := 115) rfl) rfl))
  obtain ⟨d5, i5, k5⟩ := u_known hg cl_5.2.1 (hg (.instantiable RX5 6) (gtb_of (tb_m1 (i := 24) rfl) rfl))
  obtain ⟨d6, i6, k6⟩ := u_known hg cl_6.2.1 (hg (.instantiable RX6 16) (gtb_of (tb_m1 (i := 16) rfl) rfl))
  obtain ⟨d7, i7, k7⟩ := u_known hg cl_7.2.1 (hg (.instantiable RX7 30) (gtb_of (tb_m4 (i := 87) rfl) rfl))
  refine ⟨fun c => [d0, d1, d2, d3, d4, d5, d6, d7].getD c d0, fun c => [i0, i1, i2, i3, i4, i5, i6, i7].getD c i0, cI, cB, cZ, fun c q hq => ?_, fun k q hk => ?_⟩
  · have hc : c < 8 := (List.getElem?_eq_some_iff.mp hq).1
    match c, hc, hq with
    | 0, _, hq => cases hq; exact k0
    | 1, _, hq => cases hq; exact k1
    | 2, _, hq => cases hq; exact k2
    | 3, _, hq => cases hq; exact k3
    | 4, _, hq => cases hq; exact k4
    | 5, _, hq => cases hq; exact k5
    | 6, _, hq => cases hq; exact k6
    | 7, _, hq => cases hq; exact k7
    | (_ + 8), h, _ => exact absurd h (by omega)
  · have hc : k < 3 := (List.getElem?_eq_some_iff.mp hk).1
    match k, hc, hk with
    | 0, _, hk => cases hk; exact hI
    | 1, _, hk => cases hk; exact hB
    | 2, _, hk => cases hk; exact hZ
    | (_ + 3), h, _ => exact absurd h (by omega)
set_option maxHeartbeats 4000000 in
set_option maxRecDepth 100000 in
theorem en_lays {w : Nat} (hw : w < 3) : Cond.laysStatic RX6 (stN w) "[I" ∈ lw_tbl := by
  match w, hw with
  | 0, _ => exact (tb_m2 (i := 208) rfl)
  | 1, _ => exact (tb_m2 (i := 210) rfl)
  | 2, _ => exact (tb_m1 (i := 67) rfl)
  | (_ + 3), h => exact absurd h (by omega)
set_option maxHeartbeats 4000000 in
set_option maxRecDepth 100000 in
theorem en_f1 : ∀ k, k < 3 → Cond.arrayOf (.static RX6 (stN k) "[I") .int ∈ en_FL := by decide +kernel
set_option maxHeartbeats 4000000 in
set_option maxRecDepth 100000 in
theorem en_f2 : ∀ k, k < 3 → Cond.eq (.length (.static RX6 (stN k) "[I")) (.int (Int32.ofNat 6)) ∈ en_FL := by decide +kernel
set_option maxHeartbeats 4000000 in
set_option maxRecDepth 100000 in
theorem en_f3 : ∀ k, k < 3 → ∀ j : Nat, j < 6 → Cond.eq (.elem (.static RX6 (stN k) "[I") (.int (Int32.ofNat j))) (.int (Int32.ofInt (stV k (j : Int)))) ∈ en_FL := by decide +kernel
set_option maxHeartbeats 4000000 in
set_option maxRecDepth 100000 in
theorem en_f4 : Cond.exactly (.static RX6 (stN 2) "[I") "[I" ∈ en_FL := by decide +kernel
set_option maxHeartbeats 4000000 in
set_option maxRecDepth 100000 in
theorem en_f5 : Cond.eq (.static "java/lang/String" "COMPACT_STRINGS" "Z") (.int 1) ∈ en_FL := by decide +kernel
set_option maxHeartbeats 4000000 in
set_option maxRecDepth 100000 in
theorem en_f6 : Cond.isRef (.static "jdk/internal/util/Preconditions" "SIOOBE_FORMATTER" "Ljava/util/function/BiFunction;") ∈ en_FL := by decide +kernel
abbrev en_tm (i : Nat) : Term := .string RX4 (strI.getD i (0, "")).1
set_option maxHeartbeats 4000000 in
set_option maxRecDepth 100000 in
theorem en_g1 : ∀ i, i < 9 → strLn.getD i 0 < 2 ^ 31 := by decide +kernel
set_option maxHeartbeats 4000000 in
set_option maxRecDepth 100000 in
theorem en_g2 : ∀ i, i < 9 → Cond.exactly (en_tm i) "java/lang/String" ∈ en_FL := by decide +kernel
set_option maxHeartbeats 4000000 in
set_option maxRecDepth 100000 in
theorem en_g3 : ∀ i, i < 9 → Cond.eq (.field (en_tm i) "java/lang/String" "coder" "B") (.int 0) ∈ en_FL := by decide +kernel
set_option maxHeartbeats 4000000 in
set_option maxRecDepth 100000 in
theorem en_g4 : ∀ i, i < 9 → Cond.arrayOf (.field (en_tm i) "java/lang/String" "value" "[B") .byte ∈ en_FL := by decide +kernel
set_option maxHeartbeats 4000000 in
set_option maxRecDepth 100000 in
theorem en_g5 : ∀ i, i < 9 → Cond.eq (.length (.field (en_tm i) "java/lang/String" "value" "[B")) (.int (Int32.ofNat (strLn.getD i 0))) ∈ en_FL := by decide +kernel
set_option maxHeartbeats 4000000 in
set_option maxRecDepth 100000 in
theorem en_g6 : ∀ i, i < 9 → ∀ j : Nat, j < strLn.getD i 0 → Cond.eq (.elem (.field (en_tm i) "java/lang/String" "value" "[B") (.int (Int32.ofNat j))) (.int ((strB.getD i []).getD j 0)) ∈ en_FL := by decide +kernel
set_option maxHeartbeats 4000000 in
set_option maxRecDepth 100000 in
theorem en_g7 : ∀ i, i < 9 → ∀ j, j < 9 → i ≠ j → (Cond.not (Cond.eq (en_tm i) (en_tm j)) ∈ en_FL ∨ Cond.not (Cond.eq (en_tm j) (en_tm i)) ∈ en_FL) := by decide +kernel
set_option maxHeartbeats 4000000 in
set_option maxRecDepth 100000 in
theorem en_sref {i : Nat} (hi : i < 9) : Cond.stringRef RX4 (strI.getD i (0, "")).1 (strI.getD i (0, "")).2 ∈ lw_tbl := by
  match i, hi with
  | 0, _ => exact (tb_m2 (i := 140) rfl)
  | 1, _ => exact (tb_m2 (i := 215) rfl)
  | 2, _ => exact (tb_m2 (i := 236) rfl)
  | 3, _ => exact (tb_m2 (i := 201) rfl)
  | 4, _ => exact (tb_m2 (i := 202) rfl)
  | 5, _ => exact (tb_m2 (i := 203) rfl)
  | 6, _ => exact (tb_m2 (i := 204) rfl)
  | 7, _ => exact (tb_m2 (i := 205) rfl)
  | 8, _ => exact (tb_m2 (i := 206) rfl)
  | (_ + 9), h => exact absurd h (by omega)
set_option maxHeartbeats 4000000 in
set_option maxRecDepth 100000 in
theorem en_st {s : State} {b : Nat} {A : Nat → Prop} (hts : ∀ w ∈ lw_tbl, w.before #[Value.ref b] s = true) (hs : ∀ w ∈ en_FL, w.before #[Value.ref b] s = true) (hA : ∀ a : Nat, a < s.heap.size → ¬ A a) : ∃ ts : Nat → Nat, ∀ k, k < 3 → (Term.static RX6 (stN k) "[I").eval #[Value.ref b] s none [] s = some (.ref (ts k)) ∧ va_Z RX6 (stN k) "[I" (.ref (ts k)) A s s.heap ∧ va_T .int (ts k) 6 (fun j => .int (Int32.ofInt (stV k (j : Int)))) A s s.heap := by
  have h0 : ∀ k : Nat, ∃ t : Nat, k < 3 → (Term.static RX6 (stN k) "[I").eval #[Value.ref b] s none [] s = some (.ref t) ∧ va_Z RX6 (stN k) "[I" (.ref t) A s s.heap ∧ va_T .int t 6 (fun j => .int (Int32.ofInt (stV k (j : Int)))) A s s.heap := by
    intro k
    by_cases hk : k < 3
    · obtain ⟨t, h1, h2⟩ := va_Tof (f := fun j => .int (Int32.ofInt (stV k (j : Int)))) (A := A) (N := 6) (by decide) (hs _ (en_f1 k hk)) (va_eqt (hs _ (en_f2 k hk))) (fun j hj => va_eqt (hs _ (en_f3 k hk j hj))) hA
      exact ⟨t, fun _ => ⟨h1, va_Zof (hts _ (en_lays hk)) (hts (.initialized RX6) (tb_m1 (i := 1) rfl)) h1 hA, h2⟩⟩
    · exact ⟨0, fun h => absurd h hk⟩
  obtain ⟨ts, h1⟩ := Classical.axiomOfChoice h0
  exact ⟨ts, h1⟩
set_option maxHeartbeats 4000000 in
set_option maxRecDepth 100000 in
theorem en_len {s : State} {args : Array Value} {t : Term} {v : Value} {a : Nat} {cell : Cell} (h : (Term.length t).eval args s none [] s = some v) (ht : t.eval args s none [] s = some (.ref a)) (hc : s.arrayAt? a = some cell) : cell.slots.size < 2147483648 := by
  simp only [Term.eval, Option.bind_eq_bind] at h
  simp [ht] at h
  obtain ⟨c2, hc2, h⟩ := Option.bind_eq_some_iff.mp h
  cases hc.symm.trans hc2
  by_cases hn : cell.slots.size < 2147483648
  · exact hn
  · rw [if_neg hn] at h; cases h
set_option maxHeartbeats 4000000 in
set_option maxRecDepth 100000 in
theorem en_Sx {s : State} {b t : Nat} {d : va_G} {cI cB cZ : ClassId} (hs : ∀ w ∈ en_FL, w.before #[Value.ref b] s = true) (hn : s.vm.findClass "[I" = some cI) (ht : (Term.static RX6 (stN 2) "[I").eval #[Value.ref b] s none [] s = some (.ref t)) (hT : va_T .int t 6 (fun j => .int (Int32.ofInt (stV 2 (j : Int)))) (fun q => s.heap.size ≤ q) s s.heap) : Sx (d, cI, cB, cZ, t, s.heap.size) s.heap := by
  obtain ⟨cell, h1, h2, h3, h4, h5, h6, h7⟩ := hT
  obtain ⟨a, c, c2, k, e1, e2, e3, e4, e5, e6, -⟩ := Cond.exactly_spec (hs _ en_f4)
  cases ht.symm.trans e1
  cases h1.symm.trans e3
  cases hn.symm.trans e2
  obtain ⟨a2, c3, f1, f2, f3⟩ := Term.length_spec (va_eqt (hs _ (en_f2 2 (by decide))))
  cases ht.symm.trans f1
  obtain ⟨g1, -, -, -⟩ := State.arrayAt?_spec f2
  cases h1.symm.trans g1
  have hlt := en_len (va_eqt (hs _ (en_f2 2 (by decide)))) ht f2
  have hsz : cell.slots.size = 6 := by
    have q1 : Int32.ofNat cell.slots.size = Int32.ofNat 6 := h5
    have q2 := congrArg Int32.toNatClampNeg q1
    rw [Int32.toNatClampNeg_ofNat_of_lt hlt, Int32.toNatClampNeg_ofNat_of_lt (by decide)] at q2
    exact q2
  refine ⟨cell, h1, e6, fun j hj => ?_, h3, ?_, h7⟩
  · rw [hj] at e5; cases e5
  · apply Array.ext_getElem?
    intro i
    by_cases hi : i < 6
    · rw [h6 i hi, vp_cell_i, arrV_read _ _ hi]
    · rw [Array.getElem?_eq_none (by omega), Array.getElem?_eq_none (by rw [vp_cell_i, arrV_size]; omega)]
def mkG (d1 : Nat → ClassId) (d2 : Nat → Nat → Nat) (cI cB cZ : ClassId) (L : List Nat) (ts adK adV : Nat → Nat) : GG := (d1, d2, fun r => if r < 92 then L.getD r 0 else if r < 2000 then ts (r - 1000) else if r < 3000 then adK (r - 2000) else adV (r - 3000), cI, cB, cZ, fun _ => 0)
set_option maxHeartbeats 4000000 in
set_option maxRecDepth 100000 in
theorem mkG_1 {d1 : Nat → ClassId} {d2 : Nat → Nat → Nat} {cI cB cZ : ClassId} {L : List Nat} {ts adK adV : Nat → Nat} {k : Nat} (h : k < 3) : gad (mkG d1 d2 cI cB cZ L ts adK adV) (1000 + k) = ts k := by
  show (if 1000 + k < 92 then L.getD (1000 + k) 0 else if 1000 + k < 2000 then ts (1000 + k - 1000) else if 1000 + k < 3000 then adK (1000 + k - 2000) else adV (1000 + k - 3000)) = ts k
  rw [if_neg (by omega), if_pos (by omega), Nat.add_sub_cancel_left]
set_option maxHeartbeats 4000000 in
set_option maxRecDepth 100000 in
theorem mkG_2 {d1 : Nat → ClassId} {d2 : Nat → Nat → Nat} {cI cB cZ : ClassId} {L : List Nat} {ts adK adV : Nat → Nat} {k : Nat} (h : k < 9) : gad (mkG d1 d2 cI cB cZ L ts adK adV) (2000 + k) = adK k := by
  show (if 2000 + k < 92 then L.getD (2000 + k) 0 else if 2000 + k < 2000 then ts (2000 + k - 1000) else if 2000 + k < 3000 then adK (2000 + k - 2000) else adV (2000 + k - 3000)) = adK k
  rw [if_neg (by omega), if_neg (by omega), if_pos (by omega), Nat.add_sub_cancel_left]
set_option maxHeartbeats 4000000 in
set_option maxRecDepth 100000 in
theorem mkG_3 {d1 : Nat → ClassId} {d2 : Nat → Nat → Nat} {cI cB cZ : ClassId} {L : List Nat} {ts adK adV : Nat → Nat} {k : Nat} (h : k < 9) : gad (mkG d1 d2 cI cB cZ L ts adK adV) (3000 + k) = adV k := by
  show (if 3000 + k < 92 then L.getD (3000 + k) 0 else if 3000 + k < 2000 then ts (3000 + k - 1000) else if 3000 + k < 3000 then adK (3000 + k - 2000) else adV (3000 + k - 3000)) = adV k
  rw [if_neg (by omega), if_neg (by omega), if_neg (by omega), Nat.add_sub_cancel_left]
set_option maxHeartbeats 4000000 in
set_option maxRecDepth 100000 in
theorem en_S2 {N : Nat} {len : List Nat} {byt : List (List Int32)} {aK aV bK bV : Nat → Nat} {A : Nat → Prop} {U : State} {H : Heap} (h : vk_S N len byt aK aV A U H) (e1 : ∀ i, i < N → bK i = aK i) (e2 : ∀ i, i < N → bV i = aV i) : vk_S N len byt bK bV A U H :=
  ⟨fun i hi => by rw [e1 i hi, e2 i hi]; exact h.1 i hi, fun i j hi hj e => h.2 i j hi hj (by rw [← e1 i hi, ← e1 j hj]; exact e)⟩
set_option maxHeartbeats 4000000 in
set_option maxRecDepth 100000 in
theorem en_all {s : State} {b : Nat} (hts : ∀ w ∈ lw_tbl, w.before #[Value.ref b] s = true) (hgv : (Jvm.Cond.and given_1 narrow_1).before #[Value.ref b] s = true) : ∃ (d1 : Nat → ClassId) (d2 : Nat → Nat → Nat) (cI cB cZ : ClassId) (ts adK adV : Nat → Nat), va_K (d1, d2) vwCl [(cI, .int), (cB, .byte), (cZ, .boolean)] s ∧ FyK ((d1, d2), cI, cB, cZ, ts 2, s.heap.size) s s.heap ∧ ∀ L : List Nat, (∀ q, gAr (mkG d1 d2 cI cB cZ L ts adK adV) q → s.heap.size ≤ q) → Fx (mkG d1 d2 cI cB cZ L ts adK adV) s s.heap := by
  have hs := flat_of_before _ hgv
  have hA : ∀ a : Nat, a < s.heap.size → ¬ (fun q : Nat => s.heap.size ≤ q) a := fun a h1 h2 => absurd (show s.heap.size ≤ a from h2) (by omega)
  obtain ⟨d1, d2, cI, cB, cZ, hK⟩ := en_K (s := s) (fun w hw => hts w (List.mem_filter.mp hw).1)
  obtain ⟨ts, ht⟩ := en_st hts hs hA
  obtain ⟨adK, adV, hS, hE⟩ := vk_Sof (N := 9) (tm := en_tm) (len := strLn) (byt := strB) en_g1 (fun i hi => hs _ (en_g2 i hi)) (fun i hi => hs _ (en_g3 i hi)) (fun i hi => hs _ (en_g4 i hi)) (fun i hi => hs _ (en_g5 i hi)) (fun i hi j hj => hs _ (en_g6 i hi j hj)) (fun i j hi hj hn => (en_g7 i hi j hj hn).imp (hs _) (hs _)) hA
  have hZ1 := va_Zof (hts (.laysStatic "java/lang/String" "COMPACT_STRINGS" "Z") (tb_m2 (i := 154) rfl)) (hts (.initialized "java/lang/String") (tb_m1 (i := 11) rfl)) (va_eqt (hs _ en_f5)) hA
  have hZ2 := va_Zqof (hts (.laysStatic "jdk/internal/util/Preconditions" "SIOOBE_FORMATTER" "Ljava/util/function/BiFunction;") (tb_m2 (i := 170) rfl)) (hts (.initialized "jdk/internal/util/Preconditions") (tb_m1 (i := 13) rfl)) (hs _ en_f6) hA
  have n1 : ∀ w ∈ lw_tbl, isNF w = true → va_Nw w s := by
    intro w hw hn
    cases w <;> first | exact va_Nw.of rfl (hts _ hw) | (exfalso; simp [isNF] at hn)
  have n2 : ∀ w ∈ lw_tbl, isNM w = true → va_Nw w s := by
    intro w hw hn
    cases w <;> first | exact va_Nw.of rfl (hts _ hw) | (exfalso; simp [isNM] at hn)
  refine ⟨d1, d2, cI, cB, cZ, ts, adK, adV, hK, ⟨n1, n2, (ht 2 (by decide)).2.1, va_Nw.of rfl (hts _ (tb_m1 (i := 73) rfl)), en_Sx hs (va_nm_int (hK.2 0 _ rfl).2) (ht 2 (by decide)).1 (ht 2 (by decide)).2.2⟩, fun L hL => ⟨n1, n2, fun k hk => ?_, fun k hk => ?_, ?_, hZ1.narrow hL, hZ2.narrow hL⟩⟩
  · rw [mkG_1 hk]
    exact ⟨(ht k hk).2.1.narrow hL, (ht k hk).2.2.narrow hL⟩
  · rw [mkG_2 hk]
    exact vk_R.of (hts _ (en_sref hk)) (hE k hk)
  · exact (en_S2 hS (fun i hi => mkG_2 hi) (fun i hi => mkG_3 hi)).narrow hL
