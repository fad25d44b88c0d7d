set_option maxHeartbeats 4000000 in
set_option maxRecDepth 100000 in
theorem az_int (N : Nat) : ∀ cA : ClassId, vp_cell cA (N, .inl (fun _ => 0)) = arrV cA N (fun _ => defaultValue .int) := fun _ => rfl
set_option maxHeartbeats 4000000 in
set_option maxRecDepth 100000 in
theorem az_byte (N : Nat) : ∀ cA : ClassId, vp_cell cA (N, .inl (fun _ => 0)) = arrV cA N (fun _ => defaultValue .byte) := fun _ => rfl
set_option maxHeartbeats 4000000 in
set_option maxRecDepth 100000 in
theorem az_boolean (N : Nat) : ∀ cA : ClassId, vp_cell cA (N, .inl (fun _ => 0)) = arrV cA N (fun _ => defaultValue .boolean) := fun _ => rfl
def lsF (L : List Int) : Nat → Int32 := fun j => Int32.ofInt (L.getD j 0)
set_option maxHeartbeats 4000000 in
set_option maxRecDepth 100000 in
theorem lsF_0 (L : List Int) (h : L.all (fun x => x == 0) = true) : (fun _ => (0 : Int32)) = lsF L := by
  funext j
  have e : L.getD j 0 = 0 := by
    rw [List.getD_eq_getElem?_getD]
    cases hj : L[j]? with
    | none => rfl
    | some v => simpa using List.all_eq_true.mp h v (List.mem_of_getElem? hj)
  simp only [lsF, e]
  rfl
set_option maxHeartbeats 4000000 in
set_option maxRecDepth 100000 in
theorem azL (cA : ClassId) (n : Nat) (L : List Int) (h : L.all (fun x => x == 0) = true) : az cA n = (.inl (cA, n, .inl (lsF L)) : va_E) := by
  show (Sum.inl (cA, n, Sum.inl (fun _ => (0 : Int32))) : va_E) = _
  rw [lsF_0 L h]
section KR2
variable {k : KG} {A : Nat → Prop} {cc : ByteArray} {own : String} {nL : Nat} {p : Program} {l : Launch} {e : Env} {R : Room} {s : State} {m : MethodId} {args : Array Value} {below : List Frame} {meth : Method} {c : Code} {H : Heap} {locs : List Loc} {cells slots : Nat} {Q : State → Prop} {pc : Nat} {ls : Array Slot} {st : List Value} {ws : va_W}
set_option maxHeartbeats 4000000 in
set_option maxRecDepth 100000 in
theorem k_iastN (C : CxK k A cc own nL p s m args c) (hw : KW k A s ws H locs) (q0 : Nat) {a n N : Nat} {f : Nat → Int32} {i x : Int32} (ha : ws[q0]? = some (a, .inl (kI k, n, .inl f))) (hN : i.toNatClampNeg = N) (hi : ¬ i < 0 ∧ N < n) (hd : decode cc pc = .ok (.iastore, 1))
    (kk : ∀ (H1 : Heap) (locs1 : List Loc), KW k A s (ws.set q0 (a, .inl (kI k, n, .inl (upd f N x)))) H1 locs1 → W p l e R s m args below meth c H1 locs1 cells slots Q (F0 m (pc + 1) ls st)) : W p l e R s m args below meth c H locs cells slots Q (F0 m pc ls (.int x :: .int i :: .ref a :: st)) := by
  subst hN
  exact k_iast C hw q0 ha (by rintro (q | q); exact hi.1 q; omega) hd kk
set_option maxHeartbeats 4000000 in
set_option maxRecDepth 100000 in
theorem k_iastL (C : CxK k A cc own nL p s m args c) (hw : KW k A s ws H locs) (q0 : Nat) {a n N : Nat} {L : List Int} {z : Int} {i x : Int32} (ha : ws[q0]? = some (a, .inl (kI k, n, .inl (lsF L)))) (hN : i.toNatClampNeg = N) (hi : ¬ i < 0 ∧ N < n) (hl : N < L.length) (hx : x = Int32.ofInt z) (hd : decode cc pc = .ok (.iastore, 1))
    (kk : ∀ (H1 : Heap) (locs1 : List Loc), KW k A s (ws.set q0 (a, .inl (kI k, n, .inl (lsF (L.set N z))))) H1 locs1 → W p l e R s m args below meth c H1 locs1 cells slots Q (F0 m (pc + 1) ls st)) : W p l e R s m args below meth c H locs cells slots Q (F0 m pc ls (.int x :: .int i :: .ref a :: st)) := by
  refine k_iastN C hw q0 ha hN hi hd (fun H1 locs1 hw1 => kk H1 locs1 ?_)
  have e : upd (lsF L) N x = lsF (L.set N z) := by
    funext j
    simp only [upd, lsF, List.getD_eq_getElem?_getD, List.getElem?_set]
    by_cases hj : j = N
    · subst hj
      rw [if_pos rfl, if_pos rfl, if_pos hl, hx]; rfl
    · rw [if_neg hj, if_neg (fun q => hj q.symm)]
  rw [← e]
  exact hw1
end KR2
abbrev nf5 : List Value := [.int 0, .null, .null, .null, .null, .null]
abbrev Rm5 : Room := { frames := 1, cells := 5, slots := 114, locals := 20 }
def WX5 (k : KG) (h0 q1 q2 q3 q4 q5 : Nat) : va_W := (h0, .inr (5, [.int 0, .ref q1, .ref q2, .ref q3, .ref q4, .ref q5])) :: [(q1, az (kI k) 6), (q2, az (kI k) 6), (q3, az (kI k) 6), (q4, az (kI k) 48), (q5, az (kI k) 48)]
set_option maxRecDepth 100000 in
set_option maxHeartbeats 4000000 in
set_option maxRecDepth 100000 in
theorem kX5_init (k : KG) (h0 : Nat) : CtK yX5_init cX5_init 1 Rm5 k [] h0 (.inr (5, nf5)) (fun w => ∃ q1 q2 q3 q4 q5, w = WX5 k h0 q1 q2 q3 q4 q5) := by
  refine ctk_of (by decide) rfl [(0, .ref h0)] rfl (Nat.le_of_ble_eq_true rfl) ?_
  intro p l e s m args below meth c ls A QQ C hw hl hin hret
  refine lv_aload_n C.1 C.2.1 dX5_init_0 rfl (lv_at hl 0 rfl) ?_
  refine k_obj C hl (gtb_of (tb_m1 (i := 28) rfl) rfl) (gtb_of (tb_m1 (i := 21) rfl) rfl) (gtb_of (tb_m1 (i := 22) rfl) rfl) (by decide) (by show 2 * 0 + _ + 12 ≤ _; decide) dX5_init_1 ?_
  refine lv_aload_n C.1 C.2.1 dX5_init_4 rfl (lv_at hl 0 rfl) ?_
  refine lv_bipush (v := 6) C.1 C.2.1 dX5_init_5 (by decide +kernel) ?_
  refine k_newa C hw 0 (cA := kI k) (atype := .int) (ty := .int) rfl rfl (gtb_of (tb_m1 (i := 59) rfl) rfl) 6 (az_int _) (fun _ h => by cases h) (by decide +kernel) (by decide +kernel) (by decide +kernel) (by decide +kernel) (by decide +kernel) dX5_init_7 (fun q1 H hw => ?_)
  have hw : KW k A s ((h0, .inr (5, [.int 0, .null, .null, .null, .null, .null])) :: [(q1, az (kI k) 6)]) H [] := hw
  refine k_put C hw fl_X5_9 (gtb_of (tb_m1 (i := 33) rfl) rfl) hin (fun _ => rfl) (ty := tyX5 1) (tyX5_ok 1 (by decide)) rfl rfl (Nat.le_of_ble_eq_true rfl) dX5_init_9 (fun H locs hw => ?_)
  have hw : KW k A s ((h0, .inr (5, [.int 0, .ref q1, .null, .null, .null, .null])) :: [(q1, az (kI k) 6)]) H locs := hw
  refine lv_aload_n C.1 C.2.1 dX5_init_12 rfl (lv_at hl 0 rfl) ?_
  refine lv_bipush (v := 6) C.1 C.2.1 dX5_init_13 (by decide +kernel) ?_
  refine k_newa C hw 0 (cA := kI k) (atype := .int) (ty := .int) rfl rfl (gtb_of (tb_m1 (i := 59) rfl) rfl) 6 (az_int _) (fun _ h => by cases h) (by decide +kernel) (by decide +kernel) (by decide +kernel) (by decide +kernel) (by decide +kernel) dX5_init_15 (fun q2 H hw => ?_)
  have hw : KW k A s ((h0, .inr (5, [.int 0, .ref q1, .null, .null, .null, .null])) :: [(q1, az (kI k) 6), (q2, az (kI k) 6)]) H locs := hw
  refine k_put C hw fl_X5_15 (gtb_of (tb_m1 (i := 35) rfl) rfl) hin (fun _ => rfl) (ty := tyX5 2) (tyX5_ok 2 (by decide)) rfl rfl (Nat.le_of_ble_eq_true rfl) dX5_init_17 (fun H locs hw => ?_)
  have hw : KW k A s ((h0, .inr (5, [.int 0, .ref q1, .ref q2, .null, .null, .null])) :: [(q1, az (kI k) 6), (q2, az (kI k) 6)]) H locs := hw
  refine lv_aload_n C.1 C.2.1 dX5_init_20 rfl (lv_at hl 0 rfl) ?_
  refine lv_bipush (v := 6) C.1 C.2.1 dX5_init_21 (by decide +kernel) ?_
  refine k_newa C hw 0 (cA := kI k) (atype := .int) (ty := .int) rfl rfl (gtb_of (tb_m1 (i := 59) rfl) rfl) 6 (az_int _) (fun _ h => by cases h) (by decide +kernel) (by decide +kernel) (by decide +kernel) (by decide +kernel) (by decide +kernel) dX5_init_23 (fun q3 H hw => ?_)
  have hw : KW k A s ((h0, .inr (5, [.int 0, .ref q1, .ref q2, .null, .null, .null])) :: [(q1, az (kI k) 6), (q2, az (kI k) 6), (q3, az (kI k) 6)]) H locs := hw
  refine k_put C hw fl_X5_18 (gtb_of (tb_m1 (i := 38) rfl) rfl) hin (fun _ => rfl) (ty := tyX5 3) (tyX5_ok 3 (by decide)) rfl rfl (Nat.le_of_ble_eq_true rfl) dX5_init_25 (fun H locs hw => ?_)
  have hw : KW k A s ((h0, .inr (5, [.int 0, .ref q1, .ref q2, .ref q3, .null, .null])) :: [(q1, az (kI k) 6), (q2, az (kI k) 6), (q3, az (kI k) 6)]) H locs := hw
  refine lv_aload_n C.1 C.2.1 dX5_init_28 rfl (lv_at hl 0 rfl) ?_
  refine lv_bipush (v := 48) C.1 C.2.1 dX5_init_29 (by decide +kernel) ?_
  refine k_newa C hw 0 (cA := kI k) (atype := .int) (ty := .int) rfl rfl (gtb_of (tb_m1 (i := 59) rfl) rfl) 48 (az_int _) (fun _ h => by cases h) (by decide +kernel) (by decide +kernel) (by decide +kernel) (by decide +kernel) (by decide +kernel) dX5_init_31 (fun q4 H hw => ?_)
  have hw : KW k A s ((h0, .inr (5, [.int 0, .ref q1, .ref q2, .ref q3, .null, .null])) :: [(q1, az (kI k) 6), (q2, az (kI k) 6), (q3, az (kI k) 6), (q4, az (kI k) 48)]) H locs := hw
  refine k_put C hw fl_X5_21 (gtb_of (tb_m1 (i := 41) rfl) rfl) hin (fun _ => rfl) (ty := tyX5 4) (tyX5_ok 4 (by decide)) rfl rfl (Nat.le_of_ble_eq_true rfl) dX5_init_33 (fun H locs hw => ?_)
  have hw : KW k A s ((h0, .inr (5, [.int 0, .ref q1, .ref q2, .ref q3, .ref q4, .null])) :: [(q1, az (kI k) 6), (q2, az (kI k) 6), (q3, az (kI k) 6), (q4, az (kI k) 48)]) H locs := hw
  refine lv_aload_n C.1 C.2.1 dX5_init_36 rfl (lv_at hl 0 rfl) ?_
  refine lv_bipush (v := 48) C.1 C.2.1 dX5_init_37 (by decide +kernel) ?_
  refine k_newa C hw 0 (cA := kI k) (atype := .int) (ty := .int) rfl rfl (gtb_of (tb_m1 (i := 59) rfl) rfl) 48 (az_int _) (fun _ h => by cases h) (by decide +kernel) (by decide +kernel) (by decide +kernel) (by decide +kernel) (by decide +kernel) dX5_init_39 (fun q5 H hw => ?_)
  have hw : KW k A s ((h0, .inr (5, [.int 0, .ref q1, .ref q2, .ref q3, .ref q4, .null])) :: [(q1, az (kI k) 6), (q2, az (kI k) 6), (q3, az (kI k) 6), (q4, az (kI k) 48), (q5, az (kI k) 48)]) H locs := hw
  refine k_put C hw fl_X5_24 (gtb_of (tb_m1 (i := 43) rfl) rfl) hin (fun _ => rfl) (ty := tyX5 5) (tyX5_ok 5 (by decide)) rfl rfl (Nat.le_of_ble_eq_true rfl) dX5_init_41 (fun H locs hw => ?_)
  have hw : KW k A s ((h0, .inr (5, [.int 0, .ref q1, .ref q2, .ref q3, .ref q4, .ref q5])) :: [(q1, az (kI k) 6), (q2, az (kI k) 6), (q3, az (kI k) 6), (q4, az (kI k) 48), (q5, az (kI k) 48)]) H locs := hw
  exact hret _ _ _ _ _ _ _ dX5_init_44 (by decide +kernel) (by decide +kernel) hw ⟨q1, q2, q3, q4, q5, rfl⟩
abbrev nf3 : List Value := [.int 0, .int 0, .null, .null, .null, .null, .null]
abbrev Rm3 : Room := { frames := 1, cells := 5, slots := 110, locals := 20 }
def WX3 (k : KG) (h0 q1 q2 q3 q4 q5 : Nat) : va_W := (h0, .inr (3, [.int 0, .int 0, .ref q1, .ref q2, .ref q3, .ref q4, .ref q5])) :: [(q1, az (kI k) 80), (q2, az (kI k) 8), (q3, az (kI k) 8), (q4, az (kI k) 8), (q5, .inl (kI k, 6, .inl stF))]
set_option maxRecDepth 100000 in
set_option maxHeartbeats 4000000 in
set_option maxRecDepth 100000 in
theorem kX3_init (k : KG) (h0 : Nat) : CtK yX3_init cX3_init 1 Rm3 k [] h0 (.inr (3, nf3)) (fun w => ∃ q1 q2 q3 q4 q5, w = WX3 k h0 q1 q2 q3 q4 q5) := by
  refine ctk_of (by decide) rfl [(0, .ref h0)] rfl (Nat.le_of_ble_eq_true rfl) ?_
  intro p l e s m args below meth c ls A QQ C hw hl hin hret
  refine lv_aload_n C.1 C.2.1 dX3_init_0 rfl (lv_at hl 0 rfl) ?_
  refine k_obj C hl (gtb_of (tb_m1 (i := 65) rfl) rfl) (gtb_of (tb_m1 (i := 21) rfl) rfl) (gtb_of (tb_m1 (i := 22) rfl) rfl) (by decide) (by show 2 * 0 + _ + 12 ≤ _; decide) dX3_init_1 ?_
  refine lv_aload_n C.1 C.2.1 dX3_init_4 rfl (lv_at hl 0 rfl) ?_
  refine lv_bipush (v := 80) C.1 C.2.1 dX3_init_5 (by decide +kernel) ?_
  refine k_newa C hw 0 (cA := kI k) (atype := .int) (ty := .int) rfl rfl (gtb_of (tb_m1 (i := 59) rfl) rfl) 80 (az_int _) (fun _ h => by cases h) (by decide +kernel) (by decide +kernel) (by decide +kernel) (by decide +kernel) (by decide +kernel) dX3_init_7 (fun q1 H hw => ?_)
  have hw : KW k A s ((h0, .inr (3, [.int 0, .int 0, .null, .null, .null, .null, .null])) :: [(q1, az (kI k) 80)]) H [] := hw
  refine k_put C hw fl_X3_9 (gtb_of (tb_m1 (i := 83) rfl) rfl) hin (fun _ => rfl) (ty := tyX3 2) (tyX3_ok 2 (by decide)) rfl rfl (Nat.le_of_ble_eq_true rfl) dX3_init_9 (fun H locs hw => ?_)
  have hw : KW k A s ((h0, .inr (3, [.int 0, .int 0, .ref q1, .null, .null, .null, .null])) :: [(q1, az (kI k) 80)]) H locs := hw
  refine lv_aload_n C.1 C.2.1 dX3_init_12 rfl (lv_at hl 0 rfl) ?_
  refine lv_bipush (v := 8) C.1 C.2.1 dX3_init_13 (by decide +kernel) ?_
  refine k_newa C hw 0 (cA := kI k) (atype := .int) (ty := .int) rfl rfl (gtb_of (tb_m1 (i := 59) rfl) rfl) 8 (az_int _) (fun _ h => by cases h) (by decide +kernel) (by decide +kernel) (by decide +kernel) (by decide +kernel) (by decide +kernel) dX3_init_15 (fun q2 H hw => ?_)
  have hw : KW k A s ((h0, .inr (3, [.int 0, .int 0, .ref q1, .null, .null, .null, .null])) :: [(q1, az (kI k) 80), (q2, az (kI k) 8)]) H locs := hw
  refine k_put C hw fl_X3_15 (gtb_of (tb_m1 (i := 85) rfl) rfl) hin (fun _ => rfl) (ty := tyX3 3) (tyX3_ok 3 (by decide)) rfl rfl (Nat.le_of_ble_eq_true rfl) dX3_init_17 (fun H locs hw => ?_)
  have hw : KW k A s ((h0, .inr (3, [.int 0, .int 0, .ref q1, .ref q2, .null, .null, .null])) :: [(q1, az (kI k) 80), (q2, az (kI k) 8)]) H locs := hw
  refine lv_aload_n C.1 C.2.1 dX3_init_20 rfl (lv_at hl 0 rfl) ?_
  refine lv_bipush (v := 8) C.1 C.2.1 dX3_init_21 (by decide +kernel) ?_
  refine k_newa C hw 0 (cA := kI k) (atype := .int) (ty := .int) rfl rfl (gtb_of (tb_m1 (i := 59) rfl) rfl) 8 (az_int _) (fun _ h => by cases h) (by decide +kernel) (by decide +kernel) (by decide +kernel) (by decide +kernel) (by decide +kernel) dX3_init_23 (fun q3 H hw => ?_)
  have hw : KW k A s ((h0, .inr (3, [.int 0, .int 0, .ref q1, .ref q2, .null, .null, .null])) :: [(q1, az (kI k) 80), (q2, az (kI k) 8), (q3, az (kI k) 8)]) H locs := hw
  refine k_put C hw fl_X3_18 (gtb_of (tb_m1 (i := 88) rfl) rfl) hin (fun _ => rfl) (ty := tyX3 4) (tyX3_ok 4 (by decide)) rfl rfl (Nat.le_of_ble_eq_true rfl) dX3_init_25 (fun H locs hw => ?_)
  have hw : KW k A s ((h0, .inr (3, [.int 0, .int 0, .ref q1, .ref q2, .ref q3, .null, .null])) :: [(q1, az (kI k) 80), (q2, az (kI k) 8), (q3, az (kI k) 8)]) H locs := hw
  refine lv_aload_n C.1 C.2.1 dX3_init_28 rfl (lv_at hl 0 rfl) ?_
  refine lv_bipush (v := 8) C.1 C.2.1 dX3_init_29 (by decide +kernel) ?_
  refine k_newa C hw 0 (cA := kI k) (atype := .int) (ty := .int) rfl rfl (gtb_of (tb_m1 (i := 59) rfl) rfl) 8 (az_int _) (fun _ h => by cases h) (by decide +kernel) (by decide +kernel) (by decide +kernel) (by decide +kernel) (by decide +kernel) dX3_init_31 (fun q4 H hw => ?_)
  have hw : KW k A s ((h0, .inr (3, [.int 0, .int 0, .ref q1, .ref q2, .ref q3, .null, .null])) :: [(q1, az (kI k) 80), (q2, az (kI k) 8), (q3, az (kI k) 8), (q4, az (kI k) 8)]) H locs := hw
  refine k_put C hw fl_X3_21 (gtb_of (tb_m1 (i := 91) rfl) rfl) hin (fun _ => rfl) (ty := tyX3 5) (tyX3_ok 5 (by decide)) rfl rfl (Nat.le_of_ble_eq_true rfl) dX3_init_33 (fun H locs hw => ?_)
  have hw : KW k A s ((h0, .inr (3, [.int 0, .int 0, .ref q1, .ref q2, .ref q3, .ref q4, .null])) :: [(q1, az (kI k) 80), (q2, az (kI k) 8), (q3, az (kI k) 8), (q4, az (kI k) 8)]) H locs := hw
  refine lv_aload_n C.1 C.2.1 dX3_init_36 rfl (lv_at hl 0 rfl) ?_
  refine k_clone C hw hl dX3_init_37 dX3_init_40 dX3_init_43 sl_X3_24 (gtb_of (tb_m1 (i := 68) rfl) rfl) (gtb_of (tb_m1 (i := 69) rfl) rfl) (gtb_of (tb_m1 (i := 70) rfl) rfl) (gtb_of (tb_m1 (i := 71) rfl) rfl) (gtb_of (tb_m1 (i := 72) rfl) rfl) (gtb_of (tb_m1 (i := 74) rfl) rfl) (by decide) (Nat.le_of_ble_eq_true rfl) (by decide) (by decide) (fun q5 H hw => ?_)
  have hw : KW k A s ((h0, .inr (3, [.int 0, .int 0, .ref q1, .ref q2, .ref q3, .ref q4, .null])) :: [(q1, az (kI k) 80), (q2, az (kI k) 8), (q3, az (kI k) 8), (q4, az (kI k) 8), (q5, .inl (kI k, 6, .inl stF))]) H locs := hw
  refine k_put C hw fl_X3_32 (gtb_of (tb_m1 (i := 94) rfl) rfl) hin (fun _ => rfl) (ty := tyX3 6) (tyX3_ok 6 (by decide)) rfl rfl (Nat.le_of_ble_eq_true rfl) dX3_init_46 (fun H locs hw => ?_)
  have hw : KW k A s ((h0, .inr (3, [.int 0, .int 0, .ref q1, .ref q2, .ref q3, .ref q4, .ref q5])) :: [(q1, az (kI k) 80), (q2, az (kI k) 8), (q3, az (kI k) 8), (q4, az (kI k) 8), (q5, .inl (kI k, 6, .inl stF))]) H locs := hw
  exact hret _ _ _ _ _ _ _ dX3_init_49 (by decide +kernel) (by decide +kernel) hw ⟨q1, q2, q3, q4, q5, rfl⟩
abbrev nf4 : List Value := [.null, .null, .null, .int 0, .int 0, .int 0, .int 0, .int 0, .int 0, .int 0, .int 0]
abbrev Rm4 : Room := { frames := 1, cells := 0, slots := 0, locals := 20 }
def WX4 (k : KG) (h0 a1 a2 a3 : Nat) : va_W := (h0, .inr (4, [.ref a1, .ref a2, .ref a3, .int 0, .int 0, .int 0, .int 0, .int 0, .int 0, .int 0, .int 0])) :: []
set_option maxRecDepth 100000 in
set_option maxHeartbeats 4000000 in
set_option maxRecDepth 100000 in
theorem kX4_init (k : KG) (h0 a1 a2 a3 : Nat) : CtK yX4_init cX4_init 4 Rm4 k [.ref a1, .ref a2, .ref a3] h0 (.inr (4, nf4)) (fun w => w = WX4 k h0 a1 a2 a3) := by
  refine ctk_of (by decide) rfl [(0, .ref h0), (1, .ref a1), (2, .ref a2), (3, .ref a3)] rfl (Nat.le_of_ble_eq_true rfl) ?_
  intro p l e s m args below meth c ls A QQ C hw hl hin hret
  refine lv_aload_n C.1 C.2.1 dX4_init_0 rfl (lv_at hl 0 rfl) ?_
  refine k_obj C hl (gtb_of (tb_m1 (i := 119) rfl) rfl) (gtb_of (tb_m1 (i := 21) rfl) rfl) (gtb_of (tb_m1 (i := 22) rfl) rfl) (by decide) (by show 2 * 0 + _ + 12 ≤ _; decide) dX4_init_1 ?_
  refine lv_aload_n C.1 C.2.1 dX4_init_4 rfl (lv_at hl 0 rfl) ?_
  refine lv_aload_n C.1 C.2.1 dX4_init_5 rfl (lv_at hl 1 rfl) ?_
  refine k_put C hw fl_X4_9 (gtb_of (tb_m1 (i := 120) rfl) rfl) hin (fun _ => rfl) (ty := tyX4 0) (tyX4_ok 0 (by decide)) rfl rfl (Nat.le_of_ble_eq_true rfl) dX4_init_6 (fun H locs hw => ?_)
  have hw : KW k A s ((h0, .inr (4, [.ref a1, .null, .null, .int 0, .int 0, .int 0, .int 0, .int 0, .int 0, .int 0, .int 0])) :: []) H locs := hw
  refine lv_aload_n C.1 C.2.1 dX4_init_9 rfl (lv_at hl 0 rfl) ?_
  refine lv_aload_n C.1 C.2.1 dX4_init_10 rfl (lv_at hl 2 rfl) ?_
  refine k_put C hw fl_X4_15 (gtb_of (tb_m1 (i := 121) rfl) rfl) hin (fun _ => rfl) (ty := tyX4 1) (tyX4_ok 1 (by decide)) rfl rfl (Nat.le_of_ble_eq_true rfl) dX4_init_11 (fun H locs hw => ?_)
  have hw : KW k A s ((h0, .inr (4, [.ref a1, .ref a2, .null, .int 0, .int 0, .int 0, .int 0, .int 0, .int 0, .int 0, .int 0])) :: []) H locs := hw
  refine lv_aload_n C.1 C.2.1 dX4_init_14 rfl (lv_at hl 0 rfl) ?_
  refine lv_aload_n C.1 C.2.1 dX4_init_15 rfl (lv_at hl 3 rfl) ?_
  refine k_put C hw fl_X4_19 (gtb_of (tb_m1 (i := 122) rfl) rfl) hin (fun _ => rfl) (ty := tyX4 2) (tyX4_ok 2 (by decide)) rfl rfl (Nat.le_of_ble_eq_true rfl) dX4_init_16 (fun H locs hw => ?_)
  have hw : KW k A s ((h0, .inr (4, [.ref a1, .ref a2, .ref a3, .int 0, .int 0, .int 0, .int 0, .int 0, .int 0, .int 0, .int 0])) :: []) H locs := hw
  exact hret _ _ _ _ _ _ _ dX4_init_19 (by decide +kernel) (by decide +kernel) hw rfl
abbrev nf1 : List Value := [.null, .null, .int 0, .int 0, .null, .null, .null]
abbrev Rm1 : Room := { frames := 1, cells := 3, slots := 24, locals := 20 }
def WX1 (k : KG) (h0 a1 a2 q1 q2 q3 : Nat) : va_W := (h0, .inr (1, [.ref a1, .ref a2, .int 0, .int 0, .ref q1, .ref q2, .ref q3])) :: [(q1, az (kI k) 8), (q2, az (kI k) 8), (q3, az (kI k) 8)]
set_option maxRecDepth 100000 in
set_option maxHeartbeats 4000000 in
set_option maxRecDepth 100000 in
theorem kX1_init (k : KG) (h0 a1 a2 : Nat) : CtK yX1_init cX1_init 3 Rm1 k [.ref a1, .ref a2] h0 (.inr (1, nf1)) (fun w => ∃ q1 q2 q3, w = WX1 k h0 a1 a2 q1 q2 q3) := by
  refine ctk_of (by decide) rfl [(0, .ref h0), (1, .ref a1), (2, .ref a2)] rfl (Nat.le_of_ble_eq_true rfl) ?_
  intro p l e s m args below meth c ls A QQ C hw hl hin hret
  refine lv_aload_n C.1 C.2.1 dX1_init_0 rfl (lv_at hl 0 rfl) ?_
  refine k_obj C hl (gtb_of (tb_m1 (i := 159) rfl) rfl) (gtb_of (tb_m1 (i := 21) rfl) rfl) (gtb_of (tb_m1 (i := 22) rfl) rfl) (by decide) (by show 2 * 0 + _ + 12 ≤ _; decide) dX1_init_1 ?_
  refine lv_aload_n C.1 C.2.1 dX1_init_4 rfl (lv_at hl 0 rfl) ?_
  refine lv_bipush (v := 8) C.1 C.2.1 dX1_init_5 (by decide +kernel) ?_
  refine k_newa C hw 0 (cA := kI k) (atype := .int) (ty := .int) rfl rfl (gtb_of (tb_m1 (i := 59) rfl) rfl) 8 (az_int _) (fun _ h => by cases h) (by decide +kernel) (by decide +kernel) (by decide +kernel) (by decide +kernel) (by decide +kernel) dX1_init_7 (fun q1 H hw => ?_)
  have hw : KW k A s ((h0, .inr (1, [.null, .null, .int 0, .int 0, .null, .null, .null])) :: [(q1, az (kI k) 8)]) H [] := hw
  refine k_put C hw fl_X1_9 (gtb_of (tb_m1 (i := 166) rfl) rfl) hin (fun _ => rfl) (ty := tyX1 4) (tyX1_ok 4 (by decide)) rfl rfl (Nat.le_of_ble_eq_true rfl) dX1_init_9 (fun H locs hw => ?_)
  have hw : KW k A s ((h0, .inr (1, [.null, .null, .int 0, .int 0, .ref q1, .null, .null])) :: [(q1, az (kI k) 8)]) H locs := hw
  refine lv_aload_n C.1 C.2.1 dX1_init_12 rfl (lv_at hl 0 rfl) ?_
  refine lv_bipush (v := 8) C.1 C.2.1 dX1_init_13 (by decide +kernel) ?_
  refine k_newa C hw 0 (cA := kI k) (atype := .int) (ty := .int) rfl rfl (gtb_of (tb_m1 (i := 59) rfl) rfl) 8 (az_int _) (fun _ h => by cases h) (by decide +kernel) (by decide +kernel) (by decide +kernel) (by decide +kernel) (by decide +kernel) dX1_init_15 (fun q2 H hw => ?_)
  have hw : KW k A s ((h0, .inr (1, [.null, .null, .int 0, .int 0, .ref q1, .null, .null])) :: [(q1, az (kI k) 8), (q2, az (kI k) 8)]) H locs := hw
  refine k_put C hw fl_X1_15 (gtb_of (tb_m1 (i := 168) rfl) rfl) hin (fun _ => rfl) (ty := tyX1 5) (tyX1_ok 5 (by decide)) rfl rfl (Nat.le_of_ble_eq_true rfl) dX1_init_17 (fun H locs hw => ?_)
  have hw : KW k A s ((h0, .inr (1, [.null, .null, .int 0, .int 0, .ref q1, .ref q2, .null])) :: [(q1, az (kI k) 8), (q2, az (kI k) 8)]) H locs := hw
  refine lv_aload_n C.1 C.2.1 dX1_init_20 rfl (lv_at hl 0 rfl) ?_
  refine lv_bipush (v := 8) C.1 C.2.1 dX1_init_21 (by decide +kernel) ?_
  refine k_newa C hw 0 (cA := kI k) (atype := .int) (ty := .int) rfl rfl (gtb_of (tb_m1 (i := 59) rfl) rfl) 8 (az_int _) (fun _ h => by cases h) (by decide +kernel) (by decide +kernel) (by decide +kernel) (by decide +kernel) (by decide +kernel) dX1_init_23 (fun q3 H hw => ?_)
  have hw : KW k A s ((h0, .inr (1, [.null, .null, .int 0, .int 0, .ref q1, .ref q2, .null])) :: [(q1, az (kI k) 8), (q2, az (kI k) 8), (q3, az (kI k) 8)]) H locs := hw
  refine k_put C hw fl_X1_18 (gtb_of (tb_m1 (i := 170) rfl) rfl) hin (fun _ => rfl) (ty := tyX1 6) (tyX1_ok 6 (by decide)) rfl rfl (Nat.le_of_ble_eq_true rfl) dX1_init_25 (fun H locs hw => ?_)
  have hw : KW k A s ((h0, .inr (1, [.null, .null, .int 0, .int 0, .ref q1, .ref q2, .ref q3])) :: [(q1, az (kI k) 8), (q2, az (kI k) 8), (q3, az (kI k) 8)]) H locs := hw
  refine lv_aload_n C.1 C.2.1 dX1_init_28 rfl (lv_at hl 0 rfl) ?_
  refine lv_aload_n C.1 C.2.1 dX1_init_29 rfl (lv_at hl 1 rfl) ?_
  refine k_put C hw fl_X1_21 (gtb_of (tb_m1 (i := 160) rfl) rfl) hin (fun _ => rfl) (ty := tyX1 0) (tyX1_ok 0 (by decide)) rfl rfl (Nat.le_of_ble_eq_true rfl) dX1_init_30 (fun H locs hw => ?_)
  have hw : KW k A s ((h0, .inr (1, [.ref a1, .null, .int 0, .int 0, .ref q1, .ref q2, .ref q3])) :: [(q1, az (kI k) 8), (q2, az (kI k) 8), (q3, az (kI k) 8)]) H locs := hw
  refine lv_aload_n C.1 C.2.1 dX1_init_33 rfl (lv_at hl 0 rfl) ?_
  refine lv_aload_n C.1 C.2.1 dX1_init_34 rfl (lv_at hl 2 rfl) ?_
  refine k_put C hw fl_X1_25 (gtb_of (tb_m1 (i := 161) rfl) rfl) hin (fun _ => rfl) (ty := tyX1 1) (tyX1_ok 1 (by decide)) rfl rfl (Nat.le_of_ble_eq_true rfl) dX1_init_35 (fun H locs hw => ?_)
  have hw : KW k A s ((h0, .inr (1, [.ref a1, .ref a2, .int 0, .int 0, .ref q1, .ref q2, .ref q3])) :: [(q1, az (kI k) 8), (q2, az (kI k) 8), (q3, az (kI k) 8)]) H locs := hw
  exact hret _ _ _ _ _ _ _ dX1_init_38 (by decide +kernel) (by decide +kernel) hw ⟨q1, q2, q3, rfl⟩
abbrev nf0 : List Value := [.null, .null, .null, .null, .null, .int 0, .int 0, .int 0]
abbrev Rm0 : Room := { frames := 1, cells := 5, slots := 3520, locals := 20 }
def WX0 (k : KG) (h0 q1 q2 q3 q4 q5 : Nat) : va_W := (h0, .inr (0, [.ref q1, .ref q2, .ref q3, .ref q4, .ref q5, .int 0, .int 0, .int 0])) :: [(q1, az (kI k) 80), (q2, az (kI k) 80), (q3, az (kI k) 80), (q4, az (kI k) 1640), (q5, az (kI k) 1640)]
set_option maxRecDepth 100000 in
set_option maxHeartbeats 4000000 in
set_option maxRecDepth 100000 in
theorem kX0_init (k : KG) (h0 : Nat) : CtK yX0_init cX0_init 1 Rm0 k [] h0 (.inr (0, nf0)) (fun w => ∃ q1 q2 q3 q4 q5, w = WX0 k h0 q1 q2 q3 q4 q5) := by
  refine ctk_of (by decide) rfl [(0, .ref h0)] rfl (Nat.le_of_ble_eq_true rfl) ?_
  intro p l e s m args below meth c ls A QQ C hw hl hin hret
  refine lv_aload_n C.1 C.2.1 dX0_init_0 rfl (lv_at hl 0 rfl) ?_
  refine k_obj C hl (gtb_of (tb_m1 (i := 192) rfl) rfl) (gtb_of (tb_m1 (i := 21) rfl) rfl) (gtb_of (tb_m1 (i := 22) rfl) rfl) (by decide) (by show 2 * 0 + _ + 12 ≤ _; decide) dX0_init_1 ?_
  refine lv_aload_n C.1 C.2.1 dX0_init_4 rfl (lv_at hl 0 rfl) ?_
  refine lv_bipush (v := 80) C.1 C.2.1 dX0_init_5 (by decide +kernel) ?_
  refine k_newa C hw 0 (cA := kI k) (atype := .int) (ty := .int) rfl rfl (gtb_of (tb_m1 (i := 59) rfl) rfl) 80 (az_int _) (fun _ h => by cases h) (by decide +kernel) (by decide +kernel) (by decide +kernel) (by decide +kernel) (by decide +kernel) dX0_init_7 (fun q1 H hw => ?_)
  have hw : KW k A s ((h0, .inr (0, [.null, .null, .null, .null, .null, .int 0, .int 0, .int 0])) :: [(q1, az (kI k) 80)]) H [] := hw
  refine k_put C hw fl_X0_9 (gtb_of (tb_m1 (i := 193) rfl) rfl) hin (fun _ => rfl) (ty := tyX0 0) (tyX0_ok 0 (by decide)) rfl rfl (Nat.le_of_ble_eq_true rfl) dX0_init_9 (fun H locs hw => ?_)
  have hw : KW k A s ((h0, .inr (0, [.ref q1, .null, .null, .null, .null, .int 0, .int 0, .int 0])) :: [(q1, az (kI k) 80)]) H locs := hw
  refine lv_aload_n C.1 C.2.1 dX0_init_12 rfl (lv_at hl 0 rfl) ?_
  refine lv_bipush (v := 80) C.1 C.2.1 dX0_init_13 (by decide +kernel) ?_
  refine k_newa C hw 0 (cA := kI k) (atype := .int) (ty := .int) rfl rfl (gtb_of (tb_m1 (i := 59) rfl) rfl) 80 (az_int _) (fun _ h => by cases h) (by decide +kernel) (by decide +kernel) (by decide +kernel) (by decide +kernel) (by decide +kernel) dX0_init_15 (fun q2 H hw => ?_)
  have hw : KW k A s ((h0, .inr (0, [.ref q1, .null, .null, .null, .null, .int 0, .int 0, .int 0])) :: [(q1, az (kI k) 80), (q2, az (kI k) 80)]) H locs := hw
  refine k_put C hw fl_X0_15 (gtb_of (tb_m1 (i := 195) rfl) rfl) hin (fun _ => rfl) (ty := tyX0 1) (tyX0_ok 1 (by decide)) rfl rfl (Nat.le_of_ble_eq_true rfl) dX0_init_17 (fun H locs hw => ?_)
  have hw : KW k A s ((h0, .inr (0, [.ref q1, .ref q2, .null, .null, .null, .int 0, .int 0, .int 0])) :: [(q1, az (kI k) 80), (q2, az (kI k) 80)]) H locs := hw
  refine lv_aload_n C.1 C.2.1 dX0_init_20 rfl (lv_at hl 0 rfl) ?_
  refine lv_bipush (v := 80) C.1 C.2.1 dX0_init_21 (by decide +kernel) ?_
  refine k_newa C hw 0 (cA := kI k) (atype := .int) (ty := .int) rfl rfl (gtb_of (tb_m1 (i := 59) rfl) rfl) 80 (az_int _) (fun _ h => by cases h) (by decide +kernel) (by decide +kernel) (by decide +kernel) (by decide +kernel) (by decide +kernel) dX0_init_23 (fun q3 H hw => ?_)
  have hw : KW k A s ((h0, .inr (0, [.ref q1, .ref q2, .null, .null, .null, .int 0, .int 0, .int 0])) :: [(q1, az (kI k) 80), (q2, az (kI k) 80), (q3, az (kI k) 80)]) H locs := hw
  refine k_put C hw fl_X0_18 (gtb_of (tb_m1 (i := 197) rfl) rfl) hin (fun _ => rfl) (ty := tyX0 2) (tyX0_ok 2 (by decide)) rfl rfl (Nat.le_of_ble_eq_true rfl) dX0_init_25 (fun H locs hw => ?_)
  have hw : KW k A s ((h0, .inr (0, [.ref q1, .ref q2, .ref q3, .null, .null, .int 0, .int 0, .int 0])) :: [(q1, az (kI k) 80), (q2, az (kI k) 80), (q3, az (kI k) 80)]) H locs := hw
  refine lv_aload_n C.1 C.2.1 dX0_init_28 rfl (lv_at hl 0 rfl) ?_
  refine lv_sipush (v := 1640) C.1 C.2.1 dX0_init_29 (by decide +kernel) ?_
  refine k_newa C hw 0 (cA := kI k) (atype := .int) (ty := .int) rfl rfl (gtb_of (tb_m1 (i := 59) rfl) rfl) 1640 (az_int _) (fun _ h => by cases h) (by decide +kernel) (by decide +kernel) (by decide +kernel) (by decide +kernel) (by decide +kernel) dX0_init_32 (fun q4 H hw => ?_)
  have hw : KW k A s ((h0, .inr (0, [.ref q1, .ref q2, .ref q3, .null, .null, .int 0, .int 0, .int 0])) :: [(q1, az (kI k) 80), (q2, az (kI k) 80), (q3, az (kI k) 80), (q4, az (kI k) 1640)]) H locs := hw
  refine k_put C hw fl_X0_21 (gtb_of (tb_m1 (i := 199) rfl) rfl) hin (fun _ => rfl) (ty := tyX0 3) (tyX0_ok 3 (by decide)) rfl rfl (Nat.le_of_ble_eq_true rfl) dX0_init_34 (fun H locs hw => ?_)
  have hw : KW k A s ((h0, .inr (0, [.ref q1, .ref q2, .ref q3, .ref q4, .null, .int 0, .int 0, .int 0])) :: [(q1, az (kI k) 80), (q2, az (kI k) 80), (q3, az (kI k) 80), (q4, az (kI k) 1640)]) H locs := hw
  refine lv_aload_n C.1 C.2.1 dX0_init_37 rfl (lv_at hl 0 rfl) ?_
  refine lv_sipush (v := 1640) C.1 C.2.1 dX0_init_38 (by decide +kernel) ?_
  refine k_newa C hw 0 (cA := kI k) (atype := .int) (ty := .int) rfl rfl (gtb_of (tb_m1 (i := 59) rfl) rfl) 1640 (az_int _) (fun _ h => by cases h) (by decide +kernel) (by decide +kernel) (by decide +kernel) (by decide +kernel) (by decide +kernel) dX0_init_41 (fun q5 H hw => ?_)
  have hw : KW k A s ((h0, .inr (0, [.ref q1, .ref q2, .ref q3, .ref q4, .null, .int 0, .int 0, .int 0])) :: [(q1, az (kI k) 80), (q2, az (kI k) 80), (q3, az (kI k) 80), (q4, az (kI k) 1640), (q5, az (kI k) 1640)]) H locs := hw
  refine k_put C hw fl_X0_24 (gtb_of (tb_m1 (i := 200) rfl) rfl) hin (fun _ => rfl) (ty := tyX0 4) (tyX0_ok 4 (by decide)) rfl rfl (Nat.le_of_ble_eq_true rfl) dX0_init_43 (fun H locs hw => ?_)
  have hw : KW k A s ((h0, .inr (0, [.ref q1, .ref q2, .ref q3, .ref q4, .ref q5, .int 0, .int 0, .int 0])) :: [(q1, az (kI k) 80), (q2, az (kI k) 80), (q3, az (kI k) 80), (q4, az (kI k) 1640), (q5, az (kI k) 1640)]) H locs := hw
  exact hret _ _ _ _ _ _ _ dX0_init_46 (by decide +kernel) (by decide +kernel) hw ⟨q1, q2, q3, q4, q5, rfl⟩
abbrev nf2 : List Value := [.null, .null, .null, .int 0, .null, .null, .null, .null, .null, .null, .null, .null, .null, .null]
abbrev Rm2 : Room := { frames := 1, cells := 10, slots := 1152, locals := 20 }
def WX2 (k : KG) (h0 a1 a2 a3 q1 q2 q3 q4 q5 q6 q7 q8 q9 q10 : Nat) : va_W := (h0, .inr (2, [.ref a1, .ref a2, .ref a3, .int 0, .ref q1, .ref q2, .ref q3, .ref q4, .ref q5, .ref q6, .ref q7, .ref q8, .ref q9, .ref q10])) :: [(q1, az (kI k) 8), (q2, az (kI k) 8), (q3, az (kI k) 72), (q4, az (kI k) 152), (q5, az (kI k) 152), (q6, az (kI k) 152), (q7, az (kI k) 152), (q8, az (kI k) 152), (q9, az (kI k) 152), (q10, az (kZ k) 152)]
set_option maxRecDepth 100000 in
set_option maxHeartbeats 4000000 in
set_option maxRecDepth 100000 in
theorem kX2_init (k : KG) (h0 a1 a2 a3 : Nat) : CtK yX2_init cX2_init 4 Rm2 k [.ref a1, .ref a2, .ref a3] h0 (.inr (2, nf2)) (fun w => ∃ q1 q2 q3 q4 q5 q6 q7 q8 q9 q10, w = WX2 k h0 a1 a2 a3 q1 q2 q3 q4 q5 q6 q7 q8 q9 q10) := by
  refine ctk_of (by decide) rfl [(0, .ref h0), (1, .ref a1), (2, .ref a2), (3, .ref a3)] rfl (Nat.le_of_ble_eq_true rfl) ?_
  intro p l e s m args below meth c ls A QQ C hw hl hin hret
  refine lv_aload_n C.1 C.2.1 dX2_init_0 rfl (lv_at hl 0 rfl) ?_
  refine k_obj C hl (gtb_of (tb_m1 (i := 226) rfl) rfl) (gtb_of (tb_m1 (i := 21) rfl) rfl) (gtb_of (tb_m1 (i := 22) rfl) rfl) (by decide) (by show 2 * 0 + _ + 12 ≤ _; decide) dX2_init_1 ?_
  refine lv_aload_n C.1 C.2.1 dX2_init_4 rfl (lv_at hl 0 rfl) ?_
  refine lv_bipush (v := 8) C.1 C.2.1 dX2_init_5 (by decide +kernel) ?_
  refine k_newa C hw 0 (cA := kI k) (atype := .int) (ty := .int) rfl rfl (gtb_of (tb_m1 (i := 59) rfl) rfl) 8 (az_int _) (fun _ h => by cases h) (by decide +kernel) (by decide +kernel) (by decide +kernel) (by decide +kernel) (by decide +kernel) dX2_init_7 (fun q1 H hw => ?_)
  have hw : KW k A s ((h0, .inr (2, [.null, .null, .null, .int 0, .null, .null, .null, .null, .null, .null, .null, .null, .null, .null])) :: [(q1, az (kI k) 8)]) H [] := hw
  refine k_put C hw fl_X2_9 (gtb_of (tb_m1 (i := 232) rfl) rfl) hin (fun _ => rfl) (ty := tyX2 4) (tyX2_ok 4 (by decide)) rfl rfl (Nat.le_of_ble_eq_true rfl) dX2_init_9 (fun H locs hw => ?_)
  have hw : KW k A s ((h0, .inr (2, [.null, .null, .null, .int 0, .ref q1, .null, .null, .null, .null, .null, .null, .null, .null, .null])) :: [(q1, az (kI k) 8)]) H locs := hw
  refine lv_aload_n C.1 C.2.1 dX2_init_12 rfl (lv_at hl 0 rfl) ?_
  refine lv_bipush (v := 8) C.1 C.2.1 dX2_init_13 (by decide +kernel) ?_
  refine k_newa C hw 0 (cA := kI k) (atype := .int) (ty := .int) rfl rfl (gtb_of (tb_m1 (i := 59) rfl) rfl) 8 (az_int _) (fun _ h => by cases h) (by decide +kernel) (by decide +kernel) (by decide +kernel) (by decide +kernel) (by decide +kernel) dX2_init_15 (fun q2 H hw => ?_)
  have hw : KW k A s ((h0, .inr (2, [.null, .null, .null, .int 0, .ref q1, .null, .null, .null, .null, .null, .null, .null, .null, .null])) :: [(q1, az (kI k) 8), (q2, az (kI k) 8)]) H locs := hw
  refine k_put C hw fl_X2_15 (gtb_of (tb_m1 (i := 234) rfl) rfl) hin (fun _ => rfl) (ty := tyX2 5) (tyX2_ok 5 (by decide)) rfl rfl (Nat.le_of_ble_eq_true rfl) dX2_init_17 (fun H locs hw => ?_)
  have hw : KW k A s ((h0, .inr (2, [.null, .null, .null, .int 0, .ref q1, .ref q2, .null, .null, .null, .null, .null, .null, .null, .null])) :: [(q1, az (kI k) 8), (q2, az (kI k) 8)]) H locs := hw
  refine lv_aload_n C.1 C.2.1 dX2_init_20 rfl (lv_at hl 0 rfl) ?_
  refine lv_bipush (v := 72) C.1 C.2.1 dX2_init_21 (by decide +kernel) ?_
  refine k_newa C hw 0 (cA := kI k) (atype := .int) (ty := .int) rfl rfl (gtb_of (tb_m1 (i := 59) rfl) rfl) 72 (az_int _) (fun _ h => by cases h) (by decide +kernel) (by decide +kernel) (by decide +kernel) (by decide +kernel) (by decide +kernel) dX2_init_23 (fun q3 H hw => ?_)
  have hw : KW k A s ((h0, .inr (2, [.null, .null, .null, .int 0, .ref q1, .ref q2, .null, .null, .null, .null, .null, .null, .null, .null])) :: [(q1, az (kI k) 8), (q2, az (kI k) 8), (q3, az (kI k) 72)]) H locs := hw
  refine k_put C hw fl_X2_18 (gtb_of (tb_m1 (i := 236) rfl) rfl) hin (fun _ => rfl) (ty := tyX2 6) (tyX2_ok 6 (by decide)) rfl rfl (Nat.le_of_ble_eq_true rfl) dX2_init_25 (fun H locs hw => ?_)
  have hw : KW k A s ((h0, .inr (2, [.null, .null, .null, .int 0, .ref q1, .ref q2, .ref q3, .null, .null, .null, .null, .null, .null, .null])) :: [(q1, az (kI k) 8), (q2, az (kI k) 8), (q3, az (kI k) 72)]) H locs := hw
  refine lv_aload_n C.1 C.2.1 dX2_init_28 rfl (lv_at hl 0 rfl) ?_
  refine lv_sipush (v := 152) C.1 C.2.1 dX2_init_29 (by decide +kernel) ?_
  refine k_newa C hw 0 (cA := kI k) (atype := .int) (ty := .int) rfl rfl (gtb_of (tb_m1 (i := 59) rfl) rfl) 152 (az_int _) (fun _ h => by cases h) (by decide +kernel) (by decide +kernel) (by decide +kernel) (by decide +kernel) (by decide +kernel) dX2_init_32 (fun q4 H hw => ?_)
  have hw : KW k A s ((h0, .inr (2, [.null, .null, .null, .int 0, .ref q1, .ref q2, .ref q3, .null, .null, .null, .null, .null, .null, .null])) :: [(q1, az (kI k) 8), (q2, az (kI k) 8), (q3, az (kI k) 72), (q4, az (kI k) 152)]) H locs := hw
  refine k_put C hw fl_X2_21 (gtb_of (tb_m1 (i := 237) rfl) rfl) hin (fun _ => rfl) (ty := tyX2 7) (tyX2_ok 7 (by decide)) rfl rfl (Nat.le_of_ble_eq_true rfl) dX2_init_34 (fun H locs hw => ?_)
  have hw : KW k A s ((h0, .inr (2, [.null, .null, .null, .int 0, .ref q1, .ref q2, .ref q3, .ref q4, .null, .null, .null, .null, .null, .null])) :: [(q1, az (kI k) 8), (q2, az (kI k) 8), (q3, az (kI k) 72), (q4, az (kI k) 152)]) H locs := hw
  refine lv_aload_n C.1 C.2.1 dX2_init_37 rfl (lv_at hl 0 rfl) ?_
  refine lv_sipush (v := 152) C.1 C.2.1 dX2_init_38 (by decide +kernel) ?_
  refine k_newa C hw 0 (cA := kI k) (atype := .int) (ty := .int) rfl rfl (gtb_of (tb_m1 (i := 59) rfl) rfl) 152 (az_int _) (fun _ h => by cases h) (by decide +kernel) (by decide +kernel) (by decide +kernel) (by decide +kernel) (by decide +kernel) dX2_init_41 (fun q5 H hw => ?_)
  have hw : KW k A s ((h0, .inr (2, [.null, .null, .null, .int 0, .ref q1, .ref q2, .ref q3, .ref q4, .null, .null, .null, .null, .null, .null])) :: [(q1, az (kI k) 8), (q2, az (kI k) 8), (q3, az (kI k) 72), (q4, az (kI k) 152), (q5, az (kI k) 152)]) H locs := hw
  refine k_put C hw fl_X2_24 (gtb_of (tb_m1 (i := 239) rfl) rfl) hin (fun _ => rfl) (ty := tyX2 8) (tyX2_ok 8 (by decide)) rfl rfl (Nat.le_of_ble_eq_true rfl) dX2_init_43 (fun H locs hw => ?_)
  have hw : KW k A s ((h0, .inr (2, [.null, .null, .null, .int 0, .ref q1, .ref q2, .ref q3, .ref q4, .ref q5, .null, .null, .null, .null, .null])) :: [(q1, az (kI k) 8), (q2, az (kI k) 8), (q3, az (kI k) 72), (q4, az (kI k) 152), (q5, az (kI k) 152)]) H locs := hw
  refine lv_aload_n C.1 C.2.1 dX2_init_46 rfl (lv_at hl 0 rfl) ?_
  refine lv_sipush (v := 152) C.1 C.2.1 dX2_init_47 (by decide +kernel) ?_
  refine k_newa C hw 0 (cA := kI k) (atype := .int) (ty := .int) rfl rfl (gtb_of (tb_m1 (i := 59) rfl) rfl) 152 (az_int _) (fun _ h => by cases h) (by decide +kernel) (by decide +kernel) (by decide +kernel) (by decide +kernel) (by decide +kernel) dX2_init_50 (fun q6 H hw => ?_)
  have hw : KW k A s ((h0, .inr (2, [.null, .null, .null, .int 0, .ref q1, .ref q2, .ref q3, .ref q4, .ref q5, .null, .null, .null, .null, .null])) :: [(q1, az (kI k) 8), (q2, az (kI k) 8), (q3, az (kI k) 72), (q4, az (kI k) 152), (q5, az (kI k) 152), (q6, az (kI k) 152)]) H locs := hw
  refine k_put C hw fl_X2_27 (gtb_of (tb_m2 (i := 1) rfl) rfl) hin (fun _ => rfl) (ty := tyX2 9) (tyX2_ok 9 (by decide)) rfl rfl (Nat.le_of_ble_eq_true rfl) dX2_init_52 (fun H locs hw => ?_)
  have hw : KW k A s ((h0, .inr (2, [.null, .null, .null, .int 0, .ref q1, .ref q2, .ref q3, .ref q4, .ref q5, .ref q6, .null, .null, .null, .null])) :: [(q1, az (kI k) 8), (q2, az (kI k) 8), (q3, az (kI k) 72), (q4, az (kI k) 152), (q5, az (kI k) 152), (q6, az (kI k) 152)]) H locs := hw
  refine lv_aload_n C.1 C.2.1 dX2_init_55 rfl (lv_at hl 0 rfl) ?_
  refine lv_sipush (v := 152) C.1 C.2.1 dX2_init_56 (by decide +kernel) ?_
  refine k_newa C hw 0 (cA := kI k) (atype := .int) (ty := .int) rfl rfl (gtb_of (tb_m1 (i := 59) rfl) rfl) 152 (az_int _) (fun _ h => by cases h) (by decide +kernel) (by decide +kernel) (by decide +kernel) (by decide +kernel) (by decide +kernel) dX2_init_59 (fun q7 H hw => ?_)
  have hw : KW k A s ((h0, .inr (2, [.null, .null, .null, .int 0, .ref q1, .ref q2, .ref q3, .ref q4, .ref q5, .ref q6, .null, .null, .null, .null])) :: [(q1, az (kI k) 8), (q2, az (kI k) 8), (q3, az (kI k) 72), (q4, az (kI k) 152), (q5, az (kI k) 152), (q6, az (kI k) 152), (q7, az (kI k) 152)]) H locs := hw
  refine k_put C hw fl_X2_30 (gtb_of (tb_m2 (i := 3) rfl) rfl) hin (fun _ => rfl) (ty := tyX2 10) (tyX2_ok 10 (by decide)) rfl rfl (Nat.le_of_ble_eq_true rfl) dX2_init_61 (fun H locs hw => ?_)
  have hw : KW k A s ((h0, .inr (2, [.null, .null, .null, .int 0, .ref q1, .ref q2, .ref q3, .ref q4, .ref q5, .ref q6, .ref q7, .null, .null, .null])) :: [(q1, az (kI k) 8), (q2, az (kI k) 8), (q3, az (kI k) 72), (q4, az (kI k) 152), (q5, az (kI k) 152), (q6, az (kI k) 152), (q7, az (kI k) 152)]) H locs := hw
  refine lv_aload_n C.1 C.2.1 dX2_init_64 rfl (lv_at hl 0 rfl) ?_
  refine lv_sipush (v := 152) C.1 C.2.1 dX2_init_65 (by decide +kernel) ?_
  refine k_newa C hw 0 (cA := kI k) (atype := .int) (ty := .int) rfl rfl (gtb_of (tb_m1 (i := 59) rfl) rfl) 152 (az_int _) (fun _ h => by cases h) (by decide +kernel) (by decide +kernel) (by decide +kernel) (by decide +kernel) (by decide +kernel) dX2_init_68 (fun q8 H hw => ?_)
  have hw : KW k A s ((h0, .inr (2, [.null, .null, .null, .int 0, .ref q1, .ref q2, .ref q3, .ref q4, .ref q5, .ref q6, .ref q7, .null, .null, .null])) :: [(q1, az (kI k) 8), (q2, az (kI k) 8), (q3, az (kI k) 72), (q4, az (kI k) 152), (q5, az (kI k) 152), (q6, az (kI k) 152), (q7, az (kI k) 152), (q8, az (kI k) 152)]) H locs := hw
  refine k_put C hw fl_X2_33 (gtb_of (tb_m2 (i := 5) rfl) rfl) hin (fun _ => rfl) (ty := tyX2 11) (tyX2_ok 11 (by decide)) rfl rfl (Nat.le_of_ble_eq_true rfl) dX2_init_70 (fun H locs hw => ?_)
  have hw : KW k A s ((h0, .inr (2, [.null, .null, .null, .int 0, .ref q1, .ref q2, .ref q3, .ref q4, .ref q5, .ref q6, .ref q7, .ref q8, .null, .null])) :: [(q1, az (kI k) 8), (q2, az (kI k) 8), (q3, az (kI k) 72), (q4, az (kI k) 152), (q5, az (kI k) 152), (q6, az (kI k) 152), (q7, az (kI k) 152), (q8, az (kI k) 152)]) H locs := hw
  refine lv_aload_n C.1 C.2.1 dX2_init_73 rfl (lv_at hl 0 rfl) ?_
  refine lv_sipush (v := 152) C.1 C.2.1 dX2_init_74 (by decide +kernel) ?_
  refine k_newa C hw 0 (cA := kI k) (atype := .int) (ty := .int) rfl rfl (gtb_of (tb_m1 (i := 59) rfl) rfl) 152 (az_int _) (fun _ h => by cases h) (by decide +kernel) (by decide +kernel) (by decide +kernel) (by decide +kernel) (by decide +kernel) dX2_init_77 (fun q9 H hw => ?_)
  have hw : KW k A s ((h0, .inr (2, [.null, .null, .null, .int 0, .ref q1, .ref q2, .ref q3, .ref q4, .ref q5, .ref q6, .ref q7, .ref q8, .null, .null])) :: [(q1, az (kI k) 8), (q2, az (kI k) 8), (q3, az (kI k) 72), (q4, az (kI k) 152), (q5, az (kI k) 152), (q6, az (kI k) 152), (q7, az (kI k) 152), (q8, az (kI k) 152), (q9, az (kI k) 152)]) H locs := hw
  refine k_put C hw fl_X2_36 (gtb_of (tb_m2 (i := 7) rfl) rfl) hin (fun _ => rfl) (ty := tyX2 12) (tyX2_ok 12 (by decide)) rfl rfl (Nat.le_of_ble_eq_true rfl) dX2_init_79 (fun H locs hw => ?_)
  have hw : KW k A s ((h0, .inr (2, [.null, .null, .null, .int 0, .ref q1, .ref q2, .ref q3, .ref q4, .ref q5, .ref q6, .ref q7, .ref q8, .ref q9, .null])) :: [(q1, az (kI k) 8), (q2, az (kI k) 8), (q3, az (kI k) 72), (q4, az (kI k) 152), (q5, az (kI k) 152), (q6, az (kI k) 152), (q7, az (kI k) 152), (q8, az (kI k) 152), (q9, az (kI k) 152)]) H locs := hw
  refine lv_aload_n C.1 C.2.1 dX2_init_82 rfl (lv_at hl 0 rfl) ?_
  refine lv_sipush (v := 152) C.1 C.2.1 dX2_init_83 (by decide +kernel) ?_
  refine k_newa C hw 2 (cA := kZ k) (atype := .boolean) (ty := .boolean) rfl rfl (gtb_of (tb_m2 (i := 40) rfl) rfl) 152 (az_boolean _) (fun _ h => by cases h) (by decide +kernel) (by decide +kernel) (by decide +kernel) (by decide +kernel) (by decide +kernel) dX2_init_86 (fun q10 H hw => ?_)
  have hw : KW k A s ((h0, .inr (2, [.null, .null, .null, .int 0, .ref q1, .ref q2, .ref q3, .ref q4, .ref q5, .ref q6, .ref q7, .ref q8, .ref q9, .null])) :: [(q1, az (kI k) 8), (q2, az (kI k) 8), (q3, az (kI k) 72), (q4, az (kI k) 152), (q5, az (kI k) 152), (q6, az (kI k) 152), (q7, az (kI k) 152), (q8, az (kI k) 152), (q9, az (kI k) 152), (q10, az (kZ k) 152)]) H locs := hw
  refine k_put C hw fl_X2_39 (gtb_of (tb_m2 (i := 9) rfl) rfl) hin (fun _ => rfl) (ty := tyX2 13) (tyX2_ok 13 (by decide)) rfl rfl (Nat.le_of_ble_eq_true rfl) dX2_init_88 (fun H locs hw => ?_)
  have hw : KW k A s ((h0, .inr (2, [.null, .null, .null, .int 0, .ref q1, .ref q2, .ref q3, .ref q4, .ref q5, .ref q6, .ref q7, .ref q8, .ref q9, .ref q10])) :: [(q1, az (kI k) 8), (q2, az (kI k) 8), (q3, az (kI k) 72), (q4, az (kI k) 152), (q5, az (kI k) 152), (q6, az (kI k) 152), (q7, az (kI k) 152), (q8, az (kI k) 152), (q9, az (kI k) 152), (q10, az (kZ k) 152)]) H locs := hw
  refine lv_aload_n C.1 C.2.1 dX2_init_91 rfl (lv_at hl 0 rfl) ?_
  refine lv_aload_n C.1 C.2.1 dX2_init_92 rfl (lv_at hl 1 rfl) ?_
  refine k_put C hw fl_X2_43 (gtb_of (tb_m1 (i := 227) rfl) rfl) hin (fun _ => rfl) (ty := tyX2 0) (tyX2_ok 0 (by decide)) rfl rfl (Nat.le_of_ble_eq_true rfl) dX2_init_93 (fun H locs hw => ?_)
  have hw : KW k A s ((h0, .inr (2, [.ref a1, .null, .null, .int 0, .ref q1, .ref q2, .ref q3, .ref q4, .ref q5, .ref q6, .ref q7, .ref q8, .ref q9, .ref q10])) :: [(q1, az (kI k) 8), (q2, az (kI k) 8), (q3, az (kI k) 72), (q4, az (kI k) 152), (q5, az (kI k) 152), (q6, az (kI k) 152), (q7, az (kI k) 152), (q8, az (kI k) 152), (q9, az (kI k) 152), (q10, az (kZ k) 152)]) H locs := hw
  refine lv_aload_n C.1 C.2.1 dX2_init_96 rfl (lv_at hl 0 rfl) ?_
  refine lv_aload_n C.1 C.2.1 dX2_init_97 rfl (lv_at hl 2 rfl) ?_
  refine k_put C hw fl_X2_47 (gtb_of (tb_m1 (i := 228) rfl) rfl) hin (fun _ => rfl) (ty := tyX2 1) (tyX2_ok 1 (by decide)) rfl rfl (Nat.le_of_ble_eq_true rfl) dX2_init_98 (fun H locs hw => ?_)
  have hw : KW k A s ((h0, .inr (2, [.ref a1, .ref a2, .null, .int 0, .ref q1, .ref q2, .ref q3, .ref q4, .ref q5, .ref q6, .ref q7, .ref q8, .ref q9, .ref q10])) :: [(q1, az (kI k) 8), (q2, az (kI k) 8), (q3, az (kI k) 72), (q4, az (kI k) 152), (q5, az (kI k) 152), (q6, az (kI k) 152), (q7, az (kI k) 152), (q8, az (kI k) 152), (q9, az (kI k) 152), (q10, az (kZ k) 152)]) H locs := hw
  refine lv_aload_n C.1 C.2.1 dX2_init_101 rfl (lv_at hl 0 rfl) ?_
  refine lv_aload_n C.1 C.2.1 dX2_init_102 rfl (lv_at hl 3 rfl) ?_
  refine k_put C hw fl_X2_51 (gtb_of (tb_m1 (i := 229) rfl) rfl) hin (fun _ => rfl) (ty := tyX2 2) (tyX2_ok 2 (by decide)) rfl rfl (Nat.le_of_ble_eq_true rfl) dX2_init_103 (fun H locs hw => ?_)
  have hw : KW k A s ((h0, .inr (2, [.ref a1, .ref a2, .ref a3, .int 0, .ref q1, .ref q2, .ref q3, .ref q4, .ref q5, .ref q6, .ref q7, .ref q8, .ref q9, .ref q10])) :: [(q1, az (kI k) 8), (q2, az (kI k) 8), (q3, az (kI k) 72), (q4, az (kI k) 152), (q5, az (kI k) 152), (q6, az (kI k) 152), (q7, az (kI k) 152), (q8, az (kI k) 152), (q9, az (kI k) 152), (q10, az (kZ k) 152)]) H locs := hw
  exact hret _ _ _ _ _ _ _ dX2_init_106 (by decide +kernel) (by decide +kernel) hw ⟨q1, q2, q3, q4, q5, q6, q7, q8, q9, q10, rfl⟩
