section LOOP
variable {g : GG} {p : Program} {l : Launch} {e : Env} {s : State} {m : MethodId} {args : Array Value} {below : List Frame} {meth : Method} {c : Code} {cells slots : Nat} {Q : State → Prop} {b L : Nat} {xs : Nat → Int32}
set_option maxHeartbeats 4000000 in
set_option maxRecDepth 100000 in
theorem l_sub (hL : L ≤ 2560) : Int32.ofNat L - Int32.ofInt 5 = Int32.ofInt ((L : Int) - 5) := by
  rw [show Int32.ofNat L = Int32.ofInt (L : Int) from rfl, oI_sub]
set_option maxHeartbeats 4000000 in
set_option maxRecDepth 100000 in
theorem l_loop (C : LwC g p s m args c b L xs) (hL : L ≤ 2560) (hroom : cells ≤ room_1.cells ∧ slots ≤ room_1.slots)
    (fin : ∀ (H : Heap) (locs : List Loc) (ls : Array Slot), va_S (lA s) s.heap H locs → W p l e room_1 s m args below meth c H locs cells slots Q (F0 m 882 ls [])) :
    ∀ (n i : Nat), L < i + n + 5 → ∀ (σ : Sto) (H : Heap) (locs : List Loc) (ls : Array Slot), INV σ → okS σ → va_P (gD g) vwCl (wsO g σ) H → va_S (lA s) s.heap H locs → lv_has ls 4 (lLoc g b i) → i ≤ 2560 → W p l e room_1 s m args below meth c H locs cells slots Q (F0 m 18 ls []) := by
  intro n
  induction n with
  | zero =>
    intro i hn σ H locs ls hI hσ hP hS hlo hi2
    obtain ⟨c1, c2, c3, c4, c5, c6, c7, c8, c9, c10, c11⟩ := C
    refine lv_iload_n c1 c2 dL_law_18 rfl (lv_at hlo 3 rfl) ?_
    refine lv_aload_n c1 c2 dL_law_19 rfl (lv_at hlo 0 rfl) ?_
    refine va_slen c1 c2 c10 c11 (show ¬ s.heap.size ≤ b by omega) hS dL_law_20 ?_
    refine lv_iconst c1 c2 dL_law_21 rfl ?_
    refine lv_isub c1 c2 dL_law_22 ?_
    rw [l_sub hL]
    refine lv_icmp_gt (tgt := 882) c1 c2 dL_law_23 rfl (fun _ => fin H locs ls hS) (fun h => ?_)
    exact absurd ((oI_lt (by unfold okI; omega) (by unfold okI; omega)).mpr (by omega)) h
  | succ n ih =>
    intro i hn σ H locs ls hI hσ hP hS hlo hi2
    have C0 := C
    obtain ⟨c1, c2, c3, c4, c5, c6, c7, c8, c9, c10, c11⟩ := C
    refine lv_iload_n c1 c2 dL_law_18 rfl (lv_at hlo 3 rfl) ?_
    refine lv_aload_n c1 c2 dL_law_19 rfl (lv_at hlo 0 rfl) ?_
    refine va_slen c1 c2 c10 c11 (show ¬ s.heap.size ≤ b by omega) hS dL_law_20 ?_
    refine lv_iconst c1 c2 dL_law_21 rfl ?_
    refine lv_isub c1 c2 dL_law_22 ?_
    rw [l_sub hL]
    refine lv_icmp_gt (tgt := 882) c1 c2 dL_law_23 rfl (fun _ => fin H locs ls hS) (fun h => ?_)
    have hi : i + 5 ≤ L := by
      rw [oI_lt (by unfold okI; omega) (by unfold okI; omega)] at h
      omega
    have C := C0
    have nx : ∀ (σ' : Sto) (H1 : Heap) (locs1 : List Loc), INV σ' → okS σ' → va_P (gD g) vwCl (wsO g σ') H1 → va_S (lA s) s.heap H1 locs1 → W p l e room_1 s m args below meth c H1 locs1 cells slots Q (F0 m 876 ls []) := by
      intro σ' H1 locs1 hI1 hσ1 hP1 hS1
      refine lv_iinc (k := 3) (v := Int32.ofInt ((i + 5 : Nat) : Int)) c1 c2 dL_law_876 hlo rfl (oI_add _ _) (by decide) rfl (fun ls2 h2 => ?_)
      refine lv_goto (tgt := 18) c1 c2 dL_law_879 rfl ?_
      exact ih (i + 5) (by omega) σ' H1 locs1 ls2 hI1 hσ1 hP1 hS1 (lv_sub h2 [1, 2, 3, 0] rfl) (by omega)
    refine lv_aload_n c1 c2 dL_law_26 rfl (lv_at hlo 0 rfl) ?_
    refine lv_iload_n c1 c2 dL_law_27 rfl (lv_at hlo 3 rfl) ?_
    refine va_sld c1 c2 c10 c11 (show ¬ s.heap.size ≤ b by omega) hS (oI_in (by unfold okI; omega) (by omega) (by omega)) dL_law_28 ?_
    refine lv_bipush (v := 31) c1 c2 dL_law_29 (by decide +kernel) ?_
    refine lv_iand c1 c2 dL_law_31 ?_
    generalize xs (Int32.ofInt (i : Int)).toNatClampNeg &&& 31 = x
    by_cases cx : x.toInt < 0 ∨ 23 < x.toInt
    · exact lv_tableOut (tgt := 876) c1 c2 dL_law_32 cx rfl (nx σ H locs hI hσ hP hS)
    by_cases c0 : x.toInt = 0
    · exact lv_tableIn (tgt := 144) (off := 112) C.1 C.2.1 dL_law_32 (by omega) (by omega) (by rw [c0]; rfl) rfl (lc_0 C hP hS hσ hlo hI hi hL hroom nx)
    by_cases c1 : x.toInt = 1
    · exact lv_tableIn (tgt := 167) (off := 135) C.1 C.2.1 dL_law_32 (by omega) (by omega) (by rw [c1]; rfl) rfl (lc_1 C hP hS hσ hlo hI hi hL hroom nx)
    by_cases c2 : x.toInt = 2
    · exact lv_tableIn (tgt := 190) (off := 158) C.1 C.2.1 dL_law_32 (by omega) (by omega) (by rw [c2]; rfl) rfl (lc_2 C hP hS hσ hlo hI hi hL hroom nx)
    by_cases c3 : x.toInt = 3
    · exact lv_tableIn (tgt := 203) (off := 171) C.1 C.2.1 dL_law_32 (by omega) (by omega) (by rw [c3]; rfl) rfl (lc_3 C hP hS hσ hlo hI hi hL hroom nx)
    by_cases c4 : x.toInt = 4
    · exact lv_tableIn (tgt := 216) (off := 184) C.1 C.2.1 dL_law_32 (by omega) (by omega) (by rw [c4]; rfl) rfl (lc_4 C hP hS hσ hlo hI hi hL hroom nx)
    by_cases c5 : x.toInt = 5
    · exact lv_tableIn (tgt := 239) (off := 207) C.1 C.2.1 dL_law_32 (by omega) (by omega) (by rw [c5]; rfl) rfl (lc_5 C hP hS hσ hlo hI hi hL hroom nx)
    by_cases c6 : x.toInt = 6
    · exact lv_tableIn (tgt := 272) (off := 240) C.1 C.2.1 dL_law_32 (by omega) (by omega) (by rw [c6]; rfl) rfl (lc_6 C hP hS hσ hlo hI hi hL hroom nx)
    by_cases c7 : x.toInt = 7
    · exact lv_tableIn (tgt := 315) (off := 283) C.1 C.2.1 dL_law_32 (by omega) (by omega) (by rw [c7]; rfl) rfl (lc_7 C hP hS hσ hlo hI hi hL hroom nx)
    by_cases c8 : x.toInt = 8
    · exact lv_tableIn (tgt := 348) (off := 316) C.1 C.2.1 dL_law_32 (by omega) (by omega) (by rw [c8]; rfl) rfl (lc_8 C hP hS hσ hlo hI hi hL hroom nx)
    by_cases c9 : x.toInt = 9
    · exact lv_tableIn (tgt := 391) (off := 359) C.1 C.2.1 dL_law_32 (by omega) (by omega) (by rw [c9]; rfl) rfl (lc_9 C hP hS hσ hlo hI hi hL hroom nx)
    by_cases c10 : x.toInt = 10
    · exact lv_tableIn (tgt := 434) (off := 402) C.1 C.2.1 dL_law_32 (by omega) (by omega) (by rw [c10]; rfl) rfl (lc_10 C hP hS hσ hlo hI hi hL hroom nx)
    by_cases c11 : x.toInt = 11
    · exact lv_tableIn (tgt := 477) (off := 445) C.1 C.2.1 dL_law_32 (by omega) (by omega) (by rw [c11]; rfl) rfl (lc_11 C hP hS hσ hlo hI hi hL hroom nx)
    by_cases c12 : x.toInt = 12
    · exact lv_tableIn (tgt := 510) (off := 478) C.1 C.2.1 dL_law_32 (by omega) (by omega) (by rw [c12]; rfl) rfl (lc_12 C hP hS hσ hlo hI hi hL hroom nx)
    by_cases c13 : x.toInt = 13
    · exact lv_tableIn (tgt := 543) (off := 511) C.1 C.2.1 dL_law_32 (by omega) (by omega) (by rw [c13]; rfl) rfl (lc_13 C hP hS hσ hlo hI hi hL hroom nx)
    by_cases c14 : x.toInt = 14
    · exact lv_tableIn (tgt := 576) (off := 544) C.1 C.2.1 dL_law_32 (by omega) (by omega) (by rw [c14]; rfl) rfl (lc_14 C hP hS hσ hlo hI hi hL hroom nx)
    by_cases c15 : x.toInt = 15
    · exact lv_tableIn (tgt := 599) (off := 567) C.1 C.2.1 dL_law_32 (by omega) (by omega) (by rw [c15]; rfl) rfl (lc_15 C hP hS hσ hlo hI hi hL hroom nx)
    by_cases c16 : x.toInt = 16
    · exact lv_tableIn (tgt := 632) (off := 600) C.1 C.2.1 dL_law_32 (by omega) (by omega) (by rw [c16]; rfl) rfl (lc_16 C hP hS hσ hlo hI hi hL hroom nx)
    by_cases c17 : x.toInt = 17
    · exact lv_tableIn (tgt := 665) (off := 633) C.1 C.2.1 dL_law_32 (by omega) (by omega) (by rw [c17]; rfl) rfl (lc_17 C hP hS hσ hlo hI hi hL hroom nx)
    by_cases c18 : x.toInt = 18
    · exact lv_tableIn (tgt := 708) (off := 676) C.1 C.2.1 dL_law_32 (by omega) (by omega) (by rw [c18]; rfl) rfl (lc_18 C hP hS hσ hlo hI hi hL hroom nx)
    by_cases c19 : x.toInt = 19
    · exact lv_tableIn (tgt := 721) (off := 689) C.1 C.2.1 dL_law_32 (by omega) (by omega) (by rw [c19]; rfl) rfl (lc_19 C hP hS hσ hlo hI hi hL hroom nx)
    by_cases c20 : x.toInt = 20
    · exact lv_tableIn (tgt := 754) (off := 722) C.1 C.2.1 dL_law_32 (by omega) (by omega) (by rw [c20]; rfl) rfl (lc_20 C hP hS hσ hlo hI hi hL hroom nx)
    by_cases c21 : x.toInt = 21
    · exact lv_tableIn (tgt := 777) (off := 745) C.1 C.2.1 dL_law_32 (by omega) (by omega) (by rw [c21]; rfl) rfl (lc_21 C hP hS hσ hlo hI hi hL hroom nx)
    by_cases c22 : x.toInt = 22
    · exact lv_tableIn (tgt := 830) (off := 798) C.1 C.2.1 dL_law_32 (by omega) (by omega) (by rw [c22]; rfl) rfl (lc_22 C hP hS hσ hlo hI hi hL hroom nx)
    by_cases c23 : x.toInt = 23
    · exact lv_tableIn (tgt := 853) (off := 821) C.1 C.2.1 dL_law_32 (by omega) (by omega) (by rw [c23]; rfl) rfl (lc_23 C hP hS hσ hlo hI hi hL hroom nx)
    omega
end LOOP
